/-! ===== the plain part: the least hitting set ===== -/
def cn1 (n s : Nat) : Bool := !decide (nI (n + 1) ≤ bcnt (nI s))
def cn2 (n : Nat) : Bool := allN (cn1 n) (2 ^ n)
theorem cn_all : allN cn2 11 = true := by decide +kernel
section HITS
variable {g : Gr} {C : Nat → Int32} {rw len : Nat} {F : Nat → Int32} {mk : Int32} {ac : Nat} {ke : Nat → Int32}
theorem cn_at {n s : Nat} (hn : n < 11) (hs : s < 2 ^ n) : ¬ nI (n + 1) ≤ bcnt (nI s) := by
  have h0 : cn2 n = true := allN_at cn_all hn
  have h : cn1 n s = true := allN_at (P := cn1 n) (n := 2 ^ n) h0 hs
  unfold cn1 at h
  rw [Bool.not_eq_true', decide_eq_false_iff_not] at h
  exact h
theorem allN_cong {P Q : Nat → Bool} : ∀ {n : Nat}, (∀ j, j < n → P j = Q j) → allN P n = allN Q n := by
  intro n
  induction n with
  | zero => intro _; rfl
  | succ n ih =>
    intro h
    unfold allN
    rw [ih (fun j hj => h j (by omega)), h n (by omega)]
theorem mt_cong {X X' : Nat → Int32} {x : Int32} {n : Nat} (h : ∀ i, i < n → X i = X' i) : mtB X x n = mtB X' x n := by
  unfold mtB
  exact allN_cong (fun j hj => by rw [h j hj])
theorem fw_eq {X X' : Nat → Int32} {sz n : Nat} (hn : n ≤ 10) (hX : ∀ i, i < sz → X i = X' i) : ∀ s, s ≤ 2 ^ n → (fwS X sz n s).1 = hsM X' sz s ∧ (((fwS X sz n s).1 = (-1000) ∧ (fwS X sz n s).2 = nI (n + 1)) ∨ ∃ j, j < 1024 ∧ (fwS X sz n s).1 = nI j ∧ (fwS X sz n s).2 = bcnt (nI j)) := by
  intro s
  have hp := pw_le hn
  have hno : (-1000 : Int32).toInt < 0 := by decide
  induction s with
  | zero => intro _; exact ⟨rfl, Or.inl ⟨rfl, rfl⟩⟩
  | succ s ih =>
    intro hs
    obtain ⟨i1, i2⟩ := ih (by omega)
    unfold fwS hsM
    rw [← i1, mt_cong (x := nI s) hX]
    rcases i2 with ⟨q1, q2⟩ | ⟨j, j1, q1, q2⟩
    · have hc := cn_at (show n < 11 by omega) (show s < 2 ^ n by omega)
      have h0 : h0M (fwS X sz n s).1 (nI s) = true := by
        unfold h0M
        rw [q1, decide_eq_true rfl, Bool.true_or]
      rw [h0, Bool.true_and, q2, if_neg hc]
      by_cases hm : mtB X' (nI s) sz = true
      · rw [if_pos hm, if_pos hm]
        exact ⟨rfl, Or.inr ⟨s, by omega, rfl, rfl⟩⟩
      · rw [if_neg hm, if_neg hm]
        exact ⟨rfl, Or.inl ⟨q1, q2⟩⟩
    · have h0 : h0M (fwS X sz n s).1 (nI s) = !decide ((fwS X sz n s).2 ≤ bcnt (nI s)) := by
        unfold h0M
        rw [q1, q2, decide_eq_false (nI_neg (by omega) hno), Bool.false_or, bit_eq j1, bit_eq (show s < 1024 by omega)]
      rw [h0]
      by_cases hle : (fwS X sz n s).2 ≤ bcnt (nI s)
      · rw [if_pos hle, decide_eq_true hle, Bool.not_true, Bool.false_and, if_neg Bool.false_ne_true]
        exact ⟨rfl, Or.inr ⟨j, j1, q1, q2⟩⟩
      · rw [if_neg hle, decide_eq_false hle, Bool.not_false, Bool.true_and]
        by_cases hm : mtB X' (nI s) sz = true
        · rw [if_pos hm, if_pos hm]
          exact ⟨rfl, Or.inr ⟨s, by omega, rfl, rfl⟩⟩
        · rw [if_neg hm, if_neg hm]
          exact ⟨rfl, Or.inr ⟨j, j1, q1, q2⟩⟩
theorem P_hit (h : LI g C rw len F mk ac ke) (X iv : Nat → Int32) (x : Int32) : hitC g C X x = hitM g iv x := by
  have G := LI_G h
  have k1 : (1 : Int64).toInt = 1 := by decide
  have k9 : (9 : Int64).toInt = 9 := by decide
  have n9 : (nI 9).toInt = 9 := by decide
  unfold hitC hitM
  rw [inL_iff, i64_of, k1, k9]
  by_cases h1 : x < nI 1
  · rw [if_pos h1]
    rw [Int32.lt_iff_toInt_lt, n1] at h1
    rw [decide_eq_false (by omega), if_neg Bool.false_ne_true]
  · rw [if_neg h1]
    obtain ⟨r1, r2⟩ := ako_eq G (LI_Mt h) (P_nxt h) h1 X iv (gN g) (Nat.le_refl _)
    rw [Int32.lt_iff_toInt_lt, n1] at h1
    by_cases h2 : x ≤ nI 9
    · rw [if_pos h2]
      rw [Int32.le_iff_toInt_le, n9] at h2
      rw [decide_eq_true (by omega), if_pos rfl, ← r1]
      exact (fw_eq (Gok_N G) r2 (2 ^ gN g) (Nat.le_refl _)).1
    · rw [if_neg h2]
      rw [Int32.le_iff_toInt_le, n9] at h2
      rw [decide_eq_false (by omega), if_neg Bool.false_ne_true]
end HITS
