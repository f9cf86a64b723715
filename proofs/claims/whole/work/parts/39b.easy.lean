/-! ===== the plain part, what needs no network ===== -/
section EASY
variable {g : Gr} {C : Nat → Int32} {rw len : Nat} {F : Nat → Int32} {mk : Int32} {ac : Nat} {ke : Nat → Int32}
theorem P_posts (x : Int32) : postsC x = postsM x := by
  unfold postsC postsM
  rw [inL_iff, i64_of]
  have h2 : (nI 2).toInt = 2 := by decide
  have h10 : (nI 10).toInt = 10 := by decide
  have k2 : (2 : Int64).toInt = 2 := by decide
  have k10 : (10 : Int64).toInt = 10 := by decide
  rw [k2, k10]
  by_cases h : x < nI 2
  · rw [if_pos h]
    rw [Int32.lt_iff_toInt_lt, h2] at h
    have h3 : ¬ (2 ≤ x.toInt ∧ x.toInt ≤ 10) := by omega
    rw [decide_eq_false h3]
    rfl
  · rw [if_neg h]
    rw [Int32.lt_iff_toInt_lt, h2] at h
    by_cases h4 : x ≤ nI 10
    · rw [if_pos h4]
      rw [Int32.le_iff_toInt_le, h10] at h4
      have h3 : 2 ≤ x.toInt ∧ x.toInt ≤ 10 := by omega
      rw [decide_eq_true h3]
      rfl
    · rw [if_neg h4]
      rw [Int32.le_iff_toInt_le, h10] at h4
      have h3 : ¬ (2 ≤ x.toInt ∧ x.toInt ≤ 10) := by omega
      rw [decide_eq_false h3]
      rfl
theorem fulE {ac rw : Nat} (h1 : rw = ac + 1) (h2 : ac ≤ 400) : fullO rw = fulM ac := by
  subst h1
  unfold fullO fulM
  by_cases h : ac = 400
  · subst h
    decide
  · have h3 : ac + 1 < 401 := by omega
    rw [decide_eq_true h3, if_neg h]
    rfl
theorem fulN {ac rw : Nat} (h1 : rw = ac + 1) (h : fullO rw = none) : rw ≤ 400 := by
  unfold fullO at h
  by_cases h3 : rw < 401
  · omega
  · rw [decide_eq_false h3] at h
    cases h
theorem hasM {ac rw : Nat} (h1 : rw = ac + 1) (h2 : ac ≤ 400) (x : Int32) : hasB x rw = inL x.toInt64 1 (nI ac).toInt64 := by
  rw [inL_iff, i64_of, nI64 (by omega)]
  unfold hasB
  have k1 : (1 : Int64).toInt = 1 := by decide
  rw [k1, ← decide_not, ← decide_not, ← Bool.decide_and]
  apply decide_eq_decide.mpr
  rw [Int32.lt_iff_toInt_lt, Int32.le_iff_toInt_le, nI_toInt (show rw < 2 ^ 31 by omega), n1]
  omega
theorem P_init : Gok (sK (sN gz 2) 0) ∧ (lrn (sK (sN gz 2) 0) (-1000) (-1000)).2 = true := ⟨Gok_new (by omega) (by omega), by decide⟩
theorem fi0_in {a b : Nat} (ha : a < 10) (hb : b < 10) : fi0 (10 * a + b) = if a = b then nI 0 else nI 10000000 := by
  unfold fi0
  rw [show (10 * a + b) / 10 = a by omega, show (10 * a + b) % 10 = b by omega]
theorem f3b_new {m a : Nat} (hm : m < 10) (ha : a < 10) : ∀ b, b ≤ 10 → f3b m a fi0 b = fi0 := by
  intro b
  induction b with
  | zero => intro _; rfl
  | succ b ih =>
    intro hb
    have i1 := ih (by omega)
    unfold f3b
    rw [i1, fi0_in ha hm, fi0_in hm (by omega), fi0_in ha (by omega)]
    by_cases e : a = m
    · subst e
      rw [if_pos rfl, if_neg (by decide)]
      by_cases e2 : a = b
      · subst e2
        rw [if_pos rfl, if_neg (by decide), if_pos (by decide)]
        funext i
        by_cases e3 : i = 10 * a + a
        · subst e3; rw [pk_us, fi0_in ha ha, if_pos rfl]
        · rw [pk_un e3]
      · rw [if_neg e2, if_pos (by decide)]
    · rw [if_neg e, if_pos (by decide)]
theorem f3a_new {m : Nat} {n : Nat} (hm : m < 10) (hn : n ≤ 10) : ∀ a, a ≤ 10 → f3a n m fi0 a = fi0 := by
  intro a
  induction a with
  | zero => intro _; rfl
  | succ a ih =>
    intro ha
    show f3b m a (f3a n m fi0 a) n = fi0
    rw [ih (by omega)]
    exact f3b_new hm (by omega) n hn
theorem d3_new : ∀ a, a ≤ 10 → d3 fi0 true a = (fi0, true) := by
  intro a
  induction a with
  | zero => intro _; rfl
  | succ a ih =>
    intro ha
    unfold d3
    rw [ih (by omega)]
    have h1 : fi0 (10 * a + a) = nI 0 := by rw [fi0_in (by omega) (by omega), if_pos rfl]
    have h2 : upd fi0 (10 * a + a) (nI 0) = fi0 := by
      funext i
      by_cases e3 : i = 10 * a + a
      · subst e3; rw [pk_us, h1]
      · rw [pk_un e3]
    show (upd fi0 (10 * a + a) (nI 0), true && !decide (fi0 (10 * a + a) < 0)) = _
    rw [h2, h1]
    rfl
theorem f3m_new {n : Nat} (hn : n ≤ 10) : ∀ m, m ≤ 10 → f3m n fi0 m = (fi0, true) := by
  intro m
  induction m with
  | zero => intro _; rfl
  | succ m ih =>
    intro hm
    show d3 (f3a n m (f3m n fi0 m).1 n) (f3m n fi0 m).2 n = _
    rw [ih (by omega)]
    show d3 (f3a n m fi0 n) true n = _
    rw [f3a_new (by omega) hn n hn, d3_new n hn]
theorem P_postsG {x : Int32} (hx : postsC x = none) : Gok (sK (sN g x.toNatClampNeg) 0) ∧ (lrn (sK (sN g x.toNatClampNeg) 0) (-1000) (-1000)).2 = true := by
  unfold postsC at hx
  by_cases h : x < nI 2
  · rw [if_pos h] at hx
    cases hx
  · rw [if_neg h] at hx
    by_cases h4 : x ≤ nI 10
    · obtain ⟨n, h1, h2, rfl⟩ := posts_nat h h4
      rw [nI_clamp (by omega)]
      refine ⟨Gok_new h1 h2, ?_⟩
      show (f3m n fi0 n).2 = true
      rw [f3m_new h2 n h2]
    · rw [if_neg h4] at hx
      cases hx
theorem allN_at {P : Nat → Bool} {n i : Nat} (h : allN P n = true) (hi : i < n) : P i = true := by
  cases e : P i with
  | true => rfl
  | false => rw [allN_false hi e] at h; cases h
theorem bit_all : allN (fun s => decide (bcnt (nI s) = bsM (nI s) 10)) 1024 = true := by decide +kernel
theorem bit_eq {s : Nat} (h : s < 1024) : bcnt (nI s) = bsM (nI s) 10 := of_decide_eq_true (allN_at bit_all h)
theorem pw_le {n : Nat} (h : n ≤ 10) : 2 ^ n ≤ 1024 := Nat.pow_le_pow_right (by omega) h
theorem P_bit (h : LI g C rw len F mk ac ke) : bcnt mk = bsM mk 10 := by
  obtain ⟨G, -, -, -, -, -, -, -, s, hs, rfl⟩ := h
  have := pw_le (Gok_N G)
  exact bit_eq (by omega)
theorem sh_amt : ∀ n, n < 11 → ((nI n &&& 31).toBitVec.smod 32).toNat = n := by decide
theorem shr {x : Int32} {n : Nat} (h : n ≤ 10) : (x >>> (nI n &&& 31)).toInt = x.toInt / ((2 ^ n : Nat) : Int) := by
  have h1 : (x >>> (nI n &&& 31)).toInt = (x >>> (nI n &&& 31)).toBitVec.toInt := rfl
  rw [h1, Int32.toBitVec_shiftRight]
  show (x.toBitVec.sshiftRight (((nI n &&& 31).toBitVec.smod 32).toNat)).toInt = _
  rw [sh_amt n (by omega), BitVec.toInt_sshiftRight, Int.shiftRight_eq_div_pow]
  rfl
theorem P_mrk (G : Gok g) (x : Int32) : mrkB g x = mrkM g x := by
  have hN := Gok_N G
  have hp := pw_le hN
  unfold mrkB mrkM
  by_cases h : x < 0
  · rw [decide_eq_true h]
    rfl
  · rw [decide_eq_false h]
    congr 1
    apply decide_eq_decide.mpr
    have h0 : (0 : Int32).toInt = 0 := by decide
    rw [Int32.lt_iff_toInt_lt, h0] at h
    rw [shl1 hN, Int32.lt_iff_toInt_lt, nI_toInt (by omega), ← Int32.toInt_inj, shr hN, h0]
    have hpos : (0 : Int) < ((2 ^ gN g : Nat) : Int) := by
      have := Nat.pow_pos (n := gN g) (show 0 < 2 by omega)
      omega
    constructor
    · intro q
      exact Int.ediv_eq_zero_of_lt (by omega) q
    · intro q
      have h5 := Int.lt_ediv_add_one_mul_self x.toInt hpos
      rw [q] at h5
      omega
theorem P_mk2 (G : Gok g) {x : Int32} (hx : mrkB g x = true) : ∃ s, s < 2 ^ gN g ∧ x = nI s := by
  have hN := Gok_N G
  have hp := pw_le hN
  simp only [mrkB, Bool.and_eq_true, Bool.not_eq_true', decide_eq_false_iff_not, decide_eq_true_eq] at hx
  obtain ⟨h1, h2⟩ := hx
  obtain ⟨j, hj, rfl⟩ := nI_of h1
  rw [shl1 hN, nI_ltI hj (by omega)] at h2
  exact ⟨j, h2, rfl⟩
end EASY
