/-! ===== the plain part: the sets that a hitting set must meet ===== -/
section SETS
variable {g : Gr} {C : Nat → Int32} {fi : Nat → Int32}
theorem bt_eq (G : Gok g) (H : Mt (gN g) C fi) (hX : Nxt g fi) {a b S : Nat} (ha : a < gN g) (hb : b < gN g) (hf : fi (10 * a + b) < nI 10000000) (hS : stM (fi (10 * a + b)) = nI S) (h9 : S ≤ 63) : ∀ k, k ≤ S → btS g C a b k = bbM g fi a b k := by
  have hN := Gok_N G
  have hn1 : (-1 : Int32).toInt < 0 := by decide
  intro k
  induction k with
  | zero => intro _; rfl
  | succ k ih =>
    intro hk
    obtain ⟨i1, i2, -⟩ := ps_at G H hX ha hb hf hS h9 (k + 1) hk
    unfold btS bbM
    rw [ih (by omega), i1, if_neg (nI_neg (by omega) hn1)]
def relS (s s' : Nat × (Nat → Int32)) : Prop := s.1 = s'.1 ∧ ∀ i, i < s.1 → s.2 i = s'.2 i
theorem ak_eq (G : Gok g) (H : Mt (gN g) C fi) (hX : Nxt g fi) {a : Nat} {x : Int32} (ha : a < gN g) (hx : ¬ x < nI 1) {s s' : Nat × (Nat → Int32)} (hs : relS s s') : ∀ b, b ≤ gN g → relS (akI g C a x s b) (hiI g fi a x s' b) := by
  intro b
  induction b with
  | zero => intro _; exact hs
  | succ b ih =>
    intro hb
    have i1 := ih (by omega)
    have hbn : b < gN g := by omega
    unfold akI hiI
    by_cases e : a = b
    · rw [if_pos e, if_pos e]
      exact i1
    · rw [if_neg e, if_neg e, s_ln H ha hbn]
      by_cases hf : nI 10000000 ≤ fi (10 * a + b)
      · rw [if_pos hf, stM_no hf]
        rw [Int32.lt_iff_toInt_lt, n1] at hx
        rw [if_pos (by rw [Int32.lt_iff_toInt_lt, nNo]; omega)]
        exact i1
      · have hf' := Int32.not_le.mp hf
        obtain ⟨S, s1, s2, -⟩ := hX a b ha hbn hf'
        rw [if_neg hf, ← stM_lt hf', s2]
        by_cases hl : nI S < x
        · rw [if_pos hl, if_pos hl]
          exact i1
        · rw [if_neg hl, if_neg hl, nI_clamp (by omega), bt_eq G H hX ha hbn hf' s2 s1 (S - 1) (by omega)]
          refine ⟨?_, ?_⟩
          · show (akI g C a x s b).1 + 1 = (hiI g fi a x s' b).1 + 1
            rw [i1.1]
          · intro i hi
            show upd (akI g C a x s b).2 (akI g C a x s b).1 _ i = upd (hiI g fi a x s' b).2 (hiI g fi a x s' b).1 _ i
            have hi' : i < (akI g C a x s b).1 + 1 := hi
            rw [← i1.1]
            by_cases ei : i = (akI g C a x s b).1
            · rw [ei, pk_us, pk_us]
            · rw [pk_un ei, pk_un ei]
              exact i1.2 i (by omega)
theorem ako_eq (G : Gok g) (H : Mt (gN g) C fi) (hX : Nxt g fi) {x : Int32} (hx : ¬ x < nI 1) (X iv : Nat → Int32) : ∀ a, a ≤ gN g → relS (akO g C (gN g) x X a) (hiO g fi (gN g) x iv a) := by
  intro a
  induction a with
  | zero => intro _; exact ⟨rfl, fun i hi => absurd hi (Nat.not_lt_zero i)⟩
  | succ a ih =>
    intro ha
    exact ak_eq G H hX (by omega) hx (ih (by omega)) (gN g) (Nat.le_refl _)
end SETS
