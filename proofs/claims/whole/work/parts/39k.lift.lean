/-! ===== the plain part: lifts, cuts ===== -/
section LIFT
variable {g : Gr} {C : Nat → Int32} {rw len : Nat} {F : Nat → Int32} {mk : Int32} {ac : Nat} {ke : Nat → Int32} {n : Nat} {fi : Nat → Int32}
theorem cf_bd (H : Mt n C fi) {a b : Nat} (ha : a < n) (hb : b < n) (h : ¬ cfr fi a b = (-1000)) : -469 ≤ (cfr fi a b).toInt ∧ (cfr fi a b).toInt ≤ 938 := by
  rcases H a b ha hb with ⟨-, q⟩ | ⟨q, h1, h2⟩
  · exfalso
    apply h
    unfold cfr
    rw [q]
    decide
  · rw [q] at h1 h2
    unfold cfr
    rw [crs64 (by omega) (by omega)]
    omega
theorem hg_bd (H : Mt n C fi) {p : Nat} (hp : p < n) : ∀ a, a ≤ n → -469 ≤ (hgM fi p a).toInt ∧ (hgM fi p a).toInt ≤ 0 := by
  intro a
  have e0 : (nI 0).toInt = 0 := by decide
  induction a with
  | zero =>
    intro _
    show -469 ≤ (nI 0).toInt ∧ (nI 0).toInt ≤ 0
    rw [e0]
    omega
  | succ a ih =>
    intro ha
    have i1 := ih (by omega)
    unfold hgM
    by_cases h : cfr fi a p = (-1000)
    · rw [if_pos h]
      exact i1
    · rw [if_neg h]
      have h1 := cf_bd H (show a < n by omega) hp h
      by_cases h2 : hgM fi p a ≤ cfr fi a p
      · rw [if_pos h2]
        exact i1
      · rw [if_neg h2]
        rw [Int32.le_iff_toInt_le] at h2
        omega
theorem P_lif (h : LI g C rw len F mk ac ke) {j : Nat} (hj : j < gK g) : lif g C j = liM g (lrn g (-1000) (-1000)).1 j := by
  have G := LI_G h
  have H := LI_Mt h
  have a1 := Gok_B2 G hj
  have a2 := Gok_E2 G hj
  have a5 := Gok_P G hj
  have b1 := hg_bd H a1 (gN g) (Nat.le_refl _)
  have b2 := hg_bd H a2 (gN g) (Nat.le_refl _)
  have z0 : (0 : Int32).toInt = 0 := by decide
  unfold lif liM upM
  rw [S_hg H a1 _ (Nat.le_refl _), S_hg H a2 _ (Nat.le_refl _)]
  by_cases hb : bW g j = true
  · rw [if_pos hb, if_pos hb, mm_le]
    have hd : (hgM (lrn g (-1000) (-1000)).1 (e1 g j) (gN g) - hgM (lrn g (-1000) (-1000)).1 (e2 g j) (gN g)).toInt = (hgM (lrn g (-1000) (-1000)).1 (e1 g j) (gN g)).toInt - (hgM (lrn g (-1000) (-1000)).1 (e2 g j) (gN g)).toInt := aSub (by omega) (by omega)
    generalize hgM (lrn g (-1000) (-1000)).1 (e1 g j) (gN g) - hgM (lrn g (-1000) (-1000)).1 (e2 g j) (gN g) = d at hd ⊢
    have s1 : (gP g j + d).toInt = (gP g j).toInt + d.toInt := aAdd (by omega) (by omega)
    have s2 : (gP g j - d).toInt = (gP g j).toInt - d.toInt := aSub (by omega) (by omega)
    by_cases h1 : d ≤ 0
    · rw [if_pos h1]
      rw [Int32.le_iff_toInt_le, z0] at h1
      rw [if_pos (by rw [Int32.le_iff_toInt_le, s1, s2]; omega)]
    · rw [if_neg h1]
      rw [Int32.le_iff_toInt_le, z0] at h1
      rw [if_neg (by rw [Int32.le_iff_toInt_le, s1, s2]; omega), Int32.sub_eq_add_neg]
  · rw [if_neg hb, if_neg hb]
theorem P_cut (h : LI g C rw len F mk ac ke) (x : Int32) : cutC g x rw = cutM g x ac := by
  unfold cutC cutM
  rw [fulE (LI_rw h) (LI_ac h)]
end LIFT
