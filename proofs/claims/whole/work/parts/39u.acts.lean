/-! ===== the plain part: line, price, back ===== -/
section ACTS2
variable {g : Gr} {C : Nat → Int32} {rw len : Nat} {F : Nat → Int32} {mk : Int32} {ac : Nat} {ke : Nat → Int32}
theorem P_line (h : LI g C rw len F mk ac ke) (x y v : Int32) (t : Bool) : lineC g x y v t rw = lineM g x y v t ac := by
  have G := LI_G h
  have hN := Gok_N G
  have hK := Gok_K G
  unfold lineC lineM
  by_cases iy : inb x (gN g) = true
  · by_cases iz : inb y (gN g) = true
    · rw [iy, iz, if_pos (show (true && true) = true from rfl), if_pos rfl, if_pos rfl, mayM]
      by_cases hm : mayC v t = true
      · rw [if_pos hm, if_pos hm]
        obtain ⟨a, ha, rfl⟩ := inb_nat iy (by omega)
        obtain ⟨b, hb, rfl⟩ := inb_nat iz (by omega)
        rw [nI_clamp (show a < 2 ^ 31 by omega), nI_clamp (show b < 2 ^ 31 by omega)]
        by_cases e : a = b
        · rw [if_pos e, if_pos e]
        · rw [if_neg e, if_neg e, snk_bad G h.2.1 ha hb]
          by_cases hs : badM (lrn g (-1000) (-1000)).1 a b v t = true
          · rw [if_pos hs, if_pos hs]
          · rw [if_neg hs, if_neg hs, fulE (LI_rw h) (LI_ac h)]
            by_cases hk : gK g = 40
            · rw [if_pos hk, if_pos (by omega)]
            · rw [if_neg hk, if_neg (by omega)]
      · rw [if_neg hm, if_neg hm]
    · have ez : inb y (gN g) = false := by simpa using iz
      rw [iy, ez, Bool.and_false, if_neg Bool.false_ne_true, if_pos rfl, if_neg Bool.false_ne_true]
  · have ey : inb x (gN g) = false := by simpa using iy
    rw [ey, Bool.false_and, if_neg Bool.false_ne_true, if_neg Bool.false_ne_true]
theorem P_lineG (h : LI g C rw len F mk ac ke) {x y v : Int32} {t : Bool} (hn : lineC g x y v t rw = none) : Gok (addG g x.toNatClampNeg y.toNatClampNeg v t) ∧ (lrn (addG g x.toNatClampNeg y.toNatClampNeg v t) (-1000) (-1000)).2 = true ∧ rw ≤ 400 := by
  have G := LI_G h
  have hN := Gok_N G
  unfold lineC at hn
  by_cases i : (inb x (gN g) && inb y (gN g)) = true
  · rw [if_pos i] at hn
    rw [Bool.and_eq_true] at i
    by_cases hm : mayC v t = true
    · rw [if_pos hm] at hn
      obtain ⟨a, ha, rfl⟩ := inb_nat i.1 (by omega)
      obtain ⟨b, hb, rfl⟩ := inb_nat i.2 (by omega)
      rw [nI_clamp (show a < 2 ^ 31 by omega), nI_clamp (show b < 2 ^ 31 by omega)] at hn ⊢
      by_cases e : a = b
      · rw [if_pos e] at hn
        cases hn
      · rw [if_neg e] at hn
        by_cases hs : snk g a b v t (-1) = true
        · rw [if_pos hs] at hn
          cases hn
        · rw [if_neg hs] at hn
          by_cases hk : 40 ≤ gK g
          · rw [if_pos hk] at hn
            cases hn
          · rw [if_neg hk] at hn
            exact ⟨Gok_add G ha hb e (by omega) hm, (add_good G h.2.1 ha hb e (by omega) hm).mpr (Bool.eq_false_iff.mpr hs), fulN (LI_rw h) hn⟩
    · rw [if_neg hm] at hn
      cases hn
  · rw [if_neg i] at hn
    cases hn
theorem P_price (h : LI g C rw len F mk ac ke) (x v : Int32) : priceC g x v rw = priceM g x v ac := by
  have G := LI_G h
  have hK := Gok_K G
  unfold priceC priceM
  by_cases i : inb x (gK g) = true
  · rw [if_pos i, if_pos i, mayM]
    obtain ⟨j, hj, rfl⟩ := inb_nat i (by omega)
    rw [nI_clamp (show j < 2 ^ 31 by omega)]
    by_cases hm : mayC v (bW g j) = true
    · rw [if_pos hm, if_pos hm]
      by_cases e : v = gP g j
      · rw [if_pos e, if_pos e.symm]
      · rw [if_neg e, if_neg (fun (q : gP g j = v) => e q.symm), fulE (LI_rw h) (LI_ac h)]
        have k := price_good G h.2.1 hj hm
        by_cases hs : (bT g j && snk g (e1 g j) (e2 g j) v (bW g j) (nI j)) = true
        · rw [if_pos hs, if_neg (fun q => by rw [k.mp q] at hs; cases hs)]
        · rw [if_neg hs, if_pos (k.mpr (Bool.eq_false_iff.mpr hs))]
    · rw [if_neg hm, if_neg hm]
  · rw [if_neg i, if_neg i]
theorem P_priceG (h : LI g C rw len F mk ac ke) {x v : Int32} (hn : priceC g x v rw = none) : Gok (sP g (upd (gP g) x.toNatClampNeg v)) ∧ (lrn (sP g (upd (gP g) x.toNatClampNeg v)) (-1000) (-1000)).2 = true ∧ rw ≤ 400 := by
  have G := LI_G h
  have hK := Gok_K G
  unfold priceC at hn
  by_cases i : inb x (gK g) = true
  · rw [if_pos i] at hn
    obtain ⟨j, hj, rfl⟩ := inb_nat i (by omega)
    rw [nI_clamp (show j < 2 ^ 31 by omega)] at hn ⊢
    by_cases hm : mayC v (bW g j) = true
    · rw [if_pos hm] at hn
      by_cases e : v = gP g j
      · rw [if_pos e] at hn
        cases hn
      · rw [if_neg e] at hn
        by_cases hs : (bT g j && snk g (e1 g j) (e2 g j) v (bW g j) (nI j)) = true
        · rw [if_pos hs] at hn
          cases hn
        · rw [if_neg hs] at hn
          exact ⟨Gok_price G hj hm, (price_good G h.2.1 hj hm).mpr (Bool.eq_false_iff.mpr hs), fulN (LI_rw h) hn⟩
    · rw [if_neg hm] at hn
      cases hn
  · rw [if_neg i] at hn
    cases hn
theorem P_back (h : LI g C rw len F mk ac ke) (x : Int32) : backC g x rw = backM g x ac := by
  have G := LI_G h
  have hK := Gok_K G
  unfold backC backM
  by_cases i : inb x (gK g) = true
  · rw [if_pos i, if_pos i]
    obtain ⟨j, hj, rfl⟩ := inb_nat i (by omega)
    rw [nI_clamp (show j < 2 ^ 31 by omega)]
    by_cases hT : bT g j = true
    · rw [if_pos hT, if_pos hT]
    · rw [if_neg hT, if_neg hT, fulE (LI_rw h) (LI_ac h)]
      have k := back_good G h.2.1 hj
      by_cases hs : snk g (e1 g j) (e2 g j) (gP g j) (bW g j) (nI j) = true
      · rw [if_pos hs, if_neg (fun q => by rw [k.mp q] at hs; cases hs)]
      · rw [if_neg hs, if_pos (k.mpr (Bool.eq_false_iff.mpr hs))]
  · rw [if_neg i, if_neg i]
theorem P_backG (h : LI g C rw len F mk ac ke) {x : Int32} (hn : backC g x rw = none) : Gok (sT g (upd (gT g) x.toNatClampNeg (nI 1))) ∧ (lrn (sT g (upd (gT g) x.toNatClampNeg (nI 1))) (-1000) (-1000)).2 = true ∧ rw ≤ 400 := by
  have G := LI_G h
  have hK := Gok_K G
  unfold backC at hn
  by_cases i : inb x (gK g) = true
  · rw [if_pos i] at hn
    obtain ⟨j, hj, rfl⟩ := inb_nat i (by omega)
    rw [nI_clamp (show j < 2 ^ 31 by omega)] at hn ⊢
    by_cases hT : bT g j = true
    · rw [if_pos hT] at hn
      cases hn
    · rw [if_neg hT] at hn
      by_cases hs : snk g (e1 g j) (e2 g j) (gP g j) (bW g j) (nI j) = true
      · rw [if_pos hs] at hn
        cases hn
      · rw [if_neg hs] at hn
        exact ⟨Gok_T' G (Or.inr rfl), (back_good G h.2.1 hj).mpr (Bool.eq_false_iff.mpr hs), fulN (LI_rw h) hn⟩
  · rw [if_neg i] at hn
    cases hn
end ACTS2
