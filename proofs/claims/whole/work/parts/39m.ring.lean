/-! ===== the plain part: the least ring ===== -/
section RINGS
variable {g : Gr} {C : Nat → Int32} {rw len : Nat} {F : Nat → Int32} {mk : Int32} {ac : Nat} {ke : Nat → Int32}
theorem ring_pair {z p c0 c1 : Int32} (hp : -50 ≤ p.toInt ∧ p.toInt ≤ 99) (h0 : -469 ≤ c0.toInt ∧ c0.toInt ≤ 938) (h1 : -469 ≤ c1.toInt ∧ c1.toInt ≤ 938) : (if p + (if c1 ≤ c0 then c1 else c0) = (-1000) then z else if z = (-1000) then p + (if c1 ≤ c0 then c1 else c0) else if z ≤ p + (if c1 ≤ c0 then c1 else c0) then z else p + (if c1 ≤ c0 then c1 else c0)) = (if (if z = (-1000) then p + c0 else if z ≤ p + c0 then z else p + c0) = (-1000) then p + c1 else if (if z = (-1000) then p + c0 else if z ≤ p + c0 then z else p + c0) ≤ p + c1 then (if z = (-1000) then p + c0 else if z ≤ p + c0 then z else p + c0) else p + c1) := by
  have s0 : (p + c0).toInt = p.toInt + c0.toInt := aAdd (by omega) (by omega)
  have s1 : (p + c1).toInt = p.toInt + c1.toInt := aAdd (by omega) (by omega)
  have n0 : ¬ p + c0 = (-1000) := by
    intro e
    rw [e, nNo] at s0
    omega
  have n1 : ¬ p + c1 = (-1000) := by
    intro e
    rw [e, nNo] at s1
    omega
  by_cases hc : c1 ≤ c0
  · rw [if_pos hc, if_neg n1]
    rw [Int32.le_iff_toInt_le] at hc
    by_cases hz : z = (-1000)
    · rw [if_pos hz, if_pos hz, if_neg n0]
      by_cases h2 : p + c0 ≤ p + c1
      · rw [if_pos h2]
        rw [Int32.le_iff_toInt_le] at h2
        apply Int32.toInt_inj.mp
        omega
      · rw [if_neg h2]
    · rw [if_neg hz, if_neg hz]
      by_cases h3 : z ≤ p + c0
      · rw [if_pos h3, if_neg hz]
      · rw [if_neg h3, if_neg n0]
        rw [Int32.le_iff_toInt_le] at h3
        rw [if_neg (by rw [Int32.le_iff_toInt_le]; omega)]
        by_cases h2 : p + c0 ≤ p + c1
        · rw [if_pos h2]
          rw [Int32.le_iff_toInt_le] at h2
          apply Int32.toInt_inj.mp
          omega
        · rw [if_neg h2]
  · rw [if_neg hc, if_neg n0]
    rw [Int32.le_iff_toInt_le] at hc
    by_cases hz : z = (-1000)
    · rw [if_pos hz, if_neg n0, if_pos (by rw [Int32.le_iff_toInt_le]; omega)]
    · rw [if_neg hz]
      by_cases h3 : z ≤ p + c0
      · rw [if_pos h3, if_neg hz]
        rw [Int32.le_iff_toInt_le] at h3
        rw [if_pos (by rw [Int32.le_iff_toInt_le]; omega)]
      · rw [if_neg h3, if_neg n0, if_pos (by rw [Int32.le_iff_toInt_le]; omega)]
theorem P_ring (h : LI g C rw len F mk ac ke) : rgS g C (gK g) = rgM g (lrn g (-1000) (-1000)).1 (gK g) := by
  have G := LI_G h
  have H := LI_Mt h
  have z0 : nI 0 = (0 : Int32) := by decide
  have key : ∀ j, j ≤ gK g → rgS g C j = rgM g (lrn g (-1000) (-1000)).1 j := by
    intro j
    induction j with
    | zero => intro _; rfl
    | succ j ih =>
      intro hj
      have hl : j < gK g := by omega
      have a1 := Gok_B2 G hl
      have a2 := Gok_E2 G hl
      have a5 := Gok_P G hl
      have t0 : nI 0 = (0 : Int32) := by decide
      have t1 : ¬ nI 1 = (0 : Int32) := by decide
      unfold rgS rgM
      rw [ih (by omega)]
      generalize rgM g (lrn g (-1000) (-1000)).1 j = z
      by_cases hT : bT g j = true
      · by_cases hW : bW g j = true
        · have f0 := edge_fin (u := e1 g j) (v := e2 g j) G h.2.1 H ⟨j, hl, by rw [ok_00 G hl]; exact hT, rfl, Or.inl ⟨rfl, rfl⟩⟩
          have f1 := edge_fin (u := e2 g j) (v := e1 g j) G h.2.1 H ⟨j, hl, by rw [ok_00 G hl]; exact hT, rfl, Or.inr ⟨hW, rfl, rfl⟩⟩
          have b0 := cf_bd H a1 a2 f0
          have b1 := cf_bd H a2 a1 f1
          unfold rov
          rw [if_pos hT, if_pos hW, if_pos hW, mm_le, s_pr H a1 a2, s_pr H a2 a1]
          rw [ring_pair a5 b1 b0]
          show _ = rgT g (lrn g (-1000) (-1000)).1 j z (1 + 1)
          unfold rgT
          rw [if_pos hT, if_neg t1, if_neg f0]
          show _ = if rgT g (lrn g (-1000) (-1000)).1 j z (0 + 1) = (-1000) then _ else if rgT g (lrn g (-1000) (-1000)).1 j z (0 + 1) ≤ _ then rgT g (lrn g (-1000) (-1000)).1 j z (0 + 1) else _
          have e : rgT g (lrn g (-1000) (-1000)).1 j z (0 + 1) = (if z = (-1000) then gP g j + cfr (lrn g (-1000) (-1000)).1 (e2 g j) (e1 g j) else if z ≤ gP g j + cfr (lrn g (-1000) (-1000)).1 (e2 g j) (e1 g j) then z else gP g j + cfr (lrn g (-1000) (-1000)).1 (e2 g j) (e1 g j)) := by
            unfold rgT
            rw [if_pos hT, if_pos t0, if_neg f1]
            rfl
          rw [e]
        · unfold rov
          rw [if_pos hT, if_neg hW, if_neg hW, s_pr H a2 a1]
          have e : rgT g (lrn g (-1000) (-1000)).1 j z (0 + 1) = (if cfr (lrn g (-1000) (-1000)).1 (e2 g j) (e1 g j) = (-1000) then z else if z = (-1000) then gP g j + cfr (lrn g (-1000) (-1000)).1 (e2 g j) (e1 g j) else if z ≤ gP g j + cfr (lrn g (-1000) (-1000)).1 (e2 g j) (e1 g j) then z else gP g j + cfr (lrn g (-1000) (-1000)).1 (e2 g j) (e1 g j)) := by
            unfold rgT
            rw [if_pos hT, if_pos t0]
            rfl
          show _ = rgT g (lrn g (-1000) (-1000)).1 j z (0 + 1)
          rw [e]
          by_cases f1 : cfr (lrn g (-1000) (-1000)).1 (e2 g j) (e1 g j) = (-1000)
          · rw [if_pos f1, if_pos f1, if_pos rfl]
          · have b1 := cf_bd H a2 a1 f1
            have s0 : (gP g j + cfr (lrn g (-1000) (-1000)).1 (e2 g j) (e1 g j)).toInt = (gP g j).toInt + (cfr (lrn g (-1000) (-1000)).1 (e2 g j) (e1 g j)).toInt := aAdd (by omega) (by omega)
            have n0 : ¬ gP g j + cfr (lrn g (-1000) (-1000)).1 (e2 g j) (e1 g j) = (-1000) := by
              intro q
              rw [q, nNo] at s0
              omega
            rw [if_neg f1, if_neg f1, if_neg n0]
      · have e : ∀ t, rgT g (lrn g (-1000) (-1000)).1 j z t = z := by
          intro t
          induction t with
          | zero => rfl
          | succ t it =>
            unfold rgT
            rw [if_neg hT]
            exact it
        unfold rov
        rw [if_neg hT, if_pos rfl, e]
  exact key (gK g) (Nat.le_refl _)
end RINGS
