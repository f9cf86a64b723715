/-! ===== the plain part: rings, sub-networks ===== -/
section RING
variable {g : Gr} {C : Nat → Int32} {rw len : Nat} {F : Nat → Int32} {mk : Int32} {ac : Nat} {ke : Nat → Int32}
theorem P_cutG (h : LI g C rw len F mk ac ke) {x : Int32} (hn : cutC g x rw = none) : Gok (sT g (upd (gT g) x.toNatClampNeg (nI 0))) ∧ (lrn (sT g (upd (gT g) x.toNatClampNeg (nI 0))) (-1000) (-1000)).2 = true ∧ rw ≤ 400 := by
  have G := LI_G h
  unfold cutC at hn
  by_cases i1 : inb x (gK g) = true
  · rw [if_pos i1] at hn
    by_cases i2 : bT g x.toNatClampNeg = true
    · rw [if_pos i2] at hn
      have G' : Gok (sT g (upd (gT g) x.toNatClampNeg (nI 0))) := Gok_T' G (Or.inl rfl)
      refine ⟨G', ?_, fulN (LI_rw h) hn⟩
      rw [lrn_iff G']
      intro m u c hw
      refine lrn_ring G h.2.1 m u c (vW_mono (fun u v d he => ?_) m u u c hw)
      obtain ⟨l, h1, h2, h3, h4⟩ := he
      have hl : l < gK g := h1
      refine ⟨l, hl, ?_, h3, h4⟩
      rw [ok_00 G' h1] at h2
      rw [ok_00 G hl]
      have hb : bT (sT g (upd (gT g) x.toNatClampNeg (nI 0))) l = decide (upd (gT g) x.toNatClampNeg (nI 0) l ≠ 0) := rfl
      rw [hb] at h2
      by_cases e : l = x.toNatClampNeg
      · rw [e]; exact i2
      · rw [pk_un e] at h2
        exact h2
    · rw [if_neg i2] at hn
      cases hn
  · rw [if_neg i1] at hn
    cases hn
theorem edge_fin (G : Gok g) (hg : (lrn g (-1000) (-1000)).2 = true) (H : Mt (gN g) C (lrn g (-1000) (-1000)).1) {u v : Nat} {d : Int} (he : vE g (-1000) (-1000) u v d) : ¬ cfr (lrn g (-1000) (-1000)).1 u v = (-1000) := by
  obtain ⟨hu, hv⟩ := vE_in G he
  have h1 := (lrn_best G hg 1 u v d hu (vW1 he)).2.2
  intro q
  have h2 := (mt_max (H u v hu hv)).mp ((mt_no (H u v hu hv)).mpr q)
  rw [big_i] at h2
  omega
end RING
