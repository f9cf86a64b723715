/-! ===== the class's search ===== -/
def vR (n : Nat) (E : Nat → Nat → Int → Prop) (a : Nat) (B : Int) (R : Nat → Int32) : Prop := ∀ v, v < n → R v = 1073741824 ∨ ((∃ k, vWk E k a v (R v).toInt) ∧ -B ≤ (R v).toInt ∧ (R v).toInt ≤ B)
section SEARCH
variable {g : Gr} {x y : Int32} {n a : Nat} {E : Nat → Nat → Int → Prop} {B : Int} {R : Nat → Int32}
theorem vW_w (G : Gok g) : ∀ (m u v : Nat) (c : Int), vWk (vE g x y) m u v c → ∃ P : Int, c = 64 * P + m ∧ -50 * (m : Int) ≤ P ∧ P ≤ 99 * (m : Int) := by
  intro m
  induction m with
  | zero =>
    intro u v c h
    obtain ⟨-, rfl⟩ := h
    exact ⟨0, by omega, by omega, by omega⟩
  | succ m ih =>
    intro u v c h
    obtain ⟨w, d, h1, l, h2, -, h3, -⟩ := h
    obtain ⟨P, p1, p2, p3⟩ := ih u w _ h1
    obtain ⟨q1, q2⟩ := Gok_P G h2
    exact ⟨P + (gP g l).toInt, by omega, by omega, by omega⟩
/-- a learned way is a walk of at most nine lines -/
theorem lrn_lay (G : Gok g) (hg : (lrn g x y).2 = true) {u v : Nat} (hu : u < gN g) (hv : v < gN g) (hf : ((lrn g x y).1 (10 * u + v)).toInt < 10000000) : ∃ m, m < gN g ∧ vWk (vE g x y) m u v ((lrn g x y).1 (10 * u + v)).toInt := by
  obtain ⟨⟨k, hk⟩, -, -⟩ := ((lrn_vI (x := x) (y := y) G).2.1 u v hu hv).resolve_left (by omega)
  obtain ⟨m', c', h1, h2, h3, h4⟩ := vW_short (fun _ _ _ h => vE_in G h) (lrn_ring G hg) k k u v _ (Nat.le_refl k) hu hk
  have h5 := (lrn_best G hg m' u v c' hu h4).2.1
  exact ⟨m', h1, vW_cast h4 rfl (by omega)⟩
theorem low_val {f t : Nat} {c : Int32} (hR : vR n E a B R) (hB : B ≤ 20000000) (hf : f < n) (ht : t < n) (he : E f t c.toInt) (h1 : -6337 ≤ c.toInt) (h2 : c.toInt ≤ 6337) (hB0 : 0 ≤ B) : vR n E a (B + 6337) (low R f t c) ∧ (∀ v, (low R f t c v).toInt ≤ (R v).toInt) ∧ (¬ R f = 1073741824 → (low R f t c t).toInt ≤ (R f).toInt + c.toInt) := by
  have keep : vR n E a (B + 6337) R := by
    intro v hv
    rcases hR v hv with q | ⟨q1, q2, q3⟩
    · exact Or.inl q
    · exact Or.inr ⟨q1, by omega, by omega⟩
  unfold low
  by_cases e : R f = 1073741824
  · rw [if_pos e]
    exact ⟨keep, fun _ => Int.le_refl _, fun q => absurd e q⟩
  · rw [if_neg e]
    obtain ⟨⟨k, q1⟩, q2, q3⟩ := (hR f hf).resolve_left e
    have hs : (R f + c).toInt = (R f).toInt + c.toInt := aAdd (by omega) (by omega)
    by_cases h : R f + c < R t
    · rw [if_pos h]
      rw [Int32.lt_iff_toInt_lt, hs] at h
      refine ⟨fun v hv => ?_, fun v => ?_, fun _ => ?_⟩
      · by_cases ev : v = t
        · subst ev
          rw [pk_us, hs]
          exact Or.inr ⟨⟨k + 1, vWs q1 he⟩, by omega, by omega⟩
        · rw [pk_un ev]
          exact keep v hv
      · by_cases ev : v = t
        · subst ev
          rw [pk_us, hs]
          omega
        · rw [pk_un ev]
          exact Int.le_refl _
      · rw [pk_us, hs]
        exact Int.le_refl _
    · rw [if_neg h]
      rw [Int32.lt_iff_toInt_lt, hs] at h
      exact ⟨keep, fun _ => Int.le_refl _, fun _ => by omega⟩
theorem cw_eq (g : Gr) (l : Nat) : cw g l = cwM g l := by
  unfold cw cwM
  rw [Int32.mul_comm]
theorem max_le (hR : vR n E a B R) (hB : B ≤ 20000000) {u : Nat} (hu : u < n) {v : Int32} (h : v.toInt ≤ (R u).toInt) (hw : ¬ R u = 1073741824) : ¬ v = 1073741824 := by
  intro e
  subst e
  obtain ⟨-, -, q⟩ := (hR u hu).resolve_left hw
  rw [nMax] at h
  omega
theorem rlx_val (G : Gok g) {l : Nat} (hl : l < gK g) (ho : okM g x y l = true) (hR : vR (gN g) (vE g x y) a B R) (hB : B ≤ 10000000) (hB0 : 0 ≤ B) : vR (gN g) (vE g x y) a (B + 12674) (rlx g R l) ∧ (∀ v, (rlx g R l v).toInt ≤ (R v).toInt) ∧ ∀ u v, ((e1 g l = u ∧ e2 g l = v) ∨ (bW g l = true ∧ e2 g l = u ∧ e1 g l = v)) → ¬ R u = 1073741824 → (rlx g R l v).toInt ≤ (R u).toInt + (cwM g l).toInt := by
  have a1 := Gok_B2 G hl
  have a2 := Gok_E2 G hl
  have a4 := cwM_i G hl
  have a5 := Gok_P G hl
  have w1 : vE g x y (e1 g l) (e2 g l) (cwM g l).toInt := ⟨l, hl, ho, a4, Or.inl ⟨rfl, rfl⟩⟩
  obtain ⟨i1, i2, i3⟩ := low_val hR (by omega) a1 a2 w1 (by omega) (by omega) hB0
  unfold rlx
  rw [cw_eq]
  by_cases hb : bW g l = true
  · rw [if_pos hb]
    have w2 : vE g x y (e2 g l) (e1 g l) (cwM g l).toInt := ⟨l, hl, ho, a4, Or.inr ⟨hb, rfl, rfl⟩⟩
    obtain ⟨j1, j2, j3⟩ := low_val i1 (by omega) a2 a1 w2 (by omega) (by omega) (by omega)
    rw [show B + 6337 + 6337 = B + 12674 by omega] at j1
    refine ⟨j1, fun v => Int.le_trans (j2 v) (i2 v), fun u v h hu => ?_⟩
    rcases h with ⟨rfl, rfl⟩ | ⟨-, rfl, rfl⟩
    · exact Int.le_trans (j2 _) (i3 hu)
    · have k1 := i2 (e2 g l)
      have k2 := j3 (max_le hR (by omega) a2 k1 hu)
      omega
  · rw [if_neg hb]
    refine ⟨fun v hv => ?_, i2, fun u v h hu => ?_⟩
    · rcases i1 v hv with q | ⟨q1, q2, q3⟩
      · exact Or.inl q
      · exact Or.inr ⟨q1, by omega, by omega⟩
    · rcases h with ⟨rfl, rfl⟩ | ⟨q, -⟩
      · exact i3 hu
      · exact absurd q hb
theorem swp_val {x' y' : Int32} (G : Gok g) (hO : ∀ l, l < gK g → okL g x' y' l = okM g x y l) (hR : vR (gN g) (vE g x y) a B R) (hB : B ≤ 9000000) (hB0 : 0 ≤ B) : ∀ i, i ≤ gK g → vR (gN g) (vE g x y) a (B + 12674 * (i : Int)) (swp g x' y' R i).1 ∧ (∀ v, ((swp g x' y' R i).1 v).toInt ≤ (R v).toInt) ∧ ∀ u v d, vEL g x y i u v d → ¬ R u = 1073741824 → ((swp g x' y' R i).1 v).toInt ≤ (R u).toInt + d := by
  intro i
  have hK := Gok_K G
  induction i with
  | zero =>
    intro _
    refine ⟨?_, fun _ => Int.le_refl _, fun u v d h => ?_⟩
    · have e : B + 12674 * ((0 : Nat) : Int) = B := by omega
      rw [e]
      exact hR
    · obtain ⟨l, h1, -⟩ := h
      exact absurd h1 (Nat.not_lt_zero l)
  | succ i ih =>
    intro hi
    obtain ⟨i1, i2, i3⟩ := ih (by omega)
    by_cases ho : okM g x y i = true
    · have hu : (swp g x' y' R (i + 1)).1 = rlx g (swp g x' y' R i).1 i := by
        have h9 : okL g x' y' i = true := by rw [hO i (by omega)]; exact ho
        simp only [swp, h9, if_true]
      rw [hu]
      obtain ⟨j1, j2, j3⟩ := rlx_val G (by omega) ho i1 (by omega) (by omega)
      have e : B + 12674 * (i : Int) + 12674 = B + 12674 * ((i + 1 : Nat) : Int) := by omega
      rw [e] at j1
      refine ⟨j1, fun v => Int.le_trans (j2 v) (i2 v), fun u v d h hne => ?_⟩
      obtain ⟨l, h1, h2, h3, h4⟩ := h
      by_cases el : l = i
      · subst el
        have k1 := i2 u
        have hul : u < gN g := by
          rcases h4 with ⟨r, -⟩ | ⟨-, r, -⟩
          · rw [← r]
            exact Gok_B2 G (by omega)
          · rw [← r]
            exact Gok_E2 G (by omega)
        have k2 := j3 u v h4 (max_le hR (by omega) hul k1 hne)
        have k3 := cwM_i G (show l < gK g by omega)
        omega
      · have k1 := i3 u v d ⟨l, by omega, h2, h3, h4⟩ hne
        have k2 := j2 v
        omega
    · have hu : (swp g x' y' R (i + 1)).1 = (swp g x' y' R i).1 := by
        have h9 : okL g x' y' i = false := by rw [hO i (by omega)]; exact (by cases e : okM g x y i with | true => exact absurd e ho | false => rfl)
        simp only [swp, h9, Bool.false_eq_true, if_false]
      rw [hu]
      refine ⟨fun v hv => ?_, i2, fun u v d h hne => ?_⟩
      · rcases i1 v hv with q | ⟨q1, q2, q3⟩
        · exact Or.inl q
        · exact Or.inr ⟨q1, by omega, by omega⟩
      · obtain ⟨l, h1, h2, h3, h4⟩ := h
        by_cases el : l = i
        · subst el
          exact absurd h2 ho
        · exact i3 u v d ⟨l, by omega, h2, h3, h4⟩ hne
end SEARCH
