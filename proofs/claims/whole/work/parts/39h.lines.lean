/-! ===== the lines as steps of walks, and what is learned from them ===== -/
def vEL (g : Gr) (x y : Int32) (L u v : Nat) (d : Int) : Prop := ∃ l, l < L ∧ okM g x y l = true ∧ d = 64 * (gP g l).toInt + 1 ∧ ((e1 g l = u ∧ e2 g l = v) ∨ (bW g l = true ∧ e2 g l = u ∧ e1 g l = v))
def vE (g : Gr) (x y : Int32) (u v : Nat) (d : Int) : Prop := vEL g x y (gK g) u v d
section LINES
variable {g : Gr} {x y : Int32} {f : Nat → Int32}
theorem Gok_P {g : Gr} (G : Gok g) {l : Nat} (hl : l < gK g) : -50 ≤ (gP g l).toInt ∧ (gP g l).toInt ≤ 99 := ⟨(G.2.2.2 l hl).2.2.2.2.2.1, (G.2.2.2 l hl).2.2.2.2.2.2.1⟩
theorem cwM_i (G : Gok g) {l : Nat} (hl : l < gK g) : (cwM g l).toInt = 64 * (gP g l).toInt + 1 := by
  obtain ⟨h1, h2⟩ := Gok_P G hl
  have hm : (nI 64 * gP g l).toInt = (gP g l).toInt * 64 := by rw [Int32.mul_comm]; exact aM64 (by omega) (by omega)
  unfold cwM
  rw [aAdd (by rw [hm, n1]; omega) (by rw [hm, n1]; omega), hm, n1]
  omega
theorem mn_val {j : Nat} {w : Int32} (i : Nat) : (mnU f j w i = f i ∨ (i = j ∧ mnU f j w i = w)) ∧ (mnU f j w i).toInt ≤ (f i).toInt ∧ (i = j → (mnU f j w i).toInt ≤ w.toInt) := by
  unfold mnU
  by_cases e : i = j
  · subst e
    rw [pk_us]
    by_cases h : f i ≤ w
    · rw [if_pos h]
      rw [Int32.le_iff_toInt_le] at h
      exact ⟨Or.inl rfl, Int.le_refl _, fun _ => h⟩
    · rw [if_neg h]
      rw [Int32.le_iff_toInt_le] at h
      exact ⟨Or.inr ⟨rfl, rfl⟩, by omega, fun _ => Int.le_refl _⟩
  · rw [pk_un e]
    exact ⟨Or.inl rfl, Int.le_refl _, fun q => absurd q e⟩
theorem in1_val {l : Nat} (i : Nat) : (in1 g f l i = f i ∨ (in1 g f l i = cwM g l ∧ (i = 10 * e1 g l + e2 g l ∨ (bW g l = true ∧ i = 10 * e2 g l + e1 g l)))) ∧ (in1 g f l i).toInt ≤ (f i).toInt ∧ (i = 10 * e1 g l + e2 g l → (in1 g f l i).toInt ≤ (cwM g l).toInt) ∧ (bW g l = true → i = 10 * e2 g l + e1 g l → (in1 g f l i).toInt ≤ (cwM g l).toInt) := by
  obtain ⟨a1, a2, a3⟩ := mn_val (f := f) (j := 10 * e1 g l + e2 g l) (w := cwM g l) i
  obtain ⟨b1, b2, b3⟩ := mn_val (f := mnU f (10 * e1 g l + e2 g l) (cwM g l)) (j := 10 * e2 g l + e1 g l) (w := cwM g l) i
  unfold in1
  by_cases hb : bW g l = true
  · rw [if_pos hb]
    refine ⟨?_, by omega, fun q => by have := a3 q; omega, fun _ q => b3 q⟩
    rcases b1 with b1 | ⟨c1, c2⟩
    · rw [b1]
      rcases a1 with a1 | ⟨c1, c2⟩
      · exact Or.inl a1
      · exact Or.inr ⟨c2, Or.inl c1⟩
    · exact Or.inr ⟨c2, Or.inr ⟨hb, c1⟩⟩
  · rw [if_neg hb]
    have hu : upd (mnU f (10 * e1 g l + e2 g l) (cwM g l)) (10 * e2 g l + e1 g l) (mnU f (10 * e1 g l + e2 g l) (cwM g l) (10 * e2 g l + e1 g l)) i = mnU f (10 * e1 g l + e2 g l) (cwM g l) i := by
      by_cases e : i = 10 * e2 g l + e1 g l
      · subst e; rw [pk_us]
      · rw [pk_un e]
    rw [hu]
    refine ⟨?_, a2, a3, fun q => absurd q hb⟩
    rcases a1 with a1 | ⟨c1, c2⟩
    · exact Or.inl a1
    · exact Or.inr ⟨c2, Or.inl c1⟩
theorem vEL_up {L u v : Nat} {d : Int} (h : vEL g x y L u v d) : vEL g x y (L + 1) u v d := by
  obtain ⟨l, h1, h2⟩ := h
  exact ⟨l, by omega, h2⟩
theorem vE_in (G : Gok g) {u v : Nat} {d : Int} (h : vE g x y u v d) : u < gN g ∧ v < gN g := by
  obtain ⟨l, h1, -, -, h4⟩ := h
  have a1 := Gok_B2 G h1
  have a2 := Gok_E2 G h1
  rcases h4 with ⟨rfl, rfl⟩ | ⟨-, rfl, rfl⟩
  · exact ⟨a1, a2⟩
  · exact ⟨a2, a1⟩
theorem vE_d (G : Gok g) {u v : Nat} {d : Int} (h : vE g x y u v d) : -3199 ≤ d ∧ d ≤ 6337 := by
  obtain ⟨l, h1, -, h3, -⟩ := h
  have a1 := Gok_P G h1
  omega
theorem p2_val (G : Gok g) : ∀ L, L ≤ gK g → (∀ a, a < gN g → p2 g x y L (10 * a + a) = nI 0) ∧ vV (gN g) (vEL g x y L) 6337 (p2 g x y L) ∧ ∀ u v d, vEL g x y L u v d → (p2 g x y L (10 * u + v)).toInt ≤ d := by
  intro L
  have hN := Gok_N G
  have e0 : (nI 0).toInt = 0 := by decide
  induction L with
  | zero =>
    intro _
    refine ⟨fun a ha => ?_, fun a b ha hb => ?_, fun u v d h => ?_⟩
    · show fi0 (10 * a + a) = nI 0
      rw [fi0_in (by omega) (by omega), if_pos rfl]
    · show (fi0 (10 * a + b)).toInt = _ ∨ ((∃ k, vWk _ k a b (fi0 (10 * a + b)).toInt) ∧ _ ≤ (fi0 (10 * a + b)).toInt ∧ (fi0 (10 * a + b)).toInt ≤ _)
      rw [fi0_in (by omega) (by omega)]
      by_cases e : a = b
      · subst e
        rw [if_pos rfl, e0]
        exact Or.inr ⟨⟨0, vW0 a⟩, by omega, by omega⟩
      · rw [if_neg e, nBig]
        exact Or.inl rfl
    · obtain ⟨l, h1, -⟩ := h
      exact absurd h1 (Nat.not_lt_zero _)
  | succ L ih =>
    intro hL
    have hl : L < gK g := by omega
    obtain ⟨i1, i2, i3⟩ := ih (by omega)
    have a1 := Gok_B2 G hl
    have a2 := Gok_E2 G hl
    have a3 := Gok_ne G hl
    have a4 := cwM_i G hl
    have a5 := Gok_P G hl
    by_cases ho : okM g x y L = true
    · have hu : p2 g x y (L + 1) = in1 g (p2 g x y L) L := if_pos ho
      rw [hu]
      refine ⟨fun a ha => ?_, fun a b ha hb => ?_, fun u v d h => ?_⟩
      · rcases (in1_val (g := g) (f := p2 g x y L) (l := L) (10 * a + a)).1 with q | ⟨-, q⟩
        · rw [q]; exact i1 a ha
        · exfalso
          rcases q with q | ⟨-, q⟩ <;> omega
      · rcases (in1_val (g := g) (f := p2 g x y L) (l := L) (10 * a + b)).1 with q | ⟨q1, q⟩
        · rw [q]
          rcases i2 a b ha hb with j | ⟨⟨k, j1⟩, j2, j3⟩
          · exact Or.inl j
          · exact Or.inr ⟨⟨k, vW_mono (fun _ _ _ z => vEL_up z) k a b _ j1⟩, j2, j3⟩
        · rw [q1, a4]
          refine Or.inr ⟨⟨1, vW1 ⟨L, by omega, ho, rfl, ?_⟩⟩, by omega, by omega⟩
          rcases q with q | ⟨q0, q⟩
          · exact Or.inl ⟨by omega, by omega⟩
          · exact Or.inr ⟨q0, by omega, by omega⟩
      · obtain ⟨l, h1, h2, h3, h4⟩ := h
        obtain ⟨-, r1, r2, r3⟩ := in1_val (g := g) (f := p2 g x y L) (l := L) (10 * u + v)
        by_cases e : l = L
        · subst e
          rw [h3, ← a4]
          rcases h4 with ⟨rfl, rfl⟩ | ⟨q0, rfl, rfl⟩
          · exact r2 rfl
          · exact r3 q0 rfl
        · have h9 := i3 u v d ⟨l, by omega, h2, h3, h4⟩
          omega
    · have hu : p2 g x y (L + 1) = p2 g x y L := if_neg ho
      rw [hu]
      refine ⟨i1, fun a b ha hb => ?_, fun u v d h => ?_⟩
      · rcases i2 a b ha hb with j | ⟨⟨k, j1⟩, j2, j3⟩
        · exact Or.inl j
        · exact Or.inr ⟨⟨k, vW_mono (fun _ _ _ z => vEL_up z) k a b _ j1⟩, j2, j3⟩
      · obtain ⟨l, h1, h2, h3, h4⟩ := h
        by_cases e : l = L
        · subst e
          exact absurd h2 ho
        · exact i3 u v d ⟨l, by omega, h2, h3, h4⟩
theorem f3m_vI (G : Gok g) : ∀ m, m ≤ gN g → vI (gN g) (vE g x y) m ((6337 * 2 ^ m : Nat) : Int) (f3m (gN g) (p2 g x y (gK g)) m).1 (f3m (gN g) (p2 g x y (gK g)) m).2 := by
  intro m
  have hN := Gok_N G
  induction m with
  | zero =>
    intro _
    obtain ⟨i1, i2, i3⟩ := p2_val (x := x) (y := y) G (gK g) (Nat.le_refl _)
    exact ⟨i1, i2, fun _ => ⟨i3, fun k a b hk => absurd hk (Nat.not_lt_zero k)⟩, fun h => by cases h⟩
  | succ m ih =>
    intro hm
    have hp : 2 ^ m ≤ 2 ^ 9 := Nat.pow_le_pow_right (by omega) (by omega)
    have hs := vI_step (ih (by omega)) (by omega) hN (by omega) (by omega) (fun u v d h => vE_in G h)
    have e : (2 * ((6337 * 2 ^ m : Nat) : Int)) = ((6337 * 2 ^ (m + 1) : Nat) : Int) := by
      rw [Nat.pow_succ]
      omega
    rw [e] at hs
    exact hs
theorem lrn_vI (G : Gok g) : vI (gN g) (vE g x y) (gN g) 6489088 (lrn g x y).1 (lrn g x y).2 := by
  have hN := Gok_N G
  have hp : 2 ^ gN g ≤ 2 ^ 10 := Nat.pow_le_pow_right (by omega) hN
  obtain ⟨h1, h2, h3, h4⟩ := f3m_vI (x := x) (y := y) G (gN g) (Nat.le_refl _)
  have hl : lrn g x y = f3m (gN g) (p2 g x y (gK g)) (gN g) := rfl
  rw [hl]
  refine ⟨h1, fun a b ha hb => ?_, h3, h4⟩
  rcases h2 a b ha hb with j | ⟨j1, j2, j3⟩
  · exact Or.inl j
  · exact Or.inr ⟨j1, by omega, by omega⟩
/-- where nothing is wrong, what is learned is no worse than any walk -/
theorem lrn_best (G : Gok g) (hg : (lrn g x y).2 = true) : ∀ (m u v : Nat) (c : Int), u < gN g → vWk (vE g x y) m u v c → v < gN g ∧ ((lrn g x y).1 (10 * u + v)).toInt ≤ c ∧ ((lrn g x y).1 (10 * u + v)).toInt < 10000000 := by
  obtain ⟨h1, h2, h3, -⟩ := lrn_vI (x := x) (y := y) G
  obtain ⟨h5, h6⟩ := h3 hg
  have e0 : (nI 0).toInt = 0 := by decide
  intro m
  induction m with
  | zero =>
    intro u v c hu h
    obtain ⟨rfl, rfl⟩ := h
    rw [h1 u hu, e0]
    exact ⟨hu, by omega, by omega⟩
  | succ m ih =>
    intro u v c hu h
    obtain ⟨w, d, i1, i2⟩ := h
    obtain ⟨j1, j2, j3⟩ := ih u w (c - d) hu i1
    have hv := (vE_in G i2).2
    have hd := vE_d G i2
    have k1 := h5 w v d i2
    have k2 := h6 w u v j1 hu hv j3 (by omega)
    have k3 := (h2 u w hu j1).resolve_left (by omega)
    exact ⟨hv, by omega, by omega⟩
theorem lrn_ring (G : Gok g) (hg : (lrn g x y).2 = true) (m u : Nat) (c : Int) (h : vWk (vE g x y) m u u c) : 0 ≤ c := by
  have e0 : (nI 0).toInt = 0 := by decide
  cases m with
  | zero => obtain ⟨-, rfl⟩ := h; exact Int.le_refl _
  | succ m =>
    have hu : u < gN g := by
      obtain ⟨w, d, -, i2⟩ := h
      exact (vE_in G i2).2
    have h1 := (lrn_best G hg (m + 1) u u c hu h).2.1
    rw [(lrn_vI (x := x) (y := y) G).1 u hu, e0] at h1
    exact h1
theorem lrn_bad (G : Gok g) (hg : (lrn g x y).2 = false) : ∃ (a k : Nat) (c : Int), vWk (vE g x y) k a a c ∧ c < 0 := (lrn_vI (x := x) (y := y) G).2.2.2 hg
theorem lrn_iff (G : Gok g) : (lrn g x y).2 = true ↔ ∀ (m u : Nat) (c : Int), vWk (vE g x y) m u u c → 0 ≤ c := by
  constructor
  · intro hg m u c h
    exact lrn_ring G hg m u c h
  · intro h
    cases e : (lrn g x y).2 with
    | true => rfl
    | false =>
      obtain ⟨a, k, c, h1, h2⟩ := lrn_bad G e
      have h3 := h k a c h1
      omega
end LINES
