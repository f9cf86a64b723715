/-! ===== the plain part: the next line of a way ===== -/
section NEXT
variable {g : Gr} {C : Nat → Int32} {rw len : Nat} {F : Nat → Int32} {mk : Int32} {ac : Nat} {ke : Nat → Int32}
theorem fj_some {P : Nat → Bool} : ∀ (d i : Nat), (∃ j, i ≤ j ∧ j < i + d ∧ P j = true) → ∃ j, fj P d i = some j ∧ i ≤ j ∧ j < i + d ∧ P j = true := by
  intro d
  induction d with
  | zero =>
    intro i h
    obtain ⟨j, h1, h2, -⟩ := h
    omega
  | succ d ih =>
    intro i h
    by_cases hp : P i = true
    · refine ⟨i, ?_, by omega, by omega, hp⟩
      unfold fj
      rw [if_pos hp]
    · obtain ⟨j, h1, h2, h3⟩ := h
      have hne : j ≠ i := fun e => hp (by rw [← e]; exact h3)
      obtain ⟨k, k1, k2, k3, k4⟩ := ih (i + 1) ⟨j, by omega, by omega, h3⟩
      refine ⟨k, ?_, by omega, by omega, k4⟩
      unfold fj
      rw [if_neg hp]
      exact k1
theorem ts_of (G : Gok g) {x y : Int32} {a b l z : Nat} (ha : a < gN g) (hb : b < gN g) (hl : l < gK g) (hz : z < gN g) (h : tsM g (lrn g x y).1 a b l z = true) : ((lrn g x y).1 (10 * z + b)).toInt < 10000000 ∧ ((lrn g x y).1 (10 * a + b)).toInt = 64 * (gP g l).toInt + 1 + ((lrn g x y).1 (10 * z + b)).toInt := by
  unfold tsM at h
  rw [Bool.and_eq_true, Bool.not_eq_true', decide_eq_false_iff_not, decide_eq_true_eq, big_i] at h
  obtain ⟨h1, h2⟩ := h
  have v := ((lrn_vI (x := x) (y := y) G).2.1 z b hz hb).resolve_left (by omega)
  have c := cwM_i G hl
  have p := Gok_P G hl
  refine ⟨by omega, ?_⟩
  rw [← h2, aAdd (by omega) (by omega), c]
theorem nx_of (G : Gok g) {x y : Int32} {a b l : Nat} (ha : a < gN g) (hb : b < gN g) (hl : l < gK g) (h : nxM g (lrn g x y).1 a b l = true) : tsM g (lrn g x y).1 a b l (otM g l a) = true ∧ bT g l = true := by
  unfold nxM at h
  rw [Bool.and_eq_true] at h
  obtain ⟨h0, h⟩ := h
  refine ⟨?_, h0⟩
  unfold otM
  by_cases e : e1 g l = a
  · rw [if_pos e] at h ⊢
    exact h
  · rw [if_neg e] at h ⊢
    by_cases hb' : bW g l = true
    · rw [if_pos hb'] at h
      by_cases e' : e2 g l = a
      · rw [if_pos e'] at h
        exact h
      · rw [if_neg e'] at h
        cases h
    · rw [if_neg hb'] at h
      cases h
theorem P_nxt (h : LI g C rw len F mk ac ke) : Nxt g (lrn g (-1000) (-1000)).1 := by
  have G := LI_G h
  have hg := h.2.1
  have hN := Gok_N G
  intro a b ha hb hf
  rw [Int32.lt_iff_toInt_lt, nBig] at hf
  obtain ⟨m, m1, m2⟩ := lrn_lay G hg ha hb hf
  obtain ⟨P, p1, p2, p3⟩ := vW_w G m a b _ m2
  have st : ∀ (v : Int32) (Q : Int) (s : Nat), v.toInt = 64 * Q + s → s ≤ 9 → -10000000 ≤ v.toInt → v.toInt < 10000000 → stM v = nI s := by
    intro v Q s e hs l1 l2
    apply Int32.toInt_inj.mp
    rw [stM64 l1 l2, nI_toInt (by omega)]
    omega
  refine ⟨m, by omega, st _ P m p1 (by omega) (by omega) hf, fun hm1 => ?_⟩
  obtain ⟨w, d, w1, w2⟩ := vW_split (i := 1) (j := m - 1) (vW_cast m2 (show m = 1 + (m - 1) by omega) rfl)
  obtain ⟨w', d', u1, he⟩ := w1
  obtain ⟨u2, u3⟩ := u1
  subst u2
  have hd : d = d' := by omega
  subst hd
  have hw := (vE_in G he).2
  have k1 := lrn_best G hg (m - 1) w b _ hw w2
  obtain ⟨⟨k, k2⟩, k3, k4⟩ := ((lrn_vI (x := (-1000)) (y := (-1000)) G).2.1 w b hw hb).resolve_left (by omega)
  have k5 := (lrn_best G hg (1 + k) a b _ ha (vWt (vW1 he) k b _ k2)).2.1
  obtain ⟨l, hl, ho, e1', e2'⟩ := he
  have hT : bT g l = true := by
    rw [ok_00 G hl] at ho
    exact ho
  have c := cwM_i G hl
  have cp := Gok_P G hl
  have hs : tsM g (lrn g (-1000) (-1000)).1 a b l w = true := by
    unfold tsM
    rw [Bool.and_eq_true, Bool.not_eq_true', decide_eq_false_iff_not, decide_eq_true_eq, big_i]
    refine ⟨by omega, Int32.toInt_inj.mp ?_⟩
    rw [aAdd (by omega) (by omega), c]
    omega
  have hx : nxM g (lrn g (-1000) (-1000)).1 a b l = true := by
    unfold nxM
    rw [hT, Bool.true_and]
    rcases e2' with ⟨q1, q2⟩ | ⟨q0, q1, q2⟩
    · rw [if_pos q1, q2]
      exact hs
    · have hne := Gok_ne G hl
      rw [if_neg (by omega), if_pos q0, if_pos q1, q2]
      exact hs
  obtain ⟨j, j1, -, j3, j4⟩ := fj_some (P := nxM g (lrn g (-1000) (-1000)).1 a b) (gK g) 0 ⟨l, by omega, by omega, hx⟩
  have hnl : nlM g (lrn g (-1000) (-1000)).1 b a = j := by
    unfold nlM
    rw [j1]
    rfl
  rw [hnl]
  have hj : j < gK g := by omega
  have hz := otM_lt G (a := a) hj
  obtain ⟨n1', -⟩ := nx_of G ha hb hj j4
  obtain ⟨t1, t2⟩ := ts_of G ha hb hj hz n1'
  refine ⟨j1, hj, ?_, ?_⟩
  · rw [Int32.lt_iff_toInt_lt, nBig]
    exact t1
  · have cpj := Gok_P G hj
    exact st _ (P - (gP g j).toInt) (m - 1) (by omega) (by omega) (by omega) t1
end NEXT
