/-! ===== the plain part: the lines that a pair can't be without ===== -/
section VITAL
variable {g : Gr} {C : Nat → Int32} {rw len : Nat} {F : Nat → Int32} {mk : Int32} {ac : Nat} {ke : Nat → Int32} {fi : Nat → Int32}
theorem anyN_off {P : Nat → Bool} : ∀ {n : Nat}, anyN P n = false → ∀ i, i < n → P i = false := by
  intro n
  induction n with
  | zero => intro _ i hi; exact absurd hi (Nat.not_lt_zero i)
  | succ n ih =>
    intro h i hi
    unfold anyN at h
    rw [Bool.or_eq_false_iff] at h
    by_cases e : i = n
    · rw [e]
      exact h.2
    · exact ih h.1 i (by omega)
theorem fj_off {P : Nat → Bool} : ∀ (d i : Nat), (∀ j, i ≤ j → j < i + d → P j = false) → fj P d i = none := by
  intro d
  induction d with
  | zero => intro i _; rfl
  | succ d ih =>
    intro i h
    unfold fj
    rw [h i (by omega) (by omega), if_neg Bool.false_ne_true]
    exact ih (i + 1) (fun j h1 h2 => h j (by omega) (by omega))
theorem nx_edge (G : Gok g) {a b l j : Nat} (hl : l < gK g) (hj : j < gK g) (hne : l ≠ j) (h : nxM g fi a b l = true) : vE g (nI j) (-1000) a (otM g l a) (64 * (gP g l).toInt + 1) := by
  unfold nxM at h
  rw [Bool.and_eq_true] at h
  obtain ⟨hT, h⟩ := h
  refine ⟨l, hl, ?_, rfl, ?_⟩
  · rw [ok_j G hl hj, hT, decide_eq_false hne]
    rfl
  · unfold otM
    by_cases e : e1 g l = a
    · rw [if_pos e]
      exact Or.inl ⟨e, rfl⟩
    · rw [if_neg e]
      rw [if_neg e] at h
      by_cases hW : bW g l = true
      · rw [if_pos hW] at h
        by_cases e' : e2 g l = a
        · exact Or.inr ⟨hW, e', rfl⟩
        · rw [if_neg e'] at h
          cases h
      · rw [if_neg hW] at h
        cases h
/-- a way that does not pass a line is a walk without it -/
theorem way_off (G : Gok g) (H : Mt (gN g) C (lrn g (-1000) (-1000)).1) (hX : Nxt g (lrn g (-1000) (-1000)).1) {a b S j : Nat} (ha : a < gN g) (hb : b < gN g) (hf : (lrn g (-1000) (-1000)).1 (10 * a + b) < nI 10000000) (hS : stM ((lrn g (-1000) (-1000)).1 (10 * a + b)) = nI S) (h9 : S ≤ 63) (hj : j < gK g) (hoff : ∀ t, t < S → nlM g (lrn g (-1000) (-1000)).1 b (atM g (lrn g (-1000) (-1000)).1 a b t) ≠ j) : ∀ t, t ≤ S → ∃ (m : Nat) (c : Int), vWk (vE g (nI j) (-1000)) m a (atM g (lrn g (-1000) (-1000)).1 a b t) c ∧ c + ((lrn g (-1000) (-1000)).1 (10 * atM g (lrn g (-1000) (-1000)).1 a b t + b)).toInt = ((lrn g (-1000) (-1000)).1 (10 * a + b)).toInt := by
  intro t
  induction t with
  | zero =>
    intro _
    refine ⟨0, 0, vW0 a, ?_⟩
    show 0 + ((lrn g (-1000) (-1000)).1 (10 * a + b)).toInt = _
    omega
  | succ t ih =>
    intro ht
    obtain ⟨m, c, i1, i2⟩ := ih (by omega)
    obtain ⟨-, p2', p3, p4⟩ := ps_at G H hX ha hb hf hS h9 t (by omega)
    obtain ⟨q1, q2, q3, q4⟩ := Nxt_at hX p2' hb p3 p4 (by omega) (by omega)
    have hx := fj_true _ _ q1
    have e2' : atM g (lrn g (-1000) (-1000)).1 a b (t + 1) = otM g (nlM g (lrn g (-1000) (-1000)).1 b (atM g (lrn g (-1000) (-1000)).1 a b t)) (atM g (lrn g (-1000) (-1000)).1 a b t) := rfl
    have hz := otM_lt G (a := atM g (lrn g (-1000) (-1000)).1 a b t) q2
    have k1 := nx_edge G q2 hj (hoff t (by omega)) hx
    have k2 := (ts_of G p2' hb q2 hz (nx_of G p2' hb q2 hx).1).2
    rw [e2']
    exact ⟨m + 1, _, vWs i1 k1, by omega⟩
theorem vit_eq (h : LI g C rw len F mk ac ke) {a b j : Nat} (ha : a < gN g) (hb : b < gN g) (hj : j < gK g) (hf : (lrn g (-1000) (-1000)).1 (10 * a + b) < nI 10000000) : vit g C a b j = !decide (cfr (lrn g (nI j) (-1000)).1 a b = cfr (lrn g (-1000) (-1000)).1 a b) := by
  have G := LI_G h
  have hg := h.2.1
  have H := LI_Mt h
  have hX := P_nxt h
  have hg' := good_sub G hg (nI j) (-1000)
  have k1 : lav g (nI j) (-1) a b = cfr (lrn g (nI j) (-1000)).1 a b := mt_pr (spr_mt G hg' (fun l hl => ok_L G hl (nI j)) ha hb)
  unfold vit
  rw [k1, s_pr H ha hb]
  by_cases ho : onw g C a b j = true
  · rw [ho, Bool.true_and]
  · have ho' : onw g C a b j = false := Bool.eq_false_iff.mpr ho
    obtain ⟨S, s1, s2, -⟩ := hX a b ha hb hf
    have hl := s_ln H ha hb
    unfold onw at ho'
    rw [hl, s2, nI_clamp (by omega)] at ho'
    have hoff : ∀ t, t < S → nlM g (lrn g (-1000) (-1000)).1 b (atM g (lrn g (-1000) (-1000)).1 a b t) ≠ j := by
      intro t ht e
      have q := anyN_off ho' t ht
      rw [decide_eq_false_iff_not] at q
      apply q
      unfold lnAt
      have z0 : (0 : Int32).toInt = 0 := by decide
      rw [if_neg (by rw [Int32.lt_iff_toInt_lt, nI_toInt (by omega), z0]; omega), hl, s2, if_pos ((nI_ltI (by omega) (by omega)).mpr ht), nI_clamp (by omega), ln_at G H hX ha hb hf s2 s1 ht, e]
    obtain ⟨m, c, w1, w2⟩ := way_off G H hX ha hb hf s2 s1 hj hoff S (Nat.le_refl _)
    obtain ⟨-, p2', p3, p4⟩ := ps_at G H hX ha hb hf s2 s1 S (Nat.le_refl _)
    rw [Int32.lt_iff_toInt_lt, nBig] at p3 hf
    obtain ⟨m0, m1, m2⟩ := lrn_lay G hg p2' hb p3
    obtain ⟨P, r1, r2, r3⟩ := vW_w G m0 _ b _ m2
    have hN := Gok_N G
    have k4 := stM64 (show -10000000 ≤ ((lrn g (-1000) (-1000)).1 (10 * atM g (lrn g (-1000) (-1000)).1 a b S + b)).toInt by omega) p3
    rw [p4, show S - S = 0 by omega, nI_toInt (by omega)] at k4
    have hm0 : m0 = 0 := by omega
    subst hm0
    obtain ⟨u1, u2⟩ := m2
    rw [u1] at w1
    have k5 := (lrn_best G hg' m a b c ha w1).2
    obtain ⟨m3, -, m4⟩ := lrn_lay G hg' ha hb k5.2
    have k6 := (lrn_best G hg m3 a b _ ha (vW_mono (vE_sub G _ _) m3 a b _ m4)).2.1
    have ee : (lrn g (nI j) (-1000)).1 (10 * a + b) = (lrn g (-1000) (-1000)).1 (10 * a + b) := Int32.toInt_inj.mp (by omega)
    have k7 : cfr (lrn g (nI j) (-1000)).1 a b = cfr (lrn g (-1000) (-1000)).1 a b := by
      unfold cfr
      rw [ee]
    rw [k7, decide_eq_true rfl, Bool.not_true, Bool.and_false]
theorem cvt_eq (h : LI g C rw len F mk ac ke) {a b : Nat} (ha : a < gN g) (hb : b < gN g) (hf : (lrn g (-1000) (-1000)).1 (10 * a + b) < nI 10000000) : ∀ j, j ≤ gK g → cvt g C a b j = cvM g a b (cfr (lrn g (-1000) (-1000)).1 a b) j := by
  intro j
  induction j with
  | zero => intro _; rfl
  | succ j ih =>
    intro hj
    unfold cvt cvM
    rw [ih (by omega), vit_eq h ha hb (by omega) hf]
    by_cases e : cfr (lrn g (nI j) (-1000)).1 a b = cfr (lrn g (-1000) (-1000)).1 a b
    · rw [if_pos e, decide_eq_true e, Bool.not_true, if_neg Bool.false_ne_true]
    · rw [if_neg e, decide_eq_false e, Bool.not_false, if_pos rfl]
theorem P_vtl (h : LI g C rw len F mk ac ke) (x y z : Int32) : vtlC g C x y z = vtlM g x y z := by
  have G := LI_G h
  have H := LI_Mt h
  have hN := Gok_N G
  unfold vtlC vtlM
  by_cases iy : inb x (gN g) = true
  · by_cases iz : inb y (gN g) = true
    · rw [iy, iz, if_pos (show (true && true) = true from rfl), if_pos rfl, if_pos rfl]
      obtain ⟨a, ha, rfl⟩ := inb_nat iy (by omega)
      obtain ⟨b, hb, rfl⟩ := inb_nat iz (by omega)
      rw [nI_clamp (show a < 2 ^ 31 by omega), nI_clamp (show b < 2 ^ 31 by omega)]
      by_cases hn : cfr (lrn g (-1000) (-1000)).1 a b = (-1000)
      · rw [if_pos hn]
        have hbig := (mt_max (H a b ha hb)).mp ((mt_no (H a b ha hb)).mpr hn)
        have hl := s_ln H ha hb
        rw [stM_no hbig] at hl
        have hc : ((-1000) : Int32).toNatClampNeg = 0 := by decide
        rw [fj_off (gK g) 0 (fun j _ _ => ?_)]
        · rfl
        · unfold vitP vit onw
          rw [hl, hc]
          rfl
      · rw [if_neg hn]
        have hf : (lrn g (-1000) (-1000)).1 (10 * a + b) < nI 10000000 := by
          apply Int32.not_le.mp
          intro q
          exact hn ((mt_no (H a b ha hb)).mp ((mt_max (H a b ha hb)).mpr q))
        refine congrArg (oI (-1000)) (fj_cong (gK g) 0 (fun j _ h2 => ?_))
        unfold vitP vtP
        rw [vit_eq h ha hb (by omega) hf, cvt_eq h ha hb hf j (by omega)]
    · have ez : inb y (gN g) = false := by simpa using iz
      rw [iy, ez, Bool.and_false, if_neg Bool.false_ne_true, if_pos rfl, if_neg Bool.false_ne_true]
  · have ey : inb x (gN g) = false := by simpa using iy
    rw [ey, Bool.false_and, if_neg Bool.false_ne_true, if_neg Bool.false_ne_true]
end VITAL
