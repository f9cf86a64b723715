/-! ===== the acts: a line set anew, one more, one back ===== -/
section SUMS
variable {g : Gr} {x y x' y' : Int32} {a b : Nat} {p : Int32} {t : Bool}
theorem sum_ok (G : Gok g) (hg : (lrn g x y).2 = true) (hO : ∀ l, l < gK g → okL g x' y' l = okM g x y l) (ha : a < gN g) (hb : b < gN g) (h1 : -50 ≤ p.toInt) (h2 : p.toInt ≤ 99) : clB p (prI (spr g x' y' a b)) = false ↔ ∀ m c, vWk (vE g x y) m a b c → 0 ≤ c + (64 * p.toInt + 1) := by
  have hN := Gok_N G
  have M := spr_mt G hg hO ha hb
  have z0 : (0 : Int32).toInt = 0 := by decide
  rw [mt_pr M]
  unfold clB
  by_cases hf : ((lrn g x y).1 (10 * a + b)).toInt < 10000000
  · obtain ⟨k, k1, k2⟩ := lrn_lay G hg ha hb hf
    obtain ⟨P, p1, p2, p3⟩ := vW_w G k a b _ k2
    have hc : (crs ((lrn g x y).1 (10 * a + b))).toInt = P := by
      rw [crs64 (by omega) hf]
      omega
    have hs : (p + crs ((lrn g x y).1 (10 * a + b))).toInt = p.toInt + P := by
      rw [aAdd (by omega) (by omega), hc]
    have hne : ¬ crs ((lrn g x y).1 (10 * a + b)) = (-1000) := by
      intro e
      rw [e, nNo] at hc
      omega
    rw [decide_eq_false hne, Bool.not_false, Bool.true_and, Bool.not_eq_false', decide_eq_true_eq, Int32.le_iff_toInt_le, z0, hs]
    constructor
    · intro q m c h
      have k3 := (lrn_best G hg m a b c ha h).2.1
      omega
    · intro q
      have k3 := q k _ k2
      omega
  · have hno : crs ((lrn g x y).1 (10 * a + b)) = (-1000) := crs_no (by rw [big_i]; omega)
    rw [hno, decide_eq_true rfl]
    constructor
    · intro _ m c h
      have k3 := (lrn_best G hg m a b c ha h).2.2
      omega
    · intro _
      rfl
/-- the line would close no ring below nothing exactly where no closed walk with it is below nothing -/
theorem snk_iff (G : Gok g) (hg : (lrn g x y).2 = true) (hO : ∀ l, l < gK g → okL g x' (-1) l = okM g x y l) (ha : a < gN g) (hb : b < gN g) (h1 : -50 ≤ p.toInt) (h2 : p.toInt ≤ 99) (h3 : t = true → 0 ≤ p.toInt) : snk g a b p t x' = false ↔ ∀ m u c, vWk (vA (vE g x y) a b (64 * p.toInt + 1) t) m u u c → 0 ≤ c := by
  rw [vA_iff (lrn_ring G hg) (fun q => by have := h3 q; omega)]
  unfold snk lav
  rw [Bool.or_eq_false_iff, sum_ok G hg hO hb ha h1 h2, Bool.and_eq_false_imp]
  constructor
  · intro q
    exact ⟨q.1, fun e => (sum_ok G hg hO ha hb h1 h2).mp (q.2 e)⟩
  · intro q
    exact ⟨q.1, fun e => (sum_ok G hg hO ha hb h1 h2).mpr (q.2 e)⟩
theorem ok_j (G : Gok g) {l j : Nat} (hl : l < gK g) (hj : j < gK g) : okM g (nI j) (-1000) l = (bT g l && !decide (l = j)) := by
  have hK := Gok_K G
  have hN := Gok_N G
  have a1 := Gok_B2 G hl
  have a2 := Gok_E2 G hl
  have hn : (-1000 : Int32).toInt < 0 := by decide
  have k : decide (nI l = nI j) = decide (l = j) := decide_eq_decide.mpr (nI_eq (show l < 2 ^ 31 by omega) (show j < 2 ^ 31 by omega))
  unfold okM
  rw [decide_eq_false (nI_neg (show e1 g l < 2 ^ 31 by omega) hn), decide_eq_false (nI_neg (show e2 g l < 2 ^ 31 by omega) hn), k]
  simp
/-- a graph whose lines are those of another but for one line, which is there: the two sums say whether it is good -/
theorem good_iff {g' : Gr} (G : Gok g) (G' : Gok g') (hg : (lrn g x y).2 = true) (hO : ∀ l, l < gK g → okL g x' (-1) l = okM g x y l) (ha : a < gN g) (hb : b < gN g) (h1 : -50 ≤ p.toInt) (h2 : p.toInt ≤ 99) (h3 : t = true → 0 ≤ p.toInt) (hE : ∀ u v d, vE g' (-1000) (-1000) u v d ↔ vA (vE g x y) a b (64 * p.toInt + 1) t u v d) : (lrn g' (-1000) (-1000)).2 = true ↔ snk g a b p t x' = false := by
  rw [snk_iff G hg hO ha hb h1 h2 h3, lrn_iff G']
  constructor
  · intro q m u c h
    exact q m u c (vW_mono (fun u v d e => (hE u v d).mpr e) m u u c h)
  · intro q m u c h
    exact q m u c (vW_mono (fun u v d e => (hE u v d).mp e) m u u c h)
end SUMS
section EDGES
variable {g g' : Gr} {j : Nat} {p : Int32}
theorem set_E (G : Gok g) (G' : Gok g') (hj : j < gK g) (hK : gK g' = gK g) (hB : ∀ l, e1 g' l = e1 g l) (hE : ∀ l, e2 g' l = e2 g l) (hW : ∀ l, bW g' l = bW g l) (hT : ∀ l, l ≠ j → bT g' l = bT g l) (hP : ∀ l, l ≠ j → gP g' l = gP g l) (hTj : bT g' j = true) (hPj : gP g' j = p) (u v : Nat) (d : Int) : vE g' (-1000) (-1000) u v d ↔ vA (vE g (nI j) (-1000)) (e1 g j) (e2 g j) (64 * p.toInt + 1) (bW g j) u v d := by
  constructor
  · intro h
    obtain ⟨l, h1, h2, h3, h4⟩ := h
    rw [ok_00 G' h1] at h2
    rw [hB, hE, hW] at h4
    rw [hK] at h1
    by_cases e : l = j
    · rw [e] at h3 h4
      rw [hPj] at h3
      refine Or.inr ⟨h3, ?_⟩
      rcases h4 with ⟨q1, q2⟩ | ⟨q0, q1, q2⟩
      · exact Or.inl ⟨q1.symm, q2.symm⟩
      · exact Or.inr ⟨q0, q1.symm, q2.symm⟩
    · rw [hP l e] at h3
      refine Or.inl ⟨l, h1, ?_, h3, h4⟩
      rw [ok_j G h1 hj, decide_eq_false e, ← hT l e, h2]
      rfl
  · intro h
    rcases h with ⟨l, h1, h2, h3, h4⟩ | ⟨h3, h4⟩
    · rw [ok_j G h1 hj, Bool.and_eq_true, Bool.not_eq_true', decide_eq_false_iff_not] at h2
      have h1' : l < gK g' := by rw [hK]; exact h1
      refine ⟨l, h1', ?_, ?_, ?_⟩
      · rw [ok_00 G' h1', hT l h2.2]
        exact h2.1
      · rw [hP l h2.2]
        exact h3
      · rw [hB, hE, hW]
        exact h4
    · have h1' : j < gK g' := by rw [hK]; exact hj
      refine ⟨j, h1', ?_, ?_, ?_⟩
      · rw [ok_00 G' h1']
        exact hTj
      · rw [hPj]
        exact h3
      · rw [hB, hE, hW]
        rcases h4 with ⟨q1, q2⟩ | ⟨q0, q1, q2⟩
        · exact Or.inl ⟨q1.symm, q2.symm⟩
        · exact Or.inr ⟨q0, q1.symm, q2.symm⟩
theorem add_E {a b : Nat} {t : Bool} (G : Gok g) (G' : Gok (addG g a b p t)) (ha : a < gN g) (hb : b < gN g) (u v : Nat) (d : Int) : vE (addG g a b p t) (-1000) (-1000) u v d ↔ vA (vE g (-1000) (-1000)) a b (64 * p.toInt + 1) t u v d := by
  have hN := Gok_N G
  have b1 : e1 (addG g a b p t) (gK g) = a := by
    show (upd (gB g) (gK g) (nI a) (gK g)).toNatClampNeg = a
    rw [pk_us, nI_clamp (by omega)]
  have b2 : e2 (addG g a b p t) (gK g) = b := by
    show (upd (gE g) (gK g) (nI b) (gK g)).toNatClampNeg = b
    rw [pk_us, nI_clamp (by omega)]
  have b3 : bW (addG g a b p t) (gK g) = t := by
    show decide (upd (gW g) (gK g) (bI t) (gK g) ≠ 0) = t
    rw [pk_us]
    cases t <;> decide
  have b4 : gP (addG g a b p t) (gK g) = p := by
    show upd (gP g) (gK g) p (gK g) = p
    rw [pk_us]
  have b5 : bT (addG g a b p t) (gK g) = true := by
    show decide (upd (gT g) (gK g) (nI 1) (gK g) ≠ 0) = true
    rw [pk_us]
    decide
  have c1 : ∀ l, l ≠ gK g → e1 (addG g a b p t) l = e1 g l := by
    intro l e
    show (upd (gB g) (gK g) (nI a) l).toNatClampNeg = _
    rw [pk_un e]
    rfl
  have c2 : ∀ l, l ≠ gK g → e2 (addG g a b p t) l = e2 g l := by
    intro l e
    show (upd (gE g) (gK g) (nI b) l).toNatClampNeg = _
    rw [pk_un e]
    rfl
  have c3 : ∀ l, l ≠ gK g → bW (addG g a b p t) l = bW g l := by
    intro l e
    show decide (upd (gW g) (gK g) (bI t) l ≠ 0) = _
    rw [pk_un e]
    rfl
  have c4 : ∀ l, l ≠ gK g → gP (addG g a b p t) l = gP g l := by
    intro l e
    show upd (gP g) (gK g) p l = _
    rw [pk_un e]
  have c5 : ∀ l, l ≠ gK g → bT (addG g a b p t) l = bT g l := by
    intro l e
    show decide (upd (gT g) (gK g) (nI 1) l ≠ 0) = _
    rw [pk_un e]
    rfl
  have hk : gK (addG g a b p t) = gK g + 1 := rfl
  constructor
  · intro h
    obtain ⟨l, h1, h2, h3, h4⟩ := h
    rw [ok_00 G' h1] at h2
    rw [hk] at h1
    by_cases e : l = gK g
    · rw [e] at h3 h4
      rw [b4] at h3
      rw [b1, b2, b3] at h4
      refine Or.inr ⟨h3, ?_⟩
      rcases h4 with ⟨q1, q2⟩ | ⟨q0, q1, q2⟩
      · exact Or.inl ⟨q1.symm, q2.symm⟩
      · exact Or.inr ⟨q0, q1.symm, q2.symm⟩
    · rw [c4 l e] at h3
      rw [c1 l e, c2 l e, c3 l e] at h4
      refine Or.inl ⟨l, by omega, ?_, h3, h4⟩
      rw [ok_00 G (show l < gK g by omega), ← c5 l e]
      exact h2
  · intro h
    rcases h with ⟨l, h1, h2, h3, h4⟩ | ⟨h3, h4⟩
    · have e : l ≠ gK g := by omega
      have h1' : l < gK (addG g a b p t) := by rw [hk]; omega
      rw [ok_00 G h1] at h2
      refine ⟨l, h1', ?_, ?_, ?_⟩
      · rw [ok_00 G' h1', c5 l e]
        exact h2
      · rw [c4 l e]
        exact h3
      · rw [c1 l e, c2 l e, c3 l e]
        exact h4
    · have h1' : gK g < gK (addG g a b p t) := by rw [hk]; omega
      refine ⟨gK g, h1', ?_, ?_, ?_⟩
      · rw [ok_00 G' h1']
        exact b5
      · rw [b4]
        exact h3
      · rw [b1, b2, b3]
        rcases h4 with ⟨q1, q2⟩ | ⟨q0, q1, q2⟩
        · exact Or.inl ⟨q1.symm, q2.symm⟩
        · exact Or.inr ⟨q0, q1.symm, q2.symm⟩
end EDGES
section GOOD
variable {g : Gr} {j : Nat} {v : Int32}
theorem W_pos (G : Gok g) (hj : j < gK g) (hw : bW g j = true) : 0 ≤ (gP g j).toInt := by
  obtain ⟨-, -, -, h4, -, -, -, h8⟩ := G.2.2.2 j hj
  refine h8 (h4.resolve_left (fun e => ?_))
  unfold bW at hw
  rw [e] at hw
  exact absurd hw (by decide)
theorem back_good (G : Gok g) (hg : (lrn g (-1000) (-1000)).2 = true) (hj : j < gK g) : (lrn (sT g (upd (gT g) j (nI 1))) (-1000) (-1000)).2 = true ↔ snk g (e1 g j) (e2 g j) (gP g j) (bW g j) (nI j) = false := by
  have G' : Gok (sT g (upd (gT g) j (nI 1))) := Gok_T' G (Or.inr rfl)
  have hP := Gok_P G hj
  have hb : ∀ l, bT (sT g (upd (gT g) j (nI 1))) l = decide (upd (gT g) j (nI 1) l ≠ 0) := fun _ => rfl
  refine good_iff G G' (good_sub G hg (nI j) (-1000)) (fun l hl => ok_L G hl (nI j)) (Gok_B2 G hj) (Gok_E2 G hj) hP.1 hP.2 (W_pos G hj) (set_E G G' hj rfl (fun _ => rfl) (fun _ => rfl) (fun _ => rfl) (fun l e => ?_) (fun _ _ => rfl) ?_ rfl)
  · rw [hb, pk_un e]
    rfl
  · rw [hb, pk_us]
    decide
theorem price_good (G : Gok g) (hg : (lrn g (-1000) (-1000)).2 = true) (hj : j < gK g) (hm : mayC v (bW g j) = true) : (lrn (sP g (upd (gP g) j v)) (-1000) (-1000)).2 = true ↔ (bT g j && snk g (e1 g j) (e2 g j) v (bW g j) (nI j)) = false := by
  have G' : Gok (sP g (upd (gP g) j v)) := Gok_price G hj hm
  obtain ⟨m1, m2, m3⟩ := mayC_of hm
  have hp : ∀ l, gP (sP g (upd (gP g) j v)) l = upd (gP g) j v l := fun _ => rfl
  by_cases hT : bT g j = true
  · rw [hT, Bool.true_and]
    refine good_iff G G' (good_sub G hg (nI j) (-1000)) (fun l hl => ok_L G hl (nI j)) (Gok_B2 G hj) (Gok_E2 G hj) m1 m2 m3 (set_E G G' hj rfl (fun _ => rfl) (fun _ => rfl) (fun _ => rfl) (fun _ _ => rfl) (fun l e => ?_) hT ?_)
    · rw [hp, pk_un e]
    · rw [hp, pk_us]
  · have hT' : bT g j = false := by simpa using hT
    rw [hT', Bool.false_and]
    refine ⟨fun _ => rfl, fun _ => ?_⟩
    rw [lrn_iff G']
    intro m u c hw
    refine lrn_ring G hg m u c (vW_mono (fun u v d he => ?_) m u u c hw)
    obtain ⟨l, h1, h2, h3, h4⟩ := he
    have hl : l < gK g := h1
    rw [ok_00 G' h1] at h2
    have h2' : bT g l = true := h2
    have e : l ≠ j := by
      intro e
      rw [e] at h2'
      exact hT h2'
    rw [hp, pk_un e] at h3
    refine ⟨l, hl, ?_, h3, h4⟩
    rw [ok_00 G hl]
    exact h2'
theorem add_good {a b : Nat} {t : Bool} (G : Gok g) (hg : (lrn g (-1000) (-1000)).2 = true) (ha : a < gN g) (hb : b < gN g) (hne : a ≠ b) (hk : gK g < 40) (hm : mayC v t = true) : (lrn (addG g a b v t) (-1000) (-1000)).2 = true ↔ snk g a b v t (-1) = false := by
  have G' := Gok_add G ha hb hne hk hm
  obtain ⟨m1, m2, m3⟩ := mayC_of hm
  exact good_iff G G' hg (fun l hl => ok_0 G hl) ha hb m1 m2 m3 (add_E G G' ha hb)
theorem clB_lt (v h : Int32) : clB v h = (!decide (h = (-1000)) && decide (h + v < 0)) := by
  unfold clB
  rw [Int32.add_comm v h]
  by_cases q : 0 ≤ h + v
  · rw [decide_eq_true q, decide_eq_false (Int32.not_lt.mpr q)]
    rfl
  · rw [decide_eq_false q, decide_eq_true (Int32.not_le.mp q)]
    rfl
theorem clB_le (v h : Int32) : clB v h = (!decide (h = (-1000)) && !decide (0 ≤ h + v)) := by
  unfold clB
  rw [Int32.add_comm v h]
theorem snk_bad {a b : Nat} {t : Bool} (G : Gok g) (hg : (lrn g (-1000) (-1000)).2 = true) (ha : a < gN g) (hb : b < gN g) : snk g a b v t (-1) = badM (lrn g (-1000) (-1000)).1 a b v t := by
  have k1 : lav g (-1) (-1) b a = cfr (lrn g (-1000) (-1000)).1 b a := mt_pr (spr_mt G hg (fun l hl => ok_0 G hl) hb ha)
  have k2 : lav g (-1) (-1) a b = cfr (lrn g (-1000) (-1000)).1 a b := mt_pr (spr_mt G hg (fun l hl => ok_0 G hl) ha hb)
  unfold snk badM
  rw [k1, k2]
  cases t
  · rw [Bool.false_and, Bool.or_false, if_neg Bool.false_ne_true, clB_lt]
  · rw [Bool.true_and, if_pos rfl, clB_le v (cfr (lrn g (-1000) (-1000)).1 b a), clB_lt v (cfr (lrn g (-1000) (-1000)).1 a b), Bool.or_comm]
end GOOD
