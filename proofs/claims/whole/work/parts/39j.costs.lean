/-! ===== the class's costs are what the model learns ===== -/
section COSTS
variable {g : Gr} {x y x' y' : Int32} {n a : Nat} {E : Nat → Nat → Int → Prop} {B : Int} {R : Nat → Int32}
theorem vR_mono {B' : Int} (h : vR n E a B R) (hB : B ≤ B') : vR n E a B' R := by
  intro v hv
  rcases h v hv with q | ⟨q1, q2, q3⟩
  · exact Or.inl q
  · exact Or.inr ⟨q1, by omega, by omega⟩
theorem rnd_val (G : Gok g) (hO : ∀ l, l < gK g → okL g x' y' l = okM g x y l) (ha : a < gN g) : ∀ r : Nat, r ≤ 10 → vR (gN g) (vE g x y) a (506960 * (r : Int)) (rnd g x' y' (upd (fun _ => 1073741824) a (nI 0)) r) ∧ ∀ (k v : Nat) (c : Int), k ≤ r → vWk (vE g x y) k a v c → (rnd g x' y' (upd (fun _ => 1073741824) a (nI 0)) r v).toInt ≤ c := by
  intro r
  have hK := Gok_K G
  have e0 : (nI 0).toInt = 0 := by decide
  induction r with
  | zero =>
    intro _
    refine ⟨fun v hv => ?_, fun k v c hk h => ?_⟩
    · show upd (fun _ => 1073741824) a (nI 0) v = 1073741824 ∨ _
      by_cases e : v = a
      · subst e
        right
        show (∃ k, vWk _ k v v (upd (fun _ => 1073741824) v (nI 0) v).toInt) ∧ _ ≤ (upd (fun _ => 1073741824) v (nI 0) v).toInt ∧ (upd (fun _ => 1073741824) v (nI 0) v).toInt ≤ _
        rw [pk_us, e0]
        exact ⟨⟨0, vW0 v⟩, by omega, by omega⟩
      · left
        rw [pk_un e]
    · have hk0 : k = 0 := by omega
      subst hk0
      obtain ⟨rfl, rfl⟩ := h
      show (upd (fun _ => 1073741824) a (nI 0) a).toInt ≤ 0
      rw [pk_us, e0]
      exact Int.le_refl _
  | succ r ih =>
    intro hr
    obtain ⟨i1, i2⟩ := ih (by omega)
    obtain ⟨j1, j2, j3⟩ := swp_val G hO i1 (by omega) (by omega) (gK g) (Nat.le_refl _)
    have hu : rnd g x' y' (upd (fun _ => 1073741824) a (nI 0)) (r + 1) = (swp g x' y' (rnd g x' y' (upd (fun _ => 1073741824) a (nI 0)) r) (gK g)).1 := rfl
    rw [hu]
    refine ⟨vR_mono j1 (by omega), fun k v c hk h => ?_⟩
    cases k with
    | zero => exact Int.le_trans (j2 v) (i2 0 v c (by omega) h)
    | succ k =>
      obtain ⟨w, d, h1, h2⟩ := h
      have k1 := i2 k w (c - d) (by omega) h1
      obtain ⟨P, p1, p2, p3⟩ := vW_w G k a w (c - d) h1
      have k2 : ¬ rnd g x' y' (upd (fun _ => 1073741824) a (nI 0)) r w = 1073741824 := by
        intro e
        rw [e, nMax] at k1
        omega
      have k3 := j3 w v d h2 k2
      omega
theorem spr_mt (G : Gok g) (hg : (lrn g x y).2 = true) (hO : ∀ l, l < gK g → okL g x' y' l = okM g x y l) {b : Nat} (ha : a < gN g) (hb : b < gN g) : mt (spr g x' y' a b) ((lrn g x y).1 (10 * a + b)) := by
  have hN := Gok_N G
  obtain ⟨i1, i2⟩ := rnd_val G hO ha (gN g) hN
  have hu : spr g x' y' a = rnd g x' y' (upd (fun _ => 1073741824) a (nI 0)) (gN g) := rfl
  rw [hu]
  have j1 := i1 b hb
  have v1 := (lrn_vI (x := x) (y := y) G).2.1 a b ha hb
  by_cases hf : ((lrn g x y).1 (10 * a + b)).toInt < 10000000
  · obtain ⟨m, m1, m2⟩ := lrn_lay G hg ha hb hf
    have k1 := i2 m b _ (by omega) m2
    obtain ⟨P, p1, p2, p3⟩ := vW_w G m a b _ m2
    have k2 : ¬ rnd g x' y' (upd (fun _ => 1073741824) a (nI 0)) (gN g) b = 1073741824 := by
      intro e
      rw [e, nMax] at k1
      omega
    obtain ⟨⟨k, k3⟩, -, -⟩ := j1.resolve_left k2
    have k4 := (lrn_best G hg k a b _ ha k3).2.1
    right
    refine ⟨Int32.toInt_inj.mp (by omega), by omega, by omega⟩
  · left
    constructor
    · apply Classical.byContradiction
      intro q
      obtain ⟨⟨k, k3⟩, -, -⟩ := j1.resolve_left q
      exact hf (lrn_best G hg k a b _ ha k3).2.2
    · apply Int32.toInt_inj.mp
      rw [nBig]
      rcases v1 with v1 | ⟨-, -, v1⟩
      · exact v1
      · omega
theorem ok_00 (G : Gok g) {l : Nat} (hl : l < gK g) : okM g (-1000) (-1000) l = bT g l := by
  have hK := Gok_K G
  have hN := Gok_N G
  have a1 := Gok_B2 G hl
  have a2 := Gok_E2 G hl
  have hn : (-1000 : Int32).toInt < 0 := by decide
  unfold okM
  rw [decide_eq_false (nI_neg (by omega) hn), decide_eq_false (nI_neg (by omega) hn), decide_eq_false (nI_neg (by omega) hn)]
  simp
theorem ok_L (G : Gok g) {l : Nat} (hl : l < gK g) (x : Int32) : okL g x (-1) l = okM g x (-1000) l := by
  have hN := Gok_N G
  have a1 := Gok_B2 G hl
  have a2 := Gok_E2 G hl
  have hn : (-1000 : Int32).toInt < 0 := by decide
  have hn1 : (-1 : Int32).toInt < 0 := by decide
  unfold okL okM tch
  rw [decide_eq_false (nI_neg (show e1 g l < 2 ^ 31 by omega) hn), decide_eq_false (nI_neg (show e2 g l < 2 ^ 31 by omega) hn), decide_eq_false (nI_neg (show e1 g l < 2 ^ 31 by omega) hn1), decide_eq_false (nI_neg (show e2 g l < 2 ^ 31 by omega) hn1)]
  rfl
theorem ok_1 (G : Gok g) {l : Nat} (hl : l < gK g) (y : Int32) : okL g (-1) y l = okM g (-1000) y l := by
  have hK := Gok_K G
  have hn : (-1000 : Int32).toInt < 0 := by decide
  have hn1 : (-1 : Int32).toInt < 0 := by decide
  unfold okL okM tch
  rw [decide_eq_false (nI_neg (show l < 2 ^ 31 by omega) hn), decide_eq_false (nI_neg (show l < 2 ^ 31 by omega) hn1), Bool.not_or]
theorem ok_0 (G : Gok g) {l : Nat} (hl : l < gK g) : okL g (-1) (-1) l = okM g (-1000) (-1000) l := by
  have hK := Gok_K G
  have hn : (-1000 : Int32).toInt < 0 := by decide
  have hn1 : (-1 : Int32).toInt < 0 := by decide
  rw [ok_L G hl]
  unfold okM
  rw [decide_eq_false (nI_neg (show l < 2 ^ 31 by omega) hn), decide_eq_false (nI_neg (show l < 2 ^ 31 by omega) hn1)]
theorem vE_sub (G : Gok g) (x y : Int32) (u v : Nat) (d : Int) (h : vE g x y u v d) : vE g (-1000) (-1000) u v d := by
  obtain ⟨l, h1, h2, h3⟩ := h
  refine ⟨l, h1, ?_, h3⟩
  rw [ok_00 G h1]
  unfold okM at h2
  rw [Bool.and_eq_true] at h2
  exact h2.1
theorem good_sub (G : Gok g) (hg : (lrn g (-1000) (-1000)).2 = true) (x y : Int32) : (lrn g x y).2 = true := (lrn_iff G).mpr (fun m u c h => lrn_ring G hg m u c (vW_mono (vE_sub G x y) m u u c h))
theorem low_out {f t v : Nat} {c : Int32} (ht : v ≠ t) : low R f t c v = R v := by
  unfold low
  by_cases h1 : R f = 1073741824
  · rw [if_pos h1]
  · rw [if_neg h1]
    by_cases h2 : R f + c < R t
    · rw [if_pos h2, pk_un ht]
    · rw [if_neg h2]
theorem rlx_out (G : Gok g) {l v : Nat} (hl : l < gK g) (hv : gN g ≤ v) : rlx g R l v = R v := by
  have a1 := Gok_B2 G hl
  have a2 := Gok_E2 G hl
  unfold rlx
  by_cases hb : bW g l = true
  · rw [if_pos hb, low_out (by omega), low_out (by omega)]
  · rw [if_neg hb, low_out (by omega)]
theorem swp_out (G : Gok g) {v : Nat} (hv : gN g ≤ v) : ∀ i, i ≤ gK g → (swp g x y R i).1 v = R v := by
  intro i
  induction i with
  | zero => intro _; rfl
  | succ i ih =>
    intro hi
    by_cases h9 : okL g x y i = true
    · simp only [swp, h9, if_true]
      rw [rlx_out G (by omega) hv, ih (by omega)]
    · simp only [swp, h9, if_false]
      exact ih (by omega)
theorem spr_out (G : Gok g) {v : Nat} (ha : a < gN g) (hv : gN g ≤ v) : spr g x y a v = 1073741824 := by
  have h : ∀ r, rnd g x y (upd (fun _ => 1073741824) a (nI 0)) r v = 1073741824 := by
    intro r
    induction r with
    | zero =>
      show upd (fun _ => 1073741824) a (nI 0) v = 1073741824
      rw [pk_un (by omega)]
    | succ r ih =>
      show (swp g x y (rnd g x y (upd (fun _ => 1073741824) a (nI 0)) r) (gK g)).1 v = _
      rw [swp_out G hv _ (Nat.le_refl _), ih]
  exact h (gN g)
theorem cst_Mt {C : Nat → Int32} (G : Gok g) (hg : (lrn g (-1000) (-1000)).2 = true) (hC : ∀ p, p < 100 → C p = cst g (gN g) p) : Mt (gN g) C (lrn g (-1000) (-1000)).1 := by
  have hN := Gok_N G
  intro a b ha hb
  rw [hC _ (by omega)]
  unfold cst
  rw [show (a * 10 + b) / 10 = a by omega, show (a * 10 + b) % 10 = b by omega, if_pos ha]
  exact spr_mt G hg (fun l hl => ok_0 G hl) ha hb
end COSTS
section PURE2
variable {g : Gr} {C : Nat → Int32} {rw len : Nat} {F : Nat → Int32} {mk : Int32} {ac : Nat} {ke : Nat → Int32}
theorem LI_Mt (h : LI g C rw len F mk ac ke) : Mt (gN g) C (lrn g (-1000) (-1000)).1 := cst_Mt h.1 h.2.1 h.2.2.1
theorem P_far (h : LI g C rw len F mk ac ke) (x y : Int32) : farC g C x y = farM g x y := S_far (LI_Mt h) (Gok_N h.1) x y
theorem P_stp (h : LI g C rw len F mk ac ke) (x y : Int32) : stpC g C x y = stpM g x y := S_stp (LI_Mt h) (Gok_N h.1) x y
theorem P_wto (h : LI g C rw len F mk ac ke) (x y z : Int32) : wtoC g x y z = wtoM g x y z := S_wto (fun _ _ _ _ ha hb => spr_mt h.1 (good_sub h.1 h.2.1 _ _) (fun _ hl => ok_L h.1 hl _) ha hb) (Gok_N h.1) (Gok_K h.1) x y z
theorem P_abt (h : LI g C rw len F mk ac ke) (x y z : Int32) : abtC g x y z = abtM g x y z := S_abt (fun _ _ _ _ ha hb _ _ => spr_mt h.1 (good_sub h.1 h.2.1 _ _) (fun _ hl => ok_1 h.1 hl _) ha hb) (Gok_N h.1) x y z
theorem P_hgt (h : LI g C rw len F mk ac ke) (x : Int32) : hgtC g C x = hgtM g x := S_hgt (LI_Mt h) (Gok_N h.1) x
theorem P_cnt (h : LI g C rw len F mk ac ke) : clO C (gN g) (gN g) = clMO (lrn g (-1000) (-1000)).1 (gN g) (gN g) := S_cnt (LI_Mt h) _ (Nat.le_refl _)
theorem LI_mk (h : LI g C rw len F mk ac ke) : ∃ s, s < 1024 ∧ mk = nI s := by
  obtain ⟨s, h1, h2⟩ := h.2.2.2.2.2.2.2.2
  have := pw_le (Gok_N h.1)
  exact ⟨s, by omega, h2⟩
theorem P_ner (h : LI g C rw len F mk ac ke) (x y : Int32) : nerC g C mk x y = nerM g mk x y := by
  obtain ⟨s, h1, rfl⟩ := LI_mk h
  exact S_nrr (LI_Mt h) (Gok_N h.1) h1 x y
theorem P_wrs (h : LI g C rw len F mk ac ke) : wrsC C (gN g) mk = wrM (lrn g (-1000) (-1000)).1 (gN g) mk := by
  obtain ⟨s, h1, rfl⟩ := LI_mk h
  exact S_wrs (LI_Mt h) h1 (Gok_N h.1)
/-- behind an act the invariant stands again -/
theorem LI_act {g' : Gr} {C' F' ke' : Nat → Int32} {mk' : Int32} (G : Gok g') (hg : (lrn g' (-1000) (-1000)).2 = true) (hC : ∀ p, p < 100 → C' p = cst g' (gN g') p) (hr : rw ≤ 400) (hl : rw ≤ len) (hL : lenOK len) (hh : hOK g' rw F ke) (hFo : ∀ p, p < rw * 100 → F' p = F p) (hFn : ∀ p, p < 100 → F' (rw * 100 + p) = prI (C' p)) (hKo : ∀ p, p < 100 * rw → ke' p = ke p) (hKn : ∀ p, p < 100 → ke' (100 * rw + p) = crs ((lrn g' (-1000) (-1000)).1 p)) (hm : ∃ s, s < 2 ^ gN g' ∧ mk' = nI s) : LI g' C' (rw + 1) (gL rw len) F' mk' rw ke' := by
  have hN := Gok_N G
  refine ⟨G, hg, hC, rfl, hr, (gL_ge (rw := rw) (len := len)).resolve_right (by omega), (pot hL hl hr).1, ?_, hm⟩
  intro t ht p hp
  by_cases e : t = rw
  · subst e
    rw [hFn p hp, hKn p hp]
    constructor
    · intro q
      have h1 := mt_pr (cst_Mt G hg hC (p / 10) (p % 10) q.1 q.2)
      rw [show p / 10 * 10 + p % 10 = p by omega, show 10 * (p / 10) + p % 10 = p by omega] at h1
      exact h1
    · intro q
      have h1 : C' p = 1073741824 := by
        rw [hC p hp]
        unfold cst
        by_cases i1 : p / 10 < gN g'
        · rw [if_pos i1]
          exact spr_out G i1 (by omega)
        · rw [if_neg i1]
      rw [h1]
      decide
  · rw [hFo _ (by omega), hKo _ (by omega)]
    exact hh t (by omega) p hp
end PURE2
