def lwG (p : Program) (l : Launch) (e : Env) (s : State) (m : MethodId) (b : Nat) (below : List Frame) (meth : Method) (c : Code) (D : va_G) (cI cZ cF : ClassId) (Z : State → Prop) (pc i : Nat) : Prop :=
  ∀ (q qm : Nat → Nat) (qf : Nat → Nat) (g : Gr) (C R : Nat → Int32) (rw len : Nat) (F : Nat → Int32) (sz : Nat) (X : Nat → Int32) (mk : Int32) (fi ke : Nat → Int32) (ac : Nat) (iv : Nat → Int32), LI g C rw len F mk ac ke → ∀ (H : Heap) (locs : List Loc) (ls : Array Slot), wd D (fun q => s.heap.size ≤ q) s H locs (wC q qf cI cZ cF g C R rw len F sz X mk ++ wM qm cI cZ cF g fi ke ac mk iv) → lv_has ls 4 [(0, .ref b), (1, .ref (q 0)), (2, .ref (qm 0)), (3, .int (nI i))] → W p l e room_1 s m #[Value.ref b] below meth c H locs (30 + 2 * len) (45000 + 101 * len) Z (F0 m pc ls [])
theorem lw_count {g : Gr} {C : Nat → Int32} {rw len : Nat} {F : Nat → Int32} {mk : Int32} {ac : Nat} {ke : Nat → Int32} {x r1 r2 : Int32} (hI : LI g C rw len F mk ac ke) (h1 : (x = nI 0 → r1 = nI (gN g)) ∧ (x = nI 1 → r1 = nI (gK g)) ∧ (x = nI 2 → r1 = nI (cntT g (gK g))) ∧ (x = nI 3 → r1 = nI (clO C (gN g) (gN g))) ∧ (x = nI 4 → r1 = bcnt mk) ∧ ((x.toInt < 0 ∨ 4 < x.toInt) → r1 = (-1002))) (h2 : r2 = if x = 0 then nI (gN g) else if x = nI 1 then nI (gK g) else if x = nI 2 then nI (cntT g (gK g)) else if x = nI 3 then nI (clMO (lrn g (-1000) (-1000)).1 (gN g) (gN g)) else if x = nI 4 then bsM mk 10 else (-1002)) : r1 = r2 := by
  obtain ⟨a0, a1, a2, a3, a4, a5⟩ := h1
  rw [h2]
  rcases sw5 x with rfl | rfl | rfl | rfl | rfl | h
  · rw [a0 rfl]; rfl
  · rw [a1 rfl]; rfl
  · rw [a2 rfl]; rfl
  · rw [a3 rfl, P_cnt hI]; rfl
  · rw [a4 rfl, P_bit hI]; rfl
  · rw [a5 h, if_neg (fun e => absurd h (by rw [e]; decide)), if_neg (fun e => absurd h (by rw [e]; decide)), if_neg (fun e => absurd h (by rw [e]; decide)), if_neg (fun e => absurd h (by rw [e]; decide)), if_neg (fun e => absurd h (by rw [e]; decide))]
theorem lw_told {g : Gr} {C : Nat → Int32} {rw len : Nat} {F : Nat → Int32} {mk : Int32} {ac : Nat} {ke : Nat → Int32} {x y r1 r2 : Int32} (hI : LI g C rw len F mk ac ke) (h1 : inb x (gK g) = false → r1 = (-1001)) (h2 : inb x (gK g) = true → (y = nI 0 → r1 = nI (e1 g x.toNatClampNeg)) ∧ (y = nI 1 → r1 = nI (e2 g x.toNatClampNeg)) ∧ (y = nI 2 → r1 = gP g x.toNatClampNeg) ∧ (y = nI 3 → r1 = bI (bW g x.toNatClampNeg)) ∧ (y = nI 4 → r1 = bI (bT g x.toNatClampNeg)) ∧ (y = nI 5 → r1 = if bT g x.toNatClampNeg = true then lif g C x.toNatClampNeg else (-1000)) ∧ ((y.toInt < 0 ∨ 5 < y.toInt) → r1 = (-1002))) (h3 : inb x (gK g) = false → r2 = (-1001)) (h4 : inb x (gK g) = true → (y = nI 0 → r2 = nI (e1 g x.toNatClampNeg)) ∧ (y = nI 1 → r2 = nI (e2 g x.toNatClampNeg)) ∧ (y = nI 2 → r2 = gP g x.toNatClampNeg) ∧ (y = nI 3 → r2 = bI (bW g x.toNatClampNeg)) ∧ (y = nI 4 → r2 = bI (bT g x.toNatClampNeg)) ∧ (y = nI 5 → r2 = if bT g x.toNatClampNeg = true then liM g (lrn g (-1000) (-1000)).1 x.toNatClampNeg else (-1000)) ∧ ((y.toInt < 0 ∨ 5 < y.toInt) → r2 = (-1002))) : r1 = r2 := by
  rcases hb : inb x (gK g) with _ | _
  · rw [h1 hb, h3 hb]
  · obtain ⟨a0, a1, a2, a3, a4, a5, a6⟩ := h2 hb
    obtain ⟨b0, b1, b2, b3, b4, b5, b6⟩ := h4 hb
    rcases sw6 y with rfl | rfl | rfl | rfl | rfl | rfl | h
    · rw [a0 rfl, b0 rfl]
    · rw [a1 rfl, b1 rfl]
    · rw [a2 rfl, b2 rfl]
    · rw [a3 rfl, b3 rfl]
    · rw [a4 rfl, b4 rfl]
    · have hK := Gok_K hI.1
      obtain ⟨j, hj, rfl⟩ := inb_nat hb (by omega)
      rw [a5 rfl, b5 rfl, nI_clamp (by omega), P_lif hI hj]
    · rw [a6 h, b6 h]
set_option maxRecDepth 100000 in
set_option maxHeartbeats 4000000 in
theorem lc_posts {p : Program} {l : Launch} {e : Env} {s : State} {m : MethodId} {b : Nat} {below : List Frame} {meth : Method} {c : Code} {D : va_G} {cI cZ cF : ClassId} {Z : State → Prop} {L : Nat} {xs : Nat → Int32} (S : CallFix p m c cL_law 4 s #[Value.ref b] wsL_law RL) (hk : kn D cI cZ cF (fun q => s.heap.size ≤ q) s) (hX : va_X b L xs s s.heap) (hbl : b < s.heap.size) (hL : L ≤ 2560) {i : Nat} (hi : i + 5 ≤ L) (hback : lwG p l e s m b below meth c D cI cZ cF Z 902 i) : lwG p l e s m b below meth c D cI cZ cF Z 144 i := by
  intro q qm qf g C R rw len F sz X mk fi ke ac iv hI H locs ls hW hl
  have hbA : ¬ (fun q => s.heap.size ≤ q) b := Nat.not_le.mpr hbl
  obtain ⟨G, hgd, hC, hrw, hac, hrl, hle, hh, hmk⟩ := id hI
  obtain ⟨h16, hlm⟩ := lenOK_le hle
  have hr1 : rw ≤ 401 := by omega
  have h1 : 1 ≤ rw := by omega
  refine lv_aload_n S.1 S.2.1 dL_law_144 rfl (lv_at hl 1 rfl) ?_
  refine lv_aload_n S.1 S.2.1 dL_law_145 rfl (lv_at hl 0 rfl) ?_
  refine lv_iload_n S.1 S.2.1 dL_law_146 rfl (lv_at hl 3 rfl) ?_
  refine lv_iconst (v := nI 1) S.1 S.2.1 dL_law_147 (by decide) ?_
  refine lv_iadd S.1 S.2.1 dL_law_148 (top_eq (nI_add _ _) ?_)
  refine sldN S hX hbl hbA hW (j := i + 1) rfl (by omega) (by omega) dL_law_149 ?_
  rcases ho : postsC (xs (i + 1)) with _ | z
  · skip
    have hgc : gC 0 len = 0 := if_pos (by omega)
    have hgs : gS 0 len = 0 := if_pos (by omega)
    refine kLi S (c_X5_posts (l := l) (D := D) (cI := cI) (cZ := cZ) (cF := cF) h16 hlm) (cwV 1 S.2.2.2.2 gL_law_X5_posts rfl rfl rfl ⟨rfl, v_X5_posts⟩ ⟨(Nat.le_of_ble_eq_true rfl), (Nat.le_of_ble_eq_true rfl)⟩) hk hW 0 rfl rfl rfl rfl hl rfl (Nat.le_of_ble_eq_true rfl) dL_law_150 ⟨by show 30 + 2 * len + gC 0 len ≤ 600000; omega, by show 45000 + 101 * len + gS 0 len ≤ 7302250; omega⟩ (fun rC u H locs hpC hW => ?_)
    obtain ⟨rfl, qf1, C1, R1, F1, hCa, hFo, hFn, rfl⟩ := hpC.2 ho
    refine lv_aload_n S.1 S.2.1 dL_law_153 rfl (lv_at hl 2 rfl) ?_
    refine lv_aload_n S.1 S.2.1 dL_law_154 rfl (lv_at hl 0 rfl) ?_
    refine lv_iload_n S.1 S.2.1 dL_law_155 rfl (lv_at hl 3 rfl) ?_
    refine lv_iconst (v := nI 1) S.1 S.2.1 dL_law_156 (by decide) ?_
    refine lv_iadd S.1 S.2.1 dL_law_157 (top_eq (nI_add _ _) ?_)
    refine sldN S hX hbl hbA hW (j := i + 1) rfl (by omega) (by omega) dL_law_158 ?_
    refine kRi S (c_X6_posts (l := l) (D := D) (cI := cI) (cZ := cZ) (cF := cF) G) (cwV 1 S.2.2.2.2 gL_law_X6_posts rfl rfl rfl ⟨rfl, v_X6_posts⟩ ⟨(Nat.le_of_ble_eq_true rfl), (Nat.le_of_ble_eq_true rfl)⟩) hk hW 0 rfl rfl rfl rfl hl rfl (Nat.le_of_ble_eq_true rfl) dL_law_159 ⟨by show 30 + 2 * len + gC 0 len + 0 ≤ 600000; omega, by show 45000 + 101 * len + gS 0 len + 0 ≤ 7302250; omega⟩ (fun rM u H locs hpM hW => ?_)
    obtain ⟨rfl, ke1, hKo, hKn, rfl⟩ := hpM.2 ((P_posts _).symm.trans ho)
    refine lv_icmp_eq (tgt := 902) S.1 S.2.1 dL_law_162 (by decide) (fun _ => ?_) (fun h => absurd rfl h)
    obtain ⟨G1, hg1⟩ := P_postsG ho
    have hI1 : LI (sK (sN g (xs (i + 1)).toNatClampNeg) 0) C1 (0 + 1) (gL 0 len) F1 (nI 0) 0 ke1 := LI_act G1 hg1 hCa (by omega) (by omega) hle (fun t ht => absurd ht (Nat.not_lt_zero t)) hFo hFn hKo hKn ⟨0, Nat.pow_pos (by decide), rfl⟩
    have hpt := pot hle (rw := 0) (by omega) (by omega)
    refine W.widen (k := 30 + 2 * gL 0 len) (n := 45000 + 101 * gL 0 len) (by omega) (by omega) ?_
    exact hback q qm qf1 (sK (sN g (xs (i + 1)).toNatClampNeg) 0) C1 R1 (0 + 1) (gL 0 len) F1 sz X (nI 0) _ ke1 0 iv hI1 H locs ls hW hl
  · skip
    have hgc : gC 0 len = 0 := if_pos (by omega)
    have hgs : gS 0 len = 0 := if_pos (by omega)
    refine kLi S (c_X5_posts (l := l) (D := D) (cI := cI) (cZ := cZ) (cF := cF) h16 hlm) (cwV 1 S.2.2.2.2 gL_law_X5_posts rfl rfl rfl ⟨rfl, v_X5_posts⟩ ⟨(Nat.le_of_ble_eq_true rfl), (Nat.le_of_ble_eq_true rfl)⟩) hk hW 0 rfl rfl rfl rfl hl rfl (Nat.le_of_ble_eq_true rfl) dL_law_150 ⟨by show 30 + 2 * len + gC 0 len ≤ 600000; omega, by show 45000 + 101 * len + gS 0 len ≤ 7302250; omega⟩ (fun rC u H locs hpC hW => ?_)
    obtain ⟨rfl, R1, rfl⟩ := hpC.1 _ ho
    refine lv_aload_n S.1 S.2.1 dL_law_153 rfl (lv_at hl 2 rfl) ?_
    refine lv_aload_n S.1 S.2.1 dL_law_154 rfl (lv_at hl 0 rfl) ?_
    refine lv_iload_n S.1 S.2.1 dL_law_155 rfl (lv_at hl 3 rfl) ?_
    refine lv_iconst (v := nI 1) S.1 S.2.1 dL_law_156 (by decide) ?_
    refine lv_iadd S.1 S.2.1 dL_law_157 (top_eq (nI_add _ _) ?_)
    refine sldN S hX hbl hbA hW (j := i + 1) rfl (by omega) (by omega) dL_law_158 ?_
    refine kRi S (c_X6_posts (l := l) (D := D) (cI := cI) (cZ := cZ) (cF := cF) G) (cwV 1 S.2.2.2.2 gL_law_X6_posts rfl rfl rfl ⟨rfl, v_X6_posts⟩ ⟨(Nat.le_of_ble_eq_true rfl), (Nat.le_of_ble_eq_true rfl)⟩) hk hW 0 rfl rfl rfl rfl hl rfl (Nat.le_of_ble_eq_true rfl) dL_law_159 ⟨by show 30 + 2 * len + gC 0 len + 0 ≤ 600000; omega, by show 45000 + 101 * len + gS 0 len + 0 ≤ 7302250; omega⟩ (fun rM u H locs hpM hW => ?_)
    obtain ⟨rfl, fi1, rfl⟩ := hpM.1 _ ((P_posts _).symm.trans ho)
    refine lv_icmp_eq (tgt := 902) S.1 S.2.1 dL_law_162 (by decide) (fun _ => ?_) (fun h => absurd rfl h)
    refine W.widen (k := 30 + 2 * len) (n := 45000 + 101 * len) (by omega) (by omega) ?_
    exact hback q qm qf g C R1 rw len F sz X mk fi1 ke ac iv hI H locs ls hW hl
set_option maxRecDepth 100000 in
set_option maxHeartbeats 4000000 in
theorem lc_line {p : Program} {l : Launch} {e : Env} {s : State} {m : MethodId} {b : Nat} {below : List Frame} {meth : Method} {c : Code} {D : va_G} {cI cZ cF : ClassId} {Z : State → Prop} {L : Nat} {xs : Nat → Int32} (S : CallFix p m c cL_law 4 s #[Value.ref b] wsL_law RL) (hk : kn D cI cZ cF (fun q => s.heap.size ≤ q) s) (hX : va_X b L xs s s.heap) (hbl : b < s.heap.size) (hL : L ≤ 2560) {i : Nat} (hi : i + 5 ≤ L) (hback : lwG p l e s m b below meth c D cI cZ cF Z 902 i) : lwG p l e s m b below meth c D cI cZ cF Z 167 i := by
  intro q qm qf g C R rw len F sz X mk fi ke ac iv hI H locs ls hW hl
  have hbA : ¬ (fun q => s.heap.size ≤ q) b := Nat.not_le.mpr hbl
  obtain ⟨G, hgd, hC, hrw, hac, hrl, hle, hh, hmk⟩ := id hI
  obtain ⟨h16, hlm⟩ := lenOK_le hle
  have hr1 : rw ≤ 401 := by omega
  have h1 : 1 ≤ rw := by omega
  refine lv_aload_n S.1 S.2.1 dL_law_167 rfl (lv_at hl 1 rfl) ?_
  refine lv_aload_n S.1 S.2.1 dL_law_168 rfl (lv_at hl 0 rfl) ?_
  refine lv_iload_n S.1 S.2.1 dL_law_169 rfl (lv_at hl 3 rfl) ?_
  refine lv_iconst (v := nI 1) S.1 S.2.1 dL_law_170 (by decide) ?_
  refine lv_iadd S.1 S.2.1 dL_law_171 (top_eq (nI_add _ _) ?_)
  refine sldN S hX hbl hbA hW (j := i + 1) rfl (by omega) (by omega) dL_law_172 ?_
  refine lv_aload_n S.1 S.2.1 dL_law_173 rfl (lv_at hl 0 rfl) ?_
  refine lv_iload_n S.1 S.2.1 dL_law_174 rfl (lv_at hl 3 rfl) ?_
  refine lv_iconst (v := nI 2) S.1 S.2.1 dL_law_175 (by decide) ?_
  refine lv_iadd S.1 S.2.1 dL_law_176 (top_eq (nI_add _ _) ?_)
  refine sldN S hX hbl hbA hW (j := i + 2) rfl (by omega) (by omega) dL_law_177 ?_
  refine lv_aload_n S.1 S.2.1 dL_law_178 rfl (lv_at hl 0 rfl) ?_
  refine lv_iload_n S.1 S.2.1 dL_law_179 rfl (lv_at hl 3 rfl) ?_
  refine lv_iconst (v := nI 3) S.1 S.2.1 dL_law_180 (by decide) ?_
  refine lv_iadd S.1 S.2.1 dL_law_181 (top_eq (nI_add _ _) ?_)
  refine sldN S hX hbl hbA hW (j := i + 3) rfl (by omega) (by omega) dL_law_182 ?_
  refine lv_aload_n S.1 S.2.1 dL_law_183 rfl (lv_at hl 0 rfl) ?_
  refine lv_iload_n S.1 S.2.1 dL_law_184 rfl (lv_at hl 3 rfl) ?_
  refine lv_iconst (v := nI 4) S.1 S.2.1 dL_law_185 (by decide) ?_
  refine lv_iadd S.1 S.2.1 dL_law_186 (top_eq (nI_add _ _) ?_)
  refine sldN S hX hbl hbA hW (j := i + 4) rfl (by omega) (by omega) dL_law_187 ?_
  refine lv_if_eq (tgt := 195) S.1 S.2.1 dL_law_188 (by decide) (fun c_b => ?_) (fun c_b => ?_)
  · skip
    refine lv_iconst (v := nI 0) S.1 S.2.1 dL_law_195 (by decide) ?_
    rcases ho : lineC g (xs (i + 1)) (xs (i + 2)) (xs (i + 3)) false rw with _ | z
    · skip
      have hmcv : lineC g (xs (i + 1)) (xs (i + 2)) (xs (i + 3)) false rw = none → gC rw len ≤ gC rw len ∧ gS rw len ≤ gS rw len := fun _ => ⟨Nat.le_refl _, Nat.le_refl _⟩
      have hgc := gC_le rw len
      have hgs := gS_le rw len
      refine kLi S (c_X5_line (l := l) (D := D) (cI := cI) (cZ := cZ) (cF := cF) (t := false) G h16 hlm hrl hr1 hmcv) (cwV 4 S.2.2.2.2 gL_law_X5_line rfl rfl rfl ⟨rfl, v_X5_line⟩ ⟨(Nat.le_of_ble_eq_true rfl), (Nat.le_of_ble_eq_true rfl)⟩) hk hW 0 rfl rfl rfl rfl hl rfl (Nat.le_of_ble_eq_true rfl) dL_law_196 ⟨by show 30 + 2 * len + gC rw len ≤ 600000; omega, by show 45000 + 101 * len + gS rw len ≤ 7302250; omega⟩ (fun rC u H locs hpC hW => ?_)
      obtain ⟨rfl, qf1, C1, R1, F1, hCa, hFo, hFn, rfl⟩ := hpC.2 ho
      refine lv_aload_n S.1 S.2.1 dL_law_199 rfl (lv_at hl 2 rfl) ?_
      refine lv_aload_n S.1 S.2.1 dL_law_200 rfl (lv_at hl 0 rfl) ?_
      refine lv_iload_n S.1 S.2.1 dL_law_201 rfl (lv_at hl 3 rfl) ?_
      refine lv_iconst (v := nI 1) S.1 S.2.1 dL_law_202 (by decide) ?_
      refine lv_iadd S.1 S.2.1 dL_law_203 (top_eq (nI_add _ _) ?_)
      refine sldN S hX hbl hbA hW (j := i + 1) rfl (by omega) (by omega) dL_law_204 ?_
      refine lv_aload_n S.1 S.2.1 dL_law_205 rfl (lv_at hl 0 rfl) ?_
      refine lv_iload_n S.1 S.2.1 dL_law_206 rfl (lv_at hl 3 rfl) ?_
      refine lv_iconst (v := nI 2) S.1 S.2.1 dL_law_207 (by decide) ?_
      refine lv_iadd S.1 S.2.1 dL_law_208 (top_eq (nI_add _ _) ?_)
      refine sldN S hX hbl hbA hW (j := i + 2) rfl (by omega) (by omega) dL_law_209 ?_
      refine lv_aload_n S.1 S.2.1 dL_law_210 rfl (lv_at hl 0 rfl) ?_
      refine lv_iload_n S.1 S.2.1 dL_law_211 rfl (lv_at hl 3 rfl) ?_
      refine lv_iconst (v := nI 3) S.1 S.2.1 dL_law_212 (by decide) ?_
      refine lv_iadd S.1 S.2.1 dL_law_213 (top_eq (nI_add _ _) ?_)
      refine sldN S hX hbl hbA hW (j := i + 3) rfl (by omega) (by omega) dL_law_214 ?_
      refine lv_aload_n S.1 S.2.1 dL_law_215 rfl (lv_at hl 0 rfl) ?_
      refine lv_iload_n S.1 S.2.1 dL_law_216 rfl (lv_at hl 3 rfl) ?_
      refine lv_iconst (v := nI 4) S.1 S.2.1 dL_law_217 (by decide) ?_
      refine lv_iadd S.1 S.2.1 dL_law_218 (top_eq (nI_add _ _) ?_)
      refine sldN S hX hbl hbA hW (j := i + 4) rfl (by omega) (by omega) dL_law_219 ?_
      refine lv_if_eq (tgt := 227) S.1 S.2.1 dL_law_220 (by decide) (fun c_d => ?_) (fun c_d => ?_)
      rotate_left
      · exact absurd c_b c_d
      refine lv_iconst (v := nI 0) S.1 S.2.1 dL_law_227 (by decide) ?_
      refine kRi S (c_X6_line (l := l) (D := D) (cI := cI) (cZ := cZ) (cF := cF) (t := false) G hac) (cwV 4 S.2.2.2.2 gL_law_X6_line rfl rfl rfl ⟨rfl, v_X6_line⟩ ⟨(Nat.le_of_ble_eq_true rfl), (Nat.le_of_ble_eq_true rfl)⟩) hk hW 0 rfl rfl rfl rfl hl rfl (Nat.le_of_ble_eq_true rfl) dL_law_228 ⟨by show 30 + 2 * len + gC rw len + 0 ≤ 600000; omega, by show 45000 + 101 * len + gS rw len + 0 ≤ 7302250; omega⟩ (fun rM u H locs hpM hW => ?_)
      obtain ⟨rfl, ke1, hKo, hKn, rfl⟩ := hpM.2 ((P_line hI _ _ _ _).symm.trans ho)
      refine lv_icmp_eq (tgt := 902) S.1 S.2.1 dL_law_231 (by decide) (fun _ => ?_) (fun h => absurd rfl h)
      obtain ⟨G1, hg1, hr4⟩ := P_lineG hI ho
      have hra : rw = ac + 1 := hrw
      rw [← hra] at hKo hKn hW
      have hI1 : LI (addG g (xs (i + 1)).toNatClampNeg (xs (i + 2)).toNatClampNeg (xs (i + 3)) false) C1 (rw + 1) (gL rw len) F1 mk rw ke1 := LI_act G1 hg1 hCa hr4 hrl hle hh hFo hFn hKo hKn hmk
      have hpt := pot hle hrl hr4
      refine W.widen (k := 30 + 2 * gL rw len) (n := 45000 + 101 * gL rw len) (by omega) (by omega) ?_
      exact hback q qm qf1 (addG g (xs (i + 1)).toNatClampNeg (xs (i + 2)).toNatClampNeg (xs (i + 3)) false) C1 R1 (rw + 1) (gL rw len) F1 sz X mk _ ke1 rw iv hI1 H locs ls hW hl
    · skip
      have hmcv : lineC g (xs (i + 1)) (xs (i + 2)) (xs (i + 3)) false rw = none → gC rw len ≤ 0 ∧ gS rw len ≤ 0 := fun h => by rw [ho] at h; cases h
      refine kLi S (c_X5_line (l := l) (D := D) (cI := cI) (cZ := cZ) (cF := cF) (t := false) G h16 hlm hrl hr1 hmcv) (cwV 4 S.2.2.2.2 gL_law_X5_line rfl rfl rfl ⟨rfl, v_X5_line⟩ ⟨(Nat.le_of_ble_eq_true rfl), (Nat.le_of_ble_eq_true rfl)⟩) hk hW 0 rfl rfl rfl rfl hl rfl (Nat.le_of_ble_eq_true rfl) dL_law_196 ⟨by show 30 + 2 * len + 0 ≤ 600000; omega, by show 45000 + 101 * len + 0 ≤ 7302250; omega⟩ (fun rC u H locs hpC hW => ?_)
      obtain ⟨rfl, R1, rfl⟩ := hpC.1 _ ho
      refine lv_aload_n S.1 S.2.1 dL_law_199 rfl (lv_at hl 2 rfl) ?_
      refine lv_aload_n S.1 S.2.1 dL_law_200 rfl (lv_at hl 0 rfl) ?_
      refine lv_iload_n S.1 S.2.1 dL_law_201 rfl (lv_at hl 3 rfl) ?_
      refine lv_iconst (v := nI 1) S.1 S.2.1 dL_law_202 (by decide) ?_
      refine lv_iadd S.1 S.2.1 dL_law_203 (top_eq (nI_add _ _) ?_)
      refine sldN S hX hbl hbA hW (j := i + 1) rfl (by omega) (by omega) dL_law_204 ?_
      refine lv_aload_n S.1 S.2.1 dL_law_205 rfl (lv_at hl 0 rfl) ?_
      refine lv_iload_n S.1 S.2.1 dL_law_206 rfl (lv_at hl 3 rfl) ?_
      refine lv_iconst (v := nI 2) S.1 S.2.1 dL_law_207 (by decide) ?_
      refine lv_iadd S.1 S.2.1 dL_law_208 (top_eq (nI_add _ _) ?_)
      refine sldN S hX hbl hbA hW (j := i + 2) rfl (by omega) (by omega) dL_law_209 ?_
      refine lv_aload_n S.1 S.2.1 dL_law_210 rfl (lv_at hl 0 rfl) ?_
      refine lv_iload_n S.1 S.2.1 dL_law_211 rfl (lv_at hl 3 rfl) ?_
      refine lv_iconst (v := nI 3) S.1 S.2.1 dL_law_212 (by decide) ?_
      refine lv_iadd S.1 S.2.1 dL_law_213 (top_eq (nI_add _ _) ?_)
      refine sldN S hX hbl hbA hW (j := i + 3) rfl (by omega) (by omega) dL_law_214 ?_
      refine lv_aload_n S.1 S.2.1 dL_law_215 rfl (lv_at hl 0 rfl) ?_
      refine lv_iload_n S.1 S.2.1 dL_law_216 rfl (lv_at hl 3 rfl) ?_
      refine lv_iconst (v := nI 4) S.1 S.2.1 dL_law_217 (by decide) ?_
      refine lv_iadd S.1 S.2.1 dL_law_218 (top_eq (nI_add _ _) ?_)
      refine sldN S hX hbl hbA hW (j := i + 4) rfl (by omega) (by omega) dL_law_219 ?_
      refine lv_if_eq (tgt := 227) S.1 S.2.1 dL_law_220 (by decide) (fun c_d => ?_) (fun c_d => ?_)
      rotate_left
      · exact absurd c_b c_d
      refine lv_iconst (v := nI 0) S.1 S.2.1 dL_law_227 (by decide) ?_
      refine kRi S (c_X6_line (l := l) (D := D) (cI := cI) (cZ := cZ) (cF := cF) (t := false) G hac) (cwV 4 S.2.2.2.2 gL_law_X6_line rfl rfl rfl ⟨rfl, v_X6_line⟩ ⟨(Nat.le_of_ble_eq_true rfl), (Nat.le_of_ble_eq_true rfl)⟩) hk hW 0 rfl rfl rfl rfl hl rfl (Nat.le_of_ble_eq_true rfl) dL_law_228 ⟨by show 30 + 2 * len + 0 + 0 ≤ 600000; omega, by show 45000 + 101 * len + 0 + 0 ≤ 7302250; omega⟩ (fun rM u H locs hpM hW => ?_)
      obtain ⟨rfl, fi1, rfl⟩ := hpM.1 _ ((P_line hI _ _ _ _).symm.trans ho)
      refine lv_icmp_eq (tgt := 902) S.1 S.2.1 dL_law_231 (by decide) (fun _ => ?_) (fun h => absurd rfl h)
      exact hback q qm qf g C R1 rw len F sz X mk fi1 ke ac iv hI H locs ls hW hl
  · skip
    refine lv_iconst (v := nI 1) S.1 S.2.1 dL_law_191 (by decide) ?_
    refine lv_goto (tgt := 196) S.1 S.2.1 dL_law_192 (by decide) ?_
    rcases ho : lineC g (xs (i + 1)) (xs (i + 2)) (xs (i + 3)) true rw with _ | z
    · skip
      have hmcv : lineC g (xs (i + 1)) (xs (i + 2)) (xs (i + 3)) true rw = none → gC rw len ≤ gC rw len ∧ gS rw len ≤ gS rw len := fun _ => ⟨Nat.le_refl _, Nat.le_refl _⟩
      have hgc := gC_le rw len
      have hgs := gS_le rw len
      refine kLi S (c_X5_line (l := l) (D := D) (cI := cI) (cZ := cZ) (cF := cF) (t := true) G h16 hlm hrl hr1 hmcv) (cwV 4 S.2.2.2.2 gL_law_X5_line rfl rfl rfl ⟨rfl, v_X5_line⟩ ⟨(Nat.le_of_ble_eq_true rfl), (Nat.le_of_ble_eq_true rfl)⟩) hk hW 0 rfl rfl rfl rfl hl rfl (Nat.le_of_ble_eq_true rfl) dL_law_196 ⟨by show 30 + 2 * len + gC rw len ≤ 600000; omega, by show 45000 + 101 * len + gS rw len ≤ 7302250; omega⟩ (fun rC u H locs hpC hW => ?_)
      obtain ⟨rfl, qf1, C1, R1, F1, hCa, hFo, hFn, rfl⟩ := hpC.2 ho
      refine lv_aload_n S.1 S.2.1 dL_law_199 rfl (lv_at hl 2 rfl) ?_
      refine lv_aload_n S.1 S.2.1 dL_law_200 rfl (lv_at hl 0 rfl) ?_
      refine lv_iload_n S.1 S.2.1 dL_law_201 rfl (lv_at hl 3 rfl) ?_
      refine lv_iconst (v := nI 1) S.1 S.2.1 dL_law_202 (by decide) ?_
      refine lv_iadd S.1 S.2.1 dL_law_203 (top_eq (nI_add _ _) ?_)
      refine sldN S hX hbl hbA hW (j := i + 1) rfl (by omega) (by omega) dL_law_204 ?_
      refine lv_aload_n S.1 S.2.1 dL_law_205 rfl (lv_at hl 0 rfl) ?_
      refine lv_iload_n S.1 S.2.1 dL_law_206 rfl (lv_at hl 3 rfl) ?_
      refine lv_iconst (v := nI 2) S.1 S.2.1 dL_law_207 (by decide) ?_
      refine lv_iadd S.1 S.2.1 dL_law_208 (top_eq (nI_add _ _) ?_)
      refine sldN S hX hbl hbA hW (j := i + 2) rfl (by omega) (by omega) dL_law_209 ?_
      refine lv_aload_n S.1 S.2.1 dL_law_210 rfl (lv_at hl 0 rfl) ?_
      refine lv_iload_n S.1 S.2.1 dL_law_211 rfl (lv_at hl 3 rfl) ?_
      refine lv_iconst (v := nI 3) S.1 S.2.1 dL_law_212 (by decide) ?_
      refine lv_iadd S.1 S.2.1 dL_law_213 (top_eq (nI_add _ _) ?_)
      refine sldN S hX hbl hbA hW (j := i + 3) rfl (by omega) (by omega) dL_law_214 ?_
      refine lv_aload_n S.1 S.2.1 dL_law_215 rfl (lv_at hl 0 rfl) ?_
      refine lv_iload_n S.1 S.2.1 dL_law_216 rfl (lv_at hl 3 rfl) ?_
      refine lv_iconst (v := nI 4) S.1 S.2.1 dL_law_217 (by decide) ?_
      refine lv_iadd S.1 S.2.1 dL_law_218 (top_eq (nI_add _ _) ?_)
      refine sldN S hX hbl hbA hW (j := i + 4) rfl (by omega) (by omega) dL_law_219 ?_
      refine lv_if_eq (tgt := 227) S.1 S.2.1 dL_law_220 (by decide) (fun c_d => ?_) (fun c_d => ?_)
      · exact absurd c_d c_b
      refine lv_iconst (v := nI 1) S.1 S.2.1 dL_law_223 (by decide) ?_
      refine lv_goto (tgt := 228) S.1 S.2.1 dL_law_224 (by decide) ?_
      refine kRi S (c_X6_line (l := l) (D := D) (cI := cI) (cZ := cZ) (cF := cF) (t := true) G hac) (cwV 4 S.2.2.2.2 gL_law_X6_line rfl rfl rfl ⟨rfl, v_X6_line⟩ ⟨(Nat.le_of_ble_eq_true rfl), (Nat.le_of_ble_eq_true rfl)⟩) hk hW 0 rfl rfl rfl rfl hl rfl (Nat.le_of_ble_eq_true rfl) dL_law_228 ⟨by show 30 + 2 * len + gC rw len + 0 ≤ 600000; omega, by show 45000 + 101 * len + gS rw len + 0 ≤ 7302250; omega⟩ (fun rM u H locs hpM hW => ?_)
      obtain ⟨rfl, ke1, hKo, hKn, rfl⟩ := hpM.2 ((P_line hI _ _ _ _).symm.trans ho)
      refine lv_icmp_eq (tgt := 902) S.1 S.2.1 dL_law_231 (by decide) (fun _ => ?_) (fun h => absurd rfl h)
      obtain ⟨G1, hg1, hr4⟩ := P_lineG hI ho
      have hra : rw = ac + 1 := hrw
      rw [← hra] at hKo hKn hW
      have hI1 : LI (addG g (xs (i + 1)).toNatClampNeg (xs (i + 2)).toNatClampNeg (xs (i + 3)) true) C1 (rw + 1) (gL rw len) F1 mk rw ke1 := LI_act G1 hg1 hCa hr4 hrl hle hh hFo hFn hKo hKn hmk
      have hpt := pot hle hrl hr4
      refine W.widen (k := 30 + 2 * gL rw len) (n := 45000 + 101 * gL rw len) (by omega) (by omega) ?_
      exact hback q qm qf1 (addG g (xs (i + 1)).toNatClampNeg (xs (i + 2)).toNatClampNeg (xs (i + 3)) true) C1 R1 (rw + 1) (gL rw len) F1 sz X mk _ ke1 rw iv hI1 H locs ls hW hl
    · skip
      have hmcv : lineC g (xs (i + 1)) (xs (i + 2)) (xs (i + 3)) true rw = none → gC rw len ≤ 0 ∧ gS rw len ≤ 0 := fun h => by rw [ho] at h; cases h
      refine kLi S (c_X5_line (l := l) (D := D) (cI := cI) (cZ := cZ) (cF := cF) (t := true) G h16 hlm hrl hr1 hmcv) (cwV 4 S.2.2.2.2 gL_law_X5_line rfl rfl rfl ⟨rfl, v_X5_line⟩ ⟨(Nat.le_of_ble_eq_true rfl), (Nat.le_of_ble_eq_true rfl)⟩) hk hW 0 rfl rfl rfl rfl hl rfl (Nat.le_of_ble_eq_true rfl) dL_law_196 ⟨by show 30 + 2 * len + 0 ≤ 600000; omega, by show 45000 + 101 * len + 0 ≤ 7302250; omega⟩ (fun rC u H locs hpC hW => ?_)
      obtain ⟨rfl, R1, rfl⟩ := hpC.1 _ ho
      refine lv_aload_n S.1 S.2.1 dL_law_199 rfl (lv_at hl 2 rfl) ?_
      refine lv_aload_n S.1 S.2.1 dL_law_200 rfl (lv_at hl 0 rfl) ?_
      refine lv_iload_n S.1 S.2.1 dL_law_201 rfl (lv_at hl 3 rfl) ?_
      refine lv_iconst (v := nI 1) S.1 S.2.1 dL_law_202 (by decide) ?_
      refine lv_iadd S.1 S.2.1 dL_law_203 (top_eq (nI_add _ _) ?_)
      refine sldN S hX hbl hbA hW (j := i + 1) rfl (by omega) (by omega) dL_law_204 ?_
      refine lv_aload_n S.1 S.2.1 dL_law_205 rfl (lv_at hl 0 rfl) ?_
      refine lv_iload_n S.1 S.2.1 dL_law_206 rfl (lv_at hl 3 rfl) ?_
      refine lv_iconst (v := nI 2) S.1 S.2.1 dL_law_207 (by decide) ?_
      refine lv_iadd S.1 S.2.1 dL_law_208 (top_eq (nI_add _ _) ?_)
      refine sldN S hX hbl hbA hW (j := i + 2) rfl (by omega) (by omega) dL_law_209 ?_
      refine lv_aload_n S.1 S.2.1 dL_law_210 rfl (lv_at hl 0 rfl) ?_
      refine lv_iload_n S.1 S.2.1 dL_law_211 rfl (lv_at hl 3 rfl) ?_
      refine lv_iconst (v := nI 3) S.1 S.2.1 dL_law_212 (by decide) ?_
      refine lv_iadd S.1 S.2.1 dL_law_213 (top_eq (nI_add _ _) ?_)
      refine sldN S hX hbl hbA hW (j := i + 3) rfl (by omega) (by omega) dL_law_214 ?_
      refine lv_aload_n S.1 S.2.1 dL_law_215 rfl (lv_at hl 0 rfl) ?_
      refine lv_iload_n S.1 S.2.1 dL_law_216 rfl (lv_at hl 3 rfl) ?_
      refine lv_iconst (v := nI 4) S.1 S.2.1 dL_law_217 (by decide) ?_
      refine lv_iadd S.1 S.2.1 dL_law_218 (top_eq (nI_add _ _) ?_)
      refine sldN S hX hbl hbA hW (j := i + 4) rfl (by omega) (by omega) dL_law_219 ?_
      refine lv_if_eq (tgt := 227) S.1 S.2.1 dL_law_220 (by decide) (fun c_d => ?_) (fun c_d => ?_)
      · exact absurd c_d c_b
      refine lv_iconst (v := nI 1) S.1 S.2.1 dL_law_223 (by decide) ?_
      refine lv_goto (tgt := 228) S.1 S.2.1 dL_law_224 (by decide) ?_
      refine kRi S (c_X6_line (l := l) (D := D) (cI := cI) (cZ := cZ) (cF := cF) (t := true) G hac) (cwV 4 S.2.2.2.2 gL_law_X6_line rfl rfl rfl ⟨rfl, v_X6_line⟩ ⟨(Nat.le_of_ble_eq_true rfl), (Nat.le_of_ble_eq_true rfl)⟩) hk hW 0 rfl rfl rfl rfl hl rfl (Nat.le_of_ble_eq_true rfl) dL_law_228 ⟨by show 30 + 2 * len + 0 + 0 ≤ 600000; omega, by show 45000 + 101 * len + 0 + 0 ≤ 7302250; omega⟩ (fun rM u H locs hpM hW => ?_)
      obtain ⟨rfl, fi1, rfl⟩ := hpM.1 _ ((P_line hI _ _ _ _).symm.trans ho)
      refine lv_icmp_eq (tgt := 902) S.1 S.2.1 dL_law_231 (by decide) (fun _ => ?_) (fun h => absurd rfl h)
      exact hback q qm qf g C R1 rw len F sz X mk fi1 ke ac iv hI H locs ls hW hl
set_option maxRecDepth 100000 in
set_option maxHeartbeats 4000000 in
theorem lc_price {p : Program} {l : Launch} {e : Env} {s : State} {m : MethodId} {b : Nat} {below : List Frame} {meth : Method} {c : Code} {D : va_G} {cI cZ cF : ClassId} {Z : State → Prop} {L : Nat} {xs : Nat → Int32} (S : CallFix p m c cL_law 4 s #[Value.ref b] wsL_law RL) (hk : kn D cI cZ cF (fun q => s.heap.size ≤ q) s) (hX : va_X b L xs s s.heap) (hbl : b < s.heap.size) (hL : L ≤ 2560) {i : Nat} (hi : i + 5 ≤ L) (hback : lwG p l e s m b below meth c D cI cZ cF Z 902 i) : lwG p l e s m b below meth c D cI cZ cF Z 236 i := by
  intro q qm qf g C R rw len F sz X mk fi ke ac iv hI H locs ls hW hl
  have hbA : ¬ (fun q => s.heap.size ≤ q) b := Nat.not_le.mpr hbl
  obtain ⟨G, hgd, hC, hrw, hac, hrl, hle, hh, hmk⟩ := id hI
  obtain ⟨h16, hlm⟩ := lenOK_le hle
  have hr1 : rw ≤ 401 := by omega
  have h1 : 1 ≤ rw := by omega
  refine lv_aload_n S.1 S.2.1 dL_law_236 rfl (lv_at hl 1 rfl) ?_
  refine lv_aload_n S.1 S.2.1 dL_law_237 rfl (lv_at hl 0 rfl) ?_
  refine lv_iload_n S.1 S.2.1 dL_law_238 rfl (lv_at hl 3 rfl) ?_
  refine lv_iconst (v := nI 1) S.1 S.2.1 dL_law_239 (by decide) ?_
  refine lv_iadd S.1 S.2.1 dL_law_240 (top_eq (nI_add _ _) ?_)
  refine sldN S hX hbl hbA hW (j := i + 1) rfl (by omega) (by omega) dL_law_241 ?_
  refine lv_aload_n S.1 S.2.1 dL_law_242 rfl (lv_at hl 0 rfl) ?_
  refine lv_iload_n S.1 S.2.1 dL_law_243 rfl (lv_at hl 3 rfl) ?_
  refine lv_iconst (v := nI 2) S.1 S.2.1 dL_law_244 (by decide) ?_
  refine lv_iadd S.1 S.2.1 dL_law_245 (top_eq (nI_add _ _) ?_)
  refine sldN S hX hbl hbA hW (j := i + 2) rfl (by omega) (by omega) dL_law_246 ?_
  rcases ho : priceC g (xs (i + 1)) (xs (i + 2)) rw with _ | z
  · skip
    have hmcv : priceC g (xs (i + 1)) (xs (i + 2)) rw = none → gC rw len ≤ gC rw len ∧ gS rw len ≤ gS rw len := fun _ => ⟨Nat.le_refl _, Nat.le_refl _⟩
    have hgc := gC_le rw len
    have hgs := gS_le rw len
    refine kLi S (c_X5_price (l := l) (D := D) (cI := cI) (cZ := cZ) (cF := cF) G h16 hlm hrl hr1 hmcv) (cwV 2 S.2.2.2.2 gL_law_X5_price rfl rfl rfl ⟨rfl, v_X5_price⟩ ⟨(Nat.le_of_ble_eq_true rfl), (Nat.le_of_ble_eq_true rfl)⟩) hk hW 0 rfl rfl rfl rfl hl rfl (Nat.le_of_ble_eq_true rfl) dL_law_247 ⟨by show 30 + 2 * len + gC rw len ≤ 600000; omega, by show 45000 + 101 * len + gS rw len ≤ 7302250; omega⟩ (fun rC u H locs hpC hW => ?_)
    obtain ⟨rfl, qf1, C1, R1, F1, hCa, hFo, hFn, rfl⟩ := hpC.2 ho
    refine lv_aload_n S.1 S.2.1 dL_law_250 rfl (lv_at hl 2 rfl) ?_
    refine lv_aload_n S.1 S.2.1 dL_law_251 rfl (lv_at hl 0 rfl) ?_
    refine lv_iload_n S.1 S.2.1 dL_law_252 rfl (lv_at hl 3 rfl) ?_
    refine lv_iconst (v := nI 1) S.1 S.2.1 dL_law_253 (by decide) ?_
    refine lv_iadd S.1 S.2.1 dL_law_254 (top_eq (nI_add _ _) ?_)
    refine sldN S hX hbl hbA hW (j := i + 1) rfl (by omega) (by omega) dL_law_255 ?_
    refine lv_aload_n S.1 S.2.1 dL_law_256 rfl (lv_at hl 0 rfl) ?_
    refine lv_iload_n S.1 S.2.1 dL_law_257 rfl (lv_at hl 3 rfl) ?_
    refine lv_iconst (v := nI 2) S.1 S.2.1 dL_law_258 (by decide) ?_
    refine lv_iadd S.1 S.2.1 dL_law_259 (top_eq (nI_add _ _) ?_)
    refine sldN S hX hbl hbA hW (j := i + 2) rfl (by omega) (by omega) dL_law_260 ?_
    refine kRi S (c_X6_price (l := l) (D := D) (cI := cI) (cZ := cZ) (cF := cF) G hac) (cwV 2 S.2.2.2.2 gL_law_X6_price rfl rfl rfl ⟨rfl, v_X6_price⟩ ⟨(Nat.le_of_ble_eq_true rfl), (Nat.le_of_ble_eq_true rfl)⟩) hk hW 0 rfl rfl rfl rfl hl rfl (Nat.le_of_ble_eq_true rfl) dL_law_261 ⟨by show 30 + 2 * len + gC rw len + 0 ≤ 600000; omega, by show 45000 + 101 * len + gS rw len + 0 ≤ 7302250; omega⟩ (fun rM u H locs hpM hW => ?_)
    obtain ⟨rfl, ke1, hKo, hKn, rfl⟩ := hpM.2 ((P_price hI _ _).symm.trans ho)
    refine lv_icmp_eq (tgt := 902) S.1 S.2.1 dL_law_264 (by decide) (fun _ => ?_) (fun h => absurd rfl h)
    obtain ⟨G1, hg1, hr4⟩ := P_priceG hI ho
    have hra : rw = ac + 1 := hrw
    rw [← hra] at hKo hKn hW
    have hI1 : LI (sP g (upd (gP g) (xs (i + 1)).toNatClampNeg (xs (i + 2)))) C1 (rw + 1) (gL rw len) F1 mk rw ke1 := LI_act G1 hg1 hCa hr4 hrl hle hh hFo hFn hKo hKn hmk
    have hpt := pot hle hrl hr4
    refine W.widen (k := 30 + 2 * gL rw len) (n := 45000 + 101 * gL rw len) (by omega) (by omega) ?_
    exact hback q qm qf1 (sP g (upd (gP g) (xs (i + 1)).toNatClampNeg (xs (i + 2)))) C1 R1 (rw + 1) (gL rw len) F1 sz X mk _ ke1 rw iv hI1 H locs ls hW hl
  · skip
    have hmcv : priceC g (xs (i + 1)) (xs (i + 2)) rw = none → gC rw len ≤ 0 ∧ gS rw len ≤ 0 := fun h => by rw [ho] at h; cases h
    refine kLi S (c_X5_price (l := l) (D := D) (cI := cI) (cZ := cZ) (cF := cF) G h16 hlm hrl hr1 hmcv) (cwV 2 S.2.2.2.2 gL_law_X5_price rfl rfl rfl ⟨rfl, v_X5_price⟩ ⟨(Nat.le_of_ble_eq_true rfl), (Nat.le_of_ble_eq_true rfl)⟩) hk hW 0 rfl rfl rfl rfl hl rfl (Nat.le_of_ble_eq_true rfl) dL_law_247 ⟨by show 30 + 2 * len + 0 ≤ 600000; omega, by show 45000 + 101 * len + 0 ≤ 7302250; omega⟩ (fun rC u H locs hpC hW => ?_)
    obtain ⟨rfl, R1, rfl⟩ := hpC.1 _ ho
    refine lv_aload_n S.1 S.2.1 dL_law_250 rfl (lv_at hl 2 rfl) ?_
    refine lv_aload_n S.1 S.2.1 dL_law_251 rfl (lv_at hl 0 rfl) ?_
    refine lv_iload_n S.1 S.2.1 dL_law_252 rfl (lv_at hl 3 rfl) ?_
    refine lv_iconst (v := nI 1) S.1 S.2.1 dL_law_253 (by decide) ?_
    refine lv_iadd S.1 S.2.1 dL_law_254 (top_eq (nI_add _ _) ?_)
    refine sldN S hX hbl hbA hW (j := i + 1) rfl (by omega) (by omega) dL_law_255 ?_
    refine lv_aload_n S.1 S.2.1 dL_law_256 rfl (lv_at hl 0 rfl) ?_
    refine lv_iload_n S.1 S.2.1 dL_law_257 rfl (lv_at hl 3 rfl) ?_
    refine lv_iconst (v := nI 2) S.1 S.2.1 dL_law_258 (by decide) ?_
    refine lv_iadd S.1 S.2.1 dL_law_259 (top_eq (nI_add _ _) ?_)
    refine sldN S hX hbl hbA hW (j := i + 2) rfl (by omega) (by omega) dL_law_260 ?_
    refine kRi S (c_X6_price (l := l) (D := D) (cI := cI) (cZ := cZ) (cF := cF) G hac) (cwV 2 S.2.2.2.2 gL_law_X6_price rfl rfl rfl ⟨rfl, v_X6_price⟩ ⟨(Nat.le_of_ble_eq_true rfl), (Nat.le_of_ble_eq_true rfl)⟩) hk hW 0 rfl rfl rfl rfl hl rfl (Nat.le_of_ble_eq_true rfl) dL_law_261 ⟨by show 30 + 2 * len + 0 + 0 ≤ 600000; omega, by show 45000 + 101 * len + 0 + 0 ≤ 7302250; omega⟩ (fun rM u H locs hpM hW => ?_)
    obtain ⟨rfl, fi1, rfl⟩ := hpM.1 _ ((P_price hI _ _).symm.trans ho)
    refine lv_icmp_eq (tgt := 902) S.1 S.2.1 dL_law_264 (by decide) (fun _ => ?_) (fun h => absurd rfl h)
    exact hback q qm qf g C R1 rw len F sz X mk fi1 ke ac iv hI H locs ls hW hl
set_option maxRecDepth 100000 in
set_option maxHeartbeats 4000000 in
theorem lc_cut {p : Program} {l : Launch} {e : Env} {s : State} {m : MethodId} {b : Nat} {below : List Frame} {meth : Method} {c : Code} {D : va_G} {cI cZ cF : ClassId} {Z : State → Prop} {L : Nat} {xs : Nat → Int32} (S : CallFix p m c cL_law 4 s #[Value.ref b] wsL_law RL) (hk : kn D cI cZ cF (fun q => s.heap.size ≤ q) s) (hX : va_X b L xs s s.heap) (hbl : b < s.heap.size) (hL : L ≤ 2560) {i : Nat} (hi : i + 5 ≤ L) (hback : lwG p l e s m b below meth c D cI cZ cF Z 902 i) : lwG p l e s m b below meth c D cI cZ cF Z 269 i := by
  intro q qm qf g C R rw len F sz X mk fi ke ac iv hI H locs ls hW hl
  have hbA : ¬ (fun q => s.heap.size ≤ q) b := Nat.not_le.mpr hbl
  obtain ⟨G, hgd, hC, hrw, hac, hrl, hle, hh, hmk⟩ := id hI
  obtain ⟨h16, hlm⟩ := lenOK_le hle
  have hr1 : rw ≤ 401 := by omega
  have h1 : 1 ≤ rw := by omega
  refine lv_aload_n S.1 S.2.1 dL_law_269 rfl (lv_at hl 1 rfl) ?_
  refine lv_aload_n S.1 S.2.1 dL_law_270 rfl (lv_at hl 0 rfl) ?_
  refine lv_iload_n S.1 S.2.1 dL_law_271 rfl (lv_at hl 3 rfl) ?_
  refine lv_iconst (v := nI 1) S.1 S.2.1 dL_law_272 (by decide) ?_
  refine lv_iadd S.1 S.2.1 dL_law_273 (top_eq (nI_add _ _) ?_)
  refine sldN S hX hbl hbA hW (j := i + 1) rfl (by omega) (by omega) dL_law_274 ?_
  rcases ho : cutC g (xs (i + 1)) rw with _ | z
  · skip
    have hmcv : cutC g (xs (i + 1)) rw = none → gC rw len ≤ gC rw len ∧ gS rw len ≤ gS rw len := fun _ => ⟨Nat.le_refl _, Nat.le_refl _⟩
    have hgc := gC_le rw len
    have hgs := gS_le rw len
    refine kLi S (c_X5_cut (l := l) (D := D) (cI := cI) (cZ := cZ) (cF := cF) G h16 hlm hrl hr1 hmcv) (cwV 1 S.2.2.2.2 gL_law_X5_cut rfl rfl rfl ⟨rfl, v_X5_cut⟩ ⟨(Nat.le_of_ble_eq_true rfl), (Nat.le_of_ble_eq_true rfl)⟩) hk hW 0 rfl rfl rfl rfl hl rfl (Nat.le_of_ble_eq_true rfl) dL_law_275 ⟨by show 30 + 2 * len + gC rw len ≤ 600000; omega, by show 45000 + 101 * len + gS rw len ≤ 7302250; omega⟩ (fun rC u H locs hpC hW => ?_)
    obtain ⟨rfl, qf1, C1, R1, F1, hCa, hFo, hFn, rfl⟩ := hpC.2 ho
    refine lv_aload_n S.1 S.2.1 dL_law_278 rfl (lv_at hl 2 rfl) ?_
    refine lv_aload_n S.1 S.2.1 dL_law_279 rfl (lv_at hl 0 rfl) ?_
    refine lv_iload_n S.1 S.2.1 dL_law_280 rfl (lv_at hl 3 rfl) ?_
    refine lv_iconst (v := nI 1) S.1 S.2.1 dL_law_281 (by decide) ?_
    refine lv_iadd S.1 S.2.1 dL_law_282 (top_eq (nI_add _ _) ?_)
    refine sldN S hX hbl hbA hW (j := i + 1) rfl (by omega) (by omega) dL_law_283 ?_
    refine kRi S (c_X6_cut (l := l) (D := D) (cI := cI) (cZ := cZ) (cF := cF) G hac) (cwV 1 S.2.2.2.2 gL_law_X6_cut rfl rfl rfl ⟨rfl, v_X6_cut⟩ ⟨(Nat.le_of_ble_eq_true rfl), (Nat.le_of_ble_eq_true rfl)⟩) hk hW 0 rfl rfl rfl rfl hl rfl (Nat.le_of_ble_eq_true rfl) dL_law_284 ⟨by show 30 + 2 * len + gC rw len + 0 ≤ 600000; omega, by show 45000 + 101 * len + gS rw len + 0 ≤ 7302250; omega⟩ (fun rM u H locs hpM hW => ?_)
    obtain ⟨rfl, ke1, hKo, hKn, rfl⟩ := hpM.2 ((P_cut hI _).symm.trans ho)
    refine lv_icmp_eq (tgt := 902) S.1 S.2.1 dL_law_287 (by decide) (fun _ => ?_) (fun h => absurd rfl h)
    obtain ⟨G1, hg1, hr4⟩ := P_cutG hI ho
    have hra : rw = ac + 1 := hrw
    rw [← hra] at hKo hKn hW
    have hI1 : LI (sT g (upd (gT g) (xs (i + 1)).toNatClampNeg (nI 0))) C1 (rw + 1) (gL rw len) F1 mk rw ke1 := LI_act G1 hg1 hCa hr4 hrl hle hh hFo hFn hKo hKn hmk
    have hpt := pot hle hrl hr4
    refine W.widen (k := 30 + 2 * gL rw len) (n := 45000 + 101 * gL rw len) (by omega) (by omega) ?_
    exact hback q qm qf1 (sT g (upd (gT g) (xs (i + 1)).toNatClampNeg (nI 0))) C1 R1 (rw + 1) (gL rw len) F1 sz X mk _ ke1 rw iv hI1 H locs ls hW hl
  · skip
    have hmcv : cutC g (xs (i + 1)) rw = none → gC rw len ≤ 0 ∧ gS rw len ≤ 0 := fun h => by rw [ho] at h; cases h
    refine kLi S (c_X5_cut (l := l) (D := D) (cI := cI) (cZ := cZ) (cF := cF) G h16 hlm hrl hr1 hmcv) (cwV 1 S.2.2.2.2 gL_law_X5_cut rfl rfl rfl ⟨rfl, v_X5_cut⟩ ⟨(Nat.le_of_ble_eq_true rfl), (Nat.le_of_ble_eq_true rfl)⟩) hk hW 0 rfl rfl rfl rfl hl rfl (Nat.le_of_ble_eq_true rfl) dL_law_275 ⟨by show 30 + 2 * len + 0 ≤ 600000; omega, by show 45000 + 101 * len + 0 ≤ 7302250; omega⟩ (fun rC u H locs hpC hW => ?_)
    obtain ⟨rfl, R1, rfl⟩ := hpC.1 _ ho
    refine lv_aload_n S.1 S.2.1 dL_law_278 rfl (lv_at hl 2 rfl) ?_
    refine lv_aload_n S.1 S.2.1 dL_law_279 rfl (lv_at hl 0 rfl) ?_
    refine lv_iload_n S.1 S.2.1 dL_law_280 rfl (lv_at hl 3 rfl) ?_
    refine lv_iconst (v := nI 1) S.1 S.2.1 dL_law_281 (by decide) ?_
    refine lv_iadd S.1 S.2.1 dL_law_282 (top_eq (nI_add _ _) ?_)
    refine sldN S hX hbl hbA hW (j := i + 1) rfl (by omega) (by omega) dL_law_283 ?_
    refine kRi S (c_X6_cut (l := l) (D := D) (cI := cI) (cZ := cZ) (cF := cF) G hac) (cwV 1 S.2.2.2.2 gL_law_X6_cut rfl rfl rfl ⟨rfl, v_X6_cut⟩ ⟨(Nat.le_of_ble_eq_true rfl), (Nat.le_of_ble_eq_true rfl)⟩) hk hW 0 rfl rfl rfl rfl hl rfl (Nat.le_of_ble_eq_true rfl) dL_law_284 ⟨by show 30 + 2 * len + 0 + 0 ≤ 600000; omega, by show 45000 + 101 * len + 0 + 0 ≤ 7302250; omega⟩ (fun rM u H locs hpM hW => ?_)
    obtain ⟨rfl, fi1, rfl⟩ := hpM.1 _ ((P_cut hI _).symm.trans ho)
    refine lv_icmp_eq (tgt := 902) S.1 S.2.1 dL_law_287 (by decide) (fun _ => ?_) (fun h => absurd rfl h)
    exact hback q qm qf g C R1 rw len F sz X mk fi1 ke ac iv hI H locs ls hW hl
set_option maxRecDepth 100000 in
set_option maxHeartbeats 4000000 in
theorem lc_back {p : Program} {l : Launch} {e : Env} {s : State} {m : MethodId} {b : Nat} {below : List Frame} {meth : Method} {c : Code} {D : va_G} {cI cZ cF : ClassId} {Z : State → Prop} {L : Nat} {xs : Nat → Int32} (S : CallFix p m c cL_law 4 s #[Value.ref b] wsL_law RL) (hk : kn D cI cZ cF (fun q => s.heap.size ≤ q) s) (hX : va_X b L xs s s.heap) (hbl : b < s.heap.size) (hL : L ≤ 2560) {i : Nat} (hi : i + 5 ≤ L) (hback : lwG p l e s m b below meth c D cI cZ cF Z 902 i) : lwG p l e s m b below meth c D cI cZ cF Z 292 i := by
  intro q qm qf g C R rw len F sz X mk fi ke ac iv hI H locs ls hW hl
  have hbA : ¬ (fun q => s.heap.size ≤ q) b := Nat.not_le.mpr hbl
  obtain ⟨G, hgd, hC, hrw, hac, hrl, hle, hh, hmk⟩ := id hI
  obtain ⟨h16, hlm⟩ := lenOK_le hle
  have hr1 : rw ≤ 401 := by omega
  have h1 : 1 ≤ rw := by omega
  refine lv_aload_n S.1 S.2.1 dL_law_292 rfl (lv_at hl 1 rfl) ?_
  refine lv_aload_n S.1 S.2.1 dL_law_293 rfl (lv_at hl 0 rfl) ?_
  refine lv_iload_n S.1 S.2.1 dL_law_294 rfl (lv_at hl 3 rfl) ?_
  refine lv_iconst (v := nI 1) S.1 S.2.1 dL_law_295 (by decide) ?_
  refine lv_iadd S.1 S.2.1 dL_law_296 (top_eq (nI_add _ _) ?_)
  refine sldN S hX hbl hbA hW (j := i + 1) rfl (by omega) (by omega) dL_law_297 ?_
  rcases ho : backC g (xs (i + 1)) rw with _ | z
  · skip
    have hmcv : backC g (xs (i + 1)) rw = none → gC rw len ≤ gC rw len ∧ gS rw len ≤ gS rw len := fun _ => ⟨Nat.le_refl _, Nat.le_refl _⟩
    have hgc := gC_le rw len
    have hgs := gS_le rw len
    refine kLi S (c_X5_back (l := l) (D := D) (cI := cI) (cZ := cZ) (cF := cF) G h16 hlm hrl hr1 hmcv) (cwV 1 S.2.2.2.2 gL_law_X5_back rfl rfl rfl ⟨rfl, v_X5_back⟩ ⟨(Nat.le_of_ble_eq_true rfl), (Nat.le_of_ble_eq_true rfl)⟩) hk hW 0 rfl rfl rfl rfl hl rfl (Nat.le_of_ble_eq_true rfl) dL_law_298 ⟨by show 30 + 2 * len + gC rw len ≤ 600000; omega, by show 45000 + 101 * len + gS rw len ≤ 7302250; omega⟩ (fun rC u H locs hpC hW => ?_)
    obtain ⟨rfl, qf1, C1, R1, F1, hCa, hFo, hFn, rfl⟩ := hpC.2 ho
    refine lv_aload_n S.1 S.2.1 dL_law_301 rfl (lv_at hl 2 rfl) ?_
    refine lv_aload_n S.1 S.2.1 dL_law_302 rfl (lv_at hl 0 rfl) ?_
    refine lv_iload_n S.1 S.2.1 dL_law_303 rfl (lv_at hl 3 rfl) ?_
    refine lv_iconst (v := nI 1) S.1 S.2.1 dL_law_304 (by decide) ?_
    refine lv_iadd S.1 S.2.1 dL_law_305 (top_eq (nI_add _ _) ?_)
    refine sldN S hX hbl hbA hW (j := i + 1) rfl (by omega) (by omega) dL_law_306 ?_
    refine kRi S (c_X6_back (l := l) (D := D) (cI := cI) (cZ := cZ) (cF := cF) G hac) (cwV 1 S.2.2.2.2 gL_law_X6_back rfl rfl rfl ⟨rfl, v_X6_back⟩ ⟨(Nat.le_of_ble_eq_true rfl), (Nat.le_of_ble_eq_true rfl)⟩) hk hW 0 rfl rfl rfl rfl hl rfl (Nat.le_of_ble_eq_true rfl) dL_law_307 ⟨by show 30 + 2 * len + gC rw len + 0 ≤ 600000; omega, by show 45000 + 101 * len + gS rw len + 0 ≤ 7302250; omega⟩ (fun rM u H locs hpM hW => ?_)
    obtain ⟨rfl, ke1, hKo, hKn, rfl⟩ := hpM.2 ((P_back hI _).symm.trans ho)
    refine lv_icmp_eq (tgt := 902) S.1 S.2.1 dL_law_310 (by decide) (fun _ => ?_) (fun h => absurd rfl h)
    obtain ⟨G1, hg1, hr4⟩ := P_backG hI ho
    have hra : rw = ac + 1 := hrw
    rw [← hra] at hKo hKn hW
    have hI1 : LI (sT g (upd (gT g) (xs (i + 1)).toNatClampNeg (nI 1))) C1 (rw + 1) (gL rw len) F1 mk rw ke1 := LI_act G1 hg1 hCa hr4 hrl hle hh hFo hFn hKo hKn hmk
    have hpt := pot hle hrl hr4
    refine W.widen (k := 30 + 2 * gL rw len) (n := 45000 + 101 * gL rw len) (by omega) (by omega) ?_
    exact hback q qm qf1 (sT g (upd (gT g) (xs (i + 1)).toNatClampNeg (nI 1))) C1 R1 (rw + 1) (gL rw len) F1 sz X mk _ ke1 rw iv hI1 H locs ls hW hl
  · skip
    have hmcv : backC g (xs (i + 1)) rw = none → gC rw len ≤ 0 ∧ gS rw len ≤ 0 := fun h => by rw [ho] at h; cases h
    refine kLi S (c_X5_back (l := l) (D := D) (cI := cI) (cZ := cZ) (cF := cF) G h16 hlm hrl hr1 hmcv) (cwV 1 S.2.2.2.2 gL_law_X5_back rfl rfl rfl ⟨rfl, v_X5_back⟩ ⟨(Nat.le_of_ble_eq_true rfl), (Nat.le_of_ble_eq_true rfl)⟩) hk hW 0 rfl rfl rfl rfl hl rfl (Nat.le_of_ble_eq_true rfl) dL_law_298 ⟨by show 30 + 2 * len + 0 ≤ 600000; omega, by show 45000 + 101 * len + 0 ≤ 7302250; omega⟩ (fun rC u H locs hpC hW => ?_)
    obtain ⟨rfl, R1, rfl⟩ := hpC.1 _ ho
    refine lv_aload_n S.1 S.2.1 dL_law_301 rfl (lv_at hl 2 rfl) ?_
    refine lv_aload_n S.1 S.2.1 dL_law_302 rfl (lv_at hl 0 rfl) ?_
    refine lv_iload_n S.1 S.2.1 dL_law_303 rfl (lv_at hl 3 rfl) ?_
    refine lv_iconst (v := nI 1) S.1 S.2.1 dL_law_304 (by decide) ?_
    refine lv_iadd S.1 S.2.1 dL_law_305 (top_eq (nI_add _ _) ?_)
    refine sldN S hX hbl hbA hW (j := i + 1) rfl (by omega) (by omega) dL_law_306 ?_
    refine kRi S (c_X6_back (l := l) (D := D) (cI := cI) (cZ := cZ) (cF := cF) G hac) (cwV 1 S.2.2.2.2 gL_law_X6_back rfl rfl rfl ⟨rfl, v_X6_back⟩ ⟨(Nat.le_of_ble_eq_true rfl), (Nat.le_of_ble_eq_true rfl)⟩) hk hW 0 rfl rfl rfl rfl hl rfl (Nat.le_of_ble_eq_true rfl) dL_law_307 ⟨by show 30 + 2 * len + 0 + 0 ≤ 600000; omega, by show 45000 + 101 * len + 0 + 0 ≤ 7302250; omega⟩ (fun rM u H locs hpM hW => ?_)
    obtain ⟨rfl, fi1, rfl⟩ := hpM.1 _ ((P_back hI _).symm.trans ho)
    refine lv_icmp_eq (tgt := 902) S.1 S.2.1 dL_law_310 (by decide) (fun _ => ?_) (fun h => absurd rfl h)
    exact hback q qm qf g C R1 rw len F sz X mk fi1 ke ac iv hI H locs ls hW hl
set_option maxRecDepth 100000 in
set_option maxHeartbeats 4000000 in
theorem lc_told {p : Program} {l : Launch} {e : Env} {s : State} {m : MethodId} {b : Nat} {below : List Frame} {meth : Method} {c : Code} {D : va_G} {cI cZ cF : ClassId} {Z : State → Prop} {L : Nat} {xs : Nat → Int32} (S : CallFix p m c cL_law 4 s #[Value.ref b] wsL_law RL) (hk : kn D cI cZ cF (fun q => s.heap.size ≤ q) s) (hX : va_X b L xs s s.heap) (hbl : b < s.heap.size) (hL : L ≤ 2560) {i : Nat} (hi : i + 5 ≤ L) (hback : lwG p l e s m b below meth c D cI cZ cF Z 902 i) : lwG p l e s m b below meth c D cI cZ cF Z 315 i := by
  intro q qm qf g C R rw len F sz X mk fi ke ac iv hI H locs ls hW hl
  have hbA : ¬ (fun q => s.heap.size ≤ q) b := Nat.not_le.mpr hbl
  obtain ⟨G, hgd, hC, hrw, hac, hrl, hle, hh, hmk⟩ := id hI
  obtain ⟨h16, hlm⟩ := lenOK_le hle
  have hr1 : rw ≤ 401 := by omega
  have h1 : 1 ≤ rw := by omega
  refine lv_aload_n S.1 S.2.1 dL_law_315 rfl (lv_at hl 1 rfl) ?_
  refine lv_aload_n S.1 S.2.1 dL_law_316 rfl (lv_at hl 0 rfl) ?_
  refine lv_iload_n S.1 S.2.1 dL_law_317 rfl (lv_at hl 3 rfl) ?_
  refine lv_iconst (v := nI 1) S.1 S.2.1 dL_law_318 (by decide) ?_
  refine lv_iadd S.1 S.2.1 dL_law_319 (top_eq (nI_add _ _) ?_)
  refine sldN S hX hbl hbA hW (j := i + 1) rfl (by omega) (by omega) dL_law_320 ?_
  refine lv_aload_n S.1 S.2.1 dL_law_321 rfl (lv_at hl 0 rfl) ?_
  refine lv_iload_n S.1 S.2.1 dL_law_322 rfl (lv_at hl 3 rfl) ?_
  refine lv_iconst (v := nI 2) S.1 S.2.1 dL_law_323 (by decide) ?_
  refine lv_iadd S.1 S.2.1 dL_law_324 (top_eq (nI_add _ _) ?_)
  refine sldN S hX hbl hbA hW (j := i + 2) rfl (by omega) (by omega) dL_law_325 ?_
  refine kLi S (c_X5_told (l := l) (D := D) (cI := cI) (cZ := cZ) (cF := cF) G) (cwV 2 S.2.2.2.2 gL_law_X5_told rfl rfl rfl ⟨rfl, v_X5_told⟩ ⟨(Nat.le_of_ble_eq_true rfl), (Nat.le_of_ble_eq_true rfl)⟩) hk hW 0 rfl rfl rfl rfl hl rfl (Nat.le_of_ble_eq_true rfl) dL_law_326 ⟨by show 30 + 2 * len + 0 ≤ 600000; omega, by show 45000 + 101 * len + 0 ≤ 7302250; omega⟩ (fun rC u H locs hpC hW => ?_)
  obtain ⟨hpC1, hpC2, rfl⟩ := hpC
  refine lv_aload_n S.1 S.2.1 dL_law_329 rfl (lv_at hl 2 rfl) ?_
  refine lv_aload_n S.1 S.2.1 dL_law_330 rfl (lv_at hl 0 rfl) ?_
  refine lv_iload_n S.1 S.2.1 dL_law_331 rfl (lv_at hl 3 rfl) ?_
  refine lv_iconst (v := nI 1) S.1 S.2.1 dL_law_332 (by decide) ?_
  refine lv_iadd S.1 S.2.1 dL_law_333 (top_eq (nI_add _ _) ?_)
  refine sldN S hX hbl hbA hW (j := i + 1) rfl (by omega) (by omega) dL_law_334 ?_
  refine lv_aload_n S.1 S.2.1 dL_law_335 rfl (lv_at hl 0 rfl) ?_
  refine lv_iload_n S.1 S.2.1 dL_law_336 rfl (lv_at hl 3 rfl) ?_
  refine lv_iconst (v := nI 2) S.1 S.2.1 dL_law_337 (by decide) ?_
  refine lv_iadd S.1 S.2.1 dL_law_338 (top_eq (nI_add _ _) ?_)
  refine sldN S hX hbl hbA hW (j := i + 2) rfl (by omega) (by omega) dL_law_339 ?_
  refine kRi S (c_X6_told (l := l) (D := D) (cI := cI) (cZ := cZ) (cF := cF) G) (cwV 2 S.2.2.2.2 gL_law_X6_told rfl rfl rfl ⟨rfl, v_X6_told⟩ ⟨(Nat.le_of_ble_eq_true rfl), (Nat.le_of_ble_eq_true rfl)⟩) hk hW 0 rfl rfl rfl rfl hl rfl (Nat.le_of_ble_eq_true rfl) dL_law_340 ⟨by show 30 + 2 * len + 0 + 0 ≤ 600000; omega, by show 45000 + 101 * len + 0 + 0 ≤ 7302250; omega⟩ (fun rM u H locs hpM hW => ?_)
  obtain ⟨hpM1, hpM2, fi1, rfl⟩ := hpM
  have heq : rC = rM := lw_told hI hpC1 hpC2 hpM1 hpM2
  refine lv_icmp_eq (tgt := 902) S.1 S.2.1 dL_law_343 (by decide) (fun _ => ?_) (fun h => absurd heq h)
  exact hback q qm qf g C R rw len F sz X mk fi1 ke ac iv hI H locs ls hW hl
set_option maxRecDepth 100000 in
set_option maxHeartbeats 4000000 in
theorem lc_far {p : Program} {l : Launch} {e : Env} {s : State} {m : MethodId} {b : Nat} {below : List Frame} {meth : Method} {c : Code} {D : va_G} {cI cZ cF : ClassId} {Z : State → Prop} {L : Nat} {xs : Nat → Int32} (S : CallFix p m c cL_law 4 s #[Value.ref b] wsL_law RL) (hk : kn D cI cZ cF (fun q => s.heap.size ≤ q) s) (hX : va_X b L xs s s.heap) (hbl : b < s.heap.size) (hL : L ≤ 2560) {i : Nat} (hi : i + 5 ≤ L) (hback : lwG p l e s m b below meth c D cI cZ cF Z 902 i) : lwG p l e s m b below meth c D cI cZ cF Z 348 i := by
  intro q qm qf g C R rw len F sz X mk fi ke ac iv hI H locs ls hW hl
  have hbA : ¬ (fun q => s.heap.size ≤ q) b := Nat.not_le.mpr hbl
  obtain ⟨G, hgd, hC, hrw, hac, hrl, hle, hh, hmk⟩ := id hI
  obtain ⟨h16, hlm⟩ := lenOK_le hle
  have hr1 : rw ≤ 401 := by omega
  have h1 : 1 ≤ rw := by omega
  refine lv_aload_n S.1 S.2.1 dL_law_348 rfl (lv_at hl 1 rfl) ?_
  refine lv_aload_n S.1 S.2.1 dL_law_349 rfl (lv_at hl 0 rfl) ?_
  refine lv_iload_n S.1 S.2.1 dL_law_350 rfl (lv_at hl 3 rfl) ?_
  refine lv_iconst (v := nI 1) S.1 S.2.1 dL_law_351 (by decide) ?_
  refine lv_iadd S.1 S.2.1 dL_law_352 (top_eq (nI_add _ _) ?_)
  refine sldN S hX hbl hbA hW (j := i + 1) rfl (by omega) (by omega) dL_law_353 ?_
  refine lv_aload_n S.1 S.2.1 dL_law_354 rfl (lv_at hl 0 rfl) ?_
  refine lv_iload_n S.1 S.2.1 dL_law_355 rfl (lv_at hl 3 rfl) ?_
  refine lv_iconst (v := nI 2) S.1 S.2.1 dL_law_356 (by decide) ?_
  refine lv_iadd S.1 S.2.1 dL_law_357 (top_eq (nI_add _ _) ?_)
  refine sldN S hX hbl hbA hW (j := i + 2) rfl (by omega) (by omega) dL_law_358 ?_
  refine kLi S (c_X5_far (l := l) (D := D) (cI := cI) (cZ := cZ) (cF := cF) G) (cwV 2 S.2.2.2.2 gL_law_X5_far rfl rfl rfl ⟨rfl, v_X5_far⟩ ⟨(Nat.le_of_ble_eq_true rfl), (Nat.le_of_ble_eq_true rfl)⟩) hk hW 0 rfl rfl rfl rfl hl rfl (Nat.le_of_ble_eq_true rfl) dL_law_359 ⟨by show 30 + 2 * len + 0 ≤ 600000; omega, by show 45000 + 101 * len + 0 ≤ 7302250; omega⟩ (fun rC u H locs hpC hW => ?_)
  obtain ⟨rfl, rfl⟩ := hpC
  refine lv_aload_n S.1 S.2.1 dL_law_362 rfl (lv_at hl 2 rfl) ?_
  refine lv_aload_n S.1 S.2.1 dL_law_363 rfl (lv_at hl 0 rfl) ?_
  refine lv_iload_n S.1 S.2.1 dL_law_364 rfl (lv_at hl 3 rfl) ?_
  refine lv_iconst (v := nI 1) S.1 S.2.1 dL_law_365 (by decide) ?_
  refine lv_iadd S.1 S.2.1 dL_law_366 (top_eq (nI_add _ _) ?_)
  refine sldN S hX hbl hbA hW (j := i + 1) rfl (by omega) (by omega) dL_law_367 ?_
  refine lv_aload_n S.1 S.2.1 dL_law_368 rfl (lv_at hl 0 rfl) ?_
  refine lv_iload_n S.1 S.2.1 dL_law_369 rfl (lv_at hl 3 rfl) ?_
  refine lv_iconst (v := nI 2) S.1 S.2.1 dL_law_370 (by decide) ?_
  refine lv_iadd S.1 S.2.1 dL_law_371 (top_eq (nI_add _ _) ?_)
  refine sldN S hX hbl hbA hW (j := i + 2) rfl (by omega) (by omega) dL_law_372 ?_
  refine kRi S (c_X6_far (l := l) (D := D) (cI := cI) (cZ := cZ) (cF := cF) G) (cwV 2 S.2.2.2.2 gL_law_X6_far rfl rfl rfl ⟨rfl, v_X6_far⟩ ⟨(Nat.le_of_ble_eq_true rfl), (Nat.le_of_ble_eq_true rfl)⟩) hk hW 0 rfl rfl rfl rfl hl rfl (Nat.le_of_ble_eq_true rfl) dL_law_373 ⟨by show 30 + 2 * len + 0 + 0 ≤ 600000; omega, by show 45000 + 101 * len + 0 + 0 ≤ 7302250; omega⟩ (fun rM u H locs hpM hW => ?_)
  obtain ⟨rfl, fi1, rfl⟩ := hpM
  refine lv_icmp_eq (tgt := 902) S.1 S.2.1 dL_law_376 (by decide) (fun _ => ?_) (fun h => absurd (P_far hI _ _) h)
  exact hback q qm qf g C R rw len F sz X mk fi1 ke ac iv hI H locs ls hW hl
set_option maxRecDepth 100000 in
set_option maxHeartbeats 4000000 in
theorem lc_steps {p : Program} {l : Launch} {e : Env} {s : State} {m : MethodId} {b : Nat} {below : List Frame} {meth : Method} {c : Code} {D : va_G} {cI cZ cF : ClassId} {Z : State → Prop} {L : Nat} {xs : Nat → Int32} (S : CallFix p m c cL_law 4 s #[Value.ref b] wsL_law RL) (hk : kn D cI cZ cF (fun q => s.heap.size ≤ q) s) (hX : va_X b L xs s s.heap) (hbl : b < s.heap.size) (hL : L ≤ 2560) {i : Nat} (hi : i + 5 ≤ L) (hback : lwG p l e s m b below meth c D cI cZ cF Z 902 i) : lwG p l e s m b below meth c D cI cZ cF Z 381 i := by
  intro q qm qf g C R rw len F sz X mk fi ke ac iv hI H locs ls hW hl
  have hbA : ¬ (fun q => s.heap.size ≤ q) b := Nat.not_le.mpr hbl
  obtain ⟨G, hgd, hC, hrw, hac, hrl, hle, hh, hmk⟩ := id hI
  obtain ⟨h16, hlm⟩ := lenOK_le hle
  have hr1 : rw ≤ 401 := by omega
  have h1 : 1 ≤ rw := by omega
  refine lv_aload_n S.1 S.2.1 dL_law_381 rfl (lv_at hl 1 rfl) ?_
  refine lv_aload_n S.1 S.2.1 dL_law_382 rfl (lv_at hl 0 rfl) ?_
  refine lv_iload_n S.1 S.2.1 dL_law_383 rfl (lv_at hl 3 rfl) ?_
  refine lv_iconst (v := nI 1) S.1 S.2.1 dL_law_384 (by decide) ?_
  refine lv_iadd S.1 S.2.1 dL_law_385 (top_eq (nI_add _ _) ?_)
  refine sldN S hX hbl hbA hW (j := i + 1) rfl (by omega) (by omega) dL_law_386 ?_
  refine lv_aload_n S.1 S.2.1 dL_law_387 rfl (lv_at hl 0 rfl) ?_
  refine lv_iload_n S.1 S.2.1 dL_law_388 rfl (lv_at hl 3 rfl) ?_
  refine lv_iconst (v := nI 2) S.1 S.2.1 dL_law_389 (by decide) ?_
  refine lv_iadd S.1 S.2.1 dL_law_390 (top_eq (nI_add _ _) ?_)
  refine sldN S hX hbl hbA hW (j := i + 2) rfl (by omega) (by omega) dL_law_391 ?_
  refine kLi S (c_X5_steps (l := l) (D := D) (cI := cI) (cZ := cZ) (cF := cF) G) (cwV 2 S.2.2.2.2 gL_law_X5_steps rfl rfl rfl ⟨rfl, v_X5_steps⟩ ⟨(Nat.le_of_ble_eq_true rfl), (Nat.le_of_ble_eq_true rfl)⟩) hk hW 0 rfl rfl rfl rfl hl rfl (Nat.le_of_ble_eq_true rfl) dL_law_392 ⟨by show 30 + 2 * len + 0 ≤ 600000; omega, by show 45000 + 101 * len + 0 ≤ 7302250; omega⟩ (fun rC u H locs hpC hW => ?_)
  obtain ⟨rfl, rfl⟩ := hpC
  refine lv_aload_n S.1 S.2.1 dL_law_395 rfl (lv_at hl 2 rfl) ?_
  refine lv_aload_n S.1 S.2.1 dL_law_396 rfl (lv_at hl 0 rfl) ?_
  refine lv_iload_n S.1 S.2.1 dL_law_397 rfl (lv_at hl 3 rfl) ?_
  refine lv_iconst (v := nI 1) S.1 S.2.1 dL_law_398 (by decide) ?_
  refine lv_iadd S.1 S.2.1 dL_law_399 (top_eq (nI_add _ _) ?_)
  refine sldN S hX hbl hbA hW (j := i + 1) rfl (by omega) (by omega) dL_law_400 ?_
  refine lv_aload_n S.1 S.2.1 dL_law_401 rfl (lv_at hl 0 rfl) ?_
  refine lv_iload_n S.1 S.2.1 dL_law_402 rfl (lv_at hl 3 rfl) ?_
  refine lv_iconst (v := nI 2) S.1 S.2.1 dL_law_403 (by decide) ?_
  refine lv_iadd S.1 S.2.1 dL_law_404 (top_eq (nI_add _ _) ?_)
  refine sldN S hX hbl hbA hW (j := i + 2) rfl (by omega) (by omega) dL_law_405 ?_
  refine kRi S (c_X6_steps (l := l) (D := D) (cI := cI) (cZ := cZ) (cF := cF) G) (cwV 2 S.2.2.2.2 gL_law_X6_steps rfl rfl rfl ⟨rfl, v_X6_steps⟩ ⟨(Nat.le_of_ble_eq_true rfl), (Nat.le_of_ble_eq_true rfl)⟩) hk hW 0 rfl rfl rfl rfl hl rfl (Nat.le_of_ble_eq_true rfl) dL_law_406 ⟨by show 30 + 2 * len + 0 + 0 ≤ 600000; omega, by show 45000 + 101 * len + 0 + 0 ≤ 7302250; omega⟩ (fun rM u H locs hpM hW => ?_)
  obtain ⟨rfl, fi1, rfl⟩ := hpM
  refine lv_icmp_eq (tgt := 902) S.1 S.2.1 dL_law_409 (by decide) (fun _ => ?_) (fun h => absurd (P_stp hI _ _) h)
  exact hback q qm qf g C R rw len F sz X mk fi1 ke ac iv hI H locs ls hW hl
set_option maxRecDepth 100000 in
set_option maxHeartbeats 4000000 in
theorem lc_way {p : Program} {l : Launch} {e : Env} {s : State} {m : MethodId} {b : Nat} {below : List Frame} {meth : Method} {c : Code} {D : va_G} {cI cZ cF : ClassId} {Z : State → Prop} {L : Nat} {xs : Nat → Int32} (S : CallFix p m c cL_law 4 s #[Value.ref b] wsL_law RL) (hk : kn D cI cZ cF (fun q => s.heap.size ≤ q) s) (hX : va_X b L xs s s.heap) (hbl : b < s.heap.size) (hL : L ≤ 2560) {i : Nat} (hi : i + 5 ≤ L) (hback : lwG p l e s m b below meth c D cI cZ cF Z 902 i) : lwG p l e s m b below meth c D cI cZ cF Z 414 i := by
  intro q qm qf g C R rw len F sz X mk fi ke ac iv hI H locs ls hW hl
  have hbA : ¬ (fun q => s.heap.size ≤ q) b := Nat.not_le.mpr hbl
  obtain ⟨G, hgd, hC, hrw, hac, hrl, hle, hh, hmk⟩ := id hI
  obtain ⟨h16, hlm⟩ := lenOK_le hle
  have hr1 : rw ≤ 401 := by omega
  have h1 : 1 ≤ rw := by omega
  refine lv_aload_n S.1 S.2.1 dL_law_414 rfl (lv_at hl 1 rfl) ?_
  refine lv_aload_n S.1 S.2.1 dL_law_415 rfl (lv_at hl 0 rfl) ?_
  refine lv_iload_n S.1 S.2.1 dL_law_416 rfl (lv_at hl 3 rfl) ?_
  refine lv_iconst (v := nI 1) S.1 S.2.1 dL_law_417 (by decide) ?_
  refine lv_iadd S.1 S.2.1 dL_law_418 (top_eq (nI_add _ _) ?_)
  refine sldN S hX hbl hbA hW (j := i + 1) rfl (by omega) (by omega) dL_law_419 ?_
  refine lv_aload_n S.1 S.2.1 dL_law_420 rfl (lv_at hl 0 rfl) ?_
  refine lv_iload_n S.1 S.2.1 dL_law_421 rfl (lv_at hl 3 rfl) ?_
  refine lv_iconst (v := nI 2) S.1 S.2.1 dL_law_422 (by decide) ?_
  refine lv_iadd S.1 S.2.1 dL_law_423 (top_eq (nI_add _ _) ?_)
  refine sldN S hX hbl hbA hW (j := i + 2) rfl (by omega) (by omega) dL_law_424 ?_
  refine lv_aload_n S.1 S.2.1 dL_law_425 rfl (lv_at hl 0 rfl) ?_
  refine lv_iload_n S.1 S.2.1 dL_law_426 rfl (lv_at hl 3 rfl) ?_
  refine lv_iconst (v := nI 3) S.1 S.2.1 dL_law_427 (by decide) ?_
  refine lv_iadd S.1 S.2.1 dL_law_428 (top_eq (nI_add _ _) ?_)
  refine sldN S hX hbl hbA hW (j := i + 3) rfl (by omega) (by omega) dL_law_429 ?_
  refine kLi S (c_X5_way (l := l) (D := D) (cI := cI) (cZ := cZ) (cF := cF) G) (cwV 3 S.2.2.2.2 gL_law_X5_way rfl rfl rfl ⟨rfl, v_X5_way⟩ ⟨(Nat.le_of_ble_eq_true rfl), (Nat.le_of_ble_eq_true rfl)⟩) hk hW 0 rfl rfl rfl rfl hl rfl (Nat.le_of_ble_eq_true rfl) dL_law_430 ⟨by show 30 + 2 * len + 0 ≤ 600000; omega, by show 45000 + 101 * len + 0 ≤ 7302250; omega⟩ (fun rC u H locs hpC hW => ?_)
  obtain ⟨rfl, rfl⟩ := hpC
  refine lv_aload_n S.1 S.2.1 dL_law_433 rfl (lv_at hl 2 rfl) ?_
  refine lv_aload_n S.1 S.2.1 dL_law_434 rfl (lv_at hl 0 rfl) ?_
  refine lv_iload_n S.1 S.2.1 dL_law_435 rfl (lv_at hl 3 rfl) ?_
  refine lv_iconst (v := nI 1) S.1 S.2.1 dL_law_436 (by decide) ?_
  refine lv_iadd S.1 S.2.1 dL_law_437 (top_eq (nI_add _ _) ?_)
  refine sldN S hX hbl hbA hW (j := i + 1) rfl (by omega) (by omega) dL_law_438 ?_
  refine lv_aload_n S.1 S.2.1 dL_law_439 rfl (lv_at hl 0 rfl) ?_
  refine lv_iload_n S.1 S.2.1 dL_law_440 rfl (lv_at hl 3 rfl) ?_
  refine lv_iconst (v := nI 2) S.1 S.2.1 dL_law_441 (by decide) ?_
  refine lv_iadd S.1 S.2.1 dL_law_442 (top_eq (nI_add _ _) ?_)
  refine sldN S hX hbl hbA hW (j := i + 2) rfl (by omega) (by omega) dL_law_443 ?_
  refine lv_aload_n S.1 S.2.1 dL_law_444 rfl (lv_at hl 0 rfl) ?_
  refine lv_iload_n S.1 S.2.1 dL_law_445 rfl (lv_at hl 3 rfl) ?_
  refine lv_iconst (v := nI 3) S.1 S.2.1 dL_law_446 (by decide) ?_
  refine lv_iadd S.1 S.2.1 dL_law_447 (top_eq (nI_add _ _) ?_)
  refine sldN S hX hbl hbA hW (j := i + 3) rfl (by omega) (by omega) dL_law_448 ?_
  refine kRi S (c_X6_way (l := l) (D := D) (cI := cI) (cZ := cZ) (cF := cF) G (P_nxt hI)) (cwV 3 S.2.2.2.2 gL_law_X6_way rfl rfl rfl ⟨rfl, v_X6_way⟩ ⟨(Nat.le_of_ble_eq_true rfl), (Nat.le_of_ble_eq_true rfl)⟩) hk hW 0 rfl rfl rfl rfl hl rfl (Nat.le_of_ble_eq_true rfl) dL_law_449 ⟨by show 30 + 2 * len + 0 + 0 ≤ 600000; omega, by show 45000 + 101 * len + 0 + 0 ≤ 7302250; omega⟩ (fun rM u H locs hpM hW => ?_)
  obtain ⟨rfl, fi1, rfl⟩ := hpM
  refine lv_icmp_eq (tgt := 902) S.1 S.2.1 dL_law_452 (by decide) (fun _ => ?_) (fun h => absurd (P_way hI _ _ _) h)
  exact hback q qm qf g C R rw len F sz X mk fi1 ke ac iv hI H locs ls hW hl
set_option maxRecDepth 100000 in
set_option maxHeartbeats 4000000 in
theorem lc_without {p : Program} {l : Launch} {e : Env} {s : State} {m : MethodId} {b : Nat} {below : List Frame} {meth : Method} {c : Code} {D : va_G} {cI cZ cF : ClassId} {Z : State → Prop} {L : Nat} {xs : Nat → Int32} (S : CallFix p m c cL_law 4 s #[Value.ref b] wsL_law RL) (hk : kn D cI cZ cF (fun q => s.heap.size ≤ q) s) (hX : va_X b L xs s s.heap) (hbl : b < s.heap.size) (hL : L ≤ 2560) {i : Nat} (hi : i + 5 ≤ L) (hback : lwG p l e s m b below meth c D cI cZ cF Z 902 i) : lwG p l e s m b below meth c D cI cZ cF Z 457 i := by
  intro q qm qf g C R rw len F sz X mk fi ke ac iv hI H locs ls hW hl
  have hbA : ¬ (fun q => s.heap.size ≤ q) b := Nat.not_le.mpr hbl
  obtain ⟨G, hgd, hC, hrw, hac, hrl, hle, hh, hmk⟩ := id hI
  obtain ⟨h16, hlm⟩ := lenOK_le hle
  have hr1 : rw ≤ 401 := by omega
  have h1 : 1 ≤ rw := by omega
  refine lv_aload_n S.1 S.2.1 dL_law_457 rfl (lv_at hl 1 rfl) ?_
  refine lv_aload_n S.1 S.2.1 dL_law_458 rfl (lv_at hl 0 rfl) ?_
  refine lv_iload_n S.1 S.2.1 dL_law_459 rfl (lv_at hl 3 rfl) ?_
  refine lv_iconst (v := nI 1) S.1 S.2.1 dL_law_460 (by decide) ?_
  refine lv_iadd S.1 S.2.1 dL_law_461 (top_eq (nI_add _ _) ?_)
  refine sldN S hX hbl hbA hW (j := i + 1) rfl (by omega) (by omega) dL_law_462 ?_
  refine lv_aload_n S.1 S.2.1 dL_law_463 rfl (lv_at hl 0 rfl) ?_
  refine lv_iload_n S.1 S.2.1 dL_law_464 rfl (lv_at hl 3 rfl) ?_
  refine lv_iconst (v := nI 2) S.1 S.2.1 dL_law_465 (by decide) ?_
  refine lv_iadd S.1 S.2.1 dL_law_466 (top_eq (nI_add _ _) ?_)
  refine sldN S hX hbl hbA hW (j := i + 2) rfl (by omega) (by omega) dL_law_467 ?_
  refine lv_aload_n S.1 S.2.1 dL_law_468 rfl (lv_at hl 0 rfl) ?_
  refine lv_iload_n S.1 S.2.1 dL_law_469 rfl (lv_at hl 3 rfl) ?_
  refine lv_iconst (v := nI 3) S.1 S.2.1 dL_law_470 (by decide) ?_
  refine lv_iadd S.1 S.2.1 dL_law_471 (top_eq (nI_add _ _) ?_)
  refine sldN S hX hbl hbA hW (j := i + 3) rfl (by omega) (by omega) dL_law_472 ?_
  refine kLi S (c_X5_without (l := l) (D := D) (cI := cI) (cZ := cZ) (cF := cF) G) (cwV 3 S.2.2.2.2 gL_law_X5_without rfl rfl rfl ⟨rfl, v_X5_without⟩ ⟨(Nat.le_of_ble_eq_true rfl), (Nat.le_of_ble_eq_true rfl)⟩) hk hW 0 rfl rfl rfl rfl hl rfl (Nat.le_of_ble_eq_true rfl) dL_law_473 ⟨by show 30 + 2 * len + 0 ≤ 600000; omega, by show 45000 + 101 * len + 0 ≤ 7302250; omega⟩ (fun rC u H locs hpC hW => ?_)
  obtain ⟨rfl, R1, rfl⟩ := hpC
  refine lv_aload_n S.1 S.2.1 dL_law_476 rfl (lv_at hl 2 rfl) ?_
  refine lv_aload_n S.1 S.2.1 dL_law_477 rfl (lv_at hl 0 rfl) ?_
  refine lv_iload_n S.1 S.2.1 dL_law_478 rfl (lv_at hl 3 rfl) ?_
  refine lv_iconst (v := nI 1) S.1 S.2.1 dL_law_479 (by decide) ?_
  refine lv_iadd S.1 S.2.1 dL_law_480 (top_eq (nI_add _ _) ?_)
  refine sldN S hX hbl hbA hW (j := i + 1) rfl (by omega) (by omega) dL_law_481 ?_
  refine lv_aload_n S.1 S.2.1 dL_law_482 rfl (lv_at hl 0 rfl) ?_
  refine lv_iload_n S.1 S.2.1 dL_law_483 rfl (lv_at hl 3 rfl) ?_
  refine lv_iconst (v := nI 2) S.1 S.2.1 dL_law_484 (by decide) ?_
  refine lv_iadd S.1 S.2.1 dL_law_485 (top_eq (nI_add _ _) ?_)
  refine sldN S hX hbl hbA hW (j := i + 2) rfl (by omega) (by omega) dL_law_486 ?_
  refine lv_aload_n S.1 S.2.1 dL_law_487 rfl (lv_at hl 0 rfl) ?_
  refine lv_iload_n S.1 S.2.1 dL_law_488 rfl (lv_at hl 3 rfl) ?_
  refine lv_iconst (v := nI 3) S.1 S.2.1 dL_law_489 (by decide) ?_
  refine lv_iadd S.1 S.2.1 dL_law_490 (top_eq (nI_add _ _) ?_)
  refine sldN S hX hbl hbA hW (j := i + 3) rfl (by omega) (by omega) dL_law_491 ?_
  refine kRi S (c_X6_without (l := l) (D := D) (cI := cI) (cZ := cZ) (cF := cF) G) (cwV 3 S.2.2.2.2 gL_law_X6_without rfl rfl rfl ⟨rfl, v_X6_without⟩ ⟨(Nat.le_of_ble_eq_true rfl), (Nat.le_of_ble_eq_true rfl)⟩) hk hW 0 rfl rfl rfl rfl hl rfl (Nat.le_of_ble_eq_true rfl) dL_law_492 ⟨by show 30 + 2 * len + 0 + 0 ≤ 600000; omega, by show 45000 + 101 * len + 0 + 0 ≤ 7302250; omega⟩ (fun rM u H locs hpM hW => ?_)
  obtain ⟨rfl, fi1, rfl⟩ := hpM
  refine lv_icmp_eq (tgt := 902) S.1 S.2.1 dL_law_495 (by decide) (fun _ => ?_) (fun h => absurd (P_wto hI _ _ _) h)
  exact hback q qm qf g C R1 rw len F sz X mk fi1 ke ac iv hI H locs ls hW hl
set_option maxRecDepth 100000 in
set_option maxHeartbeats 4000000 in
theorem lc_vital {p : Program} {l : Launch} {e : Env} {s : State} {m : MethodId} {b : Nat} {below : List Frame} {meth : Method} {c : Code} {D : va_G} {cI cZ cF : ClassId} {Z : State → Prop} {L : Nat} {xs : Nat → Int32} (S : CallFix p m c cL_law 4 s #[Value.ref b] wsL_law RL) (hk : kn D cI cZ cF (fun q => s.heap.size ≤ q) s) (hX : va_X b L xs s s.heap) (hbl : b < s.heap.size) (hL : L ≤ 2560) {i : Nat} (hi : i + 5 ≤ L) (hback : lwG p l e s m b below meth c D cI cZ cF Z 902 i) : lwG p l e s m b below meth c D cI cZ cF Z 500 i := by
  intro q qm qf g C R rw len F sz X mk fi ke ac iv hI H locs ls hW hl
  have hbA : ¬ (fun q => s.heap.size ≤ q) b := Nat.not_le.mpr hbl
  obtain ⟨G, hgd, hC, hrw, hac, hrl, hle, hh, hmk⟩ := id hI
  obtain ⟨h16, hlm⟩ := lenOK_le hle
  have hr1 : rw ≤ 401 := by omega
  have h1 : 1 ≤ rw := by omega
  refine lv_aload_n S.1 S.2.1 dL_law_500 rfl (lv_at hl 1 rfl) ?_
  refine lv_aload_n S.1 S.2.1 dL_law_501 rfl (lv_at hl 0 rfl) ?_
  refine lv_iload_n S.1 S.2.1 dL_law_502 rfl (lv_at hl 3 rfl) ?_
  refine lv_iconst (v := nI 1) S.1 S.2.1 dL_law_503 (by decide) ?_
  refine lv_iadd S.1 S.2.1 dL_law_504 (top_eq (nI_add _ _) ?_)
  refine sldN S hX hbl hbA hW (j := i + 1) rfl (by omega) (by omega) dL_law_505 ?_
  refine lv_aload_n S.1 S.2.1 dL_law_506 rfl (lv_at hl 0 rfl) ?_
  refine lv_iload_n S.1 S.2.1 dL_law_507 rfl (lv_at hl 3 rfl) ?_
  refine lv_iconst (v := nI 2) S.1 S.2.1 dL_law_508 (by decide) ?_
  refine lv_iadd S.1 S.2.1 dL_law_509 (top_eq (nI_add _ _) ?_)
  refine sldN S hX hbl hbA hW (j := i + 2) rfl (by omega) (by omega) dL_law_510 ?_
  refine lv_aload_n S.1 S.2.1 dL_law_511 rfl (lv_at hl 0 rfl) ?_
  refine lv_iload_n S.1 S.2.1 dL_law_512 rfl (lv_at hl 3 rfl) ?_
  refine lv_iconst (v := nI 3) S.1 S.2.1 dL_law_513 (by decide) ?_
  refine lv_iadd S.1 S.2.1 dL_law_514 (top_eq (nI_add _ _) ?_)
  refine sldN S hX hbl hbA hW (j := i + 3) rfl (by omega) (by omega) dL_law_515 ?_
  refine kLi S (c_X5_vital (l := l) (D := D) (cI := cI) (cZ := cZ) (cF := cF) G) (cwV 3 S.2.2.2.2 gL_law_X5_vital rfl rfl rfl ⟨rfl, v_X5_vital⟩ ⟨(Nat.le_of_ble_eq_true rfl), (Nat.le_of_ble_eq_true rfl)⟩) hk hW 0 rfl rfl rfl rfl hl rfl (Nat.le_of_ble_eq_true rfl) dL_law_516 ⟨by show 30 + 2 * len + 0 ≤ 600000; omega, by show 45000 + 101 * len + 0 ≤ 7302250; omega⟩ (fun rC u H locs hpC hW => ?_)
  obtain ⟨rfl, R1, rfl⟩ := hpC
  refine lv_aload_n S.1 S.2.1 dL_law_519 rfl (lv_at hl 2 rfl) ?_
  refine lv_aload_n S.1 S.2.1 dL_law_520 rfl (lv_at hl 0 rfl) ?_
  refine lv_iload_n S.1 S.2.1 dL_law_521 rfl (lv_at hl 3 rfl) ?_
  refine lv_iconst (v := nI 1) S.1 S.2.1 dL_law_522 (by decide) ?_
  refine lv_iadd S.1 S.2.1 dL_law_523 (top_eq (nI_add _ _) ?_)
  refine sldN S hX hbl hbA hW (j := i + 1) rfl (by omega) (by omega) dL_law_524 ?_
  refine lv_aload_n S.1 S.2.1 dL_law_525 rfl (lv_at hl 0 rfl) ?_
  refine lv_iload_n S.1 S.2.1 dL_law_526 rfl (lv_at hl 3 rfl) ?_
  refine lv_iconst (v := nI 2) S.1 S.2.1 dL_law_527 (by decide) ?_
  refine lv_iadd S.1 S.2.1 dL_law_528 (top_eq (nI_add _ _) ?_)
  refine sldN S hX hbl hbA hW (j := i + 2) rfl (by omega) (by omega) dL_law_529 ?_
  refine lv_aload_n S.1 S.2.1 dL_law_530 rfl (lv_at hl 0 rfl) ?_
  refine lv_iload_n S.1 S.2.1 dL_law_531 rfl (lv_at hl 3 rfl) ?_
  refine lv_iconst (v := nI 3) S.1 S.2.1 dL_law_532 (by decide) ?_
  refine lv_iadd S.1 S.2.1 dL_law_533 (top_eq (nI_add _ _) ?_)
  refine sldN S hX hbl hbA hW (j := i + 3) rfl (by omega) (by omega) dL_law_534 ?_
  refine kRi S (c_X6_vital (l := l) (D := D) (cI := cI) (cZ := cZ) (cF := cF) G) (cwV 3 S.2.2.2.2 gL_law_X6_vital rfl rfl rfl ⟨rfl, v_X6_vital⟩ ⟨(Nat.le_of_ble_eq_true rfl), (Nat.le_of_ble_eq_true rfl)⟩) hk hW 0 rfl rfl rfl rfl hl rfl (Nat.le_of_ble_eq_true rfl) dL_law_535 ⟨by show 30 + 2 * len + 0 + 0 ≤ 600000; omega, by show 45000 + 101 * len + 0 + 0 ≤ 7302250; omega⟩ (fun rM u H locs hpM hW => ?_)
  obtain ⟨rfl, fi1, rfl⟩ := hpM
  refine lv_icmp_eq (tgt := 902) S.1 S.2.1 dL_law_538 (by decide) (fun _ => ?_) (fun h => absurd (P_vtl hI _ _ _) h)
  exact hback q qm qf g C R1 rw len F sz X mk fi1 ke ac iv hI H locs ls hW hl
set_option maxRecDepth 100000 in
set_option maxHeartbeats 4000000 in
theorem lc_about {p : Program} {l : Launch} {e : Env} {s : State} {m : MethodId} {b : Nat} {below : List Frame} {meth : Method} {c : Code} {D : va_G} {cI cZ cF : ClassId} {Z : State → Prop} {L : Nat} {xs : Nat → Int32} (S : CallFix p m c cL_law 4 s #[Value.ref b] wsL_law RL) (hk : kn D cI cZ cF (fun q => s.heap.size ≤ q) s) (hX : va_X b L xs s s.heap) (hbl : b < s.heap.size) (hL : L ≤ 2560) {i : Nat} (hi : i + 5 ≤ L) (hback : lwG p l e s m b below meth c D cI cZ cF Z 902 i) : lwG p l e s m b below meth c D cI cZ cF Z 543 i := by
  intro q qm qf g C R rw len F sz X mk fi ke ac iv hI H locs ls hW hl
  have hbA : ¬ (fun q => s.heap.size ≤ q) b := Nat.not_le.mpr hbl
  obtain ⟨G, hgd, hC, hrw, hac, hrl, hle, hh, hmk⟩ := id hI
  obtain ⟨h16, hlm⟩ := lenOK_le hle
  have hr1 : rw ≤ 401 := by omega
  have h1 : 1 ≤ rw := by omega
  refine lv_aload_n S.1 S.2.1 dL_law_543 rfl (lv_at hl 1 rfl) ?_
  refine lv_aload_n S.1 S.2.1 dL_law_544 rfl (lv_at hl 0 rfl) ?_
  refine lv_iload_n S.1 S.2.1 dL_law_545 rfl (lv_at hl 3 rfl) ?_
  refine lv_iconst (v := nI 1) S.1 S.2.1 dL_law_546 (by decide) ?_
  refine lv_iadd S.1 S.2.1 dL_law_547 (top_eq (nI_add _ _) ?_)
  refine sldN S hX hbl hbA hW (j := i + 1) rfl (by omega) (by omega) dL_law_548 ?_
  refine lv_aload_n S.1 S.2.1 dL_law_549 rfl (lv_at hl 0 rfl) ?_
  refine lv_iload_n S.1 S.2.1 dL_law_550 rfl (lv_at hl 3 rfl) ?_
  refine lv_iconst (v := nI 2) S.1 S.2.1 dL_law_551 (by decide) ?_
  refine lv_iadd S.1 S.2.1 dL_law_552 (top_eq (nI_add _ _) ?_)
  refine sldN S hX hbl hbA hW (j := i + 2) rfl (by omega) (by omega) dL_law_553 ?_
  refine lv_aload_n S.1 S.2.1 dL_law_554 rfl (lv_at hl 0 rfl) ?_
  refine lv_iload_n S.1 S.2.1 dL_law_555 rfl (lv_at hl 3 rfl) ?_
  refine lv_iconst (v := nI 3) S.1 S.2.1 dL_law_556 (by decide) ?_
  refine lv_iadd S.1 S.2.1 dL_law_557 (top_eq (nI_add _ _) ?_)
  refine sldN S hX hbl hbA hW (j := i + 3) rfl (by omega) (by omega) dL_law_558 ?_
  refine kLi S (c_X5_about (l := l) (D := D) (cI := cI) (cZ := cZ) (cF := cF) G) (cwV 3 S.2.2.2.2 gL_law_X5_about rfl rfl rfl ⟨rfl, v_X5_about⟩ ⟨(Nat.le_of_ble_eq_true rfl), (Nat.le_of_ble_eq_true rfl)⟩) hk hW 0 rfl rfl rfl rfl hl rfl (Nat.le_of_ble_eq_true rfl) dL_law_559 ⟨by show 30 + 2 * len + 0 ≤ 600000; omega, by show 45000 + 101 * len + 0 ≤ 7302250; omega⟩ (fun rC u H locs hpC hW => ?_)
  obtain ⟨rfl, R1, rfl⟩ := hpC
  refine lv_aload_n S.1 S.2.1 dL_law_562 rfl (lv_at hl 2 rfl) ?_
  refine lv_aload_n S.1 S.2.1 dL_law_563 rfl (lv_at hl 0 rfl) ?_
  refine lv_iload_n S.1 S.2.1 dL_law_564 rfl (lv_at hl 3 rfl) ?_
  refine lv_iconst (v := nI 1) S.1 S.2.1 dL_law_565 (by decide) ?_
  refine lv_iadd S.1 S.2.1 dL_law_566 (top_eq (nI_add _ _) ?_)
  refine sldN S hX hbl hbA hW (j := i + 1) rfl (by omega) (by omega) dL_law_567 ?_
  refine lv_aload_n S.1 S.2.1 dL_law_568 rfl (lv_at hl 0 rfl) ?_
  refine lv_iload_n S.1 S.2.1 dL_law_569 rfl (lv_at hl 3 rfl) ?_
  refine lv_iconst (v := nI 2) S.1 S.2.1 dL_law_570 (by decide) ?_
  refine lv_iadd S.1 S.2.1 dL_law_571 (top_eq (nI_add _ _) ?_)
  refine sldN S hX hbl hbA hW (j := i + 2) rfl (by omega) (by omega) dL_law_572 ?_
  refine lv_aload_n S.1 S.2.1 dL_law_573 rfl (lv_at hl 0 rfl) ?_
  refine lv_iload_n S.1 S.2.1 dL_law_574 rfl (lv_at hl 3 rfl) ?_
  refine lv_iconst (v := nI 3) S.1 S.2.1 dL_law_575 (by decide) ?_
  refine lv_iadd S.1 S.2.1 dL_law_576 (top_eq (nI_add _ _) ?_)
  refine sldN S hX hbl hbA hW (j := i + 3) rfl (by omega) (by omega) dL_law_577 ?_
  refine kRi S (c_X6_about (l := l) (D := D) (cI := cI) (cZ := cZ) (cF := cF) G) (cwV 3 S.2.2.2.2 gL_law_X6_about rfl rfl rfl ⟨rfl, v_X6_about⟩ ⟨(Nat.le_of_ble_eq_true rfl), (Nat.le_of_ble_eq_true rfl)⟩) hk hW 0 rfl rfl rfl rfl hl rfl (Nat.le_of_ble_eq_true rfl) dL_law_578 ⟨by show 30 + 2 * len + 0 + 0 ≤ 600000; omega, by show 45000 + 101 * len + 0 + 0 ≤ 7302250; omega⟩ (fun rM u H locs hpM hW => ?_)
  obtain ⟨rfl, fi1, rfl⟩ := hpM
  refine lv_icmp_eq (tgt := 902) S.1 S.2.1 dL_law_581 (by decide) (fun _ => ?_) (fun h => absurd (P_abt hI _ _ _) h)
  exact hback q qm qf g C R1 rw len F sz X mk fi1 ke ac iv hI H locs ls hW hl
set_option maxRecDepth 100000 in
set_option maxHeartbeats 4000000 in
theorem lc_ring {p : Program} {l : Launch} {e : Env} {s : State} {m : MethodId} {b : Nat} {below : List Frame} {meth : Method} {c : Code} {D : va_G} {cI cZ cF : ClassId} {Z : State → Prop} {L : Nat} {xs : Nat → Int32} (S : CallFix p m c cL_law 4 s #[Value.ref b] wsL_law RL) (hk : kn D cI cZ cF (fun q => s.heap.size ≤ q) s) (hX : va_X b L xs s s.heap) (hbl : b < s.heap.size) (hL : L ≤ 2560) {i : Nat} (hi : i + 5 ≤ L) (hback : lwG p l e s m b below meth c D cI cZ cF Z 902 i) : lwG p l e s m b below meth c D cI cZ cF Z 586 i := by
  intro q qm qf g C R rw len F sz X mk fi ke ac iv hI H locs ls hW hl
  have hbA : ¬ (fun q => s.heap.size ≤ q) b := Nat.not_le.mpr hbl
  obtain ⟨G, hgd, hC, hrw, hac, hrl, hle, hh, hmk⟩ := id hI
  obtain ⟨h16, hlm⟩ := lenOK_le hle
  have hr1 : rw ≤ 401 := by omega
  have h1 : 1 ≤ rw := by omega
  refine lv_aload_n S.1 S.2.1 dL_law_586 rfl (lv_at hl 1 rfl) ?_
  refine kLi S (c_X5_ring (l := l) (D := D) (cI := cI) (cZ := cZ) (cF := cF) G) (cwV 0 S.2.2.2.2 gL_law_X5_ring rfl rfl rfl ⟨rfl, v_X5_ring⟩ ⟨(Nat.le_of_ble_eq_true rfl), (Nat.le_of_ble_eq_true rfl)⟩) hk hW 0 rfl rfl rfl rfl hl rfl (Nat.le_of_ble_eq_true rfl) dL_law_587 ⟨by show 30 + 2 * len + 0 ≤ 600000; omega, by show 45000 + 101 * len + 0 ≤ 7302250; omega⟩ (fun rC u H locs hpC hW => ?_)
  obtain ⟨rfl, rfl⟩ := hpC
  refine lv_aload_n S.1 S.2.1 dL_law_590 rfl (lv_at hl 2 rfl) ?_
  refine kRi S (c_X6_ring (l := l) (D := D) (cI := cI) (cZ := cZ) (cF := cF) G) (cwV 0 S.2.2.2.2 gL_law_X6_ring rfl rfl rfl ⟨rfl, v_X6_ring⟩ ⟨(Nat.le_of_ble_eq_true rfl), (Nat.le_of_ble_eq_true rfl)⟩) hk hW 0 rfl rfl rfl rfl hl rfl (Nat.le_of_ble_eq_true rfl) dL_law_591 ⟨by show 30 + 2 * len + 0 + 0 ≤ 600000; omega, by show 45000 + 101 * len + 0 + 0 ≤ 7302250; omega⟩ (fun rM u H locs hpM hW => ?_)
  obtain ⟨rfl, fi1, rfl⟩ := hpM
  refine lv_icmp_eq (tgt := 902) S.1 S.2.1 dL_law_594 (by decide) (fun _ => ?_) (fun h => absurd (P_ring hI) h)
  exact hback q qm qf g C R rw len F sz X mk fi1 ke ac iv hI H locs ls hW hl
set_option maxRecDepth 100000 in
set_option maxHeartbeats 4000000 in
theorem lc_height {p : Program} {l : Launch} {e : Env} {s : State} {m : MethodId} {b : Nat} {below : List Frame} {meth : Method} {c : Code} {D : va_G} {cI cZ cF : ClassId} {Z : State → Prop} {L : Nat} {xs : Nat → Int32} (S : CallFix p m c cL_law 4 s #[Value.ref b] wsL_law RL) (hk : kn D cI cZ cF (fun q => s.heap.size ≤ q) s) (hX : va_X b L xs s s.heap) (hbl : b < s.heap.size) (hL : L ≤ 2560) {i : Nat} (hi : i + 5 ≤ L) (hback : lwG p l e s m b below meth c D cI cZ cF Z 902 i) : lwG p l e s m b below meth c D cI cZ cF Z 599 i := by
  intro q qm qf g C R rw len F sz X mk fi ke ac iv hI H locs ls hW hl
  have hbA : ¬ (fun q => s.heap.size ≤ q) b := Nat.not_le.mpr hbl
  obtain ⟨G, hgd, hC, hrw, hac, hrl, hle, hh, hmk⟩ := id hI
  obtain ⟨h16, hlm⟩ := lenOK_le hle
  have hr1 : rw ≤ 401 := by omega
  have h1 : 1 ≤ rw := by omega
  refine lv_aload_n S.1 S.2.1 dL_law_599 rfl (lv_at hl 1 rfl) ?_
  refine lv_aload_n S.1 S.2.1 dL_law_600 rfl (lv_at hl 0 rfl) ?_
  refine lv_iload_n S.1 S.2.1 dL_law_601 rfl (lv_at hl 3 rfl) ?_
  refine lv_iconst (v := nI 1) S.1 S.2.1 dL_law_602 (by decide) ?_
  refine lv_iadd S.1 S.2.1 dL_law_603 (top_eq (nI_add _ _) ?_)
  refine sldN S hX hbl hbA hW (j := i + 1) rfl (by omega) (by omega) dL_law_604 ?_
  refine kLi S (c_X5_height (l := l) (D := D) (cI := cI) (cZ := cZ) (cF := cF) G) (cwV 1 S.2.2.2.2 gL_law_X5_height rfl rfl rfl ⟨rfl, v_X5_height⟩ ⟨(Nat.le_of_ble_eq_true rfl), (Nat.le_of_ble_eq_true rfl)⟩) hk hW 0 rfl rfl rfl rfl hl rfl (Nat.le_of_ble_eq_true rfl) dL_law_605 ⟨by show 30 + 2 * len + 0 ≤ 600000; omega, by show 45000 + 101 * len + 0 ≤ 7302250; omega⟩ (fun rC u H locs hpC hW => ?_)
  obtain ⟨rfl, rfl⟩ := hpC
  refine lv_aload_n S.1 S.2.1 dL_law_608 rfl (lv_at hl 2 rfl) ?_
  refine lv_aload_n S.1 S.2.1 dL_law_609 rfl (lv_at hl 0 rfl) ?_
  refine lv_iload_n S.1 S.2.1 dL_law_610 rfl (lv_at hl 3 rfl) ?_
  refine lv_iconst (v := nI 1) S.1 S.2.1 dL_law_611 (by decide) ?_
  refine lv_iadd S.1 S.2.1 dL_law_612 (top_eq (nI_add _ _) ?_)
  refine sldN S hX hbl hbA hW (j := i + 1) rfl (by omega) (by omega) dL_law_613 ?_
  refine kRi S (c_X6_height (l := l) (D := D) (cI := cI) (cZ := cZ) (cF := cF) G) (cwV 1 S.2.2.2.2 gL_law_X6_height rfl rfl rfl ⟨rfl, v_X6_height⟩ ⟨(Nat.le_of_ble_eq_true rfl), (Nat.le_of_ble_eq_true rfl)⟩) hk hW 0 rfl rfl rfl rfl hl rfl (Nat.le_of_ble_eq_true rfl) dL_law_614 ⟨by show 30 + 2 * len + 0 + 0 ≤ 600000; omega, by show 45000 + 101 * len + 0 + 0 ≤ 7302250; omega⟩ (fun rM u H locs hpM hW => ?_)
  obtain ⟨rfl, fi1, rfl⟩ := hpM
  refine lv_icmp_eq (tgt := 902) S.1 S.2.1 dL_law_617 (by decide) (fun _ => ?_) (fun h => absurd (P_hgt hI _) h)
  exact hback q qm qf g C R rw len F sz X mk fi1 ke ac iv hI H locs ls hW hl
set_option maxRecDepth 100000 in
set_option maxHeartbeats 4000000 in
theorem lc_acts {p : Program} {l : Launch} {e : Env} {s : State} {m : MethodId} {b : Nat} {below : List Frame} {meth : Method} {c : Code} {D : va_G} {cI cZ cF : ClassId} {Z : State → Prop} {L : Nat} {xs : Nat → Int32} (S : CallFix p m c cL_law 4 s #[Value.ref b] wsL_law RL) (hk : kn D cI cZ cF (fun q => s.heap.size ≤ q) s) (hX : va_X b L xs s s.heap) (hbl : b < s.heap.size) (hL : L ≤ 2560) {i : Nat} (hi : i + 5 ≤ L) (hback : lwG p l e s m b below meth c D cI cZ cF Z 902 i) : lwG p l e s m b below meth c D cI cZ cF Z 622 i := by
  intro q qm qf g C R rw len F sz X mk fi ke ac iv hI H locs ls hW hl
  have hbA : ¬ (fun q => s.heap.size ≤ q) b := Nat.not_le.mpr hbl
  obtain ⟨G, hgd, hC, hrw, hac, hrl, hle, hh, hmk⟩ := id hI
  obtain ⟨h16, hlm⟩ := lenOK_le hle
  have hr1 : rw ≤ 401 := by omega
  have h1 : 1 ≤ rw := by omega
  refine lv_aload_n S.1 S.2.1 dL_law_622 rfl (lv_at hl 1 rfl) ?_
  refine kLi S (c_X5_acts (l := l) (D := D) (cI := cI) (cZ := cZ) (cF := cF) h1) (cwV 0 S.2.2.2.2 gL_law_X5_acts rfl rfl rfl ⟨rfl, v_X5_acts⟩ ⟨(Nat.le_of_ble_eq_true rfl), (Nat.le_of_ble_eq_true rfl)⟩) hk hW 0 rfl rfl rfl rfl hl rfl (Nat.le_of_ble_eq_true rfl) dL_law_623 ⟨by show 30 + 2 * len + 0 ≤ 600000; omega, by show 45000 + 101 * len + 0 ≤ 7302250; omega⟩ (fun rC u H locs hpC hW => ?_)
  obtain ⟨rfl, rfl⟩ := hpC
  refine lv_aload_n S.1 S.2.1 dL_law_626 rfl (lv_at hl 2 rfl) ?_
  refine kRi S (c_X6_acts (l := l) (D := D) (cI := cI) (cZ := cZ) (cF := cF) ) (cwV 0 S.2.2.2.2 gL_law_X6_acts rfl rfl rfl ⟨rfl, v_X6_acts⟩ ⟨(Nat.le_of_ble_eq_true rfl), (Nat.le_of_ble_eq_true rfl)⟩) hk hW 0 rfl rfl rfl rfl hl rfl (Nat.le_of_ble_eq_true rfl) dL_law_627 ⟨by show 30 + 2 * len + 0 + 0 ≤ 600000; omega, by show 45000 + 101 * len + 0 + 0 ≤ 7302250; omega⟩ (fun rM u H locs hpM hW => ?_)
  obtain ⟨rfl, rfl⟩ := hpM
  refine lv_icmp_eq (tgt := 902) S.1 S.2.1 dL_law_630 (by decide) (fun _ => ?_) (fun h => absurd (congrArg nI (show rw - 1 = ac by omega)) h)
  exact hback q qm qf g C R rw len F sz X mk fi ke ac iv hI H locs ls hW hl
set_option maxRecDepth 100000 in
set_option maxHeartbeats 4000000 in
theorem lc_moved {p : Program} {l : Launch} {e : Env} {s : State} {m : MethodId} {b : Nat} {below : List Frame} {meth : Method} {c : Code} {D : va_G} {cI cZ cF : ClassId} {Z : State → Prop} {L : Nat} {xs : Nat → Int32} (S : CallFix p m c cL_law 4 s #[Value.ref b] wsL_law RL) (hk : kn D cI cZ cF (fun q => s.heap.size ≤ q) s) (hX : va_X b L xs s s.heap) (hbl : b < s.heap.size) (hL : L ≤ 2560) {i : Nat} (hi : i + 5 ≤ L) (hback : lwG p l e s m b below meth c D cI cZ cF Z 902 i) : lwG p l e s m b below meth c D cI cZ cF Z 635 i := by
  intro q qm qf g C R rw len F sz X mk fi ke ac iv hI H locs ls hW hl
  have hbA : ¬ (fun q => s.heap.size ≤ q) b := Nat.not_le.mpr hbl
  obtain ⟨G, hgd, hC, hrw, hac, hrl, hle, hh, hmk⟩ := id hI
  obtain ⟨h16, hlm⟩ := lenOK_le hle
  have hr1 : rw ≤ 401 := by omega
  have h1 : 1 ≤ rw := by omega
  refine lv_aload_n S.1 S.2.1 dL_law_635 rfl (lv_at hl 1 rfl) ?_
  refine lv_aload_n S.1 S.2.1 dL_law_636 rfl (lv_at hl 0 rfl) ?_
  refine lv_iload_n S.1 S.2.1 dL_law_637 rfl (lv_at hl 3 rfl) ?_
  refine lv_iconst (v := nI 1) S.1 S.2.1 dL_law_638 (by decide) ?_
  refine lv_iadd S.1 S.2.1 dL_law_639 (top_eq (nI_add _ _) ?_)
  refine sldN S hX hbl hbA hW (j := i + 1) rfl (by omega) (by omega) dL_law_640 ?_
  refine kLi S (c_X5_moved (l := l) (D := D) (cI := cI) (cZ := cZ) (cF := cF) hrl hlm) (cwV 1 S.2.2.2.2 gL_law_X5_moved rfl rfl rfl ⟨rfl, v_X5_moved⟩ ⟨(Nat.le_of_ble_eq_true rfl), (Nat.le_of_ble_eq_true rfl)⟩) hk hW 0 rfl rfl rfl rfl hl rfl (Nat.le_of_ble_eq_true rfl) dL_law_641 ⟨by show 30 + 2 * len + 0 ≤ 600000; omega, by show 45000 + 101 * len + 0 ≤ 7302250; omega⟩ (fun rC u H locs hpC hW => ?_)
  obtain ⟨rfl, rfl⟩ := hpC
  refine lv_aload_n S.1 S.2.1 dL_law_644 rfl (lv_at hl 2 rfl) ?_
  refine lv_aload_n S.1 S.2.1 dL_law_645 rfl (lv_at hl 0 rfl) ?_
  refine lv_iload_n S.1 S.2.1 dL_law_646 rfl (lv_at hl 3 rfl) ?_
  refine lv_iconst (v := nI 1) S.1 S.2.1 dL_law_647 (by decide) ?_
  refine lv_iadd S.1 S.2.1 dL_law_648 (top_eq (nI_add _ _) ?_)
  refine sldN S hX hbl hbA hW (j := i + 1) rfl (by omega) (by omega) dL_law_649 ?_
  refine kRi S (c_X6_moved (l := l) (D := D) (cI := cI) (cZ := cZ) (cF := cF) G hac) (cwV 1 S.2.2.2.2 gL_law_X6_moved rfl rfl rfl ⟨rfl, v_X6_moved⟩ ⟨(Nat.le_of_ble_eq_true rfl), (Nat.le_of_ble_eq_true rfl)⟩) hk hW 0 rfl rfl rfl rfl hl rfl (Nat.le_of_ble_eq_true rfl) dL_law_650 ⟨by show 30 + 2 * len + 0 + 0 ≤ 600000; omega, by show 45000 + 101 * len + 0 + 0 ≤ 7302250; omega⟩ (fun rM u H locs hpM hW => ?_)
  obtain ⟨rfl, rfl⟩ := hpM
  refine lv_icmp_eq (tgt := 902) S.1 S.2.1 dL_law_653 (by decide) (fun _ => ?_) (fun h => absurd (P_mov hI _) h)
  exact hback q qm qf g C R rw len F sz X mk fi ke ac iv hI H locs ls hW hl
set_option maxRecDepth 100000 in
set_option maxHeartbeats 4000000 in
theorem lc_pair {p : Program} {l : Launch} {e : Env} {s : State} {m : MethodId} {b : Nat} {below : List Frame} {meth : Method} {c : Code} {D : va_G} {cI cZ cF : ClassId} {Z : State → Prop} {L : Nat} {xs : Nat → Int32} (S : CallFix p m c cL_law 4 s #[Value.ref b] wsL_law RL) (hk : kn D cI cZ cF (fun q => s.heap.size ≤ q) s) (hX : va_X b L xs s s.heap) (hbl : b < s.heap.size) (hL : L ≤ 2560) {i : Nat} (hi : i + 5 ≤ L) (hback : lwG p l e s m b below meth c D cI cZ cF Z 902 i) : lwG p l e s m b below meth c D cI cZ cF Z 658 i := by
  intro q qm qf g C R rw len F sz X mk fi ke ac iv hI H locs ls hW hl
  have hbA : ¬ (fun q => s.heap.size ≤ q) b := Nat.not_le.mpr hbl
  obtain ⟨G, hgd, hC, hrw, hac, hrl, hle, hh, hmk⟩ := id hI
  obtain ⟨h16, hlm⟩ := lenOK_le hle
  have hr1 : rw ≤ 401 := by omega
  have h1 : 1 ≤ rw := by omega
  refine lv_aload_n S.1 S.2.1 dL_law_658 rfl (lv_at hl 1 rfl) ?_
  refine lv_aload_n S.1 S.2.1 dL_law_659 rfl (lv_at hl 0 rfl) ?_
  refine lv_iload_n S.1 S.2.1 dL_law_660 rfl (lv_at hl 3 rfl) ?_
  refine lv_iconst (v := nI 1) S.1 S.2.1 dL_law_661 (by decide) ?_
  refine lv_iadd S.1 S.2.1 dL_law_662 (top_eq (nI_add _ _) ?_)
  refine sldN S hX hbl hbA hW (j := i + 1) rfl (by omega) (by omega) dL_law_663 ?_
  refine lv_aload_n S.1 S.2.1 dL_law_664 rfl (lv_at hl 0 rfl) ?_
  refine lv_iload_n S.1 S.2.1 dL_law_665 rfl (lv_at hl 3 rfl) ?_
  refine lv_iconst (v := nI 2) S.1 S.2.1 dL_law_666 (by decide) ?_
  refine lv_iadd S.1 S.2.1 dL_law_667 (top_eq (nI_add _ _) ?_)
  refine sldN S hX hbl hbA hW (j := i + 2) rfl (by omega) (by omega) dL_law_668 ?_
  refine kLi S (c_X5_pair (l := l) (D := D) (cI := cI) (cZ := cZ) (cF := cF) hrl hlm) (cwV 2 S.2.2.2.2 gL_law_X5_pair rfl rfl rfl ⟨rfl, v_X5_pair⟩ ⟨(Nat.le_of_ble_eq_true rfl), (Nat.le_of_ble_eq_true rfl)⟩) hk hW 0 rfl rfl rfl rfl hl rfl (Nat.le_of_ble_eq_true rfl) dL_law_669 ⟨by show 30 + 2 * len + 0 ≤ 600000; omega, by show 45000 + 101 * len + 0 ≤ 7302250; omega⟩ (fun rC u H locs hpC hW => ?_)
  obtain ⟨rfl, rfl⟩ := hpC
  refine lv_aload_n S.1 S.2.1 dL_law_672 rfl (lv_at hl 2 rfl) ?_
  refine lv_aload_n S.1 S.2.1 dL_law_673 rfl (lv_at hl 0 rfl) ?_
  refine lv_iload_n S.1 S.2.1 dL_law_674 rfl (lv_at hl 3 rfl) ?_
  refine lv_iconst (v := nI 1) S.1 S.2.1 dL_law_675 (by decide) ?_
  refine lv_iadd S.1 S.2.1 dL_law_676 (top_eq (nI_add _ _) ?_)
  refine sldN S hX hbl hbA hW (j := i + 1) rfl (by omega) (by omega) dL_law_677 ?_
  refine lv_aload_n S.1 S.2.1 dL_law_678 rfl (lv_at hl 0 rfl) ?_
  refine lv_iload_n S.1 S.2.1 dL_law_679 rfl (lv_at hl 3 rfl) ?_
  refine lv_iconst (v := nI 2) S.1 S.2.1 dL_law_680 (by decide) ?_
  refine lv_iadd S.1 S.2.1 dL_law_681 (top_eq (nI_add _ _) ?_)
  refine sldN S hX hbl hbA hW (j := i + 2) rfl (by omega) (by omega) dL_law_682 ?_
  refine kRi S (c_X6_pair (l := l) (D := D) (cI := cI) (cZ := cZ) (cF := cF) G hac) (cwV 2 S.2.2.2.2 gL_law_X6_pair rfl rfl rfl ⟨rfl, v_X6_pair⟩ ⟨(Nat.le_of_ble_eq_true rfl), (Nat.le_of_ble_eq_true rfl)⟩) hk hW 0 rfl rfl rfl rfl hl rfl (Nat.le_of_ble_eq_true rfl) dL_law_683 ⟨by show 30 + 2 * len + 0 + 0 ≤ 600000; omega, by show 45000 + 101 * len + 0 + 0 ≤ 7302250; omega⟩ (fun rM u H locs hpM hW => ?_)
  obtain ⟨rfl, rfl⟩ := hpM
  refine lv_icmp_eq (tgt := 902) S.1 S.2.1 dL_law_686 (by decide) (fun _ => ?_) (fun h => absurd (P_pai hI _ _) h)
  exact hback q qm qf g C R rw len F sz X mk fi ke ac iv hI H locs ls hW hl
set_option maxRecDepth 100000 in
set_option maxHeartbeats 4000000 in
theorem lc_then {p : Program} {l : Launch} {e : Env} {s : State} {m : MethodId} {b : Nat} {below : List Frame} {meth : Method} {c : Code} {D : va_G} {cI cZ cF : ClassId} {Z : State → Prop} {L : Nat} {xs : Nat → Int32} (S : CallFix p m c cL_law 4 s #[Value.ref b] wsL_law RL) (hk : kn D cI cZ cF (fun q => s.heap.size ≤ q) s) (hX : va_X b L xs s s.heap) (hbl : b < s.heap.size) (hL : L ≤ 2560) {i : Nat} (hi : i + 5 ≤ L) (hback : lwG p l e s m b below meth c D cI cZ cF Z 902 i) : lwG p l e s m b below meth c D cI cZ cF Z 691 i := by
  intro q qm qf g C R rw len F sz X mk fi ke ac iv hI H locs ls hW hl
  have hbA : ¬ (fun q => s.heap.size ≤ q) b := Nat.not_le.mpr hbl
  obtain ⟨G, hgd, hC, hrw, hac, hrl, hle, hh, hmk⟩ := id hI
  obtain ⟨h16, hlm⟩ := lenOK_le hle
  have hr1 : rw ≤ 401 := by omega
  have h1 : 1 ≤ rw := by omega
  refine lv_aload_n S.1 S.2.1 dL_law_691 rfl (lv_at hl 1 rfl) ?_
  refine lv_aload_n S.1 S.2.1 dL_law_692 rfl (lv_at hl 0 rfl) ?_
  refine lv_iload_n S.1 S.2.1 dL_law_693 rfl (lv_at hl 3 rfl) ?_
  refine lv_iconst (v := nI 1) S.1 S.2.1 dL_law_694 (by decide) ?_
  refine lv_iadd S.1 S.2.1 dL_law_695 (top_eq (nI_add _ _) ?_)
  refine sldN S hX hbl hbA hW (j := i + 1) rfl (by omega) (by omega) dL_law_696 ?_
  refine lv_aload_n S.1 S.2.1 dL_law_697 rfl (lv_at hl 0 rfl) ?_
  refine lv_iload_n S.1 S.2.1 dL_law_698 rfl (lv_at hl 3 rfl) ?_
  refine lv_iconst (v := nI 2) S.1 S.2.1 dL_law_699 (by decide) ?_
  refine lv_iadd S.1 S.2.1 dL_law_700 (top_eq (nI_add _ _) ?_)
  refine sldN S hX hbl hbA hW (j := i + 2) rfl (by omega) (by omega) dL_law_701 ?_
  refine lv_aload_n S.1 S.2.1 dL_law_702 rfl (lv_at hl 0 rfl) ?_
  refine lv_iload_n S.1 S.2.1 dL_law_703 rfl (lv_at hl 3 rfl) ?_
  refine lv_iconst (v := nI 3) S.1 S.2.1 dL_law_704 (by decide) ?_
  refine lv_iadd S.1 S.2.1 dL_law_705 (top_eq (nI_add _ _) ?_)
  refine sldN S hX hbl hbA hW (j := i + 3) rfl (by omega) (by omega) dL_law_706 ?_
  refine kLi S (c_X5_then (l := l) (D := D) (cI := cI) (cZ := cZ) (cF := cF) G h1 hrl hlm) (cwV 3 S.2.2.2.2 gL_law_X5_then rfl rfl rfl ⟨rfl, v_X5_then⟩ ⟨(Nat.le_of_ble_eq_true rfl), (Nat.le_of_ble_eq_true rfl)⟩) hk hW 0 rfl rfl rfl rfl hl rfl (Nat.le_of_ble_eq_true rfl) dL_law_707 ⟨by show 30 + 2 * len + 0 ≤ 600000; omega, by show 45000 + 101 * len + 0 ≤ 7302250; omega⟩ (fun rC u H locs hpC hW => ?_)
  obtain ⟨rfl, rfl⟩ := hpC
  refine lv_aload_n S.1 S.2.1 dL_law_710 rfl (lv_at hl 2 rfl) ?_
  refine lv_aload_n S.1 S.2.1 dL_law_711 rfl (lv_at hl 0 rfl) ?_
  refine lv_iload_n S.1 S.2.1 dL_law_712 rfl (lv_at hl 3 rfl) ?_
  refine lv_iconst (v := nI 1) S.1 S.2.1 dL_law_713 (by decide) ?_
  refine lv_iadd S.1 S.2.1 dL_law_714 (top_eq (nI_add _ _) ?_)
  refine sldN S hX hbl hbA hW (j := i + 1) rfl (by omega) (by omega) dL_law_715 ?_
  refine lv_aload_n S.1 S.2.1 dL_law_716 rfl (lv_at hl 0 rfl) ?_
  refine lv_iload_n S.1 S.2.1 dL_law_717 rfl (lv_at hl 3 rfl) ?_
  refine lv_iconst (v := nI 2) S.1 S.2.1 dL_law_718 (by decide) ?_
  refine lv_iadd S.1 S.2.1 dL_law_719 (top_eq (nI_add _ _) ?_)
  refine sldN S hX hbl hbA hW (j := i + 2) rfl (by omega) (by omega) dL_law_720 ?_
  refine lv_aload_n S.1 S.2.1 dL_law_721 rfl (lv_at hl 0 rfl) ?_
  refine lv_iload_n S.1 S.2.1 dL_law_722 rfl (lv_at hl 3 rfl) ?_
  refine lv_iconst (v := nI 3) S.1 S.2.1 dL_law_723 (by decide) ?_
  refine lv_iadd S.1 S.2.1 dL_law_724 (top_eq (nI_add _ _) ?_)
  refine sldN S hX hbl hbA hW (j := i + 3) rfl (by omega) (by omega) dL_law_725 ?_
  refine kRi S (c_X6_then (l := l) (D := D) (cI := cI) (cZ := cZ) (cF := cF) G hac) (cwV 3 S.2.2.2.2 gL_law_X6_then rfl rfl rfl ⟨rfl, v_X6_then⟩ ⟨(Nat.le_of_ble_eq_true rfl), (Nat.le_of_ble_eq_true rfl)⟩) hk hW 0 rfl rfl rfl rfl hl rfl (Nat.le_of_ble_eq_true rfl) dL_law_726 ⟨by show 30 + 2 * len + 0 + 0 ≤ 600000; omega, by show 45000 + 101 * len + 0 + 0 ≤ 7302250; omega⟩ (fun rM u H locs hpM hW => ?_)
  obtain ⟨rfl, rfl⟩ := hpM
  refine lv_icmp_eq (tgt := 902) S.1 S.2.1 dL_law_729 (by decide) (fun _ => ?_) (fun h => absurd (P_thn hI _ _ _) h)
  exact hback q qm qf g C R rw len F sz X mk fi ke ac iv hI H locs ls hW hl
set_option maxRecDepth 100000 in
set_option maxHeartbeats 4000000 in
theorem lc_since {p : Program} {l : Launch} {e : Env} {s : State} {m : MethodId} {b : Nat} {below : List Frame} {meth : Method} {c : Code} {D : va_G} {cI cZ cF : ClassId} {Z : State → Prop} {L : Nat} {xs : Nat → Int32} (S : CallFix p m c cL_law 4 s #[Value.ref b] wsL_law RL) (hk : kn D cI cZ cF (fun q => s.heap.size ≤ q) s) (hX : va_X b L xs s s.heap) (hbl : b < s.heap.size) (hL : L ≤ 2560) {i : Nat} (hi : i + 5 ≤ L) (hback : lwG p l e s m b below meth c D cI cZ cF Z 902 i) : lwG p l e s m b below meth c D cI cZ cF Z 734 i := by
  intro q qm qf g C R rw len F sz X mk fi ke ac iv hI H locs ls hW hl
  have hbA : ¬ (fun q => s.heap.size ≤ q) b := Nat.not_le.mpr hbl
  obtain ⟨G, hgd, hC, hrw, hac, hrl, hle, hh, hmk⟩ := id hI
  obtain ⟨h16, hlm⟩ := lenOK_le hle
  have hr1 : rw ≤ 401 := by omega
  have h1 : 1 ≤ rw := by omega
  refine lv_aload_n S.1 S.2.1 dL_law_734 rfl (lv_at hl 1 rfl) ?_
  refine lv_aload_n S.1 S.2.1 dL_law_735 rfl (lv_at hl 0 rfl) ?_
  refine lv_iload_n S.1 S.2.1 dL_law_736 rfl (lv_at hl 3 rfl) ?_
  refine lv_iconst (v := nI 1) S.1 S.2.1 dL_law_737 (by decide) ?_
  refine lv_iadd S.1 S.2.1 dL_law_738 (top_eq (nI_add _ _) ?_)
  refine sldN S hX hbl hbA hW (j := i + 1) rfl (by omega) (by omega) dL_law_739 ?_
  refine lv_aload_n S.1 S.2.1 dL_law_740 rfl (lv_at hl 0 rfl) ?_
  refine lv_iload_n S.1 S.2.1 dL_law_741 rfl (lv_at hl 3 rfl) ?_
  refine lv_iconst (v := nI 2) S.1 S.2.1 dL_law_742 (by decide) ?_
  refine lv_iadd S.1 S.2.1 dL_law_743 (top_eq (nI_add _ _) ?_)
  refine sldN S hX hbl hbA hW (j := i + 2) rfl (by omega) (by omega) dL_law_744 ?_
  refine lv_aload_n S.1 S.2.1 dL_law_745 rfl (lv_at hl 0 rfl) ?_
  refine lv_iload_n S.1 S.2.1 dL_law_746 rfl (lv_at hl 3 rfl) ?_
  refine lv_iconst (v := nI 3) S.1 S.2.1 dL_law_747 (by decide) ?_
  refine lv_iadd S.1 S.2.1 dL_law_748 (top_eq (nI_add _ _) ?_)
  refine sldN S hX hbl hbA hW (j := i + 3) rfl (by omega) (by omega) dL_law_749 ?_
  refine lv_aload_n S.1 S.2.1 dL_law_750 rfl (lv_at hl 0 rfl) ?_
  refine lv_iload_n S.1 S.2.1 dL_law_751 rfl (lv_at hl 3 rfl) ?_
  refine lv_iconst (v := nI 4) S.1 S.2.1 dL_law_752 (by decide) ?_
  refine lv_iadd S.1 S.2.1 dL_law_753 (top_eq (nI_add _ _) ?_)
  refine sldN S hX hbl hbA hW (j := i + 4) rfl (by omega) (by omega) dL_law_754 ?_
  refine kLi S (c_X5_since (l := l) (D := D) (cI := cI) (cZ := cZ) (cF := cF) G h1 hrl hlm) (cwV 4 S.2.2.2.2 gL_law_X5_since rfl rfl rfl ⟨rfl, v_X5_since⟩ ⟨(Nat.le_of_ble_eq_true rfl), (Nat.le_of_ble_eq_true rfl)⟩) hk hW 0 rfl rfl rfl rfl hl rfl (Nat.le_of_ble_eq_true rfl) dL_law_755 ⟨by show 30 + 2 * len + 0 ≤ 600000; omega, by show 45000 + 101 * len + 0 ≤ 7302250; omega⟩ (fun rC u H locs hpC hW => ?_)
  obtain ⟨rfl, rfl⟩ := hpC
  refine lv_aload_n S.1 S.2.1 dL_law_758 rfl (lv_at hl 2 rfl) ?_
  refine lv_aload_n S.1 S.2.1 dL_law_759 rfl (lv_at hl 0 rfl) ?_
  refine lv_iload_n S.1 S.2.1 dL_law_760 rfl (lv_at hl 3 rfl) ?_
  refine lv_iconst (v := nI 1) S.1 S.2.1 dL_law_761 (by decide) ?_
  refine lv_iadd S.1 S.2.1 dL_law_762 (top_eq (nI_add _ _) ?_)
  refine sldN S hX hbl hbA hW (j := i + 1) rfl (by omega) (by omega) dL_law_763 ?_
  refine lv_aload_n S.1 S.2.1 dL_law_764 rfl (lv_at hl 0 rfl) ?_
  refine lv_iload_n S.1 S.2.1 dL_law_765 rfl (lv_at hl 3 rfl) ?_
  refine lv_iconst (v := nI 2) S.1 S.2.1 dL_law_766 (by decide) ?_
  refine lv_iadd S.1 S.2.1 dL_law_767 (top_eq (nI_add _ _) ?_)
  refine sldN S hX hbl hbA hW (j := i + 2) rfl (by omega) (by omega) dL_law_768 ?_
  refine lv_aload_n S.1 S.2.1 dL_law_769 rfl (lv_at hl 0 rfl) ?_
  refine lv_iload_n S.1 S.2.1 dL_law_770 rfl (lv_at hl 3 rfl) ?_
  refine lv_iconst (v := nI 3) S.1 S.2.1 dL_law_771 (by decide) ?_
  refine lv_iadd S.1 S.2.1 dL_law_772 (top_eq (nI_add _ _) ?_)
  refine sldN S hX hbl hbA hW (j := i + 3) rfl (by omega) (by omega) dL_law_773 ?_
  refine lv_aload_n S.1 S.2.1 dL_law_774 rfl (lv_at hl 0 rfl) ?_
  refine lv_iload_n S.1 S.2.1 dL_law_775 rfl (lv_at hl 3 rfl) ?_
  refine lv_iconst (v := nI 4) S.1 S.2.1 dL_law_776 (by decide) ?_
  refine lv_iadd S.1 S.2.1 dL_law_777 (top_eq (nI_add _ _) ?_)
  refine sldN S hX hbl hbA hW (j := i + 4) rfl (by omega) (by omega) dL_law_778 ?_
  refine kRi S (c_X6_since (l := l) (D := D) (cI := cI) (cZ := cZ) (cF := cF) G hac) (cwV 4 S.2.2.2.2 gL_law_X6_since rfl rfl rfl ⟨rfl, v_X6_since⟩ ⟨(Nat.le_of_ble_eq_true rfl), (Nat.le_of_ble_eq_true rfl)⟩) hk hW 0 rfl rfl rfl rfl hl rfl (Nat.le_of_ble_eq_true rfl) dL_law_779 ⟨by show 30 + 2 * len + 0 + 0 ≤ 600000; omega, by show 45000 + 101 * len + 0 + 0 ≤ 7302250; omega⟩ (fun rM u H locs hpM hW => ?_)
  obtain ⟨rfl, rfl⟩ := hpM
  refine lv_icmp_eq (tgt := 902) S.1 S.2.1 dL_law_782 (by decide) (fun _ => ?_) (fun h => absurd (P_sin hI _ _ _ _) h)
  exact hback q qm qf g C R rw len F sz X mk fi ke ac iv hI H locs ls hW hl
set_option maxRecDepth 100000 in
set_option maxHeartbeats 4000000 in
theorem lc_marks {p : Program} {l : Launch} {e : Env} {s : State} {m : MethodId} {b : Nat} {below : List Frame} {meth : Method} {c : Code} {D : va_G} {cI cZ cF : ClassId} {Z : State → Prop} {L : Nat} {xs : Nat → Int32} (S : CallFix p m c cL_law 4 s #[Value.ref b] wsL_law RL) (hk : kn D cI cZ cF (fun q => s.heap.size ≤ q) s) (hX : va_X b L xs s s.heap) (hbl : b < s.heap.size) (hL : L ≤ 2560) {i : Nat} (hi : i + 5 ≤ L) (hback : lwG p l e s m b below meth c D cI cZ cF Z 902 i) : lwG p l e s m b below meth c D cI cZ cF Z 787 i := by
  intro q qm qf g C R rw len F sz X mk fi ke ac iv hI H locs ls hW hl
  have hbA : ¬ (fun q => s.heap.size ≤ q) b := Nat.not_le.mpr hbl
  obtain ⟨G, hgd, hC, hrw, hac, hrl, hle, hh, hmk⟩ := id hI
  obtain ⟨h16, hlm⟩ := lenOK_le hle
  have hr1 : rw ≤ 401 := by omega
  have h1 : 1 ≤ rw := by omega
  refine lv_aload_n S.1 S.2.1 dL_law_787 rfl (lv_at hl 1 rfl) ?_
  refine lv_aload_n S.1 S.2.1 dL_law_788 rfl (lv_at hl 0 rfl) ?_
  refine lv_iload_n S.1 S.2.1 dL_law_789 rfl (lv_at hl 3 rfl) ?_
  refine lv_iconst (v := nI 1) S.1 S.2.1 dL_law_790 (by decide) ?_
  refine lv_iadd S.1 S.2.1 dL_law_791 (top_eq (nI_add _ _) ?_)
  refine sldN S hX hbl hbA hW (j := i + 1) rfl (by omega) (by omega) dL_law_792 ?_
  refine kLi S (c_X5_marks (l := l) (D := D) (cI := cI) (cZ := cZ) (cF := cF) ) (cwV 1 S.2.2.2.2 gL_law_X5_marks rfl rfl rfl ⟨rfl, v_X5_marks⟩ ⟨(Nat.le_of_ble_eq_true rfl), (Nat.le_of_ble_eq_true rfl)⟩) hk hW 0 rfl rfl rfl rfl hl rfl (Nat.le_of_ble_eq_true rfl) dL_law_793 ⟨by show 30 + 2 * len + 0 ≤ 600000; omega, by show 45000 + 101 * len + 0 ≤ 7302250; omega⟩ (fun rC u H locs hpC hW => ?_)
  rcases hb : mrkB g (xs (i + 1)) with _ | _
  · obtain ⟨rfl, rfl⟩ := hpC.2 hb
    refine lv_aload_n S.1 S.2.1 dL_law_796 rfl (lv_at hl 2 rfl) ?_
    refine lv_aload_n S.1 S.2.1 dL_law_797 rfl (lv_at hl 0 rfl) ?_
    refine lv_iload_n S.1 S.2.1 dL_law_798 rfl (lv_at hl 3 rfl) ?_
    refine lv_iconst (v := nI 1) S.1 S.2.1 dL_law_799 (by decide) ?_
    refine lv_iadd S.1 S.2.1 dL_law_800 (top_eq (nI_add _ _) ?_)
    refine sldN S hX hbl hbA hW (j := i + 1) rfl (by omega) (by omega) dL_law_801 ?_
    refine kRi S (c_X6_marks (l := l) (D := D) (cI := cI) (cZ := cZ) (cF := cF) ) (cwV 1 S.2.2.2.2 gL_law_X6_marks rfl rfl rfl ⟨rfl, v_X6_marks⟩ ⟨(Nat.le_of_ble_eq_true rfl), (Nat.le_of_ble_eq_true rfl)⟩) hk hW 0 rfl rfl rfl rfl hl rfl (Nat.le_of_ble_eq_true rfl) dL_law_802 ⟨by show 30 + 2 * len + 0 + 0 ≤ 600000; omega, by show 45000 + 101 * len + 0 + 0 ≤ 7302250; omega⟩ (fun rM u H locs hpM hW => ?_)
    obtain ⟨rfl, rfl⟩ := hpM.2 ((P_mrk G _).symm.trans hb)
    refine lv_icmp_eq (tgt := 902) S.1 S.2.1 dL_law_805 (by decide) (fun _ => ?_) (fun h => absurd rfl h)
    exact hback q qm qf g C R rw len F sz X mk fi ke ac iv hI H locs ls hW hl
  · obtain ⟨rfl, rfl⟩ := hpC.1 hb
    refine lv_aload_n S.1 S.2.1 dL_law_796 rfl (lv_at hl 2 rfl) ?_
    refine lv_aload_n S.1 S.2.1 dL_law_797 rfl (lv_at hl 0 rfl) ?_
    refine lv_iload_n S.1 S.2.1 dL_law_798 rfl (lv_at hl 3 rfl) ?_
    refine lv_iconst (v := nI 1) S.1 S.2.1 dL_law_799 (by decide) ?_
    refine lv_iadd S.1 S.2.1 dL_law_800 (top_eq (nI_add _ _) ?_)
    refine sldN S hX hbl hbA hW (j := i + 1) rfl (by omega) (by omega) dL_law_801 ?_
    refine kRi S (c_X6_marks (l := l) (D := D) (cI := cI) (cZ := cZ) (cF := cF) ) (cwV 1 S.2.2.2.2 gL_law_X6_marks rfl rfl rfl ⟨rfl, v_X6_marks⟩ ⟨(Nat.le_of_ble_eq_true rfl), (Nat.le_of_ble_eq_true rfl)⟩) hk hW 0 rfl rfl rfl rfl hl rfl (Nat.le_of_ble_eq_true rfl) dL_law_802 ⟨by show 30 + 2 * len + 0 + 0 ≤ 600000; omega, by show 45000 + 101 * len + 0 + 0 ≤ 7302250; omega⟩ (fun rM u H locs hpM hW => ?_)
    obtain ⟨rfl, rfl⟩ := hpM.1 ((P_mrk G _).symm.trans hb)
    refine lv_icmp_eq (tgt := 902) S.1 S.2.1 dL_law_805 (by decide) (fun _ => ?_) (fun h => absurd rfl h)
    exact hback q qm qf g C R rw len F sz X _ fi ke ac iv ⟨G, hgd, hC, hrw, hac, hrl, hle, hh, P_mk2 G hb⟩ H locs ls hW hl
set_option maxRecDepth 100000 in
set_option maxHeartbeats 4000000 in
theorem lc_near {p : Program} {l : Launch} {e : Env} {s : State} {m : MethodId} {b : Nat} {below : List Frame} {meth : Method} {c : Code} {D : va_G} {cI cZ cF : ClassId} {Z : State → Prop} {L : Nat} {xs : Nat → Int32} (S : CallFix p m c cL_law 4 s #[Value.ref b] wsL_law RL) (hk : kn D cI cZ cF (fun q => s.heap.size ≤ q) s) (hX : va_X b L xs s s.heap) (hbl : b < s.heap.size) (hL : L ≤ 2560) {i : Nat} (hi : i + 5 ≤ L) (hback : lwG p l e s m b below meth c D cI cZ cF Z 902 i) : lwG p l e s m b below meth c D cI cZ cF Z 810 i := by
  intro q qm qf g C R rw len F sz X mk fi ke ac iv hI H locs ls hW hl
  have hbA : ¬ (fun q => s.heap.size ≤ q) b := Nat.not_le.mpr hbl
  obtain ⟨G, hgd, hC, hrw, hac, hrl, hle, hh, hmk⟩ := id hI
  obtain ⟨h16, hlm⟩ := lenOK_le hle
  have hr1 : rw ≤ 401 := by omega
  have h1 : 1 ≤ rw := by omega
  refine lv_aload_n S.1 S.2.1 dL_law_810 rfl (lv_at hl 1 rfl) ?_
  refine lv_aload_n S.1 S.2.1 dL_law_811 rfl (lv_at hl 0 rfl) ?_
  refine lv_iload_n S.1 S.2.1 dL_law_812 rfl (lv_at hl 3 rfl) ?_
  refine lv_iconst (v := nI 1) S.1 S.2.1 dL_law_813 (by decide) ?_
  refine lv_iadd S.1 S.2.1 dL_law_814 (top_eq (nI_add _ _) ?_)
  refine sldN S hX hbl hbA hW (j := i + 1) rfl (by omega) (by omega) dL_law_815 ?_
  refine lv_aload_n S.1 S.2.1 dL_law_816 rfl (lv_at hl 0 rfl) ?_
  refine lv_iload_n S.1 S.2.1 dL_law_817 rfl (lv_at hl 3 rfl) ?_
  refine lv_iconst (v := nI 2) S.1 S.2.1 dL_law_818 (by decide) ?_
  refine lv_iadd S.1 S.2.1 dL_law_819 (top_eq (nI_add _ _) ?_)
  refine sldN S hX hbl hbA hW (j := i + 2) rfl (by omega) (by omega) dL_law_820 ?_
  refine kLi S (c_X5_near (l := l) (D := D) (cI := cI) (cZ := cZ) (cF := cF) G) (cwV 2 S.2.2.2.2 gL_law_X5_near rfl rfl rfl ⟨rfl, v_X5_near⟩ ⟨(Nat.le_of_ble_eq_true rfl), (Nat.le_of_ble_eq_true rfl)⟩) hk hW 0 rfl rfl rfl rfl hl rfl (Nat.le_of_ble_eq_true rfl) dL_law_821 ⟨by show 30 + 2 * len + 0 ≤ 600000; omega, by show 45000 + 101 * len + 0 ≤ 7302250; omega⟩ (fun rC u H locs hpC hW => ?_)
  obtain ⟨rfl, rfl⟩ := hpC
  refine lv_aload_n S.1 S.2.1 dL_law_824 rfl (lv_at hl 2 rfl) ?_
  refine lv_aload_n S.1 S.2.1 dL_law_825 rfl (lv_at hl 0 rfl) ?_
  refine lv_iload_n S.1 S.2.1 dL_law_826 rfl (lv_at hl 3 rfl) ?_
  refine lv_iconst (v := nI 1) S.1 S.2.1 dL_law_827 (by decide) ?_
  refine lv_iadd S.1 S.2.1 dL_law_828 (top_eq (nI_add _ _) ?_)
  refine sldN S hX hbl hbA hW (j := i + 1) rfl (by omega) (by omega) dL_law_829 ?_
  refine lv_aload_n S.1 S.2.1 dL_law_830 rfl (lv_at hl 0 rfl) ?_
  refine lv_iload_n S.1 S.2.1 dL_law_831 rfl (lv_at hl 3 rfl) ?_
  refine lv_iconst (v := nI 2) S.1 S.2.1 dL_law_832 (by decide) ?_
  refine lv_iadd S.1 S.2.1 dL_law_833 (top_eq (nI_add _ _) ?_)
  refine sldN S hX hbl hbA hW (j := i + 2) rfl (by omega) (by omega) dL_law_834 ?_
  refine kRi S (c_X6_near (l := l) (D := D) (cI := cI) (cZ := cZ) (cF := cF) G) (cwV 2 S.2.2.2.2 gL_law_X6_near rfl rfl rfl ⟨rfl, v_X6_near⟩ ⟨(Nat.le_of_ble_eq_true rfl), (Nat.le_of_ble_eq_true rfl)⟩) hk hW 0 rfl rfl rfl rfl hl rfl (Nat.le_of_ble_eq_true rfl) dL_law_835 ⟨by show 30 + 2 * len + 0 + 0 ≤ 600000; omega, by show 45000 + 101 * len + 0 + 0 ≤ 7302250; omega⟩ (fun rM u H locs hpM hW => ?_)
  obtain ⟨rfl, fi1, rfl⟩ := hpM
  refine lv_icmp_eq (tgt := 902) S.1 S.2.1 dL_law_838 (by decide) (fun _ => ?_) (fun h => absurd (P_ner hI _ _) h)
  exact hback q qm qf g C R rw len F sz X mk fi1 ke ac iv hI H locs ls hW hl
set_option maxRecDepth 100000 in
set_option maxHeartbeats 4000000 in
theorem lc_worst {p : Program} {l : Launch} {e : Env} {s : State} {m : MethodId} {b : Nat} {below : List Frame} {meth : Method} {c : Code} {D : va_G} {cI cZ cF : ClassId} {Z : State → Prop} {L : Nat} {xs : Nat → Int32} (S : CallFix p m c cL_law 4 s #[Value.ref b] wsL_law RL) (hk : kn D cI cZ cF (fun q => s.heap.size ≤ q) s) (hX : va_X b L xs s s.heap) (hbl : b < s.heap.size) (hL : L ≤ 2560) {i : Nat} (hi : i + 5 ≤ L) (hback : lwG p l e s m b below meth c D cI cZ cF Z 902 i) : lwG p l e s m b below meth c D cI cZ cF Z 843 i := by
  intro q qm qf g C R rw len F sz X mk fi ke ac iv hI H locs ls hW hl
  have hbA : ¬ (fun q => s.heap.size ≤ q) b := Nat.not_le.mpr hbl
  obtain ⟨G, hgd, hC, hrw, hac, hrl, hle, hh, hmk⟩ := id hI
  obtain ⟨h16, hlm⟩ := lenOK_le hle
  have hr1 : rw ≤ 401 := by omega
  have h1 : 1 ≤ rw := by omega
  refine lv_aload_n S.1 S.2.1 dL_law_843 rfl (lv_at hl 1 rfl) ?_
  refine kLi S (c_X5_worst (l := l) (D := D) (cI := cI) (cZ := cZ) (cF := cF) G) (cwV 0 S.2.2.2.2 gL_law_X5_worst rfl rfl rfl ⟨rfl, v_X5_worst⟩ ⟨(Nat.le_of_ble_eq_true rfl), (Nat.le_of_ble_eq_true rfl)⟩) hk hW 0 rfl rfl rfl rfl hl rfl (Nat.le_of_ble_eq_true rfl) dL_law_844 ⟨by show 30 + 2 * len + 0 ≤ 600000; omega, by show 45000 + 101 * len + 0 ≤ 7302250; omega⟩ (fun rC u H locs hpC hW => ?_)
  obtain ⟨rfl, rfl⟩ := hpC
  refine lv_aload_n S.1 S.2.1 dL_law_847 rfl (lv_at hl 2 rfl) ?_
  refine kRi S (c_X6_worst (l := l) (D := D) (cI := cI) (cZ := cZ) (cF := cF) G) (cwV 0 S.2.2.2.2 gL_law_X6_worst rfl rfl rfl ⟨rfl, v_X6_worst⟩ ⟨(Nat.le_of_ble_eq_true rfl), (Nat.le_of_ble_eq_true rfl)⟩) hk hW 0 rfl rfl rfl rfl hl rfl (Nat.le_of_ble_eq_true rfl) dL_law_848 ⟨by show 30 + 2 * len + 0 + 0 ≤ 600000; omega, by show 45000 + 101 * len + 0 + 0 ≤ 7302250; omega⟩ (fun rM u H locs hpM hW => ?_)
  obtain ⟨rfl, fi1, rfl⟩ := hpM
  refine lv_icmp_eq (tgt := 902) S.1 S.2.1 dL_law_851 (by decide) (fun _ => ?_) (fun h => absurd (P_wrs hI) h)
  exact hback q qm qf g C R rw len F sz X mk fi1 ke ac iv hI H locs ls hW hl
set_option maxRecDepth 100000 in
set_option maxHeartbeats 4000000 in
theorem lc_hits {p : Program} {l : Launch} {e : Env} {s : State} {m : MethodId} {b : Nat} {below : List Frame} {meth : Method} {c : Code} {D : va_G} {cI cZ cF : ClassId} {Z : State → Prop} {L : Nat} {xs : Nat → Int32} (S : CallFix p m c cL_law 4 s #[Value.ref b] wsL_law RL) (hk : kn D cI cZ cF (fun q => s.heap.size ≤ q) s) (hX : va_X b L xs s s.heap) (hbl : b < s.heap.size) (hL : L ≤ 2560) {i : Nat} (hi : i + 5 ≤ L) (hback : lwG p l e s m b below meth c D cI cZ cF Z 902 i) : lwG p l e s m b below meth c D cI cZ cF Z 856 i := by
  intro q qm qf g C R rw len F sz X mk fi ke ac iv hI H locs ls hW hl
  have hbA : ¬ (fun q => s.heap.size ≤ q) b := Nat.not_le.mpr hbl
  obtain ⟨G, hgd, hC, hrw, hac, hrl, hle, hh, hmk⟩ := id hI
  obtain ⟨h16, hlm⟩ := lenOK_le hle
  have hr1 : rw ≤ 401 := by omega
  have h1 : 1 ≤ rw := by omega
  refine lv_aload_n S.1 S.2.1 dL_law_856 rfl (lv_at hl 1 rfl) ?_
  refine lv_aload_n S.1 S.2.1 dL_law_857 rfl (lv_at hl 0 rfl) ?_
  refine lv_iload_n S.1 S.2.1 dL_law_858 rfl (lv_at hl 3 rfl) ?_
  refine lv_iconst (v := nI 1) S.1 S.2.1 dL_law_859 (by decide) ?_
  refine lv_iadd S.1 S.2.1 dL_law_860 (top_eq (nI_add _ _) ?_)
  refine sldN S hX hbl hbA hW (j := i + 1) rfl (by omega) (by omega) dL_law_861 ?_
  refine kLi S (c_X5_hits (l := l) (D := D) (cI := cI) (cZ := cZ) (cF := cF) G) (cwV 1 S.2.2.2.2 gL_law_X5_hits rfl rfl rfl ⟨rfl, v_X5_hits⟩ ⟨(Nat.le_of_ble_eq_true rfl), (Nat.le_of_ble_eq_true rfl)⟩) hk hW 0 rfl rfl rfl rfl hl rfl (Nat.le_of_ble_eq_true rfl) dL_law_862 ⟨by show 30 + 2 * len + 0 ≤ 600000; omega, by show 45000 + 101 * len + 0 ≤ 7302250; omega⟩ (fun rC u H locs hpC hW => ?_)
  obtain ⟨rfl, sz1, X2, rfl⟩ := hpC
  refine lv_aload_n S.1 S.2.1 dL_law_865 rfl (lv_at hl 2 rfl) ?_
  refine lv_aload_n S.1 S.2.1 dL_law_866 rfl (lv_at hl 0 rfl) ?_
  refine lv_iload_n S.1 S.2.1 dL_law_867 rfl (lv_at hl 3 rfl) ?_
  refine lv_iconst (v := nI 1) S.1 S.2.1 dL_law_868 (by decide) ?_
  refine lv_iadd S.1 S.2.1 dL_law_869 (top_eq (nI_add _ _) ?_)
  refine sldN S hX hbl hbA hW (j := i + 1) rfl (by omega) (by omega) dL_law_870 ?_
  refine kRi S (c_X6_hits (l := l) (D := D) (cI := cI) (cZ := cZ) (cF := cF) G (P_nxt hI)) (cwV 1 S.2.2.2.2 gL_law_X6_hits rfl rfl rfl ⟨rfl, v_X6_hits⟩ ⟨(Nat.le_of_ble_eq_true rfl), (Nat.le_of_ble_eq_true rfl)⟩) hk hW 0 rfl rfl rfl rfl hl rfl (Nat.le_of_ble_eq_true rfl) dL_law_871 ⟨by show 30 + 2 * len + 0 + 0 ≤ 600000; omega, by show 45000 + 101 * len + 0 + 0 ≤ 7302250; omega⟩ (fun rM u H locs hpM hW => ?_)
  obtain ⟨rfl, fi1, iv1, rfl⟩ := hpM
  refine lv_icmp_eq (tgt := 902) S.1 S.2.1 dL_law_874 (by decide) (fun _ => ?_) (fun h => absurd (P_hit hI _ _ _) h)
  exact hback q qm qf g C R rw len F sz1 X2 mk fi1 ke ac iv1 hI H locs ls hW hl
set_option maxRecDepth 100000 in
set_option maxHeartbeats 4000000 in
theorem lc_count {p : Program} {l : Launch} {e : Env} {s : State} {m : MethodId} {b : Nat} {below : List Frame} {meth : Method} {c : Code} {D : va_G} {cI cZ cF : ClassId} {Z : State → Prop} {L : Nat} {xs : Nat → Int32} (S : CallFix p m c cL_law 4 s #[Value.ref b] wsL_law RL) (hk : kn D cI cZ cF (fun q => s.heap.size ≤ q) s) (hX : va_X b L xs s s.heap) (hbl : b < s.heap.size) (hL : L ≤ 2560) {i : Nat} (hi : i + 5 ≤ L) (hback : lwG p l e s m b below meth c D cI cZ cF Z 902 i) : lwG p l e s m b below meth c D cI cZ cF Z 879 i := by
  intro q qm qf g C R rw len F sz X mk fi ke ac iv hI H locs ls hW hl
  have hbA : ¬ (fun q => s.heap.size ≤ q) b := Nat.not_le.mpr hbl
  obtain ⟨G, hgd, hC, hrw, hac, hrl, hle, hh, hmk⟩ := id hI
  obtain ⟨h16, hlm⟩ := lenOK_le hle
  have hr1 : rw ≤ 401 := by omega
  have h1 : 1 ≤ rw := by omega
  refine lv_aload_n S.1 S.2.1 dL_law_879 rfl (lv_at hl 1 rfl) ?_
  refine lv_aload_n S.1 S.2.1 dL_law_880 rfl (lv_at hl 0 rfl) ?_
  refine lv_iload_n S.1 S.2.1 dL_law_881 rfl (lv_at hl 3 rfl) ?_
  refine lv_iconst (v := nI 1) S.1 S.2.1 dL_law_882 (by decide) ?_
  refine lv_iadd S.1 S.2.1 dL_law_883 (top_eq (nI_add _ _) ?_)
  refine sldN S hX hbl hbA hW (j := i + 1) rfl (by omega) (by omega) dL_law_884 ?_
  refine kLi S (c_X5_count (l := l) (D := D) (cI := cI) (cZ := cZ) (cF := cF) G) (cwV 1 S.2.2.2.2 gL_law_X5_count rfl rfl rfl ⟨rfl, v_X5_count⟩ ⟨(Nat.le_of_ble_eq_true rfl), (Nat.le_of_ble_eq_true rfl)⟩) hk hW 0 rfl rfl rfl rfl hl rfl (Nat.le_of_ble_eq_true rfl) dL_law_885 ⟨by show 30 + 2 * len + 0 ≤ 600000; omega, by show 45000 + 101 * len + 0 ≤ 7302250; omega⟩ (fun rC u H locs hpC hW => ?_)
  obtain ⟨hpC, rfl⟩ := hpC
  refine lv_aload_n S.1 S.2.1 dL_law_888 rfl (lv_at hl 2 rfl) ?_
  refine lv_aload_n S.1 S.2.1 dL_law_889 rfl (lv_at hl 0 rfl) ?_
  refine lv_iload_n S.1 S.2.1 dL_law_890 rfl (lv_at hl 3 rfl) ?_
  refine lv_iconst (v := nI 1) S.1 S.2.1 dL_law_891 (by decide) ?_
  refine lv_iadd S.1 S.2.1 dL_law_892 (top_eq (nI_add _ _) ?_)
  refine sldN S hX hbl hbA hW (j := i + 1) rfl (by omega) (by omega) dL_law_893 ?_
  refine kRi S (c_X6_count (l := l) (D := D) (cI := cI) (cZ := cZ) (cF := cF) G) (cwV 1 S.2.2.2.2 gL_law_X6_count rfl rfl rfl ⟨rfl, v_X6_count⟩ ⟨(Nat.le_of_ble_eq_true rfl), (Nat.le_of_ble_eq_true rfl)⟩) hk hW 0 rfl rfl rfl rfl hl rfl (Nat.le_of_ble_eq_true rfl) dL_law_894 ⟨by show 30 + 2 * len + 0 + 0 ≤ 600000; omega, by show 45000 + 101 * len + 0 + 0 ≤ 7302250; omega⟩ (fun rM u H locs hpM hW => ?_)
  obtain ⟨hpM, fi1, rfl⟩ := hpM
  have heq : rC = rM := lw_count hI hpC hpM
  refine lv_icmp_eq (tgt := 902) S.1 S.2.1 dL_law_897 (by decide) (fun _ => ?_) (fun h => absurd heq h)
  exact hback q qm qf g C R rw len F sz X mk fi1 ke ac iv hI H locs ls hW hl
