abbrev r_X6_keep : Room := { frames := 1, cells := 0, slots := 0, locals := 21 }
theorem v_X6_keep : yX6_keep.cls ≠ "java/lang/invoke/MethodHandle" ∧ yX6_keep.cls ≠ "java/lang/invoke/VarHandle" ∧ (parseMethodDescriptor yX6_keep.desc).map (fun d => d.parameters.length) = some 0 := by decide +kernel
set_option maxRecDepth 100000 in
set_option maxHeartbeats 4000000 in
theorem c_X6_keep {l : Launch} {D : va_G} {cI cZ cF : ClassId} {q : Nat → Nat} {g : Gr} {fi ke : Nat → Int32} {ac : Nat} {mk : Int32} {iv : Nat → Int32}  (G : Gok g) (hac : ac ≤ 400) : cV_ l D cI cZ cF yX6_keep wsX6_keep r_X6_keep [.ref (q 0)] (wM q cI cZ cF g fi ke ac mk iv) (fun u => ∃ ke', (∀ p, p < 100 * ac → ke' p = ke p) ∧ (∀ p, p < 100 → ke' (100 * ac + p) = crs (fi p)) ∧ u = wM q cI cZ cF g fi ke' ac mk iv) 0 0 := by
  refine cV_of (cc := cX6_keep) (maxL := 2) (plainFor_of_name (by decide +kernel)) rfl (Nat.le_of_ble_eq_true rfl) ?_
  intro p e s m args below meth c A Q ls S hnm hk hW hl hR
  have hl : lv_has ls 2 [(0, .ref (q 0))] := hl
  have hwsX60 : ∀ x ∈ wsX60, x ∈ wsX6_keep := fun x h => List.mem_cons_of_mem _ (List.mem_append_right _ h)
  refine lv_iconst (v := nI 0) S.1 S.2.1 dX6_keep_0 (by decide) ?_
  refine lv_istore_n (lv' := [(1, .int (nI 0)), (0, .ref (q 0))]) S.1 S.2.1 dX6_keep_1 rfl hl (by decide) rfl (fun ls hl => ?_)
  have L2 : ∀ (dd : Nat), ∀ (i : Nat), ∀ (k1 : Nat → Int32), ((∀ p, p < 100 * ac → k1 p = ke p) ∧ ∀ p, p < i → k1 (100 * ac + p) = crs (fi p)) → (i ≤ 100) → 100 < i + dd → ∀ (H : Heap) (locs : List Loc) (ls : Array Slot), wd D A s H locs (wM q cI cZ cF g fi k1 ac mk iv) → lv_has ls 2 [(0, .ref (q 0)), (1, .int (nI i))] → W p l e r_X6_keep s m args below meth c H locs 0 0 Q (F0 m 2 ls []) := by
    intro dd
    induction dd with
    | zero => intros; omega
    | succ dd ih2 =>
      intro i k1 hF hi hdd H locs ls hW hl
      refine lv_iload_n S.1 S.2.1 dX6_keep_2 rfl (lv_at hl 1 rfl) ?_
      refine lv_bipush (v := nI 100) S.1 S.2.1 dX6_keep_3 (by decide) ?_
      refine icge_n (tgt := 37) S (by omega) (by omega) dX6_keep_5 (by decide) (fun c_5 => ?_) (fun c_5 => ?_)
      · skip
        exact hR _ _ _ _ _ _ _ dX6_keep_37 (Nat.le_of_ble_eq_true rfl) (Nat.le_of_ble_eq_true rfl) hW ⟨_, hF.1, (by have e : i = 100 := (by omega); subst e; exact hF.2), rfl⟩
      · skip
        refine lv_aload_n S.1 S.2.1 dX6_keep_8 rfl (lv_at hl 0 rfl) ?_
        refine gf S hk hW 0 rfl rfl hwsX60 9 (by decide) 1 rfl rfl dX6_keep_9 ?_
        refine lv_bipush (v := nI 100) S.1 S.2.1 dX6_keep_12 (by decide) ?_
        refine lv_aload_n S.1 S.2.1 dX6_keep_14 rfl (lv_at hl 0 rfl) ?_
        refine gf S hk hW 0 rfl rfl hwsX60 10 (by decide) 2 rfl rfl dX6_keep_15 ?_
        refine lv_imul S.1 S.2.1 dX6_keep_18 (top_eq (pk_mul _ _) ?_)
        refine lv_iload_n S.1 S.2.1 dX6_keep_19 rfl (lv_at hl 1 rfl) ?_
        refine lv_iadd S.1 S.2.1 dX6_keep_20 (top_eq (nI_add _ _) ?_)
        refine lv_aload_n S.1 S.2.1 dX6_keep_21 rfl (lv_at hl 0 rfl) ?_
        refine gf S hk hW 0 rfl rfl hwsX60 8 (by decide) 3 rfl rfl dX6_keep_22 ?_
        refine lv_iload_n S.1 S.2.1 dX6_keep_25 rfl (lv_at hl 1 rfl) ?_
        refine ild S hk hW 6 rfl i rfl (by omega) (by omega) dX6_keep_26 ?_
        refine kSi S (c_X6_coarse (l := l) (D := D) (cI := cI) (cZ := cZ) (cF := cF)) (va_cwS 1 S.2.2.2.2 gX6_keep_X6_coarse rfl rfl rfl v_X6_coarse ⟨(Nat.le_of_ble_eq_true rfl), (Nat.le_of_ble_eq_true rfl)⟩) hk hW rfl hl rfl (Nat.le_of_ble_eq_true rfl) dX6_keep_27 ⟨(Nat.le_of_ble_eq_true rfl), (Nat.le_of_ble_eq_true rfl)⟩ (fun r u H locs hp hW => ?_)
        obtain ⟨rfl, rfl⟩ := hp
        refine ist (w' := wM q cI cZ cF g fi (upd k1 ((100 * ac) + i) (crs (fi i))) ac mk iv) S hk hW 7 rfl ((100 * ac) + i) rfl (by omega) (by omega) dX6_keep_30 rfl (fun H locs hW => ?_)
        refine lv_iinc (v := nI (i + 1)) (lv' := [(1, .int (nI (i + 1))), (0, .ref (q 0))]) (k := 1) S.1 S.2.1 dX6_keep_31 hl rfl (nI_1 _) (by decide) rfl (fun ls hl => ?_)
        refine lv_goto (tgt := 2) S.1 S.2.1 dX6_keep_34 (by decide) ?_
        exact ih2 (i + 1) (upd k1 ((100 * ac) + i) (crs (fi i))) (keepM_step hF) (by omega) (by omega) _ _ _ hW (lv_sub hl [1, 0] rfl)
  exact L2 (100 + 1) 0 ke ⟨fun p _ => rfl, fun p hp => absurd hp (Nat.not_lt_zero p)⟩ (by omega) (by omega) _ _ _ hW (lv_sub hl [1, 0] rfl)
abbrev r_X6_did : Room := { frames := 2, cells := 0, slots := 0, locals := 42 }
theorem v_X6_did : yX6_did.cls ≠ "java/lang/invoke/MethodHandle" ∧ yX6_did.cls ≠ "java/lang/invoke/VarHandle" ∧ (parseMethodDescriptor yX6_did.desc).map (fun d => d.parameters.length) = some 0 := by decide +kernel
set_option maxRecDepth 100000 in
set_option maxHeartbeats 4000000 in
theorem c_X6_did {l : Launch} {D : va_G} {cI cZ cF : ClassId} {q : Nat → Nat} {g : Gr} {fi ke : Nat → Int32} {ac : Nat} {mk : Int32} {iv : Nat → Int32}  (G : Gok g) (hac : ac ≤ 399) : cV_ l D cI cZ cF yX6_did wsX6_did r_X6_did [.ref (q 0)] (wM q cI cZ cF g fi ke ac mk iv) (fun u => ∃ ke', (∀ p, p < 100 * (ac + 1) → ke' p = ke p) ∧ (∀ p, p < 100 → ke' (100 * (ac + 1) + p) = crs ((lrn g (-1000) (-1000)).1 p)) ∧ u = wM q cI cZ cF g (lrn g (-1000) (-1000)).1 ke' (ac + 1) mk iv) 0 0 := by
  refine cV_of (cc := cX6_did) (maxL := 1) (plainFor_of_name (by decide +kernel)) rfl (Nat.le_of_ble_eq_true rfl) ?_
  intro p e s m args below meth c A Q ls S hnm hk hW hl hR
  have hl : lv_has ls 1 [(0, .ref (q 0))] := hl
  have hwsX60 : ∀ x ∈ wsX60, x ∈ wsX6_did := fun x h => List.mem_cons_of_mem _ (List.mem_append_right _ h)
  have hN := Gok_N G; have hN2 := Gok_N2 G; have hKK := Gok_K G
  refine lv_aload_n S.1 S.2.1 dX6_did_0 rfl (lv_at hl 0 rfl) ?_
  refine lv_dup S.1 S.2.1 dX6_did_1 rfl ?_
  refine gf S hk hW 0 rfl rfl hwsX60 10 (by decide) 1 rfl rfl dX6_did_2 ?_
  refine lv_iconst (v := nI 1) S.1 S.2.1 dX6_did_5 (by decide) ?_
  refine lv_iadd S.1 S.2.1 dX6_did_6 (top_eq (nI_add _ _) ?_)
  refine pf (ty := .int) (w' := wM q cI cZ cF g fi ke (ac + 1) mk iv) S hk hW 0 rfl rfl hwsX60 tyX6 tyX6_ok nmX6 10 (by decide) 1 rfl rfl (by decide +kernel) rfl rfl (Nat.le_of_ble_eq_true rfl) dX6_did_7 rfl (fun H locs hW => ?_)
  refine lv_aload_n S.1 S.2.1 dX6_did_10 rfl (lv_at hl 0 rfl) ?_
  refine lv_sipush (v := (-1000)) S.1 S.2.1 dX6_did_11 (by decide) ?_
  refine lv_sipush (v := (-1000)) S.1 S.2.1 dX6_did_14 (by decide) ?_
  refine kVi S (c_X6_learn (l := l) (D := D) (cI := cI) (cZ := cZ) (cF := cF) G) (cwV 2 S.2.2.2.2 gX6_did_X6_learn rfl rfl rfl ⟨rfl, v_X6_learn⟩ ⟨(Nat.le_of_ble_eq_true rfl), (Nat.le_of_ble_eq_true rfl)⟩) hk hW 0 rfl rfl rfl rfl hl rfl (Nat.le_of_ble_eq_true rfl) dX6_did_17 ⟨(Nat.le_of_ble_eq_true rfl), (Nat.le_of_ble_eq_true rfl)⟩ (fun r u H locs hp hW => ?_)
  obtain ⟨rfl, rfl⟩ := hp
  refine lv_pop S.1 S.2.1 dX6_did_20 rfl ?_
  refine lv_aload_n S.1 S.2.1 dX6_did_21 rfl (lv_at hl 0 rfl) ?_
  refine kVv S (c_X6_keep (l := l) (D := D) (cI := cI) (cZ := cZ) (cF := cF) G (by first | assumption | omega)) (cwV 0 S.2.2.2.2 gX6_did_X6_keep rfl rfl rfl ⟨rfl, v_X6_keep⟩ ⟨(Nat.le_of_ble_eq_true rfl), (Nat.le_of_ble_eq_true rfl)⟩) hk hW 0 rfl rfl rfl rfl hl rfl (Nat.le_of_ble_eq_true rfl) dX6_did_22 ⟨(Nat.le_of_ble_eq_true rfl), (Nat.le_of_ble_eq_true rfl)⟩ (fun u H locs hp hW => ?_)
  obtain ⟨ke'_1, hKo, hKn, rfl⟩ := hp
  exact hR _ _ _ _ _ _ _ dX6_did_25 (Nat.le_of_ble_eq_true rfl) (Nat.le_of_ble_eq_true rfl) hW ⟨_, hKo, hKn, rfl⟩
abbrev r_X6_there : Room := { frames := 0, cells := 0, slots := 0, locals := 0 }
theorem v_X6_there : yX6_there.cls ≠ "java/lang/invoke/MethodHandle" ∧ yX6_there.cls ≠ "java/lang/invoke/VarHandle" ∧ (parseMethodDescriptor yX6_there.desc).map (fun d => d.parameters.length) = some 0 := by decide +kernel
set_option maxRecDepth 100000 in
set_option maxHeartbeats 4000000 in
theorem c_X6_there {l : Launch} {D : va_G} {cI cZ cF : ClassId} {q : Nat → Nat} {g : Gr} {fi ke : Nat → Int32} {ac : Nat} {mk : Int32} {iv : Nat → Int32}  (G : Gok g) : cI_ l D cI cZ cF yX6_there wsX6_there r_X6_there [.ref (q 0)] (wM q cI cZ cF g fi ke ac mk iv) (fun r u => r = nI (cntT g (gK g)) ∧ u = wM q cI cZ cF g fi ke ac mk iv) 0 0 := by
  refine cI_of (cc := cX6_there) (maxL := 3) (rt := .int) (plainFor_of_name (by decide +kernel)) rfl (Nat.le_of_ble_eq_true rfl) ?_
  intro p e s m args below meth c A Q ls S hk hW hl hR
  have hl : lv_has ls 3 [(0, .ref (q 0))] := hl
  have hwsX60 : ∀ x ∈ wsX60, x ∈ wsX6_there := fun x h => List.mem_cons_of_mem _ (List.mem_append_right _ h)
  have hN := Gok_N G; have hN2 := Gok_N2 G; have hKK := Gok_K G
  refine lv_iconst (v := nI 0) S.1 S.2.1 dX6_there_0 (by decide) ?_
  refine lv_istore_n (lv' := [(1, .int (nI 0)), (0, .ref (q 0))]) S.1 S.2.1 dX6_there_1 rfl hl (by decide) rfl (fun ls hl => ?_)
  refine lv_iconst (v := nI 0) S.1 S.2.1 dX6_there_2 (by decide) ?_
  refine lv_istore_n (lv' := [(2, .int (nI 0)), (1, .int (nI 0)), (0, .ref (q 0))]) S.1 S.2.1 dX6_there_3 rfl hl (by decide) rfl (fun ls hl => ?_)
  have L4 : ∀ (dd : Nat), ∀ (n : Nat), ∀ (i : Nat), (n = cntT g i) → (i ≤ gK g) → gK g < i + dd → ∀ (H : Heap) (locs : List Loc) (ls : Array Slot), wd D A s H locs (wM q cI cZ cF g fi ke ac mk iv) → lv_has ls 3 [(0, .ref (q 0)), (1, .int (nI n)), (2, .int (nI i))] → W p l e r_X6_there s m args below meth c H locs 0 0 Q (F0 m 4 ls []) := by
    intro dd
    induction dd with
    | zero => intros; omega
    | succ dd ih4 =>
      intro n i hn hi hdd H locs ls hW hl
      refine lv_iload_n S.1 S.2.1 dX6_there_4 rfl (lv_at hl 2 rfl) ?_
      refine lv_aload_n S.1 S.2.1 dX6_there_5 rfl (lv_at hl 0 rfl) ?_
      refine gf S hk hW 0 rfl rfl hwsX60 2 (by decide) 1 rfl rfl dX6_there_6 ?_
      refine icge_n (tgt := 35) S (by omega) (by omega) dX6_there_9 (by decide) (fun c_9 => ?_) (fun c_9 => ?_)
      · skip
        refine lv_iload_n S.1 S.2.1 dX6_there_35 rfl (lv_at hl 1 rfl) ?_
        exact hR _ _ _ _ _ _ _ _ dX6_there_36 rfl (Nat.le_of_ble_eq_true rfl) (Nat.le_of_ble_eq_true rfl) hW ⟨by rw [hn, show i = gK g by omega], rfl⟩
      · skip
        refine lv_iload_n S.1 S.2.1 dX6_there_12 rfl (lv_at hl 1 rfl) ?_
        refine lv_aload_n S.1 S.2.1 dX6_there_13 rfl (lv_at hl 0 rfl) ?_
        refine gf S hk hW 0 rfl rfl hwsX60 7 (by decide) 2 rfl rfl dX6_there_14 ?_
        refine lv_iload_n S.1 S.2.1 dX6_there_17 rfl (lv_at hl 2 rfl) ?_
        refine zld S hk hW 5 rfl i rfl (by omega) (by omega) dX6_there_18 ?_
        refine top_eq (Gok_T G (j := i) (by omega)) ?_
        refine ifeq_b (tgt := 26) S dX6_there_19 (by decide) (fun c_19 => ?_) (fun c_19 => ?_)
        · skip
          refine lv_iconst (v := nI 0) S.1 S.2.1 dX6_there_26 (by decide) ?_
          refine lv_iadd S.1 S.2.1 dX6_there_27 (top_eq (nI_add _ _) ?_)
          refine lv_istore_n (lv' := [(1, .int (nI (n + 0))), (0, .ref (q 0)), (2, .int (nI i))]) S.1 S.2.1 dX6_there_28 rfl hl (by decide) rfl (fun ls hl => ?_)
          refine lv_iinc (v := nI (i + 1)) (lv' := [(2, .int (nI (i + 1))), (1, .int (nI (n + 0))), (0, .ref (q 0))]) (k := 2) S.1 S.2.1 dX6_there_29 hl rfl (nI_1 _) (by decide) rfl (fun ls hl => ?_)
          refine lv_goto (tgt := 4) S.1 S.2.1 dX6_there_32 (by decide) ?_
          exact ih4 (n + 0) (i + 1) (by simp only [cntT, hn, c_19, eq_self, Nat.add_zero, decide_false, decide_true, Bool.not_true, Bool.not_false, Bool.and_true, Bool.true_and, Bool.and_false, Bool.false_and, Bool.or_true, Bool.true_or, Bool.or_false, Bool.false_or, ↓reduceIte, cond_true, cond_false, bI, and_true, true_and, and_false, false_and, or_true, true_or, or_false, false_or, not_true_eq_false, not_false_eq_true, if_true, if_false, Bool.false_eq_true, reduceCtorEq, ite_true, ite_false]) (by omega) (by omega) _ _ _ hW (lv_sub hl [2, 1, 0] rfl)
        · skip
          refine lv_iconst (v := nI 1) S.1 S.2.1 dX6_there_22 (by decide) ?_
          refine lv_goto (tgt := 27) S.1 S.2.1 dX6_there_23 (by decide) ?_
          refine lv_iadd S.1 S.2.1 dX6_there_27 (top_eq (nI_add _ _) ?_)
          refine lv_istore_n (lv' := [(1, .int (nI (n + 1))), (0, .ref (q 0)), (2, .int (nI i))]) S.1 S.2.1 dX6_there_28 rfl hl (by decide) rfl (fun ls hl => ?_)
          refine lv_iinc (v := nI (i + 1)) (lv' := [(2, .int (nI (i + 1))), (1, .int (nI (n + 1))), (0, .ref (q 0))]) (k := 2) S.1 S.2.1 dX6_there_29 hl rfl (nI_1 _) (by decide) rfl (fun ls hl => ?_)
          refine lv_goto (tgt := 4) S.1 S.2.1 dX6_there_32 (by decide) ?_
          exact ih4 (n + 1) (i + 1) (by simp only [cntT, hn, c_19, eq_self, Nat.add_zero, decide_false, decide_true, Bool.not_true, Bool.not_false, Bool.and_true, Bool.true_and, Bool.and_false, Bool.false_and, Bool.or_true, Bool.true_or, Bool.or_false, Bool.false_or, ↓reduceIte, cond_true, cond_false, bI, and_true, true_and, and_false, false_and, or_true, true_or, or_false, false_or, not_true_eq_false, not_false_eq_true, if_true, if_false, Bool.false_eq_true, reduceCtorEq, ite_true, ite_false]) (by omega) (by omega) _ _ _ hW (lv_sub hl [2, 1, 0] rfl)
  exact L4 ((gK g) + 1) 0 0 rfl (by omega) (by omega) _ _ _ hW (lv_sub hl [2, 1, 0] rfl)
abbrev r_X6_heightOf : Room := { frames := 2, cells := 0, slots := 0, locals := 43 }
theorem v_X6_heightOf : yX6_heightOf.cls ≠ "java/lang/invoke/MethodHandle" ∧ yX6_heightOf.cls ≠ "java/lang/invoke/VarHandle" ∧ (parseMethodDescriptor yX6_heightOf.desc).map (fun d => d.parameters.length) = some 1 := by decide +kernel
set_option maxRecDepth 100000 in
set_option maxHeartbeats 4000000 in
theorem c_X6_heightOf {l : Launch} {D : va_G} {cI cZ cF : ClassId} {q : Nat → Nat} {g : Gr} {fi ke : Nat → Int32} {ac : Nat} {mk : Int32} {iv : Nat → Int32} {a : Nat} (G : Gok g) (ha : a < 10) : cI_ l D cI cZ cF yX6_heightOf wsX6_heightOf r_X6_heightOf [.ref (q 0), .int (nI a)] (wM q cI cZ cF g fi ke ac mk iv) (fun r u => r = hgM fi a (gN g) ∧ u = wM q cI cZ cF g fi ke ac mk iv) 0 0 := by
  refine cI_of (cc := cX6_heightOf) (maxL := 4) (rt := .int) (plainFor_of_name (by decide +kernel)) rfl (Nat.le_of_ble_eq_true rfl) ?_
  intro p e s m args below meth c A Q ls S hk hW hl hR
  have hl : lv_has ls 4 [(0, .ref (q 0)), (1, .int (nI a))] := hl
  have hwsX60 : ∀ x ∈ wsX60, x ∈ wsX6_heightOf := fun x h => List.mem_cons_of_mem _ (List.mem_append_right _ h)
  have hN := Gok_N G; have hN2 := Gok_N2 G; have hKK := Gok_K G
  refine lv_iconst (v := nI 0) S.1 S.2.1 dX6_heightOf_0 (by decide) ?_
  refine lv_istore_n (lv' := [(2, .int (nI 0)), (0, .ref (q 0)), (1, .int (nI a))]) S.1 S.2.1 dX6_heightOf_1 rfl hl (by decide) rfl (fun ls hl => ?_)
  refine lv_iconst (v := nI 0) S.1 S.2.1 dX6_heightOf_2 (by decide) ?_
  refine lv_istore_n (lv' := [(3, .int (nI 0)), (2, .int (nI 0)), (0, .ref (q 0)), (1, .int (nI a))]) S.1 S.2.1 dX6_heightOf_3 rfl hl (by decide) rfl (fun ls hl => ?_)
  have L4 : ∀ (dd : Nat), ∀ (z : Int32), ∀ (i : Nat), (z = hgM fi a i) → (i ≤ gN g) → gN g < i + dd → ∀ (H : Heap) (locs : List Loc) (ls : Array Slot), wd D A s H locs (wM q cI cZ cF g fi ke ac mk iv) → lv_has ls 4 [(0, .ref (q 0)), (1, .int (nI a)), (2, .int z), (3, .int (nI i))] → W p l e r_X6_heightOf s m args below meth c H locs 0 0 Q (F0 m 4 ls []) := by
    intro dd
    induction dd with
    | zero => intros; omega
    | succ dd ih4 =>
      intro z i hz hi hdd H locs ls hW hl
      refine lv_iload_n S.1 S.2.1 dX6_heightOf_4 rfl (lv_at hl 3 rfl) ?_
      refine lv_aload_n S.1 S.2.1 dX6_heightOf_5 rfl (lv_at hl 0 rfl) ?_
      refine gf S hk hW 0 rfl rfl hwsX60 1 (by decide) 1 rfl rfl dX6_heightOf_6 ?_
      refine icge_n (tgt := 51) S (by omega) (by omega) dX6_heightOf_9 (by decide) (fun c_9 => ?_) (fun c_9 => ?_)
      · skip
        refine lv_iload_n S.1 S.2.1 dX6_heightOf_51 rfl (lv_at hl 2 rfl) ?_
        exact hR _ _ _ _ _ _ _ _ dX6_heightOf_52 rfl (Nat.le_of_ble_eq_true rfl) (Nat.le_of_ble_eq_true rfl) hW ⟨by rw [hz, show i = gN g by omega], rfl⟩
      · skip
        refine lv_aload_n S.1 S.2.1 dX6_heightOf_12 rfl (lv_at hl 0 rfl) ?_
        refine lv_iload_n S.1 S.2.1 dX6_heightOf_13 rfl (lv_at hl 3 rfl) ?_
        refine lv_iload_n S.1 S.2.1 dX6_heightOf_14 rfl (lv_at hl 1 rfl) ?_
        refine kVi S (c_X6_farOf (l := l) (D := D) (cI := cI) (cZ := cZ) (cF := cF) (by first | assumption | omega) (by first | assumption | omega)) (cwV 2 S.2.2.2.2 gX6_heightOf_X6_farOf rfl rfl rfl ⟨rfl, v_X6_farOf⟩ ⟨(Nat.le_of_ble_eq_true rfl), (Nat.le_of_ble_eq_true rfl)⟩) hk hW 0 rfl rfl rfl rfl hl rfl (Nat.le_of_ble_eq_true rfl) dX6_heightOf_15 ⟨(Nat.le_of_ble_eq_true rfl), (Nat.le_of_ble_eq_true rfl)⟩ (fun r u H locs hp hW => ?_)
        obtain ⟨rfl, rfl⟩ := hp
        refine lv_sipush (v := (-1000)) S.1 S.2.1 dX6_heightOf_18 (by decide) ?_
        refine lv_icmp_eq (tgt := 43) S.1 S.2.1 dX6_heightOf_21 (by decide) (fun c_21 => ?_) (fun c_21 => ?_)
        · skip
          refine lv_iload_n S.1 S.2.1 dX6_heightOf_43 rfl (lv_at hl 2 rfl) ?_
          refine lv_istore_n (lv' := [(2, .int z), (0, .ref (q 0)), (1, .int (nI a)), (3, .int (nI i))]) S.1 S.2.1 dX6_heightOf_44 rfl hl (by decide) rfl (fun ls hl => ?_)
          refine lv_iinc (v := nI (i + 1)) (lv' := [(3, .int (nI (i + 1))), (2, .int z), (0, .ref (q 0)), (1, .int (nI a))]) (k := 3) S.1 S.2.1 dX6_heightOf_45 hl rfl (nI_1 _) (by decide) rfl (fun ls hl => ?_)
          refine lv_goto (tgt := 4) S.1 S.2.1 dX6_heightOf_48 (by decide) ?_
          exact ih4 z (i + 1) (by simp only [hgM, ← hz, eq_true c_21, eq_self, Nat.add_zero, decide_false, decide_true, Bool.not_true, Bool.not_false, Bool.and_true, Bool.true_and, Bool.and_false, Bool.false_and, Bool.or_true, Bool.true_or, Bool.or_false, Bool.false_or, ↓reduceIte, cond_true, cond_false, bI, and_true, true_and, and_false, false_and, or_true, true_or, or_false, false_or, not_true_eq_false, not_false_eq_true, if_true, if_false, Bool.false_eq_true, reduceCtorEq, ite_true, ite_false]) (by omega) (by omega) _ _ _ hW (lv_sub hl [2, 3, 1, 0] rfl)
        · skip
          refine lv_aload_n S.1 S.2.1 dX6_heightOf_24 rfl (lv_at hl 0 rfl) ?_
          refine lv_iload_n S.1 S.2.1 dX6_heightOf_25 rfl (lv_at hl 3 rfl) ?_
          refine lv_iload_n S.1 S.2.1 dX6_heightOf_26 rfl (lv_at hl 1 rfl) ?_
          refine kVi S (c_X6_farOf (l := l) (D := D) (cI := cI) (cZ := cZ) (cF := cF) (by first | assumption | omega) (by first | assumption | omega)) (cwV 2 S.2.2.2.2 gX6_heightOf_X6_farOf rfl rfl rfl ⟨rfl, v_X6_farOf⟩ ⟨(Nat.le_of_ble_eq_true rfl), (Nat.le_of_ble_eq_true rfl)⟩) hk hW 0 rfl rfl rfl rfl hl rfl (Nat.le_of_ble_eq_true rfl) dX6_heightOf_27 ⟨(Nat.le_of_ble_eq_true rfl), (Nat.le_of_ble_eq_true rfl)⟩ (fun r u H locs hp hW => ?_)
          obtain ⟨rfl, rfl⟩ := hp
          refine lv_iload_n S.1 S.2.1 dX6_heightOf_30 rfl (lv_at hl 2 rfl) ?_
          refine lv_icmp_ge (tgt := 43) S.1 S.2.1 dX6_heightOf_31 (by decide) (fun c_31 => ?_) (fun c_31 => ?_)
          · skip
            refine lv_iload_n S.1 S.2.1 dX6_heightOf_43 rfl (lv_at hl 2 rfl) ?_
            refine lv_istore_n (lv' := [(2, .int z), (0, .ref (q 0)), (1, .int (nI a)), (3, .int (nI i))]) S.1 S.2.1 dX6_heightOf_44 rfl hl (by decide) rfl (fun ls hl => ?_)
            refine lv_iinc (v := nI (i + 1)) (lv' := [(3, .int (nI (i + 1))), (2, .int z), (0, .ref (q 0)), (1, .int (nI a))]) (k := 3) S.1 S.2.1 dX6_heightOf_45 hl rfl (nI_1 _) (by decide) rfl (fun ls hl => ?_)
            refine lv_goto (tgt := 4) S.1 S.2.1 dX6_heightOf_48 (by decide) ?_
            exact ih4 z (i + 1) (by simp only [hgM, ← hz, eq_false c_21, eq_true c_31, eq_self, Nat.add_zero, decide_false, decide_true, Bool.not_true, Bool.not_false, Bool.and_true, Bool.true_and, Bool.and_false, Bool.false_and, Bool.or_true, Bool.true_or, Bool.or_false, Bool.false_or, ↓reduceIte, cond_true, cond_false, bI, and_true, true_and, and_false, false_and, or_true, true_or, or_false, false_or, not_true_eq_false, not_false_eq_true, if_true, if_false, Bool.false_eq_true, reduceCtorEq, ite_true, ite_false]) (by omega) (by omega) _ _ _ hW (lv_sub hl [2, 3, 1, 0] rfl)
          · skip
            refine lv_aload_n S.1 S.2.1 dX6_heightOf_34 rfl (lv_at hl 0 rfl) ?_
            refine lv_iload_n S.1 S.2.1 dX6_heightOf_35 rfl (lv_at hl 3 rfl) ?_
            refine lv_iload_n S.1 S.2.1 dX6_heightOf_36 rfl (lv_at hl 1 rfl) ?_
            refine kVi S (c_X6_farOf (l := l) (D := D) (cI := cI) (cZ := cZ) (cF := cF) (by first | assumption | omega) (by first | assumption | omega)) (cwV 2 S.2.2.2.2 gX6_heightOf_X6_farOf rfl rfl rfl ⟨rfl, v_X6_farOf⟩ ⟨(Nat.le_of_ble_eq_true rfl), (Nat.le_of_ble_eq_true rfl)⟩) hk hW 0 rfl rfl rfl rfl hl rfl (Nat.le_of_ble_eq_true rfl) dX6_heightOf_37 ⟨(Nat.le_of_ble_eq_true rfl), (Nat.le_of_ble_eq_true rfl)⟩ (fun r u H locs hp hW => ?_)
            obtain ⟨rfl, rfl⟩ := hp
            refine lv_goto (tgt := 44) S.1 S.2.1 dX6_heightOf_40 (by decide) ?_
            refine lv_istore_n (lv' := [(2, .int (cfr fi i a)), (0, .ref (q 0)), (1, .int (nI a)), (3, .int (nI i))]) S.1 S.2.1 dX6_heightOf_44 rfl hl (by decide) rfl (fun ls hl => ?_)
            refine lv_iinc (v := nI (i + 1)) (lv' := [(3, .int (nI (i + 1))), (2, .int (cfr fi i a)), (0, .ref (q 0)), (1, .int (nI a))]) (k := 3) S.1 S.2.1 dX6_heightOf_45 hl rfl (nI_1 _) (by decide) rfl (fun ls hl => ?_)
            refine lv_goto (tgt := 4) S.1 S.2.1 dX6_heightOf_48 (by decide) ?_
            exact ih4 (cfr fi i a) (i + 1) (by simp only [hgM, ← hz, eq_false c_21, eq_false c_31, eq_self, Nat.add_zero, decide_false, decide_true, Bool.not_true, Bool.not_false, Bool.and_true, Bool.true_and, Bool.and_false, Bool.false_and, Bool.or_true, Bool.true_or, Bool.or_false, Bool.false_or, ↓reduceIte, cond_true, cond_false, bI, and_true, true_and, and_false, false_and, or_true, true_or, or_false, false_or, not_true_eq_false, not_false_eq_true, if_true, if_false, Bool.false_eq_true, reduceCtorEq, ite_true, ite_false]) (by omega) (by omega) _ _ _ hW (lv_sub hl [2, 3, 1, 0] rfl)
  exact L4 ((gN g) + 1) (nI 0) 0 rfl (by omega) (by omega) _ _ _ hW (lv_sub hl [2, 3, 1, 0] rfl)
abbrev r_X6_nextOf : Room := { frames := 0, cells := 0, slots := 0, locals := 0 }
theorem v_X6_nextOf : yX6_nextOf.cls ≠ "java/lang/invoke/MethodHandle" ∧ yX6_nextOf.cls ≠ "java/lang/invoke/VarHandle" ∧ (parseMethodDescriptor yX6_nextOf.desc).map (fun d => d.parameters.length) = some 2 := by decide +kernel
set_option maxRecDepth 100000 in
set_option maxHeartbeats 4000000 in
theorem c_X6_nextOf {l : Launch} {D : va_G} {cI cZ cF : ClassId} {q : Nat → Nat} {g : Gr} {fi ke : Nat → Int32} {ac : Nat} {mk : Int32} {iv : Nat → Int32} {a b : Nat} (G : Gok g) (ha : a < 10) (hb : b < 10) : cI_ l D cI cZ cF yX6_nextOf wsX6_nextOf r_X6_nextOf [.ref (q 0), .int (nI a), .int (nI b)] (wM q cI cZ cF g fi ke ac mk iv) (fun r u => r = oI (-1000) (fj (nxM g fi a b) (gK g) 0) ∧ u = wM q cI cZ cF g fi ke ac mk iv) 0 0 := by
  refine cI_of (cc := cX6_nextOf) (maxL := 5) (rt := .int) (plainFor_of_name (by decide +kernel)) rfl (Nat.le_of_ble_eq_true rfl) ?_
  intro p e s m args below meth c A Q ls S hk hW hl hR
  have hl : lv_has ls 5 [(0, .ref (q 0)), (1, .int (nI a)), (2, .int (nI b))] := hl
  have hwsX60 : ∀ x ∈ wsX60, x ∈ wsX6_nextOf := fun x h => List.mem_cons_of_mem _ (List.mem_append_right _ h)
  have hN := Gok_N G; have hN2 := Gok_N2 G; have hKK := Gok_K G
  refine lv_iconst (v := nI 0) S.1 S.2.1 dX6_nextOf_0 (by decide) ?_
  refine lv_istore_n (lv' := [(3, .int (nI 0)), (0, .ref (q 0)), (1, .int (nI a)), (2, .int (nI b))]) S.1 S.2.1 dX6_nextOf_1 rfl hl (by decide) rfl (fun ls hl => ?_)
  have L2 : ∀ (dd : Nat), ∀ (i : Nat), (fj (nxM g fi a b) (gK g) 0 = fj (nxM g fi a b) (gK g - i) i) → (i ≤ gK g) → gK g < i + dd → ∀ (H : Heap) (locs : List Loc) (ls : Array Slot), wd D A s H locs (wM q cI cZ cF g fi ke ac mk iv) → lv_has ls 5 [(0, .ref (q 0)), (1, .int (nI a)), (2, .int (nI b)), (3, .int (nI i))] → W p l e r_X6_nextOf s m args below meth c H locs 0 0 Q (F0 m 2 ls []) := by
    intro dd
    induction dd with
    | zero => intros; omega
    | succ dd ih2 =>
      intro i hf hi hdd H locs ls hW hl
      refine lv_iload_n S.1 S.2.1 dX6_nextOf_2 rfl (lv_at hl 3 rfl) ?_
      refine lv_aload_n S.1 S.2.1 dX6_nextOf_3 rfl (lv_at hl 0 rfl) ?_
      refine gf S hk hW 0 rfl rfl hwsX60 2 (by decide) 1 rfl rfl dX6_nextOf_4 ?_
      refine icge_n (tgt := 142) S (by omega) (by omega) dX6_nextOf_7 (by decide) (fun c_7 => ?_) (fun c_7 => ?_)
      · skip
        refine lv_sipush (v := (-1000)) S.1 S.2.1 dX6_nextOf_142 (by decide) ?_
        exact hR _ _ _ _ _ _ _ _ dX6_nextOf_145 rfl (Nat.le_of_ble_eq_true rfl) (Nat.le_of_ble_eq_true rfl) hW ⟨by rw [fj_none hf (by omega)]; rfl, rfl⟩
      · skip
        refine lv_aload_n S.1 S.2.1 dX6_nextOf_10 rfl (lv_at hl 0 rfl) ?_
        refine gf S hk hW 0 rfl rfl hwsX60 3 (by decide) 2 rfl rfl dX6_nextOf_11 ?_
        refine lv_iload_n S.1 S.2.1 dX6_nextOf_14 rfl (lv_at hl 3 rfl) ?_
        refine ild S hk hW 1 rfl i rfl (by omega) (by omega) dX6_nextOf_15 ?_
        refine top_eq (Gok_B G (j := i) (by omega)) ?_
        have hb15 := Gok_B2 G (j := i) (by omega)
        refine lv_iload_n S.1 S.2.1 dX6_nextOf_16 rfl (lv_at hl 1 rfl) ?_
        refine icne_n (tgt := 29) S (by omega) (by omega) dX6_nextOf_17 (by decide) (fun c_17 => ?_) (fun c_17 => ?_)
        · skip
          refine lv_aload_n S.1 S.2.1 dX6_nextOf_29 rfl (lv_at hl 0 rfl) ?_
          refine gf S hk hW 0 rfl rfl hwsX60 6 (by decide) 4 rfl rfl dX6_nextOf_30 ?_
          refine lv_iload_n S.1 S.2.1 dX6_nextOf_33 rfl (lv_at hl 3 rfl) ?_
          refine zld S hk hW 4 rfl i rfl (by omega) (by omega) dX6_nextOf_34 ?_
          refine top_eq (Gok_W G (j := i) (by omega)) ?_
          refine ifeq_b (tgt := 57) S dX6_nextOf_35 (by decide) (fun c_35 => ?_) (fun c_35 => ?_)
          · skip
            refine lv_sipush (v := (-1000)) S.1 S.2.1 dX6_nextOf_57 (by decide) ?_
            refine lv_istore (lv' := [(4, .int (-1000)), (0, .ref (q 0)), (1, .int (nI a)), (2, .int (nI b)), (3, .int (nI i))]) S.1 S.2.1 dX6_nextOf_60 hl (by decide) rfl (fun ls hl => ?_)
            refine lv_aload_n S.1 S.2.1 dX6_nextOf_62 rfl (lv_at hl 1 rfl) ?_
            refine gf S hk hW 0 rfl rfl hwsX60 7 (by decide) 5 rfl rfl dX6_nextOf_63 ?_
            refine lv_iload_n S.1 S.2.1 dX6_nextOf_66 rfl (lv_at hl 4 rfl) ?_
            refine zld S hk hW 5 rfl i rfl (by omega) (by omega) dX6_nextOf_67 ?_
            refine top_eq (Gok_T G (j := i) (by omega)) ?_
            refine ifeq_b (tgt := 136) S dX6_nextOf_68 (by decide) (fun c_68 => ?_) (fun c_68 => ?_)
            · skip
              refine lv_iinc (v := nI (i + 1)) (lv' := [(3, .int (nI (i + 1))), (4, .int (-1000)), (0, .ref (q 0)), (1, .int (nI a)), (2, .int (nI b))]) (k := 4) S.1 S.2.1 dX6_nextOf_136 hl rfl (nI_1 _) (by decide) rfl (fun ls hl => ?_)
              refine lv_goto (tgt := 2) S.1 S.2.1 dX6_nextOf_139 (by decide) ?_
              exact ih2 (i + 1) (fj_step hf (by omega) (by simp only [nxM, tsM, cwM, eq_false c_17, c_35, c_68, eq_self, Nat.add_zero, decide_false, decide_true, Bool.not_true, Bool.not_false, Bool.and_true, Bool.true_and, Bool.and_false, Bool.false_and, Bool.or_true, Bool.true_or, Bool.or_false, Bool.false_or, ↓reduceIte, cond_true, cond_false, bI, and_true, true_and, and_false, false_and, or_true, true_or, or_false, false_or, not_true_eq_false, not_false_eq_true, if_true, if_false, Bool.false_eq_true, reduceCtorEq, ite_true, ite_false])) (by omega) (by omega) _ _ _ hW (lv_sub hl [2, 3, 4, 0] rfl)
            · skip
              refine lv_iload S.1 S.2.1 dX6_nextOf_71 (lv_at hl 0 rfl) ?_
              refine lv_sipush (v := (-1000)) S.1 S.2.1 dX6_nextOf_73 (by decide) ?_
              refine lv_icmp_eq (tgt := 136) S.1 S.2.1 dX6_nextOf_76 (by decide) (fun c_76 => ?_) (fun c_76 => ?_)
              · skip
                refine lv_iinc (v := nI (i + 1)) (lv' := [(3, .int (nI (i + 1))), (4, .int (-1000)), (0, .ref (q 0)), (1, .int (nI a)), (2, .int (nI b))]) (k := 4) S.1 S.2.1 dX6_nextOf_136 hl rfl (nI_1 _) (by decide) rfl (fun ls hl => ?_)
                refine lv_goto (tgt := 2) S.1 S.2.1 dX6_nextOf_139 (by decide) ?_
                exact ih2 (i + 1) (fj_step hf (by omega) (by simp only [nxM, tsM, cwM, eq_false c_17, c_35, c_68, eq_self, Nat.add_zero, decide_false, decide_true, Bool.not_true, Bool.not_false, Bool.and_true, Bool.true_and, Bool.and_false, Bool.false_and, Bool.or_true, Bool.true_or, Bool.or_false, Bool.false_or, ↓reduceIte, cond_true, cond_false, bI, and_true, true_and, and_false, false_and, or_true, true_or, or_false, false_or, not_true_eq_false, not_false_eq_true, if_true, if_false, Bool.false_eq_true, reduceCtorEq, ite_true, ite_false])) (by omega) (by omega) _ _ _ hW (lv_sub hl [2, 3, 4, 0] rfl)
              · skip
                exact absurd rfl c_76
          · skip
            refine lv_aload_n S.1 S.2.1 dX6_nextOf_38 rfl (lv_at hl 0 rfl) ?_
            refine gf S hk hW 0 rfl rfl hwsX60 4 (by decide) 3 rfl rfl dX6_nextOf_39 ?_
            refine lv_iload_n S.1 S.2.1 dX6_nextOf_42 rfl (lv_at hl 3 rfl) ?_
            refine ild S hk hW 2 rfl i rfl (by omega) (by omega) dX6_nextOf_43 ?_
            refine top_eq (Gok_E G (j := i) (by omega)) ?_
            have hb43 := Gok_E2 G (j := i) (by omega)
            refine lv_iload_n S.1 S.2.1 dX6_nextOf_44 rfl (lv_at hl 1 rfl) ?_
            refine icne_n (tgt := 57) S (by omega) (by omega) dX6_nextOf_45 (by decide) (fun c_45 => ?_) (fun c_45 => ?_)
            · skip
              refine lv_sipush (v := (-1000)) S.1 S.2.1 dX6_nextOf_57 (by decide) ?_
              refine lv_istore (lv' := [(4, .int (-1000)), (0, .ref (q 0)), (1, .int (nI a)), (2, .int (nI b)), (3, .int (nI i))]) S.1 S.2.1 dX6_nextOf_60 hl (by decide) rfl (fun ls hl => ?_)
              refine lv_aload_n S.1 S.2.1 dX6_nextOf_62 rfl (lv_at hl 1 rfl) ?_
              refine gf S hk hW 0 rfl rfl hwsX60 7 (by decide) 5 rfl rfl dX6_nextOf_63 ?_
              refine lv_iload_n S.1 S.2.1 dX6_nextOf_66 rfl (lv_at hl 4 rfl) ?_
              refine zld S hk hW 5 rfl i rfl (by omega) (by omega) dX6_nextOf_67 ?_
              refine top_eq (Gok_T G (j := i) (by omega)) ?_
              refine ifeq_b (tgt := 136) S dX6_nextOf_68 (by decide) (fun c_68 => ?_) (fun c_68 => ?_)
              · skip
                refine lv_iinc (v := nI (i + 1)) (lv' := [(3, .int (nI (i + 1))), (4, .int (-1000)), (0, .ref (q 0)), (1, .int (nI a)), (2, .int (nI b))]) (k := 4) S.1 S.2.1 dX6_nextOf_136 hl rfl (nI_1 _) (by decide) rfl (fun ls hl => ?_)
                refine lv_goto (tgt := 2) S.1 S.2.1 dX6_nextOf_139 (by decide) ?_
                exact ih2 (i + 1) (fj_step hf (by omega) (by simp only [nxM, tsM, cwM, eq_false c_17, c_35, eq_false c_45, c_68, eq_self, Nat.add_zero, decide_false, decide_true, Bool.not_true, Bool.not_false, Bool.and_true, Bool.true_and, Bool.and_false, Bool.false_and, Bool.or_true, Bool.true_or, Bool.or_false, Bool.false_or, ↓reduceIte, cond_true, cond_false, bI, and_true, true_and, and_false, false_and, or_true, true_or, or_false, false_or, not_true_eq_false, not_false_eq_true, if_true, if_false, Bool.false_eq_true, reduceCtorEq, ite_true, ite_false])) (by omega) (by omega) _ _ _ hW (lv_sub hl [2, 3, 4, 0] rfl)
              · skip
                refine lv_iload S.1 S.2.1 dX6_nextOf_71 (lv_at hl 0 rfl) ?_
                refine lv_sipush (v := (-1000)) S.1 S.2.1 dX6_nextOf_73 (by decide) ?_
                refine lv_icmp_eq (tgt := 136) S.1 S.2.1 dX6_nextOf_76 (by decide) (fun c_76 => ?_) (fun c_76 => ?_)
                · skip
                  refine lv_iinc (v := nI (i + 1)) (lv' := [(3, .int (nI (i + 1))), (4, .int (-1000)), (0, .ref (q 0)), (1, .int (nI a)), (2, .int (nI b))]) (k := 4) S.1 S.2.1 dX6_nextOf_136 hl rfl (nI_1 _) (by decide) rfl (fun ls hl => ?_)
                  refine lv_goto (tgt := 2) S.1 S.2.1 dX6_nextOf_139 (by decide) ?_
                  exact ih2 (i + 1) (fj_step hf (by omega) (by simp only [nxM, tsM, cwM, eq_false c_17, c_35, eq_false c_45, c_68, eq_self, Nat.add_zero, decide_false, decide_true, Bool.not_true, Bool.not_false, Bool.and_true, Bool.true_and, Bool.and_false, Bool.false_and, Bool.or_true, Bool.true_or, Bool.or_false, Bool.false_or, ↓reduceIte, cond_true, cond_false, bI, and_true, true_and, and_false, false_and, or_true, true_or, or_false, false_or, not_true_eq_false, not_false_eq_true, if_true, if_false, Bool.false_eq_true, reduceCtorEq, ite_true, ite_false])) (by omega) (by omega) _ _ _ hW (lv_sub hl [2, 3, 4, 0] rfl)
                · skip
                  exact absurd rfl c_76
            · skip
              refine lv_aload_n S.1 S.2.1 dX6_nextOf_48 rfl (lv_at hl 0 rfl) ?_
              refine gf S hk hW 0 rfl rfl hwsX60 3 (by decide) 2 rfl rfl dX6_nextOf_49 ?_
              refine lv_iload_n S.1 S.2.1 dX6_nextOf_52 rfl (lv_at hl 3 rfl) ?_
              refine ild S hk hW 1 rfl i rfl (by omega) (by omega) dX6_nextOf_53 ?_
              refine top_eq (Gok_B G (j := i) (by omega)) ?_
              have hb53 := Gok_B2 G (j := i) (by omega)
              refine lv_goto (tgt := 60) S.1 S.2.1 dX6_nextOf_54 (by decide) ?_
              refine lv_istore (lv' := [(4, .int (nI (e1 g i))), (0, .ref (q 0)), (1, .int (nI a)), (2, .int (nI b)), (3, .int (nI i))]) S.1 S.2.1 dX6_nextOf_60 hl (by decide) rfl (fun ls hl => ?_)
              refine lv_aload_n S.1 S.2.1 dX6_nextOf_62 rfl (lv_at hl 1 rfl) ?_
              refine gf S hk hW 0 rfl rfl hwsX60 7 (by decide) 5 rfl rfl dX6_nextOf_63 ?_
              refine lv_iload_n S.1 S.2.1 dX6_nextOf_66 rfl (lv_at hl 4 rfl) ?_
              refine zld S hk hW 5 rfl i rfl (by omega) (by omega) dX6_nextOf_67 ?_
              refine top_eq (Gok_T G (j := i) (by omega)) ?_
              refine ifeq_b (tgt := 136) S dX6_nextOf_68 (by decide) (fun c_68 => ?_) (fun c_68 => ?_)
              · skip
                refine lv_iinc (v := nI (i + 1)) (lv' := [(3, .int (nI (i + 1))), (4, .int (nI (e1 g i))), (0, .ref (q 0)), (1, .int (nI a)), (2, .int (nI b))]) (k := 4) S.1 S.2.1 dX6_nextOf_136 hl rfl (nI_1 _) (by decide) rfl (fun ls hl => ?_)
                refine lv_goto (tgt := 2) S.1 S.2.1 dX6_nextOf_139 (by decide) ?_
                exact ih2 (i + 1) (fj_step hf (by omega) (by simp only [nxM, tsM, cwM, eq_false c_17, c_35, eq_true c_45, c_68, eq_self, Nat.add_zero, decide_false, decide_true, Bool.not_true, Bool.not_false, Bool.and_true, Bool.true_and, Bool.and_false, Bool.false_and, Bool.or_true, Bool.true_or, Bool.or_false, Bool.false_or, ↓reduceIte, cond_true, cond_false, bI, and_true, true_and, and_false, false_and, or_true, true_or, or_false, false_or, not_true_eq_false, not_false_eq_true, if_true, if_false, Bool.false_eq_true, reduceCtorEq, ite_true, ite_false])) (by omega) (by omega) _ _ _ hW (lv_sub hl [2, 3, 4, 0] rfl)
              · skip
                refine lv_iload S.1 S.2.1 dX6_nextOf_71 (lv_at hl 0 rfl) ?_
                refine lv_sipush (v := (-1000)) S.1 S.2.1 dX6_nextOf_73 (by decide) ?_
                refine lv_icmp_eq (tgt := 136) S.1 S.2.1 dX6_nextOf_76 (by decide) (fun c_76 => ?_) (fun c_76 => ?_)
                · skip
                  exact absurd c_76 (nI_neg (by omega) (by decide))
                · skip
                  refine lv_aload_n S.1 S.2.1 dX6_nextOf_79 rfl (lv_at hl 1 rfl) ?_
                  refine gf S hk hW 0 rfl rfl hwsX60 8 (by decide) 6 rfl rfl dX6_nextOf_80 ?_
                  refine lv_bipush (v := nI 10) S.1 S.2.1 dX6_nextOf_83 (by decide) ?_
                  refine lv_iload S.1 S.2.1 dX6_nextOf_85 (lv_at hl 0 rfl) ?_
                  refine lv_imul S.1 S.2.1 dX6_nextOf_87 (top_eq (pk_mul _ _) ?_)
                  refine lv_iload_n S.1 S.2.1 dX6_nextOf_88 rfl (lv_at hl 3 rfl) ?_
                  refine lv_iadd S.1 S.2.1 dX6_nextOf_89 (top_eq (nI_add _ _) ?_)
                  refine ild S hk hW 6 rfl ((10 * (e1 g i)) + b) rfl (by omega) (by omega) dX6_nextOf_90 ?_
                  refine lv_ldc (v := nI 10000000) S.1 S.2.1 S.2.2.2.1 (S.2.2.2.2 _ (List.mem_of_getElem? (i := 7) rfl)) dX6_nextOf_91 ?_
                  refine lv_icmp_ge (tgt := 136) S.1 S.2.1 dX6_nextOf_93 (by decide) (fun c_93 => ?_) (fun c_93 => ?_)
                  · skip
                    refine lv_iinc (v := nI (i + 1)) (lv' := [(3, .int (nI (i + 1))), (4, .int (nI (e1 g i))), (0, .ref (q 0)), (1, .int (nI a)), (2, .int (nI b))]) (k := 4) S.1 S.2.1 dX6_nextOf_136 hl rfl (nI_1 _) (by decide) rfl (fun ls hl => ?_)
                    refine lv_goto (tgt := 2) S.1 S.2.1 dX6_nextOf_139 (by decide) ?_
                    exact ih2 (i + 1) (fj_step hf (by omega) (by simp only [nxM, tsM, cwM, eq_false c_17, c_35, eq_true c_45, c_68, eq_true c_93, eq_self, Nat.add_zero, decide_false, decide_true, Bool.not_true, Bool.not_false, Bool.and_true, Bool.true_and, Bool.and_false, Bool.false_and, Bool.or_true, Bool.true_or, Bool.or_false, Bool.false_or, ↓reduceIte, cond_true, cond_false, bI, and_true, true_and, and_false, false_and, or_true, true_or, or_false, false_or, not_true_eq_false, not_false_eq_true, if_true, if_false, Bool.false_eq_true, reduceCtorEq, ite_true, ite_false])) (by omega) (by omega) _ _ _ hW (lv_sub hl [2, 3, 4, 0] rfl)
                  · skip
                    refine lv_bipush (v := nI 64) S.1 S.2.1 dX6_nextOf_96 (by decide) ?_
                    refine lv_aload_n S.1 S.2.1 dX6_nextOf_98 rfl (lv_at hl 1 rfl) ?_
                    refine gf S hk hW 0 rfl rfl hwsX60 5 (by decide) 8 rfl rfl dX6_nextOf_99 ?_
                    refine lv_iload_n S.1 S.2.1 dX6_nextOf_102 rfl (lv_at hl 4 rfl) ?_
                    refine ild S hk hW 3 rfl i rfl (by omega) (by omega) dX6_nextOf_103 ?_
                    refine lv_imul S.1 S.2.1 dX6_nextOf_104 ?_
                    refine lv_iconst (v := nI 1) S.1 S.2.1 dX6_nextOf_105 (by decide) ?_
                    refine lv_iadd S.1 S.2.1 dX6_nextOf_106 ?_
                    refine lv_aload_n S.1 S.2.1 dX6_nextOf_107 rfl (lv_at hl 1 rfl) ?_
                    refine gf S hk hW 0 rfl rfl hwsX60 8 (by decide) 6 rfl rfl dX6_nextOf_108 ?_
                    refine lv_bipush (v := nI 10) S.1 S.2.1 dX6_nextOf_111 (by decide) ?_
                    refine lv_iload S.1 S.2.1 dX6_nextOf_113 (lv_at hl 0 rfl) ?_
                    refine lv_imul S.1 S.2.1 dX6_nextOf_115 (top_eq (pk_mul _ _) ?_)
                    refine lv_iload_n S.1 S.2.1 dX6_nextOf_116 rfl (lv_at hl 3 rfl) ?_
                    refine lv_iadd S.1 S.2.1 dX6_nextOf_117 (top_eq (nI_add _ _) ?_)
                    refine ild S hk hW 6 rfl ((10 * (e1 g i)) + b) rfl (by omega) (by omega) dX6_nextOf_118 ?_
                    refine lv_iadd S.1 S.2.1 dX6_nextOf_119 ?_
                    refine lv_aload_n S.1 S.2.1 dX6_nextOf_120 rfl (lv_at hl 1 rfl) ?_
                    refine gf S hk hW 0 rfl rfl hwsX60 8 (by decide) 6 rfl rfl dX6_nextOf_121 ?_
                    refine lv_bipush (v := nI 10) S.1 S.2.1 dX6_nextOf_124 (by decide) ?_
                    refine lv_iload_n S.1 S.2.1 dX6_nextOf_126 rfl (lv_at hl 2 rfl) ?_
                    refine lv_imul S.1 S.2.1 dX6_nextOf_127 (top_eq (pk_mul _ _) ?_)
                    refine lv_iload_n S.1 S.2.1 dX6_nextOf_128 rfl (lv_at hl 3 rfl) ?_
                    refine lv_iadd S.1 S.2.1 dX6_nextOf_129 (top_eq (nI_add _ _) ?_)
                    refine ild S hk hW 6 rfl ((10 * a) + b) rfl (by omega) (by omega) dX6_nextOf_130 ?_
                    refine lv_icmp_ne (tgt := 136) S.1 S.2.1 dX6_nextOf_131 (by decide) (fun c_131 => ?_) (fun c_131 => ?_)
                    · skip
                      refine lv_iinc (v := nI (i + 1)) (lv' := [(3, .int (nI (i + 1))), (4, .int (nI (e1 g i))), (0, .ref (q 0)), (1, .int (nI a)), (2, .int (nI b))]) (k := 4) S.1 S.2.1 dX6_nextOf_136 hl rfl (nI_1 _) (by decide) rfl (fun ls hl => ?_)
                      refine lv_goto (tgt := 2) S.1 S.2.1 dX6_nextOf_139 (by decide) ?_
                      exact ih2 (i + 1) (fj_step hf (by omega) (by simp only [nxM, tsM, cwM, eq_false c_17, c_35, eq_true c_45, c_68, eq_false c_93, eq_false c_131, eq_self, Nat.add_zero, decide_false, decide_true, Bool.not_true, Bool.not_false, Bool.and_true, Bool.true_and, Bool.and_false, Bool.false_and, Bool.or_true, Bool.true_or, Bool.or_false, Bool.false_or, ↓reduceIte, cond_true, cond_false, bI, and_true, true_and, and_false, false_and, or_true, true_or, or_false, false_or, not_true_eq_false, not_false_eq_true, if_true, if_false, Bool.false_eq_true, reduceCtorEq, ite_true, ite_false])) (by omega) (by omega) _ _ _ hW (lv_sub hl [2, 3, 4, 0] rfl)
                    · skip
                      refine lv_iload_n S.1 S.2.1 dX6_nextOf_134 rfl (lv_at hl 4 rfl) ?_
                      exact hR _ _ _ _ _ _ _ _ dX6_nextOf_135 rfl (Nat.le_of_ble_eq_true rfl) (Nat.le_of_ble_eq_true rfl) hW ⟨by rw [fj_found hf (by omega) (by simp only [nxM, tsM, cwM, eq_false c_17, c_35, eq_true c_45, c_68, eq_false c_93, eq_true c_131, eq_self, Nat.add_zero, decide_false, decide_true, Bool.not_true, Bool.not_false, Bool.and_true, Bool.true_and, Bool.and_false, Bool.false_and, Bool.or_true, Bool.true_or, Bool.or_false, Bool.false_or, ↓reduceIte, cond_true, cond_false, bI, and_true, true_and, and_false, false_and, or_true, true_or, or_false, false_or, not_true_eq_false, not_false_eq_true, if_true, if_false, Bool.false_eq_true, reduceCtorEq, ite_true, ite_false])]; rfl, rfl⟩
        · skip
          refine lv_aload_n S.1 S.2.1 dX6_nextOf_20 rfl (lv_at hl 0 rfl) ?_
          refine gf S hk hW 0 rfl rfl hwsX60 4 (by decide) 3 rfl rfl dX6_nextOf_21 ?_
          refine lv_iload_n S.1 S.2.1 dX6_nextOf_24 rfl (lv_at hl 3 rfl) ?_
          refine ild S hk hW 2 rfl i rfl (by omega) (by omega) dX6_nextOf_25 ?_
          refine top_eq (Gok_E G (j := i) (by omega)) ?_
          have hb25 := Gok_E2 G (j := i) (by omega)
          refine lv_goto (tgt := 60) S.1 S.2.1 dX6_nextOf_26 (by decide) ?_
          refine lv_istore (lv' := [(4, .int (nI (e2 g i))), (0, .ref (q 0)), (1, .int (nI a)), (2, .int (nI b)), (3, .int (nI i))]) S.1 S.2.1 dX6_nextOf_60 hl (by decide) rfl (fun ls hl => ?_)
          refine lv_aload_n S.1 S.2.1 dX6_nextOf_62 rfl (lv_at hl 1 rfl) ?_
          refine gf S hk hW 0 rfl rfl hwsX60 7 (by decide) 5 rfl rfl dX6_nextOf_63 ?_
          refine lv_iload_n S.1 S.2.1 dX6_nextOf_66 rfl (lv_at hl 4 rfl) ?_
          refine zld S hk hW 5 rfl i rfl (by omega) (by omega) dX6_nextOf_67 ?_
          refine top_eq (Gok_T G (j := i) (by omega)) ?_
          refine ifeq_b (tgt := 136) S dX6_nextOf_68 (by decide) (fun c_68 => ?_) (fun c_68 => ?_)
          · skip
            refine lv_iinc (v := nI (i + 1)) (lv' := [(3, .int (nI (i + 1))), (4, .int (nI (e2 g i))), (0, .ref (q 0)), (1, .int (nI a)), (2, .int (nI b))]) (k := 4) S.1 S.2.1 dX6_nextOf_136 hl rfl (nI_1 _) (by decide) rfl (fun ls hl => ?_)
            refine lv_goto (tgt := 2) S.1 S.2.1 dX6_nextOf_139 (by decide) ?_
            exact ih2 (i + 1) (fj_step hf (by omega) (by simp only [nxM, tsM, cwM, eq_true c_17, c_68, eq_self, Nat.add_zero, decide_false, decide_true, Bool.not_true, Bool.not_false, Bool.and_true, Bool.true_and, Bool.and_false, Bool.false_and, Bool.or_true, Bool.true_or, Bool.or_false, Bool.false_or, ↓reduceIte, cond_true, cond_false, bI, and_true, true_and, and_false, false_and, or_true, true_or, or_false, false_or, not_true_eq_false, not_false_eq_true, if_true, if_false, Bool.false_eq_true, reduceCtorEq, ite_true, ite_false])) (by omega) (by omega) _ _ _ hW (lv_sub hl [2, 3, 4, 0] rfl)
          · skip
            refine lv_iload S.1 S.2.1 dX6_nextOf_71 (lv_at hl 0 rfl) ?_
            refine lv_sipush (v := (-1000)) S.1 S.2.1 dX6_nextOf_73 (by decide) ?_
            refine lv_icmp_eq (tgt := 136) S.1 S.2.1 dX6_nextOf_76 (by decide) (fun c_76 => ?_) (fun c_76 => ?_)
            · skip
              exact absurd c_76 (nI_neg (by omega) (by decide))
            · skip
              refine lv_aload_n S.1 S.2.1 dX6_nextOf_79 rfl (lv_at hl 1 rfl) ?_
              refine gf S hk hW 0 rfl rfl hwsX60 8 (by decide) 6 rfl rfl dX6_nextOf_80 ?_
              refine lv_bipush (v := nI 10) S.1 S.2.1 dX6_nextOf_83 (by decide) ?_
              refine lv_iload S.1 S.2.1 dX6_nextOf_85 (lv_at hl 0 rfl) ?_
              refine lv_imul S.1 S.2.1 dX6_nextOf_87 (top_eq (pk_mul _ _) ?_)
              refine lv_iload_n S.1 S.2.1 dX6_nextOf_88 rfl (lv_at hl 3 rfl) ?_
              refine lv_iadd S.1 S.2.1 dX6_nextOf_89 (top_eq (nI_add _ _) ?_)
              refine ild S hk hW 6 rfl ((10 * (e2 g i)) + b) rfl (by omega) (by omega) dX6_nextOf_90 ?_
              refine lv_ldc (v := nI 10000000) S.1 S.2.1 S.2.2.2.1 (S.2.2.2.2 _ (List.mem_of_getElem? (i := 7) rfl)) dX6_nextOf_91 ?_
              refine lv_icmp_ge (tgt := 136) S.1 S.2.1 dX6_nextOf_93 (by decide) (fun c_93 => ?_) (fun c_93 => ?_)
              · skip
                refine lv_iinc (v := nI (i + 1)) (lv' := [(3, .int (nI (i + 1))), (4, .int (nI (e2 g i))), (0, .ref (q 0)), (1, .int (nI a)), (2, .int (nI b))]) (k := 4) S.1 S.2.1 dX6_nextOf_136 hl rfl (nI_1 _) (by decide) rfl (fun ls hl => ?_)
                refine lv_goto (tgt := 2) S.1 S.2.1 dX6_nextOf_139 (by decide) ?_
                exact ih2 (i + 1) (fj_step hf (by omega) (by simp only [nxM, tsM, cwM, eq_true c_17, c_68, eq_true c_93, eq_self, Nat.add_zero, decide_false, decide_true, Bool.not_true, Bool.not_false, Bool.and_true, Bool.true_and, Bool.and_false, Bool.false_and, Bool.or_true, Bool.true_or, Bool.or_false, Bool.false_or, ↓reduceIte, cond_true, cond_false, bI, and_true, true_and, and_false, false_and, or_true, true_or, or_false, false_or, not_true_eq_false, not_false_eq_true, if_true, if_false, Bool.false_eq_true, reduceCtorEq, ite_true, ite_false])) (by omega) (by omega) _ _ _ hW (lv_sub hl [2, 3, 4, 0] rfl)
              · skip
                refine lv_bipush (v := nI 64) S.1 S.2.1 dX6_nextOf_96 (by decide) ?_
                refine lv_aload_n S.1 S.2.1 dX6_nextOf_98 rfl (lv_at hl 1 rfl) ?_
                refine gf S hk hW 0 rfl rfl hwsX60 5 (by decide) 8 rfl rfl dX6_nextOf_99 ?_
                refine lv_iload_n S.1 S.2.1 dX6_nextOf_102 rfl (lv_at hl 4 rfl) ?_
                refine ild S hk hW 3 rfl i rfl (by omega) (by omega) dX6_nextOf_103 ?_
                refine lv_imul S.1 S.2.1 dX6_nextOf_104 ?_
                refine lv_iconst (v := nI 1) S.1 S.2.1 dX6_nextOf_105 (by decide) ?_
                refine lv_iadd S.1 S.2.1 dX6_nextOf_106 ?_
                refine lv_aload_n S.1 S.2.1 dX6_nextOf_107 rfl (lv_at hl 1 rfl) ?_
                refine gf S hk hW 0 rfl rfl hwsX60 8 (by decide) 6 rfl rfl dX6_nextOf_108 ?_
                refine lv_bipush (v := nI 10) S.1 S.2.1 dX6_nextOf_111 (by decide) ?_
                refine lv_iload S.1 S.2.1 dX6_nextOf_113 (lv_at hl 0 rfl) ?_
                refine lv_imul S.1 S.2.1 dX6_nextOf_115 (top_eq (pk_mul _ _) ?_)
                refine lv_iload_n S.1 S.2.1 dX6_nextOf_116 rfl (lv_at hl 3 rfl) ?_
                refine lv_iadd S.1 S.2.1 dX6_nextOf_117 (top_eq (nI_add _ _) ?_)
                refine ild S hk hW 6 rfl ((10 * (e2 g i)) + b) rfl (by omega) (by omega) dX6_nextOf_118 ?_
                refine lv_iadd S.1 S.2.1 dX6_nextOf_119 ?_
                refine lv_aload_n S.1 S.2.1 dX6_nextOf_120 rfl (lv_at hl 1 rfl) ?_
                refine gf S hk hW 0 rfl rfl hwsX60 8 (by decide) 6 rfl rfl dX6_nextOf_121 ?_
                refine lv_bipush (v := nI 10) S.1 S.2.1 dX6_nextOf_124 (by decide) ?_
                refine lv_iload_n S.1 S.2.1 dX6_nextOf_126 rfl (lv_at hl 2 rfl) ?_
                refine lv_imul S.1 S.2.1 dX6_nextOf_127 (top_eq (pk_mul _ _) ?_)
                refine lv_iload_n S.1 S.2.1 dX6_nextOf_128 rfl (lv_at hl 3 rfl) ?_
                refine lv_iadd S.1 S.2.1 dX6_nextOf_129 (top_eq (nI_add _ _) ?_)
                refine ild S hk hW 6 rfl ((10 * a) + b) rfl (by omega) (by omega) dX6_nextOf_130 ?_
                refine lv_icmp_ne (tgt := 136) S.1 S.2.1 dX6_nextOf_131 (by decide) (fun c_131 => ?_) (fun c_131 => ?_)
                · skip
                  refine lv_iinc (v := nI (i + 1)) (lv' := [(3, .int (nI (i + 1))), (4, .int (nI (e2 g i))), (0, .ref (q 0)), (1, .int (nI a)), (2, .int (nI b))]) (k := 4) S.1 S.2.1 dX6_nextOf_136 hl rfl (nI_1 _) (by decide) rfl (fun ls hl => ?_)
                  refine lv_goto (tgt := 2) S.1 S.2.1 dX6_nextOf_139 (by decide) ?_
                  exact ih2 (i + 1) (fj_step hf (by omega) (by simp only [nxM, tsM, cwM, eq_true c_17, c_68, eq_false c_93, eq_false c_131, eq_self, Nat.add_zero, decide_false, decide_true, Bool.not_true, Bool.not_false, Bool.and_true, Bool.true_and, Bool.and_false, Bool.false_and, Bool.or_true, Bool.true_or, Bool.or_false, Bool.false_or, ↓reduceIte, cond_true, cond_false, bI, and_true, true_and, and_false, false_and, or_true, true_or, or_false, false_or, not_true_eq_false, not_false_eq_true, if_true, if_false, Bool.false_eq_true, reduceCtorEq, ite_true, ite_false])) (by omega) (by omega) _ _ _ hW (lv_sub hl [2, 3, 4, 0] rfl)
                · skip
                  refine lv_iload_n S.1 S.2.1 dX6_nextOf_134 rfl (lv_at hl 4 rfl) ?_
                  exact hR _ _ _ _ _ _ _ _ dX6_nextOf_135 rfl (Nat.le_of_ble_eq_true rfl) (Nat.le_of_ble_eq_true rfl) hW ⟨by rw [fj_found hf (by omega) (by simp only [nxM, tsM, cwM, eq_true c_17, c_68, eq_false c_93, eq_true c_131, eq_self, Nat.add_zero, decide_false, decide_true, Bool.not_true, Bool.not_false, Bool.and_true, Bool.true_and, Bool.and_false, Bool.false_and, Bool.or_true, Bool.true_or, Bool.or_false, Bool.false_or, ↓reduceIte, cond_true, cond_false, bI, and_true, true_and, and_false, false_and, or_true, true_or, or_false, false_or, not_true_eq_false, not_false_eq_true, if_true, if_false, Bool.false_eq_true, reduceCtorEq, ite_true, ite_false])]; rfl, rfl⟩
  exact L2 ((gK g) + 1) 0 rfl (by omega) (by omega) _ _ _ hW (lv_sub hl [1, 2, 3, 0] rfl)
abbrev r_X6_other : Room := { frames := 0, cells := 0, slots := 0, locals := 0 }
theorem v_X6_other : yX6_other.cls ≠ "java/lang/invoke/MethodHandle" ∧ yX6_other.cls ≠ "java/lang/invoke/VarHandle" ∧ (parseMethodDescriptor yX6_other.desc).map (fun d => d.parameters.length) = some 2 := by decide +kernel
set_option maxRecDepth 100000 in
set_option maxHeartbeats 4000000 in
theorem c_X6_other {l : Launch} {D : va_G} {cI cZ cF : ClassId} {q : Nat → Nat} {g : Gr} {fi ke : Nat → Int32} {ac : Nat} {mk : Int32} {iv : Nat → Int32} {j a : Nat} (G : Gok g) (hj : j < gK g) (ha : a < 10) : cI_ l D cI cZ cF yX6_other wsX6_other r_X6_other [.ref (q 0), .int (nI j), .int (nI a)] (wM q cI cZ cF g fi ke ac mk iv) (fun r u => r = nI (otM g j a) ∧ u = wM q cI cZ cF g fi ke ac mk iv) 0 0 := by
  refine cI_of (cc := cX6_other) (maxL := 3) (rt := .int) (plainFor_of_name (by decide +kernel)) rfl (Nat.le_of_ble_eq_true rfl) ?_
  intro p e s m args below meth c A Q ls S hk hW hl hR
  have hl : lv_has ls 3 [(0, .ref (q 0)), (1, .int (nI j)), (2, .int (nI a))] := hl
  have hwsX60 : ∀ x ∈ wsX60, x ∈ wsX6_other := fun x h => List.mem_cons_of_mem _ (List.mem_append_right _ h)
  have hN := Gok_N G; have hN2 := Gok_N2 G; have hKK := Gok_K G
  refine lv_aload_n S.1 S.2.1 dX6_other_0 rfl (lv_at hl 0 rfl) ?_
  refine gf S hk hW 0 rfl rfl hwsX60 3 (by decide) 1 rfl rfl dX6_other_1 ?_
  refine lv_iload_n S.1 S.2.1 dX6_other_4 rfl (lv_at hl 1 rfl) ?_
  refine ild S hk hW 1 rfl j rfl (by omega) (by omega) dX6_other_5 ?_
  refine top_eq (Gok_B G (j := j) (by omega)) ?_
  have hb5 := Gok_B2 G (j := j) (by omega)
  refine lv_iload_n S.1 S.2.1 dX6_other_6 rfl (lv_at hl 2 rfl) ?_
  refine icne_n (tgt := 19) S (by omega) (by omega) dX6_other_7 (by decide) (fun c_7 => ?_) (fun c_7 => ?_)
  · skip
    refine lv_aload_n S.1 S.2.1 dX6_other_19 rfl (lv_at hl 0 rfl) ?_
    refine gf S hk hW 0 rfl rfl hwsX60 3 (by decide) 1 rfl rfl dX6_other_20 ?_
    refine lv_iload_n S.1 S.2.1 dX6_other_23 rfl (lv_at hl 1 rfl) ?_
    refine ild S hk hW 1 rfl j rfl (by omega) (by omega) dX6_other_24 ?_
    refine top_eq (Gok_B G (j := j) (by omega)) ?_
    have hb24 := Gok_B2 G (j := j) (by omega)
    exact hR _ _ _ _ _ _ _ _ dX6_other_25 rfl (Nat.le_of_ble_eq_true rfl) (Nat.le_of_ble_eq_true rfl) hW ⟨(by simp only [otM, eq_false c_7, eq_self, Nat.add_zero, decide_false, decide_true, Bool.not_true, Bool.not_false, Bool.and_true, Bool.true_and, Bool.and_false, Bool.false_and, Bool.or_true, Bool.true_or, Bool.or_false, Bool.false_or, ↓reduceIte, cond_true, cond_false, bI, and_true, true_and, and_false, false_and, or_true, true_or, or_false, false_or, not_true_eq_false, not_false_eq_true, if_true, if_false, Bool.false_eq_true, reduceCtorEq, ite_true, ite_false]), rfl⟩
  · skip
    refine lv_aload_n S.1 S.2.1 dX6_other_10 rfl (lv_at hl 0 rfl) ?_
    refine gf S hk hW 0 rfl rfl hwsX60 4 (by decide) 2 rfl rfl dX6_other_11 ?_
    refine lv_iload_n S.1 S.2.1 dX6_other_14 rfl (lv_at hl 1 rfl) ?_
    refine ild S hk hW 2 rfl j rfl (by omega) (by omega) dX6_other_15 ?_
    refine top_eq (Gok_E G (j := j) (by omega)) ?_
    have hb15 := Gok_E2 G (j := j) (by omega)
    refine lv_goto (tgt := 25) S.1 S.2.1 dX6_other_16 (by decide) ?_
    exact hR _ _ _ _ _ _ _ _ dX6_other_25 rfl (Nat.le_of_ble_eq_true rfl) (Nat.le_of_ble_eq_true rfl) hW ⟨(by simp only [otM, eq_true c_7, eq_self, Nat.add_zero, decide_false, decide_true, Bool.not_true, Bool.not_false, Bool.and_true, Bool.true_and, Bool.and_false, Bool.false_and, Bool.or_true, Bool.true_or, Bool.or_false, Bool.false_or, ↓reduceIte, cond_true, cond_false, bI, and_true, true_and, and_false, false_and, or_true, true_or, or_false, false_or, not_true_eq_false, not_false_eq_true, if_true, if_false, Bool.false_eq_true, reduceCtorEq, ite_true, ite_false]), rfl⟩
abbrev r_X6_isMoved : Room := { frames := 0, cells := 0, slots := 0, locals := 0 }
theorem v_X6_isMoved : yX6_isMoved.cls ≠ "java/lang/invoke/MethodHandle" ∧ yX6_isMoved.cls ≠ "java/lang/invoke/VarHandle" ∧ (parseMethodDescriptor yX6_isMoved.desc).map (fun d => d.parameters.length) = some 2 := by decide +kernel
set_option maxRecDepth 100000 in
set_option maxHeartbeats 4000000 in
theorem c_X6_isMoved {l : Launch} {D : va_G} {cI cZ cF : ClassId} {q : Nat → Nat} {g : Gr} {fi ke : Nat → Int32} {ac : Nat} {mk : Int32} {iv : Nat → Int32} {a b : Nat} (G : Gok g) (h1a : 1 ≤ a) (haa : a ≤ 400) (hb : b < 100) : cI_ l D cI cZ cF yX6_isMoved wsX6_isMoved r_X6_isMoved [.ref (q 0), .int (nI a), .int (nI b)] (wM q cI cZ cF g fi ke ac mk iv) (fun r u => r = bI (mvM (gN g) ke a b) ∧ u = wM q cI cZ cF g fi ke ac mk iv) 0 0 := by
  refine cI_of (cc := cX6_isMoved) (maxL := 3) (rt := .boolean) (plainFor_of_name (by decide +kernel)) rfl (Nat.le_of_ble_eq_true rfl) ?_
  intro p e s m args below meth c A Q ls S hk hW hl hR
  have hl : lv_has ls 3 [(0, .ref (q 0)), (1, .int (nI a)), (2, .int (nI b))] := hl
  have hwsX60 : ∀ x ∈ wsX60, x ∈ wsX6_isMoved := fun x h => List.mem_cons_of_mem _ (List.mem_append_right _ h)
  have hN := Gok_N G; have hN2 := Gok_N2 G; have hKK := Gok_K G
  refine lv_iload_n S.1 S.2.1 dX6_isMoved_0 rfl (lv_at hl 2 rfl) ?_
  refine lv_bipush (v := nI 10) S.1 S.2.1 dX6_isMoved_1 (by decide) ?_
  refine lv_idiv S.1 S.2.1 dX6_isMoved_3 (by decide) (top_eq (pk_div (by omega) (by omega) (by omega)) ?_)
  refine lv_aload_n S.1 S.2.1 dX6_isMoved_4 rfl (lv_at hl 0 rfl) ?_
  refine gf S hk hW 0 rfl rfl hwsX60 1 (by decide) 1 rfl rfl dX6_isMoved_5 ?_
  refine icge_n (tgt := 54) S (by omega) (by omega) dX6_isMoved_8 (by decide) (fun c_8 => ?_) (fun c_8 => ?_)
  · skip
    refine lv_iconst (v := nI 0) S.1 S.2.1 dX6_isMoved_54 (by decide) ?_
    exact hR _ _ _ _ _ _ _ _ dX6_isMoved_55 rfl (Nat.le_of_ble_eq_true rfl) (Nat.le_of_ble_eq_true rfl) hW ⟨(by simp only [mvM, eq_true c_8, eq_self, Nat.add_zero, decide_false, decide_true, Bool.not_true, Bool.not_false, Bool.and_true, Bool.true_and, Bool.and_false, Bool.false_and, Bool.or_true, Bool.true_or, Bool.or_false, Bool.false_or, ↓reduceIte, cond_true, cond_false, bI, and_true, true_and, and_false, false_and, or_true, true_or, or_false, false_or, not_true_eq_false, not_false_eq_true, if_true, if_false, Bool.false_eq_true, reduceCtorEq, ite_true, ite_false]), rfl⟩
  · skip
    refine lv_iload_n S.1 S.2.1 dX6_isMoved_11 rfl (lv_at hl 2 rfl) ?_
    refine lv_bipush (v := nI 10) S.1 S.2.1 dX6_isMoved_12 (by decide) ?_
    refine lv_irem S.1 S.2.1 dX6_isMoved_14 (by decide) (top_eq (pk_rem (by omega) (by omega) (by omega)) ?_)
    refine lv_aload_n S.1 S.2.1 dX6_isMoved_15 rfl (lv_at hl 0 rfl) ?_
    refine gf S hk hW 0 rfl rfl hwsX60 1 (by decide) 1 rfl rfl dX6_isMoved_16 ?_
    refine icge_n (tgt := 54) S (by omega) (by omega) dX6_isMoved_19 (by decide) (fun c_19 => ?_) (fun c_19 => ?_)
    · skip
      refine lv_iconst (v := nI 0) S.1 S.2.1 dX6_isMoved_54 (by decide) ?_
      exact hR _ _ _ _ _ _ _ _ dX6_isMoved_55 rfl (Nat.le_of_ble_eq_true rfl) (Nat.le_of_ble_eq_true rfl) hW ⟨(by simp only [mvM, eq_false c_8, eq_true c_19, eq_self, Nat.add_zero, decide_false, decide_true, Bool.not_true, Bool.not_false, Bool.and_true, Bool.true_and, Bool.and_false, Bool.false_and, Bool.or_true, Bool.true_or, Bool.or_false, Bool.false_or, ↓reduceIte, cond_true, cond_false, bI, and_true, true_and, and_false, false_and, or_true, true_or, or_false, false_or, not_true_eq_false, not_false_eq_true, if_true, if_false, Bool.false_eq_true, reduceCtorEq, ite_true, ite_false]), rfl⟩
    · skip
      refine lv_aload_n S.1 S.2.1 dX6_isMoved_22 rfl (lv_at hl 0 rfl) ?_
      refine gf S hk hW 0 rfl rfl hwsX60 9 (by decide) 2 rfl rfl dX6_isMoved_23 ?_
      refine lv_bipush (v := nI 100) S.1 S.2.1 dX6_isMoved_26 (by decide) ?_
      refine lv_iload_n S.1 S.2.1 dX6_isMoved_28 rfl (lv_at hl 1 rfl) ?_
      refine lv_imul S.1 S.2.1 dX6_isMoved_29 (top_eq (pk_mul _ _) ?_)
      refine lv_iload_n S.1 S.2.1 dX6_isMoved_30 rfl (lv_at hl 2 rfl) ?_
      refine lv_iadd S.1 S.2.1 dX6_isMoved_31 (top_eq (nI_add _ _) ?_)
      refine ild S hk hW 7 rfl ((100 * a) + b) rfl (by omega) (by omega) dX6_isMoved_32 ?_
      refine lv_aload_n S.1 S.2.1 dX6_isMoved_33 rfl (lv_at hl 0 rfl) ?_
      refine gf S hk hW 0 rfl rfl hwsX60 9 (by decide) 2 rfl rfl dX6_isMoved_34 ?_
      refine lv_bipush (v := nI 100) S.1 S.2.1 dX6_isMoved_37 (by decide) ?_
      refine lv_iload_n S.1 S.2.1 dX6_isMoved_39 rfl (lv_at hl 1 rfl) ?_
      refine lv_imul S.1 S.2.1 dX6_isMoved_40 (top_eq (pk_mul _ _) ?_)
      refine lv_bipush (v := nI 100) S.1 S.2.1 dX6_isMoved_41 (by decide) ?_
      refine lv_isub S.1 S.2.1 dX6_isMoved_43 (top_eq (pk_sub (by omega)) ?_)
      refine lv_iload_n S.1 S.2.1 dX6_isMoved_44 rfl (lv_at hl 2 rfl) ?_
      refine lv_iadd S.1 S.2.1 dX6_isMoved_45 (top_eq (nI_add _ _) ?_)
      refine ild S hk hW 7 rfl (((100 * a) - 100) + b) rfl (by omega) (by omega) dX6_isMoved_46 ?_
      refine lv_icmp_eq (tgt := 54) S.1 S.2.1 dX6_isMoved_47 (by decide) (fun c_47 => ?_) (fun c_47 => ?_)
      · skip
        refine lv_iconst (v := nI 0) S.1 S.2.1 dX6_isMoved_54 (by decide) ?_
        exact hR _ _ _ _ _ _ _ _ dX6_isMoved_55 rfl (Nat.le_of_ble_eq_true rfl) (Nat.le_of_ble_eq_true rfl) hW ⟨(by simp only [mvM, eq_false c_8, eq_false c_19, eq_true c_47, eq_self, Nat.add_zero, decide_false, decide_true, Bool.not_true, Bool.not_false, Bool.and_true, Bool.true_and, Bool.and_false, Bool.false_and, Bool.or_true, Bool.true_or, Bool.or_false, Bool.false_or, ↓reduceIte, cond_true, cond_false, bI, and_true, true_and, and_false, false_and, or_true, true_or, or_false, false_or, not_true_eq_false, not_false_eq_true, if_true, if_false, Bool.false_eq_true, reduceCtorEq, ite_true, ite_false]), rfl⟩
      · skip
        refine lv_iconst (v := nI 1) S.1 S.2.1 dX6_isMoved_50 (by decide) ?_
        refine lv_goto (tgt := 55) S.1 S.2.1 dX6_isMoved_51 (by decide) ?_
        exact hR _ _ _ _ _ _ _ _ dX6_isMoved_55 rfl (Nat.le_of_ble_eq_true rfl) (Nat.le_of_ble_eq_true rfl) hW ⟨(by simp only [mvM, eq_false c_8, eq_false c_19, eq_false c_47, eq_self, Nat.add_zero, decide_false, decide_true, Bool.not_true, Bool.not_false, Bool.and_true, Bool.true_and, Bool.and_false, Bool.false_and, Bool.or_true, Bool.true_or, Bool.or_false, Bool.false_or, ↓reduceIte, cond_true, cond_false, bI, and_true, true_and, and_false, false_and, or_true, true_or, or_false, false_or, not_true_eq_false, not_false_eq_true, if_true, if_false, Bool.false_eq_true, reduceCtorEq, ite_true, ite_false]), rfl⟩
abbrev r_X6_nearOf : Room := { frames := 2, cells := 0, slots := 0, locals := 43 }
theorem v_X6_nearOf : yX6_nearOf.cls ≠ "java/lang/invoke/MethodHandle" ∧ yX6_nearOf.cls ≠ "java/lang/invoke/VarHandle" ∧ (parseMethodDescriptor yX6_nearOf.desc).map (fun d => d.parameters.length) = some 2 := by decide +kernel
set_option maxRecDepth 100000 in
set_option maxHeartbeats 4000000 in
theorem c_X6_nearOf {l : Launch} {D : va_G} {cI cZ cF : ClassId} {q : Nat → Nat} {g : Gr} {fi ke : Nat → Int32} {ac : Nat} {mk : Int32} {iv : Nat → Int32} {a b : Nat} (G : Gok g) (ha : a < 10) (hb : b < 10) : cI_ l D cI cZ cF yX6_nearOf wsX6_nearOf r_X6_nearOf [.ref (q 0), .int (nI a), .int (nI b)] (wM q cI cZ cF g fi ke ac mk iv) (fun r u => r = nrM fi mk a b (gN g) ∧ u = wM q cI cZ cF g fi ke ac mk iv) 0 0 := by
  refine cI_of (cc := cX6_nearOf) (maxL := 6) (rt := .int) (plainFor_of_name (by decide +kernel)) rfl (Nat.le_of_ble_eq_true rfl) ?_
  intro p e s m args below meth c A Q ls S hk hW hl hR
  have hl : lv_has ls 6 [(0, .ref (q 0)), (1, .int (nI a)), (2, .int (nI b))] := hl
  have hwsX60 : ∀ x ∈ wsX60, x ∈ wsX6_nearOf := fun x h => List.mem_cons_of_mem _ (List.mem_append_right _ h)
  have hN := Gok_N G; have hN2 := Gok_N2 G; have hKK := Gok_K G
  refine lv_sipush (v := (-1000)) S.1 S.2.1 dX6_nearOf_0 (by decide) ?_
  refine lv_istore_n (lv' := [(3, .int (-1000)), (0, .ref (q 0)), (1, .int (nI a)), (2, .int (nI b))]) S.1 S.2.1 dX6_nearOf_3 rfl hl (by decide) rfl (fun ls hl => ?_)
  refine lv_iconst (v := nI 0) S.1 S.2.1 dX6_nearOf_4 (by decide) ?_
  refine lv_istore (lv' := [(4, .int (nI 0)), (3, .int (-1000)), (0, .ref (q 0)), (1, .int (nI a)), (2, .int (nI b))]) S.1 S.2.1 dX6_nearOf_5 hl (by decide) rfl (fun ls hl => ?_)
  have L7 : ∀ (dd : Nat), ∀ (z : Int32), ∀ (i : Nat), (z = nrM fi mk a b i) → (i ≤ gN g) → gN g < i + dd → ∀ (H : Heap) (locs : List Loc) (ls : Array Slot), wd D A s H locs (wM q cI cZ cF g fi ke ac mk iv) → lv_has ls 6 [(0, .ref (q 0)), (1, .int (nI a)), (2, .int (nI b)), (3, .int z), (4, .int (nI i))] → W p l e r_X6_nearOf s m args below meth c H locs 0 0 Q (F0 m 7 ls []) := by
    intro dd
    induction dd with
    | zero => intros; omega
    | succ dd ih7 =>
      intro z i hz hi hdd H locs ls hW hl
      refine lv_iload S.1 S.2.1 dX6_nearOf_7 (lv_at hl 4 rfl) ?_
      refine lv_aload_n S.1 S.2.1 dX6_nearOf_9 rfl (lv_at hl 0 rfl) ?_
      refine gf S hk hW 0 rfl rfl hwsX60 1 (by decide) 1 rfl rfl dX6_nearOf_10 ?_
      refine icge_n (tgt := 98) S (by omega) (by omega) dX6_nearOf_13 (by decide) (fun c_13 => ?_) (fun c_13 => ?_)
      · skip
        refine lv_iload_n S.1 S.2.1 dX6_nearOf_98 rfl (lv_at hl 3 rfl) ?_
        exact hR _ _ _ _ _ _ _ _ dX6_nearOf_99 rfl (Nat.le_of_ble_eq_true rfl) (Nat.le_of_ble_eq_true rfl) hW ⟨by rw [hz, show i = gN g by omega], rfl⟩
      · skip
        refine lv_aload_n S.1 S.2.1 dX6_nearOf_16 rfl (lv_at hl 0 rfl) ?_
        refine gf S hk hW 0 rfl rfl hwsX60 11 (by decide) 2 rfl rfl dX6_nearOf_17 ?_
        refine lv_iload S.1 S.2.1 dX6_nearOf_20 (lv_at hl 4 rfl) ?_
        refine lv_ishr S.1 S.2.1 dX6_nearOf_22 ?_
        refine lv_iconst (v := nI 1) S.1 S.2.1 dX6_nearOf_23 (by decide) ?_
        refine lv_iand S.1 S.2.1 dX6_nearOf_24 ?_
        refine lv_iconst (v := nI 1) S.1 S.2.1 dX6_nearOf_25 (by decide) ?_
        refine lv_icmp_ne (tgt := 92) S.1 S.2.1 dX6_nearOf_26 (by decide) (fun c_26 => ?_) (fun c_26 => ?_)
        · skip
          refine lv_iinc (v := nI (i + 1)) (lv' := [(4, .int (nI (i + 1))), (0, .ref (q 0)), (1, .int (nI a)), (2, .int (nI b)), (3, .int z)]) (k := 4) S.1 S.2.1 dX6_nearOf_92 hl rfl (nI_1 _) (by decide) rfl (fun ls hl => ?_)
          refine lv_goto (tgt := 7) S.1 S.2.1 dX6_nearOf_95 (by decide) ?_
          exact ih7 z (i + 1) (by simp only [nrM, ← hz, eq_false c_26, eq_self, Nat.add_zero, decide_false, decide_true, Bool.not_true, Bool.not_false, Bool.and_true, Bool.true_and, Bool.and_false, Bool.false_and, Bool.or_true, Bool.true_or, Bool.or_false, Bool.false_or, ↓reduceIte, cond_true, cond_false, bI, and_true, true_and, and_false, false_and, or_true, true_or, or_false, false_or, not_true_eq_false, not_false_eq_true, if_true, if_false, Bool.false_eq_true, reduceCtorEq, ite_true, ite_false]) (by omega) (by omega) _ _ _ hW (lv_sub hl [1, 2, 3, 4, 0] rfl)
        · skip
          refine lv_aload_n S.1 S.2.1 dX6_nearOf_29 rfl (lv_at hl 0 rfl) ?_
          refine lv_iload_n S.1 S.2.1 dX6_nearOf_30 rfl (lv_at hl 1 rfl) ?_
          refine lv_iload S.1 S.2.1 dX6_nearOf_31 (lv_at hl 4 rfl) ?_
          refine kVi S (c_X6_farOf (l := l) (D := D) (cI := cI) (cZ := cZ) (cF := cF) (by first | assumption | omega) (by first | assumption | omega)) (cwV 2 S.2.2.2.2 gX6_nearOf_X6_farOf rfl rfl rfl ⟨rfl, v_X6_farOf⟩ ⟨(Nat.le_of_ble_eq_true rfl), (Nat.le_of_ble_eq_true rfl)⟩) hk hW 0 rfl rfl rfl rfl hl rfl (Nat.le_of_ble_eq_true rfl) dX6_nearOf_33 ⟨(Nat.le_of_ble_eq_true rfl), (Nat.le_of_ble_eq_true rfl)⟩ (fun r u H locs hp hW => ?_)
          obtain ⟨rfl, rfl⟩ := hp
          refine lv_sipush (v := (-1000)) S.1 S.2.1 dX6_nearOf_36 (by decide) ?_
          refine lv_icmp_eq (tgt := 92) S.1 S.2.1 dX6_nearOf_39 (by decide) (fun c_39 => ?_) (fun c_39 => ?_)
          · skip
            refine lv_iinc (v := nI (i + 1)) (lv' := [(4, .int (nI (i + 1))), (0, .ref (q 0)), (1, .int (nI a)), (2, .int (nI b)), (3, .int z)]) (k := 4) S.1 S.2.1 dX6_nearOf_92 hl rfl (nI_1 _) (by decide) rfl (fun ls hl => ?_)
            refine lv_goto (tgt := 7) S.1 S.2.1 dX6_nearOf_95 (by decide) ?_
            exact ih7 z (i + 1) (by simp only [nrM, ← hz, eq_true c_26, eq_true c_39, eq_self, Nat.add_zero, decide_false, decide_true, Bool.not_true, Bool.not_false, Bool.and_true, Bool.true_and, Bool.and_false, Bool.false_and, Bool.or_true, Bool.true_or, Bool.or_false, Bool.false_or, ↓reduceIte, cond_true, cond_false, bI, and_true, true_and, and_false, false_and, or_true, true_or, or_false, false_or, not_true_eq_false, not_false_eq_true, if_true, if_false, Bool.false_eq_true, reduceCtorEq, ite_true, ite_false]) (by omega) (by omega) _ _ _ hW (lv_sub hl [1, 2, 3, 4, 0] rfl)
          · skip
            refine lv_aload_n S.1 S.2.1 dX6_nearOf_42 rfl (lv_at hl 0 rfl) ?_
            refine lv_iload S.1 S.2.1 dX6_nearOf_43 (lv_at hl 4 rfl) ?_
            refine lv_iload_n S.1 S.2.1 dX6_nearOf_45 rfl (lv_at hl 2 rfl) ?_
            refine kVi S (c_X6_farOf (l := l) (D := D) (cI := cI) (cZ := cZ) (cF := cF) (by first | assumption | omega) (by first | assumption | omega)) (cwV 2 S.2.2.2.2 gX6_nearOf_X6_farOf rfl rfl rfl ⟨rfl, v_X6_farOf⟩ ⟨(Nat.le_of_ble_eq_true rfl), (Nat.le_of_ble_eq_true rfl)⟩) hk hW 0 rfl rfl rfl rfl hl rfl (Nat.le_of_ble_eq_true rfl) dX6_nearOf_46 ⟨(Nat.le_of_ble_eq_true rfl), (Nat.le_of_ble_eq_true rfl)⟩ (fun r u H locs hp hW => ?_)
            obtain ⟨rfl, rfl⟩ := hp
            refine lv_sipush (v := (-1000)) S.1 S.2.1 dX6_nearOf_49 (by decide) ?_
            refine lv_icmp_eq (tgt := 92) S.1 S.2.1 dX6_nearOf_52 (by decide) (fun c_52 => ?_) (fun c_52 => ?_)
            · skip
              refine lv_iinc (v := nI (i + 1)) (lv' := [(4, .int (nI (i + 1))), (0, .ref (q 0)), (1, .int (nI a)), (2, .int (nI b)), (3, .int z)]) (k := 4) S.1 S.2.1 dX6_nearOf_92 hl rfl (nI_1 _) (by decide) rfl (fun ls hl => ?_)
              refine lv_goto (tgt := 7) S.1 S.2.1 dX6_nearOf_95 (by decide) ?_
              exact ih7 z (i + 1) (by simp only [nrM, ← hz, eq_true c_26, eq_false c_39, eq_true c_52, eq_self, Nat.add_zero, decide_false, decide_true, Bool.not_true, Bool.not_false, Bool.and_true, Bool.true_and, Bool.and_false, Bool.false_and, Bool.or_true, Bool.true_or, Bool.or_false, Bool.false_or, ↓reduceIte, cond_true, cond_false, bI, and_true, true_and, and_false, false_and, or_true, true_or, or_false, false_or, not_true_eq_false, not_false_eq_true, if_true, if_false, Bool.false_eq_true, reduceCtorEq, ite_true, ite_false]) (by omega) (by omega) _ _ _ hW (lv_sub hl [1, 2, 3, 4, 0] rfl)
            · skip
              refine lv_aload_n S.1 S.2.1 dX6_nearOf_55 rfl (lv_at hl 0 rfl) ?_
              refine lv_iload_n S.1 S.2.1 dX6_nearOf_56 rfl (lv_at hl 1 rfl) ?_
              refine lv_iload S.1 S.2.1 dX6_nearOf_57 (lv_at hl 4 rfl) ?_
              refine kVi S (c_X6_farOf (l := l) (D := D) (cI := cI) (cZ := cZ) (cF := cF) (by first | assumption | omega) (by first | assumption | omega)) (cwV 2 S.2.2.2.2 gX6_nearOf_X6_farOf rfl rfl rfl ⟨rfl, v_X6_farOf⟩ ⟨(Nat.le_of_ble_eq_true rfl), (Nat.le_of_ble_eq_true rfl)⟩) hk hW 0 rfl rfl rfl rfl hl rfl (Nat.le_of_ble_eq_true rfl) dX6_nearOf_59 ⟨(Nat.le_of_ble_eq_true rfl), (Nat.le_of_ble_eq_true rfl)⟩ (fun r u H locs hp hW => ?_)
              obtain ⟨rfl, rfl⟩ := hp
              refine lv_aload_n S.1 S.2.1 dX6_nearOf_62 rfl (lv_at hl 0 rfl) ?_
              refine lv_iload S.1 S.2.1 dX6_nearOf_63 (lv_at hl 4 rfl) ?_
              refine lv_iload_n S.1 S.2.1 dX6_nearOf_65 rfl (lv_at hl 2 rfl) ?_
              refine kVi S (c_X6_farOf (l := l) (D := D) (cI := cI) (cZ := cZ) (cF := cF) (by first | assumption | omega) (by first | assumption | omega)) (cwV 2 S.2.2.2.2 gX6_nearOf_X6_farOf rfl rfl rfl ⟨rfl, v_X6_farOf⟩ ⟨(Nat.le_of_ble_eq_true rfl), (Nat.le_of_ble_eq_true rfl)⟩) hk hW 0 rfl rfl rfl rfl hl rfl (Nat.le_of_ble_eq_true rfl) dX6_nearOf_66 ⟨(Nat.le_of_ble_eq_true rfl), (Nat.le_of_ble_eq_true rfl)⟩ (fun r u H locs hp hW => ?_)
              obtain ⟨rfl, rfl⟩ := hp
              refine lv_iadd S.1 S.2.1 dX6_nearOf_69 ?_
              refine lv_istore (lv' := [(5, .int ((cfr fi a i) + (cfr fi i b))), (0, .ref (q 0)), (1, .int (nI a)), (2, .int (nI b)), (3, .int z), (4, .int (nI i))]) S.1 S.2.1 dX6_nearOf_70 hl (by decide) rfl (fun ls hl => ?_)
              refine lv_iload_n S.1 S.2.1 dX6_nearOf_72 rfl (lv_at hl 4 rfl) ?_
              refine lv_sipush (v := (-1000)) S.1 S.2.1 dX6_nearOf_73 (by decide) ?_
              refine lv_icmp_eq (tgt := 85) S.1 S.2.1 dX6_nearOf_76 (by decide) (fun c_76 => ?_) (fun c_76 => ?_)
              · skip
                refine lv_iload S.1 S.2.1 dX6_nearOf_85 (lv_at hl 0 rfl) ?_
                refine lv_goto (tgt := 91) S.1 S.2.1 dX6_nearOf_87 (by decide) ?_
                refine lv_istore_n (lv' := [(3, .int ((cfr fi a i) + (cfr fi i b))), (5, .int ((cfr fi a i) + (cfr fi i b))), (0, .ref (q 0)), (1, .int (nI a)), (2, .int (nI b)), (4, .int (nI i))]) S.1 S.2.1 dX6_nearOf_91 rfl hl (by decide) rfl (fun ls hl => ?_)
                refine lv_iinc (v := nI (i + 1)) (lv' := [(4, .int (nI (i + 1))), (3, .int ((cfr fi a i) + (cfr fi i b))), (5, .int ((cfr fi a i) + (cfr fi i b))), (0, .ref (q 0)), (1, .int (nI a)), (2, .int (nI b))]) (k := 5) S.1 S.2.1 dX6_nearOf_92 hl rfl (nI_1 _) (by decide) rfl (fun ls hl => ?_)
                refine lv_goto (tgt := 7) S.1 S.2.1 dX6_nearOf_95 (by decide) ?_
                exact ih7 ((cfr fi a i) + (cfr fi i b)) (i + 1) (by simp only [nrM, ← hz, eq_true c_26, eq_false c_39, eq_false c_52, eq_true c_76, eq_self, Nat.add_zero, decide_false, decide_true, Bool.not_true, Bool.not_false, Bool.and_true, Bool.true_and, Bool.and_false, Bool.false_and, Bool.or_true, Bool.true_or, Bool.or_false, Bool.false_or, ↓reduceIte, cond_true, cond_false, bI, and_true, true_and, and_false, false_and, or_true, true_or, or_false, false_or, not_true_eq_false, not_false_eq_true, if_true, if_false, Bool.false_eq_true, reduceCtorEq, ite_true, ite_false]) (by omega) (by omega) _ _ _ hW (lv_sub hl [3, 4, 5, 1, 0] rfl)
              · skip
                refine lv_iload S.1 S.2.1 dX6_nearOf_79 (lv_at hl 0 rfl) ?_
                refine lv_iload_n S.1 S.2.1 dX6_nearOf_81 rfl (lv_at hl 4 rfl) ?_
                refine lv_icmp_ge (tgt := 90) S.1 S.2.1 dX6_nearOf_82 (by decide) (fun c_82 => ?_) (fun c_82 => ?_)
                · skip
                  refine lv_iload_n S.1 S.2.1 dX6_nearOf_90 rfl (lv_at hl 4 rfl) ?_
                  refine lv_istore_n (lv' := [(3, .int z), (5, .int ((cfr fi a i) + (cfr fi i b))), (0, .ref (q 0)), (1, .int (nI a)), (2, .int (nI b)), (4, .int (nI i))]) S.1 S.2.1 dX6_nearOf_91 rfl hl (by decide) rfl (fun ls hl => ?_)
                  refine lv_iinc (v := nI (i + 1)) (lv' := [(4, .int (nI (i + 1))), (3, .int z), (5, .int ((cfr fi a i) + (cfr fi i b))), (0, .ref (q 0)), (1, .int (nI a)), (2, .int (nI b))]) (k := 5) S.1 S.2.1 dX6_nearOf_92 hl rfl (nI_1 _) (by decide) rfl (fun ls hl => ?_)
                  refine lv_goto (tgt := 7) S.1 S.2.1 dX6_nearOf_95 (by decide) ?_
                  exact ih7 z (i + 1) (by simp only [nrM, ← hz, eq_true c_26, eq_false c_39, eq_false c_52, eq_false c_76, eq_true c_82, eq_self, Nat.add_zero, decide_false, decide_true, Bool.not_true, Bool.not_false, Bool.and_true, Bool.true_and, Bool.and_false, Bool.false_and, Bool.or_true, Bool.true_or, Bool.or_false, Bool.false_or, ↓reduceIte, cond_true, cond_false, bI, and_true, true_and, and_false, false_and, or_true, true_or, or_false, false_or, not_true_eq_false, not_false_eq_true, if_true, if_false, Bool.false_eq_true, reduceCtorEq, ite_true, ite_false]) (by omega) (by omega) _ _ _ hW (lv_sub hl [3, 4, 5, 1, 0] rfl)
                · skip
                  refine lv_iload S.1 S.2.1 dX6_nearOf_85 (lv_at hl 0 rfl) ?_
                  refine lv_goto (tgt := 91) S.1 S.2.1 dX6_nearOf_87 (by decide) ?_
                  refine lv_istore_n (lv' := [(3, .int ((cfr fi a i) + (cfr fi i b))), (5, .int ((cfr fi a i) + (cfr fi i b))), (0, .ref (q 0)), (1, .int (nI a)), (2, .int (nI b)), (4, .int (nI i))]) S.1 S.2.1 dX6_nearOf_91 rfl hl (by decide) rfl (fun ls hl => ?_)
                  refine lv_iinc (v := nI (i + 1)) (lv' := [(4, .int (nI (i + 1))), (3, .int ((cfr fi a i) + (cfr fi i b))), (5, .int ((cfr fi a i) + (cfr fi i b))), (0, .ref (q 0)), (1, .int (nI a)), (2, .int (nI b))]) (k := 5) S.1 S.2.1 dX6_nearOf_92 hl rfl (nI_1 _) (by decide) rfl (fun ls hl => ?_)
                  refine lv_goto (tgt := 7) S.1 S.2.1 dX6_nearOf_95 (by decide) ?_
                  exact ih7 ((cfr fi a i) + (cfr fi i b)) (i + 1) (by simp only [nrM, ← hz, eq_true c_26, eq_false c_39, eq_false c_52, eq_false c_76, eq_false c_82, eq_self, Nat.add_zero, decide_false, decide_true, Bool.not_true, Bool.not_false, Bool.and_true, Bool.true_and, Bool.and_false, Bool.false_and, Bool.or_true, Bool.true_or, Bool.or_false, Bool.false_or, ↓reduceIte, cond_true, cond_false, bI, and_true, true_and, and_false, false_and, or_true, true_or, or_false, false_or, not_true_eq_false, not_false_eq_true, if_true, if_false, Bool.false_eq_true, reduceCtorEq, ite_true, ite_false]) (by omega) (by omega) _ _ _ hW (lv_sub hl [3, 4, 5, 1, 0] rfl)
  exact L7 ((gN g) + 1) (-1000) 0 rfl (by omega) (by omega) _ _ _ hW (lv_sub hl [2, 3, 4, 1, 0] rfl)
abbrev r_X6_bits : Room := { frames := 0, cells := 0, slots := 0, locals := 0 }
theorem v_X6_bits : yX6_bits.cls ≠ "java/lang/invoke/MethodHandle" ∧ yX6_bits.cls ≠ "java/lang/invoke/VarHandle" ∧ (parseMethodDescriptor yX6_bits.desc).map (fun d => d.parameters.length) = some 1 := by decide +kernel
set_option maxRecDepth 100000 in
set_option maxHeartbeats 4000000 in
theorem c_X6_bits {l : Launch} {D : va_G} {cI cZ cF : ClassId} {w : va_W} {x : Int32}  : cI_ l D cI cZ cF yX6_bits wsX6_bits r_X6_bits [.int x] (w) (fun r u => r = bsM x 10 ∧ u = w) 0 0 := by
  refine cI_of (cc := cX6_bits) (maxL := 3) (rt := .int) (plainFor_of_name (by decide +kernel)) rfl (Nat.le_of_ble_eq_true rfl) ?_
  intro p e s m args below meth c A Q ls S hk hW hl hR
  have hl : lv_has ls 3 [(0, .int x)] := hl
  refine lv_iconst (v := nI 0) S.1 S.2.1 dX6_bits_0 (by decide) ?_
  refine lv_istore_n (lv' := [(1, .int (nI 0)), (0, .int x)]) S.1 S.2.1 dX6_bits_1 rfl hl (by decide) rfl (fun ls hl => ?_)
  refine lv_iconst (v := nI 0) S.1 S.2.1 dX6_bits_2 (by decide) ?_
  refine lv_istore_n (lv' := [(2, .int (nI 0)), (1, .int (nI 0)), (0, .int x)]) S.1 S.2.1 dX6_bits_3 rfl hl (by decide) rfl (fun ls hl => ?_)
  have L4 : ∀ (dd : Nat), ∀ (z : Int32), ∀ (i : Nat), (z = bsM x i) → (i ≤ 10) → 10 < i + dd → ∀ (H : Heap) (locs : List Loc) (ls : Array Slot), wd D A s H locs (w) → lv_has ls 3 [(0, .int x), (1, .int z), (2, .int (nI i))] → W p l e r_X6_bits s m args below meth c H locs 0 0 Q (F0 m 4 ls []) := by
    intro dd
    induction dd with
    | zero => intros; omega
    | succ dd ih4 =>
      intro z i hz hi hdd H locs ls hW hl
      refine lv_iload_n S.1 S.2.1 dX6_bits_4 rfl (lv_at hl 2 rfl) ?_
      refine lv_bipush (v := nI 10) S.1 S.2.1 dX6_bits_5 (by decide) ?_
      refine icge_n (tgt := 24) S (by omega) (by omega) dX6_bits_7 (by decide) (fun c_7 => ?_) (fun c_7 => ?_)
      · skip
        refine lv_iload_n S.1 S.2.1 dX6_bits_24 rfl (lv_at hl 1 rfl) ?_
        exact hR _ _ _ _ _ _ _ _ dX6_bits_25 rfl (Nat.le_of_ble_eq_true rfl) (Nat.le_of_ble_eq_true rfl) hW ⟨by rw [hz, show i = 10 by omega], rfl⟩
      · skip
        refine lv_iload_n S.1 S.2.1 dX6_bits_10 rfl (lv_at hl 1 rfl) ?_
        refine lv_iload_n S.1 S.2.1 dX6_bits_11 rfl (lv_at hl 0 rfl) ?_
        refine lv_iload_n S.1 S.2.1 dX6_bits_12 rfl (lv_at hl 2 rfl) ?_
        refine lv_ishr S.1 S.2.1 dX6_bits_13 ?_
        refine lv_iconst (v := nI 1) S.1 S.2.1 dX6_bits_14 (by decide) ?_
        refine lv_iand S.1 S.2.1 dX6_bits_15 ?_
        refine lv_iadd S.1 S.2.1 dX6_bits_16 ?_
        refine lv_istore_n (lv' := [(1, .int (z + ((x >>> ((nI i) &&& 31)) &&& (nI 1)))), (0, .int x), (2, .int (nI i))]) S.1 S.2.1 dX6_bits_17 rfl hl (by decide) rfl (fun ls hl => ?_)
        refine lv_iinc (v := nI (i + 1)) (lv' := [(2, .int (nI (i + 1))), (1, .int (z + ((x >>> ((nI i) &&& 31)) &&& (nI 1)))), (0, .int x)]) (k := 2) S.1 S.2.1 dX6_bits_18 hl rfl (nI_1 _) (by decide) rfl (fun ls hl => ?_)
        refine lv_goto (tgt := 4) S.1 S.2.1 dX6_bits_21 (by decide) ?_
        exact ih4 (z + ((x >>> ((nI i) &&& 31)) &&& (nI 1))) (i + 1) (by rw [hz]; rfl) (by omega) (by omega) _ _ _ hW (lv_sub hl [2, 1, 0] rfl)
  exact L4 (10 + 1) (nI 0) 0 rfl (by omega) (by omega) _ _ _ hW (lv_sub hl [2, 1, 0] rfl)
