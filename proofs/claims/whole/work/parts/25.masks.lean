abbrev r_X6_far : Room := { frames := 2, cells := 0, slots := 0, locals := 46 }
theorem v_X6_far : yX6_far.cls ≠ "java/lang/invoke/MethodHandle" ∧ yX6_far.cls ≠ "java/lang/invoke/VarHandle" ∧ (parseMethodDescriptor yX6_far.desc).map (fun d => d.parameters.length) = some 2 := by decide +kernel
set_option maxRecDepth 100000 in
set_option maxHeartbeats 4000000 in
theorem c_X6_far {l : Launch} {D : va_G} {cI cZ cF : ClassId} {q : Nat → Nat} {g : Gr} {fi ke : Nat → Int32} {ac : Nat} {mk : Int32} {iv : Nat → Int32} {x y : Int32} (G : Gok g) : cI_ l D cI cZ cF yX6_far wsX6_far r_X6_far [.ref (q 0), .int x, .int y] (wM q cI cZ cF g fi ke ac mk iv) (fun r u => r = farM g x y ∧ ∃ fi', u = wM q cI cZ cF g fi' ke ac mk iv) 0 0 := by
  refine cI_of (cc := cX6_far) (maxL := 3) (rt := .int) (plainFor_of_name (by decide +kernel)) rfl (Nat.le_of_ble_eq_true rfl) ?_
  intro p e s m args below meth c A Q ls S hk hW hl hR
  have hl : lv_has ls 3 [(0, .ref (q 0)), (1, .int x), (2, .int y)] := hl
  have hwsX60 : ∀ x ∈ wsX60, x ∈ wsX6_far := fun x h => List.mem_cons_of_mem _ (List.mem_append_right _ h)
  have hN := Gok_N G; have hN2 := Gok_N2 G; have hKK := Gok_K G
  refine lv_aload_n S.1 S.2.1 dX6_far_0 rfl (lv_at hl 0 rfl) ?_
  refine lv_iconst (v := nI 0) S.1 S.2.1 dX6_far_1 (by decide) ?_
  refine pf (ty := .int) (w' := wM q cI cZ cF g fi ke ac mk iv) S hk hW 0 rfl rfl hwsX60 tyX6 tyX6_ok nmX6 0 (by decide) 1 rfl rfl (by decide +kernel) rfl rfl (Nat.le_of_ble_eq_true rfl) dX6_far_2 rfl (fun H locs hW => ?_)
  refine lv_aload_n S.1 S.2.1 dX6_far_5 rfl (lv_at hl 0 rfl) ?_
  refine lv_iload_n S.1 S.2.1 dX6_far_6 rfl (lv_at hl 1 rfl) ?_
  refine kVi S (c_X6_noPost (l := l) (D := D) (cI := cI) (cZ := cZ) (cF := cF) G) (cwV 1 S.2.2.2.2 gX6_far_X6_noPost rfl rfl rfl ⟨rfl, v_X6_noPost⟩ ⟨(Nat.le_of_ble_eq_true rfl), (Nat.le_of_ble_eq_true rfl)⟩) hk hW 0 rfl rfl rfl rfl hl rfl (Nat.le_of_ble_eq_true rfl) dX6_far_7 ⟨(Nat.le_of_ble_eq_true rfl), (Nat.le_of_ble_eq_true rfl)⟩ (fun r u H locs hp hW => ?_)
  obtain ⟨rfl, rfl⟩ := hp
  refine ifne_nb (tgt := 21) S dX6_far_10 (by decide) (fun c_10 => ?_) (fun c_10 => ?_)
  · skip
    refine lv_sipush (v := (-1001)) S.1 S.2.1 dX6_far_21 (by decide) ?_
    exact hR _ _ _ _ _ _ _ _ dX6_far_24 rfl (Nat.le_of_ble_eq_true rfl) (Nat.le_of_ble_eq_true rfl) hW ⟨(by simp only [farM, c_10, eq_self, Nat.add_zero, decide_false, decide_true, Bool.not_true, Bool.not_false, Bool.and_true, Bool.true_and, Bool.and_false, Bool.false_and, Bool.or_true, Bool.true_or, Bool.or_false, Bool.false_or, ↓reduceIte, cond_true, cond_false, bI, and_true, true_and, and_false, false_and, or_true, true_or, or_false, false_or, not_true_eq_false, not_false_eq_true, if_true, if_false, Bool.false_eq_true, reduceCtorEq, ite_true, ite_false]), ⟨_, rfl⟩⟩
  · skip
    refine lv_aload_n S.1 S.2.1 dX6_far_13 rfl (lv_at hl 0 rfl) ?_
    refine lv_iload_n S.1 S.2.1 dX6_far_14 rfl (lv_at hl 2 rfl) ?_
    refine kVi S (c_X6_noPost (l := l) (D := D) (cI := cI) (cZ := cZ) (cF := cF) G) (cwV 1 S.2.2.2.2 gX6_far_X6_noPost rfl rfl rfl ⟨rfl, v_X6_noPost⟩ ⟨(Nat.le_of_ble_eq_true rfl), (Nat.le_of_ble_eq_true rfl)⟩) hk hW 0 rfl rfl rfl rfl hl rfl (Nat.le_of_ble_eq_true rfl) dX6_far_15 ⟨(Nat.le_of_ble_eq_true rfl), (Nat.le_of_ble_eq_true rfl)⟩ (fun r u H locs hp hW => ?_)
    obtain ⟨rfl, rfl⟩ := hp
    refine ifeq_nb (tgt := 25) S dX6_far_18 (by decide) (fun c_18 => ?_) (fun c_18 => ?_)
    · skip
      obtain ⟨a, ha, rfl⟩ := inb_nat c_10 (by omega)
      have hca : (nI a).toNatClampNeg = a := nI_clamp (by omega)
      obtain ⟨b, hb, rfl⟩ := inb_nat c_18 (by omega)
      have hcb : (nI b).toNatClampNeg = b := nI_clamp (by omega)
      refine lv_aload_n S.1 S.2.1 dX6_far_25 rfl (lv_at hl 0 rfl) ?_
      refine lv_sipush (v := (-1000)) S.1 S.2.1 dX6_far_26 (by decide) ?_
      refine lv_sipush (v := (-1000)) S.1 S.2.1 dX6_far_29 (by decide) ?_
      refine kVi S (c_X6_learn (l := l) (D := D) (cI := cI) (cZ := cZ) (cF := cF) G) (cwV 2 S.2.2.2.2 gX6_far_X6_learn rfl rfl rfl ⟨rfl, v_X6_learn⟩ ⟨(Nat.le_of_ble_eq_true rfl), (Nat.le_of_ble_eq_true rfl)⟩) hk hW 0 rfl rfl rfl rfl hl rfl (Nat.le_of_ble_eq_true rfl) dX6_far_32 ⟨(Nat.le_of_ble_eq_true rfl), (Nat.le_of_ble_eq_true rfl)⟩ (fun r u H locs hp hW => ?_)
      obtain ⟨rfl, rfl⟩ := hp
      refine lv_pop S.1 S.2.1 dX6_far_35 rfl ?_
      refine lv_aload_n S.1 S.2.1 dX6_far_36 rfl (lv_at hl 0 rfl) ?_
      refine lv_iload_n S.1 S.2.1 dX6_far_37 rfl (lv_at hl 1 rfl) ?_
      refine lv_iload_n S.1 S.2.1 dX6_far_38 rfl (lv_at hl 2 rfl) ?_
      refine kVi S (c_X6_farOf (l := l) (D := D) (cI := cI) (cZ := cZ) (cF := cF) (by first | assumption | omega) (by first | assumption | omega)) (cwV 2 S.2.2.2.2 gX6_far_X6_farOf rfl rfl rfl ⟨rfl, v_X6_farOf⟩ ⟨(Nat.le_of_ble_eq_true rfl), (Nat.le_of_ble_eq_true rfl)⟩) hk hW 0 rfl rfl rfl rfl hl rfl (Nat.le_of_ble_eq_true rfl) dX6_far_39 ⟨(Nat.le_of_ble_eq_true rfl), (Nat.le_of_ble_eq_true rfl)⟩ (fun r u H locs hp hW => ?_)
      obtain ⟨rfl, rfl⟩ := hp
      exact hR _ _ _ _ _ _ _ _ dX6_far_42 rfl (Nat.le_of_ble_eq_true rfl) (Nat.le_of_ble_eq_true rfl) hW ⟨(by simp only [farM, hca, hcb, c_10, c_18, eq_self, Nat.add_zero, decide_false, decide_true, Bool.not_true, Bool.not_false, Bool.and_true, Bool.true_and, Bool.and_false, Bool.false_and, Bool.or_true, Bool.true_or, Bool.or_false, Bool.false_or, ↓reduceIte, cond_true, cond_false, bI, and_true, true_and, and_false, false_and, or_true, true_or, or_false, false_or, not_true_eq_false, not_false_eq_true, if_true, if_false, Bool.false_eq_true, reduceCtorEq, ite_true, ite_false]), ⟨_, rfl⟩⟩
    · skip
      refine lv_sipush (v := (-1001)) S.1 S.2.1 dX6_far_21 (by decide) ?_
      exact hR _ _ _ _ _ _ _ _ dX6_far_24 rfl (Nat.le_of_ble_eq_true rfl) (Nat.le_of_ble_eq_true rfl) hW ⟨(by simp only [farM, c_10, c_18, eq_self, Nat.add_zero, decide_false, decide_true, Bool.not_true, Bool.not_false, Bool.and_true, Bool.true_and, Bool.and_false, Bool.false_and, Bool.or_true, Bool.true_or, Bool.or_false, Bool.false_or, ↓reduceIte, cond_true, cond_false, bI, and_true, true_and, and_false, false_and, or_true, true_or, or_false, false_or, not_true_eq_false, not_false_eq_true, if_true, if_false, Bool.false_eq_true, reduceCtorEq, ite_true, ite_false]), ⟨_, rfl⟩⟩
abbrev r_X6_steps : Room := { frames := 2, cells := 0, slots := 0, locals := 46 }
theorem v_X6_steps : yX6_steps.cls ≠ "java/lang/invoke/MethodHandle" ∧ yX6_steps.cls ≠ "java/lang/invoke/VarHandle" ∧ (parseMethodDescriptor yX6_steps.desc).map (fun d => d.parameters.length) = some 2 := by decide +kernel
set_option maxRecDepth 100000 in
set_option maxHeartbeats 4000000 in
theorem c_X6_steps {l : Launch} {D : va_G} {cI cZ cF : ClassId} {q : Nat → Nat} {g : Gr} {fi ke : Nat → Int32} {ac : Nat} {mk : Int32} {iv : Nat → Int32} {x y : Int32} (G : Gok g) : cI_ l D cI cZ cF yX6_steps wsX6_steps r_X6_steps [.ref (q 0), .int x, .int y] (wM q cI cZ cF g fi ke ac mk iv) (fun r u => r = stpM g x y ∧ ∃ fi', u = wM q cI cZ cF g fi' ke ac mk iv) 0 0 := by
  refine cI_of (cc := cX6_steps) (maxL := 4) (rt := .int) (plainFor_of_name (by decide +kernel)) rfl (Nat.le_of_ble_eq_true rfl) ?_
  intro p e s m args below meth c A Q ls S hk hW hl hR
  have hl : lv_has ls 4 [(0, .ref (q 0)), (1, .int x), (2, .int y)] := hl
  have hwsX60 : ∀ x ∈ wsX60, x ∈ wsX6_steps := fun x h => List.mem_cons_of_mem _ (List.mem_append_right _ h)
  have hN := Gok_N G; have hN2 := Gok_N2 G; have hKK := Gok_K G
  refine lv_aload_n S.1 S.2.1 dX6_steps_0 rfl (lv_at hl 0 rfl) ?_
  refine lv_iconst (v := nI 0) S.1 S.2.1 dX6_steps_1 (by decide) ?_
  refine pf (ty := .int) (w' := wM q cI cZ cF g fi ke ac mk iv) S hk hW 0 rfl rfl hwsX60 tyX6 tyX6_ok nmX6 0 (by decide) 1 rfl rfl (by decide +kernel) rfl rfl (Nat.le_of_ble_eq_true rfl) dX6_steps_2 rfl (fun H locs hW => ?_)
  refine lv_aload_n S.1 S.2.1 dX6_steps_5 rfl (lv_at hl 0 rfl) ?_
  refine lv_iload_n S.1 S.2.1 dX6_steps_6 rfl (lv_at hl 1 rfl) ?_
  refine kVi S (c_X6_noPost (l := l) (D := D) (cI := cI) (cZ := cZ) (cF := cF) G) (cwV 1 S.2.2.2.2 gX6_steps_X6_noPost rfl rfl rfl ⟨rfl, v_X6_noPost⟩ ⟨(Nat.le_of_ble_eq_true rfl), (Nat.le_of_ble_eq_true rfl)⟩) hk hW 0 rfl rfl rfl rfl hl rfl (Nat.le_of_ble_eq_true rfl) dX6_steps_7 ⟨(Nat.le_of_ble_eq_true rfl), (Nat.le_of_ble_eq_true rfl)⟩ (fun r u H locs hp hW => ?_)
  obtain ⟨rfl, rfl⟩ := hp
  refine ifne_nb (tgt := 21) S dX6_steps_10 (by decide) (fun c_10 => ?_) (fun c_10 => ?_)
  · skip
    refine lv_sipush (v := (-1001)) S.1 S.2.1 dX6_steps_21 (by decide) ?_
    exact hR _ _ _ _ _ _ _ _ dX6_steps_24 rfl (Nat.le_of_ble_eq_true rfl) (Nat.le_of_ble_eq_true rfl) hW ⟨(by simp only [stpM, stM, c_10, eq_self, Nat.add_zero, decide_false, decide_true, Bool.not_true, Bool.not_false, Bool.and_true, Bool.true_and, Bool.and_false, Bool.false_and, Bool.or_true, Bool.true_or, Bool.or_false, Bool.false_or, ↓reduceIte, cond_true, cond_false, bI, and_true, true_and, and_false, false_and, or_true, true_or, or_false, false_or, not_true_eq_false, not_false_eq_true, if_true, if_false, Bool.false_eq_true, reduceCtorEq, ite_true, ite_false]), ⟨_, rfl⟩⟩
  · skip
    refine lv_aload_n S.1 S.2.1 dX6_steps_13 rfl (lv_at hl 0 rfl) ?_
    refine lv_iload_n S.1 S.2.1 dX6_steps_14 rfl (lv_at hl 2 rfl) ?_
    refine kVi S (c_X6_noPost (l := l) (D := D) (cI := cI) (cZ := cZ) (cF := cF) G) (cwV 1 S.2.2.2.2 gX6_steps_X6_noPost rfl rfl rfl ⟨rfl, v_X6_noPost⟩ ⟨(Nat.le_of_ble_eq_true rfl), (Nat.le_of_ble_eq_true rfl)⟩) hk hW 0 rfl rfl rfl rfl hl rfl (Nat.le_of_ble_eq_true rfl) dX6_steps_15 ⟨(Nat.le_of_ble_eq_true rfl), (Nat.le_of_ble_eq_true rfl)⟩ (fun r u H locs hp hW => ?_)
    obtain ⟨rfl, rfl⟩ := hp
    refine ifeq_nb (tgt := 25) S dX6_steps_18 (by decide) (fun c_18 => ?_) (fun c_18 => ?_)
    · skip
      obtain ⟨a, ha, rfl⟩ := inb_nat c_10 (by omega)
      have hca : (nI a).toNatClampNeg = a := nI_clamp (by omega)
      obtain ⟨b, hb, rfl⟩ := inb_nat c_18 (by omega)
      have hcb : (nI b).toNatClampNeg = b := nI_clamp (by omega)
      refine lv_aload_n S.1 S.2.1 dX6_steps_25 rfl (lv_at hl 0 rfl) ?_
      refine lv_sipush (v := (-1000)) S.1 S.2.1 dX6_steps_26 (by decide) ?_
      refine lv_sipush (v := (-1000)) S.1 S.2.1 dX6_steps_29 (by decide) ?_
      refine kVi S (c_X6_learn (l := l) (D := D) (cI := cI) (cZ := cZ) (cF := cF) G) (cwV 2 S.2.2.2.2 gX6_steps_X6_learn rfl rfl rfl ⟨rfl, v_X6_learn⟩ ⟨(Nat.le_of_ble_eq_true rfl), (Nat.le_of_ble_eq_true rfl)⟩) hk hW 0 rfl rfl rfl rfl hl rfl (Nat.le_of_ble_eq_true rfl) dX6_steps_32 ⟨(Nat.le_of_ble_eq_true rfl), (Nat.le_of_ble_eq_true rfl)⟩ (fun r u H locs hp hW => ?_)
      obtain ⟨rfl, rfl⟩ := hp
      refine lv_pop S.1 S.2.1 dX6_steps_35 rfl ?_
      refine lv_aload_n S.1 S.2.1 dX6_steps_36 rfl (lv_at hl 0 rfl) ?_
      refine gf S hk hW 0 rfl rfl hwsX60 8 (by decide) 2 rfl rfl dX6_steps_37 ?_
      refine lv_bipush (v := nI 10) S.1 S.2.1 dX6_steps_40 (by decide) ?_
      refine lv_iload_n S.1 S.2.1 dX6_steps_42 rfl (lv_at hl 1 rfl) ?_
      refine lv_imul S.1 S.2.1 dX6_steps_43 (top_eq (pk_mul _ _) ?_)
      refine lv_iload_n S.1 S.2.1 dX6_steps_44 rfl (lv_at hl 2 rfl) ?_
      refine lv_iadd S.1 S.2.1 dX6_steps_45 (top_eq (nI_add _ _) ?_)
      refine ild S hk hW 6 rfl ((10 * a) + b) rfl (by omega) (by omega) dX6_steps_46 ?_
      refine lv_istore_n (lv' := [(3, .int (((lrn g (-1000) (-1000)).1) ((10 * a) + b))), (0, .ref (q 0)), (1, .int (nI a)), (2, .int (nI b))]) S.1 S.2.1 dX6_steps_47 rfl hl (by decide) rfl (fun ls hl => ?_)
      refine lv_iload_n S.1 S.2.1 dX6_steps_48 rfl (lv_at hl 0 rfl) ?_
      refine lv_ldc (v := nI 10000000) S.1 S.2.1 S.2.2.2.1 (S.2.2.2.2 _ (List.mem_of_getElem? (i := 3) rfl)) dX6_steps_49 ?_
      refine lv_icmp_lt (tgt := 60) S.1 S.2.1 dX6_steps_51 (by decide) (fun c_51 => ?_) (fun c_51 => ?_)
      · skip
        refine lv_iload_n S.1 S.2.1 dX6_steps_60 rfl (lv_at hl 0 rfl) ?_
        refine lv_bipush (v := nI 64) S.1 S.2.1 dX6_steps_61 (by decide) ?_
        refine lv_iload_n S.1 S.2.1 dX6_steps_63 rfl (lv_at hl 0 rfl) ?_
        refine kSi S (c_X6_coarse (l := l) (D := D) (cI := cI) (cZ := cZ) (cF := cF)) (va_cwS 1 S.2.2.2.2 gX6_steps_X6_coarse rfl rfl rfl v_X6_coarse ⟨(Nat.le_of_ble_eq_true rfl), (Nat.le_of_ble_eq_true rfl)⟩) hk hW rfl hl rfl (Nat.le_of_ble_eq_true rfl) dX6_steps_64 ⟨(Nat.le_of_ble_eq_true rfl), (Nat.le_of_ble_eq_true rfl)⟩ (fun r u H locs hp hW => ?_)
        obtain ⟨rfl, rfl⟩ := hp
        refine lv_imul S.1 S.2.1 dX6_steps_67 ?_
        refine lv_isub S.1 S.2.1 dX6_steps_68 ?_
        exact hR _ _ _ _ _ _ _ _ dX6_steps_69 rfl (Nat.le_of_ble_eq_true rfl) (Nat.le_of_ble_eq_true rfl) hW ⟨(by simp only [stpM, stM, hca, hcb, c_10, c_18, eq_true c_51, eq_self, Nat.add_zero, decide_false, decide_true, Bool.not_true, Bool.not_false, Bool.and_true, Bool.true_and, Bool.and_false, Bool.false_and, Bool.or_true, Bool.true_or, Bool.or_false, Bool.false_or, ↓reduceIte, cond_true, cond_false, bI, and_true, true_and, and_false, false_and, or_true, true_or, or_false, false_or, not_true_eq_false, not_false_eq_true, if_true, if_false, Bool.false_eq_true, reduceCtorEq, ite_true, ite_false]), ⟨_, rfl⟩⟩
      · skip
        refine lv_sipush (v := (-1000)) S.1 S.2.1 dX6_steps_54 (by decide) ?_
        refine lv_goto (tgt := 69) S.1 S.2.1 dX6_steps_57 (by decide) ?_
        exact hR _ _ _ _ _ _ _ _ dX6_steps_69 rfl (Nat.le_of_ble_eq_true rfl) (Nat.le_of_ble_eq_true rfl) hW ⟨(by simp only [stpM, stM, hca, hcb, c_10, c_18, eq_false c_51, eq_self, Nat.add_zero, decide_false, decide_true, Bool.not_true, Bool.not_false, Bool.and_true, Bool.true_and, Bool.and_false, Bool.false_and, Bool.or_true, Bool.true_or, Bool.or_false, Bool.false_or, ↓reduceIte, cond_true, cond_false, bI, and_true, true_and, and_false, false_and, or_true, true_or, or_false, false_or, not_true_eq_false, not_false_eq_true, if_true, if_false, Bool.false_eq_true, reduceCtorEq, ite_true, ite_false]), ⟨_, rfl⟩⟩
    · skip
      refine lv_sipush (v := (-1001)) S.1 S.2.1 dX6_steps_21 (by decide) ?_
      exact hR _ _ _ _ _ _ _ _ dX6_steps_24 rfl (Nat.le_of_ble_eq_true rfl) (Nat.le_of_ble_eq_true rfl) hW ⟨(by simp only [stpM, stM, c_10, c_18, eq_self, Nat.add_zero, decide_false, decide_true, Bool.not_true, Bool.not_false, Bool.and_true, Bool.true_and, Bool.and_false, Bool.false_and, Bool.or_true, Bool.true_or, Bool.or_false, Bool.false_or, ↓reduceIte, cond_true, cond_false, bI, and_true, true_and, and_false, false_and, or_true, true_or, or_false, false_or, not_true_eq_false, not_false_eq_true, if_true, if_false, Bool.false_eq_true, reduceCtorEq, ite_true, ite_false]), ⟨_, rfl⟩⟩
abbrev r_X6_without : Room := { frames := 2, cells := 0, slots := 0, locals := 46 }
theorem v_X6_without : yX6_without.cls ≠ "java/lang/invoke/MethodHandle" ∧ yX6_without.cls ≠ "java/lang/invoke/VarHandle" ∧ (parseMethodDescriptor yX6_without.desc).map (fun d => d.parameters.length) = some 3 := by decide +kernel
set_option maxRecDepth 100000 in
set_option maxHeartbeats 4000000 in
theorem c_X6_without {l : Launch} {D : va_G} {cI cZ cF : ClassId} {q : Nat → Nat} {g : Gr} {fi ke : Nat → Int32} {ac : Nat} {mk : Int32} {iv : Nat → Int32} {x y z : Int32} (G : Gok g) : cI_ l D cI cZ cF yX6_without wsX6_without r_X6_without [.ref (q 0), .int x, .int y, .int z] (wM q cI cZ cF g fi ke ac mk iv) (fun r u => r = wtoM g x y z ∧ ∃ fi', u = wM q cI cZ cF g fi' ke ac mk iv) 0 0 := by
  refine cI_of (cc := cX6_without) (maxL := 4) (rt := .int) (plainFor_of_name (by decide +kernel)) rfl (Nat.le_of_ble_eq_true rfl) ?_
  intro p e s m args below meth c A Q ls S hk hW hl hR
  have hl : lv_has ls 4 [(0, .ref (q 0)), (1, .int x), (2, .int y), (3, .int z)] := hl
  have hwsX60 : ∀ x ∈ wsX60, x ∈ wsX6_without := fun x h => List.mem_cons_of_mem _ (List.mem_append_right _ h)
  have hN := Gok_N G; have hN2 := Gok_N2 G; have hKK := Gok_K G
  refine lv_aload_n S.1 S.2.1 dX6_without_0 rfl (lv_at hl 0 rfl) ?_
  refine lv_iconst (v := nI 0) S.1 S.2.1 dX6_without_1 (by decide) ?_
  refine pf (ty := .int) (w' := wM q cI cZ cF g fi ke ac mk iv) S hk hW 0 rfl rfl hwsX60 tyX6 tyX6_ok nmX6 0 (by decide) 1 rfl rfl (by decide +kernel) rfl rfl (Nat.le_of_ble_eq_true rfl) dX6_without_2 rfl (fun H locs hW => ?_)
  refine lv_aload_n S.1 S.2.1 dX6_without_5 rfl (lv_at hl 0 rfl) ?_
  refine lv_iload_n S.1 S.2.1 dX6_without_6 rfl (lv_at hl 1 rfl) ?_
  refine kVi S (c_X6_noPost (l := l) (D := D) (cI := cI) (cZ := cZ) (cF := cF) G) (cwV 1 S.2.2.2.2 gX6_without_X6_noPost rfl rfl rfl ⟨rfl, v_X6_noPost⟩ ⟨(Nat.le_of_ble_eq_true rfl), (Nat.le_of_ble_eq_true rfl)⟩) hk hW 0 rfl rfl rfl rfl hl rfl (Nat.le_of_ble_eq_true rfl) dX6_without_7 ⟨(Nat.le_of_ble_eq_true rfl), (Nat.le_of_ble_eq_true rfl)⟩ (fun r u H locs hp hW => ?_)
  obtain ⟨rfl, rfl⟩ := hp
  refine ifne_nb (tgt := 29) S dX6_without_10 (by decide) (fun c_10 => ?_) (fun c_10 => ?_)
  · skip
    refine lv_sipush (v := (-1001)) S.1 S.2.1 dX6_without_29 (by decide) ?_
    exact hR _ _ _ _ _ _ _ _ dX6_without_32 rfl (Nat.le_of_ble_eq_true rfl) (Nat.le_of_ble_eq_true rfl) hW ⟨(by simp only [wtoM, c_10, eq_self, Nat.add_zero, decide_false, decide_true, Bool.not_true, Bool.not_false, Bool.and_true, Bool.true_and, Bool.and_false, Bool.false_and, Bool.or_true, Bool.true_or, Bool.or_false, Bool.false_or, ↓reduceIte, cond_true, cond_false, bI, and_true, true_and, and_false, false_and, or_true, true_or, or_false, false_or, not_true_eq_false, not_false_eq_true, if_true, if_false, Bool.false_eq_true, reduceCtorEq, ite_true, ite_false]), ⟨_, rfl⟩⟩
  · skip
    refine lv_aload_n S.1 S.2.1 dX6_without_13 rfl (lv_at hl 0 rfl) ?_
    refine lv_iload_n S.1 S.2.1 dX6_without_14 rfl (lv_at hl 2 rfl) ?_
    refine kVi S (c_X6_noPost (l := l) (D := D) (cI := cI) (cZ := cZ) (cF := cF) G) (cwV 1 S.2.2.2.2 gX6_without_X6_noPost rfl rfl rfl ⟨rfl, v_X6_noPost⟩ ⟨(Nat.le_of_ble_eq_true rfl), (Nat.le_of_ble_eq_true rfl)⟩) hk hW 0 rfl rfl rfl rfl hl rfl (Nat.le_of_ble_eq_true rfl) dX6_without_15 ⟨(Nat.le_of_ble_eq_true rfl), (Nat.le_of_ble_eq_true rfl)⟩ (fun r u H locs hp hW => ?_)
    obtain ⟨rfl, rfl⟩ := hp
    refine ifne_nb (tgt := 29) S dX6_without_18 (by decide) (fun c_18 => ?_) (fun c_18 => ?_)
    · skip
      refine lv_sipush (v := (-1001)) S.1 S.2.1 dX6_without_29 (by decide) ?_
      exact hR _ _ _ _ _ _ _ _ dX6_without_32 rfl (Nat.le_of_ble_eq_true rfl) (Nat.le_of_ble_eq_true rfl) hW ⟨(by simp only [wtoM, c_10, c_18, eq_self, Nat.add_zero, decide_false, decide_true, Bool.not_true, Bool.not_false, Bool.and_true, Bool.true_and, Bool.and_false, Bool.false_and, Bool.or_true, Bool.true_or, Bool.or_false, Bool.false_or, ↓reduceIte, cond_true, cond_false, bI, and_true, true_and, and_false, false_and, or_true, true_or, or_false, false_or, not_true_eq_false, not_false_eq_true, if_true, if_false, Bool.false_eq_true, reduceCtorEq, ite_true, ite_false]), ⟨_, rfl⟩⟩
    · skip
      refine lv_aload_n S.1 S.2.1 dX6_without_21 rfl (lv_at hl 0 rfl) ?_
      refine lv_iload_n S.1 S.2.1 dX6_without_22 rfl (lv_at hl 3 rfl) ?_
      refine kVi S (c_X6_noLine (l := l) (D := D) (cI := cI) (cZ := cZ) (cF := cF) G) (cwV 1 S.2.2.2.2 gX6_without_X6_noLine rfl rfl rfl ⟨rfl, v_X6_noLine⟩ ⟨(Nat.le_of_ble_eq_true rfl), (Nat.le_of_ble_eq_true rfl)⟩) hk hW 0 rfl rfl rfl rfl hl rfl (Nat.le_of_ble_eq_true rfl) dX6_without_23 ⟨(Nat.le_of_ble_eq_true rfl), (Nat.le_of_ble_eq_true rfl)⟩ (fun r u H locs hp hW => ?_)
      obtain ⟨rfl, rfl⟩ := hp
      refine ifeq_nb (tgt := 33) S dX6_without_26 (by decide) (fun c_26 => ?_) (fun c_26 => ?_)
      · skip
        obtain ⟨a, ha, rfl⟩ := inb_nat c_10 (by omega)
        have hca : (nI a).toNatClampNeg = a := nI_clamp (by omega)
        obtain ⟨b, hb, rfl⟩ := inb_nat c_18 (by omega)
        have hcb : (nI b).toNatClampNeg = b := nI_clamp (by omega)
        refine lv_aload_n S.1 S.2.1 dX6_without_33 rfl (lv_at hl 0 rfl) ?_
        refine lv_iload_n S.1 S.2.1 dX6_without_34 rfl (lv_at hl 3 rfl) ?_
        refine lv_sipush (v := (-1000)) S.1 S.2.1 dX6_without_35 (by decide) ?_
        refine kVi S (c_X6_learn (l := l) (D := D) (cI := cI) (cZ := cZ) (cF := cF) G) (cwV 2 S.2.2.2.2 gX6_without_X6_learn rfl rfl rfl ⟨rfl, v_X6_learn⟩ ⟨(Nat.le_of_ble_eq_true rfl), (Nat.le_of_ble_eq_true rfl)⟩) hk hW 0 rfl rfl rfl rfl hl rfl (Nat.le_of_ble_eq_true rfl) dX6_without_38 ⟨(Nat.le_of_ble_eq_true rfl), (Nat.le_of_ble_eq_true rfl)⟩ (fun r u H locs hp hW => ?_)
        obtain ⟨rfl, rfl⟩ := hp
        refine lv_pop S.1 S.2.1 dX6_without_41 rfl ?_
        refine lv_aload_n S.1 S.2.1 dX6_without_42 rfl (lv_at hl 0 rfl) ?_
        refine lv_iload_n S.1 S.2.1 dX6_without_43 rfl (lv_at hl 1 rfl) ?_
        refine lv_iload_n S.1 S.2.1 dX6_without_44 rfl (lv_at hl 2 rfl) ?_
        refine kVi S (c_X6_farOf (l := l) (D := D) (cI := cI) (cZ := cZ) (cF := cF) (by first | assumption | omega) (by first | assumption | omega)) (cwV 2 S.2.2.2.2 gX6_without_X6_farOf rfl rfl rfl ⟨rfl, v_X6_farOf⟩ ⟨(Nat.le_of_ble_eq_true rfl), (Nat.le_of_ble_eq_true rfl)⟩) hk hW 0 rfl rfl rfl rfl hl rfl (Nat.le_of_ble_eq_true rfl) dX6_without_45 ⟨(Nat.le_of_ble_eq_true rfl), (Nat.le_of_ble_eq_true rfl)⟩ (fun r u H locs hp hW => ?_)
        obtain ⟨rfl, rfl⟩ := hp
        exact hR _ _ _ _ _ _ _ _ dX6_without_48 rfl (Nat.le_of_ble_eq_true rfl) (Nat.le_of_ble_eq_true rfl) hW ⟨(by simp only [wtoM, hca, hcb, c_10, c_18, c_26, eq_self, Nat.add_zero, decide_false, decide_true, Bool.not_true, Bool.not_false, Bool.and_true, Bool.true_and, Bool.and_false, Bool.false_and, Bool.or_true, Bool.true_or, Bool.or_false, Bool.false_or, ↓reduceIte, cond_true, cond_false, bI, and_true, true_and, and_false, false_and, or_true, true_or, or_false, false_or, not_true_eq_false, not_false_eq_true, if_true, if_false, Bool.false_eq_true, reduceCtorEq, ite_true, ite_false]), ⟨_, rfl⟩⟩
      · skip
        refine lv_sipush (v := (-1001)) S.1 S.2.1 dX6_without_29 (by decide) ?_
        exact hR _ _ _ _ _ _ _ _ dX6_without_32 rfl (Nat.le_of_ble_eq_true rfl) (Nat.le_of_ble_eq_true rfl) hW ⟨(by simp only [wtoM, c_10, c_18, c_26, eq_self, Nat.add_zero, decide_false, decide_true, Bool.not_true, Bool.not_false, Bool.and_true, Bool.true_and, Bool.and_false, Bool.false_and, Bool.or_true, Bool.true_or, Bool.or_false, Bool.false_or, ↓reduceIte, cond_true, cond_false, bI, and_true, true_and, and_false, false_and, or_true, true_or, or_false, false_or, not_true_eq_false, not_false_eq_true, if_true, if_false, Bool.false_eq_true, reduceCtorEq, ite_true, ite_false]), ⟨_, rfl⟩⟩
abbrev r_X6_about : Room := { frames := 2, cells := 0, slots := 0, locals := 46 }
theorem v_X6_about : yX6_about.cls ≠ "java/lang/invoke/MethodHandle" ∧ yX6_about.cls ≠ "java/lang/invoke/VarHandle" ∧ (parseMethodDescriptor yX6_about.desc).map (fun d => d.parameters.length) = some 3 := by decide +kernel
set_option maxRecDepth 100000 in
set_option maxHeartbeats 4000000 in
theorem c_X6_about {l : Launch} {D : va_G} {cI cZ cF : ClassId} {q : Nat → Nat} {g : Gr} {fi ke : Nat → Int32} {ac : Nat} {mk : Int32} {iv : Nat → Int32} {x y z : Int32} (G : Gok g) : cI_ l D cI cZ cF yX6_about wsX6_about r_X6_about [.ref (q 0), .int x, .int y, .int z] (wM q cI cZ cF g fi ke ac mk iv) (fun r u => r = abtM g x y z ∧ ∃ fi', u = wM q cI cZ cF g fi' ke ac mk iv) 0 0 := by
  refine cI_of (cc := cX6_about) (maxL := 4) (rt := .int) (plainFor_of_name (by decide +kernel)) rfl (Nat.le_of_ble_eq_true rfl) ?_
  intro p e s m args below meth c A Q ls S hk hW hl hR
  have hl : lv_has ls 4 [(0, .ref (q 0)), (1, .int x), (2, .int y), (3, .int z)] := hl
  have hwsX60 : ∀ x ∈ wsX60, x ∈ wsX6_about := fun x h => List.mem_cons_of_mem _ (List.mem_append_right _ h)
  have hN := Gok_N G; have hN2 := Gok_N2 G; have hKK := Gok_K G
  refine lv_aload_n S.1 S.2.1 dX6_about_0 rfl (lv_at hl 0 rfl) ?_
  refine lv_iconst (v := nI 0) S.1 S.2.1 dX6_about_1 (by decide) ?_
  refine pf (ty := .int) (w' := wM q cI cZ cF g fi ke ac mk iv) S hk hW 0 rfl rfl hwsX60 tyX6 tyX6_ok nmX6 0 (by decide) 1 rfl rfl (by decide +kernel) rfl rfl (Nat.le_of_ble_eq_true rfl) dX6_about_2 rfl (fun H locs hW => ?_)
  refine lv_aload_n S.1 S.2.1 dX6_about_5 rfl (lv_at hl 0 rfl) ?_
  refine lv_iload_n S.1 S.2.1 dX6_about_6 rfl (lv_at hl 1 rfl) ?_
  refine kVi S (c_X6_noPost (l := l) (D := D) (cI := cI) (cZ := cZ) (cF := cF) G) (cwV 1 S.2.2.2.2 gX6_about_X6_noPost rfl rfl rfl ⟨rfl, v_X6_noPost⟩ ⟨(Nat.le_of_ble_eq_true rfl), (Nat.le_of_ble_eq_true rfl)⟩) hk hW 0 rfl rfl rfl rfl hl rfl (Nat.le_of_ble_eq_true rfl) dX6_about_7 ⟨(Nat.le_of_ble_eq_true rfl), (Nat.le_of_ble_eq_true rfl)⟩ (fun r u H locs hp hW => ?_)
  obtain ⟨rfl, rfl⟩ := hp
  refine ifne_nb (tgt := 29) S dX6_about_10 (by decide) (fun c_10 => ?_) (fun c_10 => ?_)
  · skip
    refine lv_sipush (v := (-1001)) S.1 S.2.1 dX6_about_29 (by decide) ?_
    exact hR _ _ _ _ _ _ _ _ dX6_about_32 rfl (Nat.le_of_ble_eq_true rfl) (Nat.le_of_ble_eq_true rfl) hW ⟨(by simp only [abtM, c_10, eq_self, Nat.add_zero, decide_false, decide_true, Bool.not_true, Bool.not_false, Bool.and_true, Bool.true_and, Bool.and_false, Bool.false_and, Bool.or_true, Bool.true_or, Bool.or_false, Bool.false_or, ↓reduceIte, cond_true, cond_false, bI, and_true, true_and, and_false, false_and, or_true, true_or, or_false, false_or, not_true_eq_false, not_false_eq_true, if_true, if_false, Bool.false_eq_true, reduceCtorEq, ite_true, ite_false]), ⟨_, rfl⟩⟩
  · skip
    refine lv_aload_n S.1 S.2.1 dX6_about_13 rfl (lv_at hl 0 rfl) ?_
    refine lv_iload_n S.1 S.2.1 dX6_about_14 rfl (lv_at hl 2 rfl) ?_
    refine kVi S (c_X6_noPost (l := l) (D := D) (cI := cI) (cZ := cZ) (cF := cF) G) (cwV 1 S.2.2.2.2 gX6_about_X6_noPost rfl rfl rfl ⟨rfl, v_X6_noPost⟩ ⟨(Nat.le_of_ble_eq_true rfl), (Nat.le_of_ble_eq_true rfl)⟩) hk hW 0 rfl rfl rfl rfl hl rfl (Nat.le_of_ble_eq_true rfl) dX6_about_15 ⟨(Nat.le_of_ble_eq_true rfl), (Nat.le_of_ble_eq_true rfl)⟩ (fun r u H locs hp hW => ?_)
    obtain ⟨rfl, rfl⟩ := hp
    refine ifne_nb (tgt := 29) S dX6_about_18 (by decide) (fun c_18 => ?_) (fun c_18 => ?_)
    · skip
      refine lv_sipush (v := (-1001)) S.1 S.2.1 dX6_about_29 (by decide) ?_
      exact hR _ _ _ _ _ _ _ _ dX6_about_32 rfl (Nat.le_of_ble_eq_true rfl) (Nat.le_of_ble_eq_true rfl) hW ⟨(by simp only [abtM, c_10, c_18, eq_self, Nat.add_zero, decide_false, decide_true, Bool.not_true, Bool.not_false, Bool.and_true, Bool.true_and, Bool.and_false, Bool.false_and, Bool.or_true, Bool.true_or, Bool.or_false, Bool.false_or, ↓reduceIte, cond_true, cond_false, bI, and_true, true_and, and_false, false_and, or_true, true_or, or_false, false_or, not_true_eq_false, not_false_eq_true, if_true, if_false, Bool.false_eq_true, reduceCtorEq, ite_true, ite_false]), ⟨_, rfl⟩⟩
    · skip
      refine lv_aload_n S.1 S.2.1 dX6_about_21 rfl (lv_at hl 0 rfl) ?_
      refine lv_iload_n S.1 S.2.1 dX6_about_22 rfl (lv_at hl 3 rfl) ?_
      refine kVi S (c_X6_noPost (l := l) (D := D) (cI := cI) (cZ := cZ) (cF := cF) G) (cwV 1 S.2.2.2.2 gX6_about_X6_noPost rfl rfl rfl ⟨rfl, v_X6_noPost⟩ ⟨(Nat.le_of_ble_eq_true rfl), (Nat.le_of_ble_eq_true rfl)⟩) hk hW 0 rfl rfl rfl rfl hl rfl (Nat.le_of_ble_eq_true rfl) dX6_about_23 ⟨(Nat.le_of_ble_eq_true rfl), (Nat.le_of_ble_eq_true rfl)⟩ (fun r u H locs hp hW => ?_)
      obtain ⟨rfl, rfl⟩ := hp
      refine ifeq_nb (tgt := 33) S dX6_about_26 (by decide) (fun c_26 => ?_) (fun c_26 => ?_)
      · skip
        obtain ⟨a, ha, rfl⟩ := inb_nat c_10 (by omega)
        have hca : (nI a).toNatClampNeg = a := nI_clamp (by omega)
        obtain ⟨b, hb, rfl⟩ := inb_nat c_18 (by omega)
        have hcb : (nI b).toNatClampNeg = b := nI_clamp (by omega)
        refine lv_iload_n S.1 S.2.1 dX6_about_33 rfl (lv_at hl 3 rfl) ?_
        refine lv_iload_n S.1 S.2.1 dX6_about_34 rfl (lv_at hl 1 rfl) ?_
        refine lv_icmp_eq (tgt := 43) S.1 S.2.1 dX6_about_35 (by decide) (fun c_35 => ?_) (fun c_35 => ?_)
        · skip
          refine lv_sipush (v := (-1003)) S.1 S.2.1 dX6_about_43 (by decide) ?_
          exact hR _ _ _ _ _ _ _ _ dX6_about_46 rfl (Nat.le_of_ble_eq_true rfl) (Nat.le_of_ble_eq_true rfl) hW ⟨(by simp only [abtM, hca, hcb, c_10, c_18, c_26, eq_true c_35, eq_self, Nat.add_zero, decide_false, decide_true, Bool.not_true, Bool.not_false, Bool.and_true, Bool.true_and, Bool.and_false, Bool.false_and, Bool.or_true, Bool.true_or, Bool.or_false, Bool.false_or, ↓reduceIte, cond_true, cond_false, bI, and_true, true_and, and_false, false_and, or_true, true_or, or_false, false_or, not_true_eq_false, not_false_eq_true, if_true, if_false, Bool.false_eq_true, reduceCtorEq, ite_true, ite_false]), ⟨_, rfl⟩⟩
        · skip
          refine lv_iload_n S.1 S.2.1 dX6_about_38 rfl (lv_at hl 3 rfl) ?_
          refine lv_iload_n S.1 S.2.1 dX6_about_39 rfl (lv_at hl 2 rfl) ?_
          refine lv_icmp_ne (tgt := 47) S.1 S.2.1 dX6_about_40 (by decide) (fun c_40 => ?_) (fun c_40 => ?_)
          · skip
            refine lv_aload_n S.1 S.2.1 dX6_about_47 rfl (lv_at hl 0 rfl) ?_
            refine lv_sipush (v := (-1000)) S.1 S.2.1 dX6_about_48 (by decide) ?_
            refine lv_iload_n S.1 S.2.1 dX6_about_51 rfl (lv_at hl 3 rfl) ?_
            refine kVi S (c_X6_learn (l := l) (D := D) (cI := cI) (cZ := cZ) (cF := cF) G) (cwV 2 S.2.2.2.2 gX6_about_X6_learn rfl rfl rfl ⟨rfl, v_X6_learn⟩ ⟨(Nat.le_of_ble_eq_true rfl), (Nat.le_of_ble_eq_true rfl)⟩) hk hW 0 rfl rfl rfl rfl hl rfl (Nat.le_of_ble_eq_true rfl) dX6_about_52 ⟨(Nat.le_of_ble_eq_true rfl), (Nat.le_of_ble_eq_true rfl)⟩ (fun r u H locs hp hW => ?_)
            obtain ⟨rfl, rfl⟩ := hp
            refine lv_pop S.1 S.2.1 dX6_about_55 rfl ?_
            refine lv_aload_n S.1 S.2.1 dX6_about_56 rfl (lv_at hl 0 rfl) ?_
            refine lv_iload_n S.1 S.2.1 dX6_about_57 rfl (lv_at hl 1 rfl) ?_
            refine lv_iload_n S.1 S.2.1 dX6_about_58 rfl (lv_at hl 2 rfl) ?_
            refine kVi S (c_X6_farOf (l := l) (D := D) (cI := cI) (cZ := cZ) (cF := cF) (by first | assumption | omega) (by first | assumption | omega)) (cwV 2 S.2.2.2.2 gX6_about_X6_farOf rfl rfl rfl ⟨rfl, v_X6_farOf⟩ ⟨(Nat.le_of_ble_eq_true rfl), (Nat.le_of_ble_eq_true rfl)⟩) hk hW 0 rfl rfl rfl rfl hl rfl (Nat.le_of_ble_eq_true rfl) dX6_about_59 ⟨(Nat.le_of_ble_eq_true rfl), (Nat.le_of_ble_eq_true rfl)⟩ (fun r u H locs hp hW => ?_)
            obtain ⟨rfl, rfl⟩ := hp
            exact hR _ _ _ _ _ _ _ _ dX6_about_62 rfl (Nat.le_of_ble_eq_true rfl) (Nat.le_of_ble_eq_true rfl) hW ⟨(by simp only [abtM, hca, hcb, c_10, c_18, c_26, eq_false c_35, eq_false c_40, eq_self, Nat.add_zero, decide_false, decide_true, Bool.not_true, Bool.not_false, Bool.and_true, Bool.true_and, Bool.and_false, Bool.false_and, Bool.or_true, Bool.true_or, Bool.or_false, Bool.false_or, ↓reduceIte, cond_true, cond_false, bI, and_true, true_and, and_false, false_and, or_true, true_or, or_false, false_or, not_true_eq_false, not_false_eq_true, if_true, if_false, Bool.false_eq_true, reduceCtorEq, ite_true, ite_false]), ⟨_, rfl⟩⟩
          · skip
            refine lv_sipush (v := (-1003)) S.1 S.2.1 dX6_about_43 (by decide) ?_
            exact hR _ _ _ _ _ _ _ _ dX6_about_46 rfl (Nat.le_of_ble_eq_true rfl) (Nat.le_of_ble_eq_true rfl) hW ⟨(by simp only [abtM, hca, hcb, c_10, c_18, c_26, eq_false c_35, eq_true c_40, eq_self, Nat.add_zero, decide_false, decide_true, Bool.not_true, Bool.not_false, Bool.and_true, Bool.true_and, Bool.and_false, Bool.false_and, Bool.or_true, Bool.true_or, Bool.or_false, Bool.false_or, ↓reduceIte, cond_true, cond_false, bI, and_true, true_and, and_false, false_and, or_true, true_or, or_false, false_or, not_true_eq_false, not_false_eq_true, if_true, if_false, Bool.false_eq_true, reduceCtorEq, ite_true, ite_false]), ⟨_, rfl⟩⟩
      · skip
        refine lv_sipush (v := (-1001)) S.1 S.2.1 dX6_about_29 (by decide) ?_
        exact hR _ _ _ _ _ _ _ _ dX6_about_32 rfl (Nat.le_of_ble_eq_true rfl) (Nat.le_of_ble_eq_true rfl) hW ⟨(by simp only [abtM, c_10, c_18, c_26, eq_self, Nat.add_zero, decide_false, decide_true, Bool.not_true, Bool.not_false, Bool.and_true, Bool.true_and, Bool.and_false, Bool.false_and, Bool.or_true, Bool.true_or, Bool.or_false, Bool.false_or, ↓reduceIte, cond_true, cond_false, bI, and_true, true_and, and_false, false_and, or_true, true_or, or_false, false_or, not_true_eq_false, not_false_eq_true, if_true, if_false, Bool.false_eq_true, reduceCtorEq, ite_true, ite_false]), ⟨_, rfl⟩⟩
abbrev r_X6_height : Room := { frames := 3, cells := 0, slots := 0, locals := 66 }
theorem v_X6_height : yX6_height.cls ≠ "java/lang/invoke/MethodHandle" ∧ yX6_height.cls ≠ "java/lang/invoke/VarHandle" ∧ (parseMethodDescriptor yX6_height.desc).map (fun d => d.parameters.length) = some 1 := by decide +kernel
set_option maxRecDepth 100000 in
set_option maxHeartbeats 4000000 in
theorem c_X6_height {l : Launch} {D : va_G} {cI cZ cF : ClassId} {q : Nat → Nat} {g : Gr} {fi ke : Nat → Int32} {ac : Nat} {mk : Int32} {iv : Nat → Int32} {x : Int32} (G : Gok g) : cI_ l D cI cZ cF yX6_height wsX6_height r_X6_height [.ref (q 0), .int x] (wM q cI cZ cF g fi ke ac mk iv) (fun r u => r = hgtM g x ∧ ∃ fi', u = wM q cI cZ cF g fi' ke ac mk iv) 0 0 := by
  refine cI_of (cc := cX6_height) (maxL := 2) (rt := .int) (plainFor_of_name (by decide +kernel)) rfl (Nat.le_of_ble_eq_true rfl) ?_
  intro p e s m args below meth c A Q ls S hk hW hl hR
  have hl : lv_has ls 2 [(0, .ref (q 0)), (1, .int x)] := hl
  have hwsX60 : ∀ x ∈ wsX60, x ∈ wsX6_height := fun x h => List.mem_cons_of_mem _ (List.mem_append_right _ h)
  have hN := Gok_N G; have hN2 := Gok_N2 G; have hKK := Gok_K G
  refine lv_aload_n S.1 S.2.1 dX6_height_0 rfl (lv_at hl 0 rfl) ?_
  refine lv_iconst (v := nI 0) S.1 S.2.1 dX6_height_1 (by decide) ?_
  refine pf (ty := .int) (w' := wM q cI cZ cF g fi ke ac mk iv) S hk hW 0 rfl rfl hwsX60 tyX6 tyX6_ok nmX6 0 (by decide) 1 rfl rfl (by decide +kernel) rfl rfl (Nat.le_of_ble_eq_true rfl) dX6_height_2 rfl (fun H locs hW => ?_)
  refine lv_aload_n S.1 S.2.1 dX6_height_5 rfl (lv_at hl 0 rfl) ?_
  refine lv_iload_n S.1 S.2.1 dX6_height_6 rfl (lv_at hl 1 rfl) ?_
  refine kVi S (c_X6_noPost (l := l) (D := D) (cI := cI) (cZ := cZ) (cF := cF) G) (cwV 1 S.2.2.2.2 gX6_height_X6_noPost rfl rfl rfl ⟨rfl, v_X6_noPost⟩ ⟨(Nat.le_of_ble_eq_true rfl), (Nat.le_of_ble_eq_true rfl)⟩) hk hW 0 rfl rfl rfl rfl hl rfl (Nat.le_of_ble_eq_true rfl) dX6_height_7 ⟨(Nat.le_of_ble_eq_true rfl), (Nat.le_of_ble_eq_true rfl)⟩ (fun r u H locs hp hW => ?_)
  obtain ⟨rfl, rfl⟩ := hp
  refine ifeq_nb (tgt := 17) S dX6_height_10 (by decide) (fun c_10 => ?_) (fun c_10 => ?_)
  · skip
    obtain ⟨a, ha, rfl⟩ := inb_nat c_10 (by omega)
    have hca : (nI a).toNatClampNeg = a := nI_clamp (by omega)
    refine lv_aload_n S.1 S.2.1 dX6_height_17 rfl (lv_at hl 0 rfl) ?_
    refine lv_sipush (v := (-1000)) S.1 S.2.1 dX6_height_18 (by decide) ?_
    refine lv_sipush (v := (-1000)) S.1 S.2.1 dX6_height_21 (by decide) ?_
    refine kVi S (c_X6_learn (l := l) (D := D) (cI := cI) (cZ := cZ) (cF := cF) G) (cwV 2 S.2.2.2.2 gX6_height_X6_learn rfl rfl rfl ⟨rfl, v_X6_learn⟩ ⟨(Nat.le_of_ble_eq_true rfl), (Nat.le_of_ble_eq_true rfl)⟩) hk hW 0 rfl rfl rfl rfl hl rfl (Nat.le_of_ble_eq_true rfl) dX6_height_24 ⟨(Nat.le_of_ble_eq_true rfl), (Nat.le_of_ble_eq_true rfl)⟩ (fun r u H locs hp hW => ?_)
    obtain ⟨rfl, rfl⟩ := hp
    refine lv_pop S.1 S.2.1 dX6_height_27 rfl ?_
    refine lv_aload_n S.1 S.2.1 dX6_height_28 rfl (lv_at hl 0 rfl) ?_
    refine lv_iload_n S.1 S.2.1 dX6_height_29 rfl (lv_at hl 1 rfl) ?_
    refine kVi S (c_X6_heightOf (l := l) (D := D) (cI := cI) (cZ := cZ) (cF := cF) G (by first | assumption | omega)) (cwV 1 S.2.2.2.2 gX6_height_X6_heightOf rfl rfl rfl ⟨rfl, v_X6_heightOf⟩ ⟨(Nat.le_of_ble_eq_true rfl), (Nat.le_of_ble_eq_true rfl)⟩) hk hW 0 rfl rfl rfl rfl hl rfl (Nat.le_of_ble_eq_true rfl) dX6_height_30 ⟨(Nat.le_of_ble_eq_true rfl), (Nat.le_of_ble_eq_true rfl)⟩ (fun r u H locs hp hW => ?_)
    obtain ⟨rfl, rfl⟩ := hp
    exact hR _ _ _ _ _ _ _ _ dX6_height_33 rfl (Nat.le_of_ble_eq_true rfl) (Nat.le_of_ble_eq_true rfl) hW ⟨(by simp only [hgtM, hca, c_10, eq_self, Nat.add_zero, decide_false, decide_true, Bool.not_true, Bool.not_false, Bool.and_true, Bool.true_and, Bool.and_false, Bool.false_and, Bool.or_true, Bool.true_or, Bool.or_false, Bool.false_or, ↓reduceIte, cond_true, cond_false, bI, and_true, true_and, and_false, false_and, or_true, true_or, or_false, false_or, not_true_eq_false, not_false_eq_true, if_true, if_false, Bool.false_eq_true, reduceCtorEq, ite_true, ite_false]), ⟨_, rfl⟩⟩
  · skip
    refine lv_sipush (v := (-1001)) S.1 S.2.1 dX6_height_13 (by decide) ?_
    exact hR _ _ _ _ _ _ _ _ dX6_height_16 rfl (Nat.le_of_ble_eq_true rfl) (Nat.le_of_ble_eq_true rfl) hW ⟨(by simp only [hgtM, c_10, eq_self, Nat.add_zero, decide_false, decide_true, Bool.not_true, Bool.not_false, Bool.and_true, Bool.true_and, Bool.and_false, Bool.false_and, Bool.or_true, Bool.true_or, Bool.or_false, Bool.false_or, ↓reduceIte, cond_true, cond_false, bI, and_true, true_and, and_false, false_and, or_true, true_or, or_false, false_or, not_true_eq_false, not_false_eq_true, if_true, if_false, Bool.false_eq_true, reduceCtorEq, ite_true, ite_false]), ⟨_, rfl⟩⟩
abbrev r_X6_near : Room := { frames := 3, cells := 0, slots := 0, locals := 68 }
theorem v_X6_near : yX6_near.cls ≠ "java/lang/invoke/MethodHandle" ∧ yX6_near.cls ≠ "java/lang/invoke/VarHandle" ∧ (parseMethodDescriptor yX6_near.desc).map (fun d => d.parameters.length) = some 2 := by decide +kernel
set_option maxRecDepth 100000 in
set_option maxHeartbeats 4000000 in
theorem c_X6_near {l : Launch} {D : va_G} {cI cZ cF : ClassId} {q : Nat → Nat} {g : Gr} {fi ke : Nat → Int32} {ac : Nat} {mk : Int32} {iv : Nat → Int32} {x y : Int32} (G : Gok g) : cI_ l D cI cZ cF yX6_near wsX6_near r_X6_near [.ref (q 0), .int x, .int y] (wM q cI cZ cF g fi ke ac mk iv) (fun r u => r = nerM g mk x y ∧ ∃ fi', u = wM q cI cZ cF g fi' ke ac mk iv) 0 0 := by
  refine cI_of (cc := cX6_near) (maxL := 3) (rt := .int) (plainFor_of_name (by decide +kernel)) rfl (Nat.le_of_ble_eq_true rfl) ?_
  intro p e s m args below meth c A Q ls S hk hW hl hR
  have hl : lv_has ls 3 [(0, .ref (q 0)), (1, .int x), (2, .int y)] := hl
  have hwsX60 : ∀ x ∈ wsX60, x ∈ wsX6_near := fun x h => List.mem_cons_of_mem _ (List.mem_append_right _ h)
  have hN := Gok_N G; have hN2 := Gok_N2 G; have hKK := Gok_K G
  refine lv_aload_n S.1 S.2.1 dX6_near_0 rfl (lv_at hl 0 rfl) ?_
  refine lv_iconst (v := nI 0) S.1 S.2.1 dX6_near_1 (by decide) ?_
  refine pf (ty := .int) (w' := wM q cI cZ cF g fi ke ac mk iv) S hk hW 0 rfl rfl hwsX60 tyX6 tyX6_ok nmX6 0 (by decide) 1 rfl rfl (by decide +kernel) rfl rfl (Nat.le_of_ble_eq_true rfl) dX6_near_2 rfl (fun H locs hW => ?_)
  refine lv_aload_n S.1 S.2.1 dX6_near_5 rfl (lv_at hl 0 rfl) ?_
  refine lv_iload_n S.1 S.2.1 dX6_near_6 rfl (lv_at hl 1 rfl) ?_
  refine kVi S (c_X6_noPost (l := l) (D := D) (cI := cI) (cZ := cZ) (cF := cF) G) (cwV 1 S.2.2.2.2 gX6_near_X6_noPost rfl rfl rfl ⟨rfl, v_X6_noPost⟩ ⟨(Nat.le_of_ble_eq_true rfl), (Nat.le_of_ble_eq_true rfl)⟩) hk hW 0 rfl rfl rfl rfl hl rfl (Nat.le_of_ble_eq_true rfl) dX6_near_7 ⟨(Nat.le_of_ble_eq_true rfl), (Nat.le_of_ble_eq_true rfl)⟩ (fun r u H locs hp hW => ?_)
  obtain ⟨rfl, rfl⟩ := hp
  refine ifne_nb (tgt := 21) S dX6_near_10 (by decide) (fun c_10 => ?_) (fun c_10 => ?_)
  · skip
    refine lv_sipush (v := (-1001)) S.1 S.2.1 dX6_near_21 (by decide) ?_
    exact hR _ _ _ _ _ _ _ _ dX6_near_24 rfl (Nat.le_of_ble_eq_true rfl) (Nat.le_of_ble_eq_true rfl) hW ⟨(by simp only [nerM, c_10, eq_self, Nat.add_zero, decide_false, decide_true, Bool.not_true, Bool.not_false, Bool.and_true, Bool.true_and, Bool.and_false, Bool.false_and, Bool.or_true, Bool.true_or, Bool.or_false, Bool.false_or, ↓reduceIte, cond_true, cond_false, bI, and_true, true_and, and_false, false_and, or_true, true_or, or_false, false_or, not_true_eq_false, not_false_eq_true, if_true, if_false, Bool.false_eq_true, reduceCtorEq, ite_true, ite_false]), ⟨_, rfl⟩⟩
  · skip
    refine lv_aload_n S.1 S.2.1 dX6_near_13 rfl (lv_at hl 0 rfl) ?_
    refine lv_iload_n S.1 S.2.1 dX6_near_14 rfl (lv_at hl 2 rfl) ?_
    refine kVi S (c_X6_noPost (l := l) (D := D) (cI := cI) (cZ := cZ) (cF := cF) G) (cwV 1 S.2.2.2.2 gX6_near_X6_noPost rfl rfl rfl ⟨rfl, v_X6_noPost⟩ ⟨(Nat.le_of_ble_eq_true rfl), (Nat.le_of_ble_eq_true rfl)⟩) hk hW 0 rfl rfl rfl rfl hl rfl (Nat.le_of_ble_eq_true rfl) dX6_near_15 ⟨(Nat.le_of_ble_eq_true rfl), (Nat.le_of_ble_eq_true rfl)⟩ (fun r u H locs hp hW => ?_)
    obtain ⟨rfl, rfl⟩ := hp
    refine ifeq_nb (tgt := 25) S dX6_near_18 (by decide) (fun c_18 => ?_) (fun c_18 => ?_)
    · skip
      obtain ⟨a, ha, rfl⟩ := inb_nat c_10 (by omega)
      have hca : (nI a).toNatClampNeg = a := nI_clamp (by omega)
      obtain ⟨b, hb, rfl⟩ := inb_nat c_18 (by omega)
      have hcb : (nI b).toNatClampNeg = b := nI_clamp (by omega)
      refine lv_aload_n S.1 S.2.1 dX6_near_25 rfl (lv_at hl 0 rfl) ?_
      refine lv_sipush (v := (-1000)) S.1 S.2.1 dX6_near_26 (by decide) ?_
      refine lv_sipush (v := (-1000)) S.1 S.2.1 dX6_near_29 (by decide) ?_
      refine kVi S (c_X6_learn (l := l) (D := D) (cI := cI) (cZ := cZ) (cF := cF) G) (cwV 2 S.2.2.2.2 gX6_near_X6_learn rfl rfl rfl ⟨rfl, v_X6_learn⟩ ⟨(Nat.le_of_ble_eq_true rfl), (Nat.le_of_ble_eq_true rfl)⟩) hk hW 0 rfl rfl rfl rfl hl rfl (Nat.le_of_ble_eq_true rfl) dX6_near_32 ⟨(Nat.le_of_ble_eq_true rfl), (Nat.le_of_ble_eq_true rfl)⟩ (fun r u H locs hp hW => ?_)
      obtain ⟨rfl, rfl⟩ := hp
      refine lv_pop S.1 S.2.1 dX6_near_35 rfl ?_
      refine lv_aload_n S.1 S.2.1 dX6_near_36 rfl (lv_at hl 0 rfl) ?_
      refine lv_iload_n S.1 S.2.1 dX6_near_37 rfl (lv_at hl 1 rfl) ?_
      refine lv_iload_n S.1 S.2.1 dX6_near_38 rfl (lv_at hl 2 rfl) ?_
      refine kVi S (c_X6_nearOf (l := l) (D := D) (cI := cI) (cZ := cZ) (cF := cF) G (by first | assumption | omega) (by first | assumption | omega)) (cwV 2 S.2.2.2.2 gX6_near_X6_nearOf rfl rfl rfl ⟨rfl, v_X6_nearOf⟩ ⟨(Nat.le_of_ble_eq_true rfl), (Nat.le_of_ble_eq_true rfl)⟩) hk hW 0 rfl rfl rfl rfl hl rfl (Nat.le_of_ble_eq_true rfl) dX6_near_39 ⟨(Nat.le_of_ble_eq_true rfl), (Nat.le_of_ble_eq_true rfl)⟩ (fun r u H locs hp hW => ?_)
      obtain ⟨rfl, rfl⟩ := hp
      exact hR _ _ _ _ _ _ _ _ dX6_near_42 rfl (Nat.le_of_ble_eq_true rfl) (Nat.le_of_ble_eq_true rfl) hW ⟨(by simp only [nerM, hca, hcb, c_10, c_18, eq_self, Nat.add_zero, decide_false, decide_true, Bool.not_true, Bool.not_false, Bool.and_true, Bool.true_and, Bool.and_false, Bool.false_and, Bool.or_true, Bool.true_or, Bool.or_false, Bool.false_or, ↓reduceIte, cond_true, cond_false, bI, and_true, true_and, and_false, false_and, or_true, true_or, or_false, false_or, not_true_eq_false, not_false_eq_true, if_true, if_false, Bool.false_eq_true, reduceCtorEq, ite_true, ite_false]), ⟨_, rfl⟩⟩
    · skip
      refine lv_sipush (v := (-1001)) S.1 S.2.1 dX6_near_21 (by decide) ?_
      exact hR _ _ _ _ _ _ _ _ dX6_near_24 rfl (Nat.le_of_ble_eq_true rfl) (Nat.le_of_ble_eq_true rfl) hW ⟨(by simp only [nerM, c_10, c_18, eq_self, Nat.add_zero, decide_false, decide_true, Bool.not_true, Bool.not_false, Bool.and_true, Bool.true_and, Bool.and_false, Bool.false_and, Bool.or_true, Bool.true_or, Bool.or_false, Bool.false_or, ↓reduceIte, cond_true, cond_false, bI, and_true, true_and, and_false, false_and, or_true, true_or, or_false, false_or, not_true_eq_false, not_false_eq_true, if_true, if_false, Bool.false_eq_true, reduceCtorEq, ite_true, ite_false]), ⟨_, rfl⟩⟩
abbrev r_X6_acts : Room := { frames := 0, cells := 0, slots := 0, locals := 0 }
theorem v_X6_acts : yX6_acts.cls ≠ "java/lang/invoke/MethodHandle" ∧ yX6_acts.cls ≠ "java/lang/invoke/VarHandle" ∧ (parseMethodDescriptor yX6_acts.desc).map (fun d => d.parameters.length) = some 0 := by decide +kernel
set_option maxRecDepth 100000 in
set_option maxHeartbeats 4000000 in
theorem c_X6_acts {l : Launch} {D : va_G} {cI cZ cF : ClassId} {q : Nat → Nat} {g : Gr} {fi ke : Nat → Int32} {ac : Nat} {mk : Int32} {iv : Nat → Int32}   : cI_ l D cI cZ cF yX6_acts wsX6_acts r_X6_acts [.ref (q 0)] (wM q cI cZ cF g fi ke ac mk iv) (fun r u => r = nI ac ∧ u = wM q cI cZ cF g fi ke ac mk iv) 0 0 := by
  refine cI_of (cc := cX6_acts) (maxL := 1) (rt := .int) (plainFor_of_name (by decide +kernel)) rfl (Nat.le_of_ble_eq_true rfl) ?_
  intro p e s m args below meth c A Q ls S hk hW hl hR
  have hl : lv_has ls 1 [(0, .ref (q 0))] := hl
  have hwsX60 : ∀ x ∈ wsX60, x ∈ wsX6_acts := fun x h => List.mem_cons_of_mem _ (List.mem_append_right _ h)
  refine lv_aload_n S.1 S.2.1 dX6_acts_0 rfl (lv_at hl 0 rfl) ?_
  refine lv_iconst (v := nI 0) S.1 S.2.1 dX6_acts_1 (by decide) ?_
  refine pf (ty := .int) (w' := wM q cI cZ cF g fi ke ac mk iv) S hk hW 0 rfl rfl hwsX60 tyX6 tyX6_ok nmX6 0 (by decide) 1 rfl rfl (by decide +kernel) rfl rfl (Nat.le_of_ble_eq_true rfl) dX6_acts_2 rfl (fun H locs hW => ?_)
  refine lv_aload_n S.1 S.2.1 dX6_acts_5 rfl (lv_at hl 0 rfl) ?_
  refine gf S hk hW 0 rfl rfl hwsX60 10 (by decide) 2 rfl rfl dX6_acts_6 ?_
  exact hR _ _ _ _ _ _ _ _ dX6_acts_9 rfl (Nat.le_of_ble_eq_true rfl) (Nat.le_of_ble_eq_true rfl) hW ⟨rfl, rfl⟩
abbrev r_X6_way : Room := { frames := 2, cells := 0, slots := 0, locals := 46 }
theorem v_X6_way : yX6_way.cls ≠ "java/lang/invoke/MethodHandle" ∧ yX6_way.cls ≠ "java/lang/invoke/VarHandle" ∧ (parseMethodDescriptor yX6_way.desc).map (fun d => d.parameters.length) = some 3 := by decide +kernel
set_option maxRecDepth 100000 in
set_option maxHeartbeats 4000000 in
theorem c_X6_way {l : Launch} {D : va_G} {cI cZ cF : ClassId} {q : Nat → Nat} {g : Gr} {fi ke : Nat → Int32} {ac : Nat} {mk : Int32} {iv : Nat → Int32} {x y z : Int32} (G : Gok g) (hNx : Nxt g (lrn g (-1000) (-1000)).1) : cI_ l D cI cZ cF yX6_way wsX6_way r_X6_way [.ref (q 0), .int x, .int y, .int z] (wM q cI cZ cF g fi ke ac mk iv) (fun r u => r = wayM g x y z ∧ ∃ fi', u = wM q cI cZ cF g fi' ke ac mk iv) 0 0 := by
  refine cI_of (cc := cX6_way) (maxL := 8) (rt := .int) (plainFor_of_name (by decide +kernel)) rfl (Nat.le_of_ble_eq_true rfl) ?_
  intro p e s m args below meth c A Q ls S hk hW hl hR
  have hl : lv_has ls 8 [(0, .ref (q 0)), (1, .int x), (2, .int y), (3, .int z)] := hl
  have hwsX60 : ∀ x ∈ wsX60, x ∈ wsX6_way := fun x h => List.mem_cons_of_mem _ (List.mem_append_right _ h)
  have hN := Gok_N G; have hN2 := Gok_N2 G; have hKK := Gok_K G
  refine lv_aload_n S.1 S.2.1 dX6_way_0 rfl (lv_at hl 0 rfl) ?_
  refine lv_iconst (v := nI 0) S.1 S.2.1 dX6_way_1 (by decide) ?_
  refine pf (ty := .int) (w' := wM q cI cZ cF g fi ke ac mk iv) S hk hW 0 rfl rfl hwsX60 tyX6 tyX6_ok nmX6 0 (by decide) 1 rfl rfl (by decide +kernel) rfl rfl (Nat.le_of_ble_eq_true rfl) dX6_way_2 rfl (fun H locs hW => ?_)
  refine lv_aload_n S.1 S.2.1 dX6_way_5 rfl (lv_at hl 0 rfl) ?_
  refine lv_iload_n S.1 S.2.1 dX6_way_6 rfl (lv_at hl 1 rfl) ?_
  refine kVi S (c_X6_noPost (l := l) (D := D) (cI := cI) (cZ := cZ) (cF := cF) G) (cwV 1 S.2.2.2.2 gX6_way_X6_noPost rfl rfl rfl ⟨rfl, v_X6_noPost⟩ ⟨(Nat.le_of_ble_eq_true rfl), (Nat.le_of_ble_eq_true rfl)⟩) hk hW 0 rfl rfl rfl rfl hl rfl (Nat.le_of_ble_eq_true rfl) dX6_way_7 ⟨(Nat.le_of_ble_eq_true rfl), (Nat.le_of_ble_eq_true rfl)⟩ (fun r u H locs hp hW => ?_)
  obtain ⟨rfl, rfl⟩ := hp
  refine ifne_nb (tgt := 21) S dX6_way_10 (by decide) (fun c_10 => ?_) (fun c_10 => ?_)
  · skip
    refine lv_sipush (v := (-1001)) S.1 S.2.1 dX6_way_21 (by decide) ?_
    exact hR _ _ _ _ _ _ _ _ dX6_way_24 rfl (Nat.le_of_ble_eq_true rfl) (Nat.le_of_ble_eq_true rfl) hW ⟨(by simp only [wayM, c_10, eq_self, Nat.add_zero, decide_false, decide_true, Bool.not_true, Bool.not_false, Bool.and_true, Bool.true_and, Bool.and_false, Bool.false_and, Bool.or_true, Bool.true_or, Bool.or_false, Bool.false_or, ↓reduceIte, cond_true, cond_false, bI, and_true, true_and, and_false, false_and, or_true, true_or, or_false, false_or, not_true_eq_false, not_false_eq_true, if_true, if_false, Bool.false_eq_true, reduceCtorEq, ite_true, ite_false]), ⟨_, rfl⟩⟩
  · skip
    refine lv_aload_n S.1 S.2.1 dX6_way_13 rfl (lv_at hl 0 rfl) ?_
    refine lv_iload_n S.1 S.2.1 dX6_way_14 rfl (lv_at hl 2 rfl) ?_
    refine kVi S (c_X6_noPost (l := l) (D := D) (cI := cI) (cZ := cZ) (cF := cF) G) (cwV 1 S.2.2.2.2 gX6_way_X6_noPost rfl rfl rfl ⟨rfl, v_X6_noPost⟩ ⟨(Nat.le_of_ble_eq_true rfl), (Nat.le_of_ble_eq_true rfl)⟩) hk hW 0 rfl rfl rfl rfl hl rfl (Nat.le_of_ble_eq_true rfl) dX6_way_15 ⟨(Nat.le_of_ble_eq_true rfl), (Nat.le_of_ble_eq_true rfl)⟩ (fun r u H locs hp hW => ?_)
    obtain ⟨rfl, rfl⟩ := hp
    refine ifeq_nb (tgt := 25) S dX6_way_18 (by decide) (fun c_18 => ?_) (fun c_18 => ?_)
    · skip
      obtain ⟨a, ha, rfl⟩ := inb_nat c_10 (by omega)
      have hca : (nI a).toNatClampNeg = a := nI_clamp (by omega)
      obtain ⟨b, hb, rfl⟩ := inb_nat c_18 (by omega)
      have hcb : (nI b).toNatClampNeg = b := nI_clamp (by omega)
      refine lv_aload_n S.1 S.2.1 dX6_way_25 rfl (lv_at hl 0 rfl) ?_
      refine lv_sipush (v := (-1000)) S.1 S.2.1 dX6_way_26 (by decide) ?_
      refine lv_sipush (v := (-1000)) S.1 S.2.1 dX6_way_29 (by decide) ?_
      refine kVi S (c_X6_learn (l := l) (D := D) (cI := cI) (cZ := cZ) (cF := cF) G) (cwV 2 S.2.2.2.2 gX6_way_X6_learn rfl rfl rfl ⟨rfl, v_X6_learn⟩ ⟨(Nat.le_of_ble_eq_true rfl), (Nat.le_of_ble_eq_true rfl)⟩) hk hW 0 rfl rfl rfl rfl hl rfl (Nat.le_of_ble_eq_true rfl) dX6_way_32 ⟨(Nat.le_of_ble_eq_true rfl), (Nat.le_of_ble_eq_true rfl)⟩ (fun r u H locs hp hW => ?_)
      obtain ⟨rfl, rfl⟩ := hp
      refine lv_pop S.1 S.2.1 dX6_way_35 rfl ?_
      refine lv_aload_n S.1 S.2.1 dX6_way_36 rfl (lv_at hl 0 rfl) ?_
      refine gf S hk hW 0 rfl rfl hwsX60 8 (by decide) 2 rfl rfl dX6_way_37 ?_
      refine lv_bipush (v := nI 10) S.1 S.2.1 dX6_way_40 (by decide) ?_
      refine lv_iload_n S.1 S.2.1 dX6_way_42 rfl (lv_at hl 1 rfl) ?_
      refine lv_imul S.1 S.2.1 dX6_way_43 (top_eq (pk_mul _ _) ?_)
      refine lv_iload_n S.1 S.2.1 dX6_way_44 rfl (lv_at hl 2 rfl) ?_
      refine lv_iadd S.1 S.2.1 dX6_way_45 (top_eq (nI_add _ _) ?_)
      refine ild S hk hW 6 rfl ((10 * a) + b) rfl (by omega) (by omega) dX6_way_46 ?_
      refine lv_istore (lv' := [(4, .int (((lrn g (-1000) (-1000)).1) ((10 * a) + b))), (0, .ref (q 0)), (1, .int (nI a)), (2, .int (nI b)), (3, .int z)]) S.1 S.2.1 dX6_way_47 hl (by decide) rfl (fun ls hl => ?_)
      refine lv_iload S.1 S.2.1 dX6_way_49 (lv_at hl 0 rfl) ?_
      refine lv_ldc (v := nI 10000000) S.1 S.2.1 S.2.2.2.1 (S.2.2.2.2 _ (List.mem_of_getElem? (i := 3) rfl)) dX6_way_51 ?_
      refine lv_icmp_ge (tgt := 79) S.1 S.2.1 dX6_way_53 (by decide) (fun c_53 => ?_) (fun c_53 => ?_)
      · skip
        refine lv_sipush (v := (-1000)) S.1 S.2.1 dX6_way_79 (by decide) ?_
        exact hR _ _ _ _ _ _ _ _ dX6_way_82 rfl (Nat.le_of_ble_eq_true rfl) (Nat.le_of_ble_eq_true rfl) hW ⟨(by simp only [wayM, hca, hcb, c_10, c_18, eq_true c_53, eq_self, Nat.add_zero, decide_false, decide_true, Bool.not_true, Bool.not_false, Bool.and_true, Bool.true_and, Bool.and_false, Bool.false_and, Bool.or_true, Bool.true_or, Bool.or_false, Bool.false_or, ↓reduceIte, cond_true, cond_false, bI, and_true, true_and, and_false, false_and, or_true, true_or, or_false, false_or, not_true_eq_false, not_false_eq_true, if_true, if_false, Bool.false_eq_true, reduceCtorEq, ite_true, ite_false]), ⟨_, rfl⟩⟩
      · skip
        have hfar := Int32.not_le.mp c_53
        obtain ⟨S9, hS9, hS, hSn⟩ := hNx a b ha hb hfar
        have hst := (stM_lt hfar).symm.trans hS
        refine lv_iload_n S.1 S.2.1 dX6_way_56 rfl (lv_at hl 4 rfl) ?_
        refine lv_i2l S.1 S.2.1 dX6_way_57 rfl ?_
        refine lv_lconst (v := 0) S.1 S.2.1 dX6_way_58 (by decide) ?_
        refine lv_iload S.1 S.2.1 dX6_way_59 (lv_at hl 0 rfl) ?_
        refine lv_bipush (v := nI 64) S.1 S.2.1 dX6_way_61 (by decide) ?_
        refine lv_iload S.1 S.2.1 dX6_way_63 (lv_at hl 0 rfl) ?_
        refine kSi S (c_X6_coarse (l := l) (D := D) (cI := cI) (cZ := cZ) (cF := cF)) (va_cwS 1 S.2.2.2.2 gX6_way_X6_coarse rfl rfl rfl v_X6_coarse ⟨(Nat.le_of_ble_eq_true rfl), (Nat.le_of_ble_eq_true rfl)⟩) hk hW rfl hl rfl (Nat.le_of_ble_eq_true rfl) dX6_way_65 ⟨(Nat.le_of_ble_eq_true rfl), (Nat.le_of_ble_eq_true rfl)⟩ (fun r u H locs hp hW => ?_)
        obtain ⟨rfl, rfl⟩ := hp
        refine lv_imul S.1 S.2.1 dX6_way_68 ?_
        refine lv_isub S.1 S.2.1 dX6_way_69 ?_
        refine lv_iconst (v := nI 1) S.1 S.2.1 dX6_way_70 (by decide) ?_
        refine lv_isub S.1 S.2.1 dX6_way_71 ?_
        refine lv_i2l S.1 S.2.1 dX6_way_72 rfl ?_
        refine kSi S (c_X6_in (l := l) (D := D) (cI := cI) (cZ := cZ) (cF := cF)) (va_cwS 3 S.2.2.2.2 gX6_way_X6_in rfl rfl rfl v_X6_in ⟨(Nat.le_of_ble_eq_true rfl), (Nat.le_of_ble_eq_true rfl)⟩) hk hW rfl hl rfl (Nat.le_of_ble_eq_true rfl) dX6_way_73 ⟨(Nat.le_of_ble_eq_true rfl), (Nat.le_of_ble_eq_true rfl)⟩ (fun r u H locs hp hW => ?_)
        obtain ⟨rfl, rfl⟩ := hp
        refine ifne_b (tgt := 83) S dX6_way_76 (by decide) (fun c_76 => ?_) (fun c_76 => ?_)
        · skip
          have c76 := c_76
          rw [hst, inL_inb (by omega)] at c76
          obtain ⟨k, hk6, rfl⟩ := inb_nat c76 (by omega)
          have hck : (nI k).toNatClampNeg = k := nI_clamp (by omega)
          refine lv_iload_n S.1 S.2.1 dX6_way_83 rfl (lv_at hl 2 rfl) ?_
          refine lv_istore (lv' := [(5, .int (nI a)), (4, .int (((lrn g (-1000) (-1000)).1) ((10 * a) + b))), (0, .ref (q 0)), (1, .int (nI a)), (2, .int (nI b)), (3, .int (nI k))]) S.1 S.2.1 dX6_way_84 hl (by decide) rfl (fun ls hl => ?_)
          refine lv_aload_n S.1 S.2.1 dX6_way_86 rfl (lv_at hl 2 rfl) ?_
          refine lv_iload S.1 S.2.1 dX6_way_87 (lv_at hl 0 rfl) ?_
          refine lv_iload_n S.1 S.2.1 dX6_way_89 rfl (lv_at hl 4 rfl) ?_
          refine kVi S (c_X6_nextOf (l := l) (D := D) (cI := cI) (cZ := cZ) (cF := cF) G (by first | assumption | omega) (by first | assumption | omega)) (cwV 2 S.2.2.2.2 gX6_way_X6_nextOf rfl rfl rfl ⟨rfl, v_X6_nextOf⟩ ⟨(Nat.le_of_ble_eq_true rfl), (Nat.le_of_ble_eq_true rfl)⟩) hk hW 0 rfl rfl rfl rfl hl rfl (Nat.le_of_ble_eq_true rfl) dX6_way_90 ⟨(Nat.le_of_ble_eq_true rfl), (Nat.le_of_ble_eq_true rfl)⟩ (fun r u H locs hp hW => ?_)
          obtain ⟨rfl, rfl⟩ := hp
          obtain ⟨hfj, hlk, hf2, hs2⟩ := hSn (by omega)
          refine top_eq (y := nI (nlM g (lrn g (-1000) (-1000)).1 b a)) (by rw [hfj]; rfl) ?_
          refine lv_istore (lv' := [(6, .int (nI (nlM g (lrn g (-1000) (-1000)).1 b a))), (5, .int (nI a)), (4, .int (((lrn g (-1000) (-1000)).1) ((10 * a) + b))), (0, .ref (q 0)), (1, .int (nI a)), (2, .int (nI b)), (3, .int (nI k))]) S.1 S.2.1 dX6_way_93 hl (by decide) rfl (fun ls hl => ?_)
          refine lv_iconst (v := nI 0) S.1 S.2.1 dX6_way_95 (by decide) ?_
          refine lv_istore (lv' := [(7, .int (nI 0)), (6, .int (nI (nlM g (lrn g (-1000) (-1000)).1 b a))), (5, .int (nI a)), (4, .int (((lrn g (-1000) (-1000)).1) ((10 * a) + b))), (0, .ref (q 0)), (1, .int (nI a)), (2, .int (nI b)), (3, .int (nI k))]) S.1 S.2.1 dX6_way_96 hl (by decide) rfl (fun ls hl => ?_)
          have L98 : ∀ (dd : Nat), ∀ (a1 : Nat), ∀ (l6 : Nat), ∀ (t1 : Nat), (l6 = nlM g (lrn g (-1000) (-1000)).1 b a1) → (a1 = atM g (lrn g (-1000) (-1000)).1 a b t1) → (a1 < gN g) → ((lrn g (-1000) (-1000)).1 (10 * a1 + b) < nI 10000000) → (stM ((lrn g (-1000) (-1000)).1 (10 * a1 + b)) = nI (S9 - t1)) → (t1 ≤ k) → k < t1 + dd → ∀ (H : Heap) (locs : List Loc) (ls : Array Slot), wd D A s H locs (wM q cI cZ cF g ((lrn g (-1000) (-1000)).1) ke ac mk iv) → lv_has ls 8 [(0, .ref (q 0)), (1, .int (nI a)), (2, .int (nI b)), (3, .int (nI k)), (4, .int (((lrn g (-1000) (-1000)).1) ((10 * a) + b))), (5, .int (nI a1)), (6, .int (nI l6)), (7, .int (nI t1))] → W p l e r_X6_way s m args below meth c H locs 0 0 Q (F0 m 98 ls []) := by
            intro dd
            induction dd with
            | zero => intros; omega
            | succ dd ih98 =>
              intro a1 l6 t1 hl6 hat ha1 hfa1 hsa1 ht1 hdd H locs ls hW hl
              refine lv_iload S.1 S.2.1 dX6_way_98 (lv_at hl 7 rfl) ?_
              refine lv_iload_n S.1 S.2.1 dX6_way_100 rfl (lv_at hl 3 rfl) ?_
              refine icge_n (tgt := 129) S (by omega) (by omega) dX6_way_101 (by decide) (fun c_101 => ?_) (fun c_101 => ?_)
              · skip
                refine lv_iload S.1 S.2.1 dX6_way_129 (lv_at hl 6 rfl) ?_
                exact hR _ _ _ _ _ _ _ _ dX6_way_131 rfl (Nat.le_of_ble_eq_true rfl) (Nat.le_of_ble_eq_true rfl) hW ⟨(by have et : t1 = k := (by omega); subst et; rw [hl6, hat]; simp only [wayM, c_10, c_18, hca, hcb, hck, eq_false c_53, c_76, eq_self, Nat.add_zero, decide_false, decide_true, Bool.not_true, Bool.not_false, Bool.and_true, Bool.true_and, Bool.and_false, Bool.false_and, Bool.or_true, Bool.true_or, Bool.or_false, Bool.false_or, ↓reduceIte, cond_true, cond_false, bI, and_true, true_and, and_false, false_and, or_true, true_or, or_false, false_or, not_true_eq_false, not_false_eq_true, if_true, if_false, Bool.false_eq_true, reduceCtorEq, ite_true, ite_false]), ⟨_, rfl⟩⟩
              · skip
                obtain ⟨h2j, hk1, h2f, h2s⟩ := Nxt_at hNx ha1 hb hfa1 hsa1 (by omega) (by omega)
                rw [← hl6] at hk1 h2f h2s
                refine lv_aload_n S.1 S.2.1 dX6_way_104 rfl (lv_at hl 0 rfl) ?_
                refine lv_iload S.1 S.2.1 dX6_way_105 (lv_at hl 6 rfl) ?_
                refine lv_iload S.1 S.2.1 dX6_way_107 (lv_at hl 5 rfl) ?_
                refine kVi S (c_X6_other (l := l) (D := D) (cI := cI) (cZ := cZ) (cF := cF) G (by first | assumption | omega) (by first | assumption | omega)) (cwV 2 S.2.2.2.2 gX6_way_X6_other rfl rfl rfl ⟨rfl, v_X6_other⟩ ⟨(Nat.le_of_ble_eq_true rfl), (Nat.le_of_ble_eq_true rfl)⟩) hk hW 0 rfl rfl rfl rfl hl rfl (Nat.le_of_ble_eq_true rfl) dX6_way_109 ⟨(Nat.le_of_ble_eq_true rfl), (Nat.le_of_ble_eq_true rfl)⟩ (fun r u H locs hp hW => ?_)
                obtain ⟨rfl, rfl⟩ := hp
                refine lv_istore (lv' := [(5, .int (nI (otM g l6 a1))), (0, .ref (q 0)), (1, .int (nI a)), (2, .int (nI b)), (3, .int (nI k)), (4, .int (((lrn g (-1000) (-1000)).1) ((10 * a) + b))), (6, .int (nI l6)), (7, .int (nI t1))]) S.1 S.2.1 dX6_way_112 hl (by decide) rfl (fun ls hl => ?_)
                refine lv_aload_n S.1 S.2.1 dX6_way_114 rfl (lv_at hl 1 rfl) ?_
                refine lv_iload S.1 S.2.1 dX6_way_115 (lv_at hl 0 rfl) ?_
                refine lv_iload_n S.1 S.2.1 dX6_way_117 rfl (lv_at hl 3 rfl) ?_
                refine kVi S (c_X6_nextOf (l := l) (D := D) (cI := cI) (cZ := cZ) (cF := cF) G (Nat.lt_of_lt_of_le (otM_lt G hk1) hN) (by omega)) (cwV 2 S.2.2.2.2 gX6_way_X6_nextOf rfl rfl rfl ⟨rfl, v_X6_nextOf⟩ ⟨(Nat.le_of_ble_eq_true rfl), (Nat.le_of_ble_eq_true rfl)⟩) hk hW 0 rfl rfl rfl rfl hl rfl (Nat.le_of_ble_eq_true rfl) dX6_way_118 ⟨(Nat.le_of_ble_eq_true rfl), (Nat.le_of_ble_eq_true rfl)⟩ (fun r u H locs hp hW => ?_)
                obtain ⟨rfl, rfl⟩ := hp
                obtain ⟨h3j, h3l, -, -⟩ := Nxt_at hNx (otM_lt G hk1) hb h2f h2s (by omega) (by omega)
                refine top_eq (y := nI (nlM g (lrn g (-1000) (-1000)).1 b (otM g l6 a1))) (by rw [h3j]; rfl) ?_
                refine lv_istore (lv' := [(6, .int (nI (nlM g (lrn g (-1000) (-1000)).1 b (otM g l6 a1)))), (5, .int (nI (otM g l6 a1))), (0, .ref (q 0)), (1, .int (nI a)), (2, .int (nI b)), (3, .int (nI k)), (4, .int (((lrn g (-1000) (-1000)).1) ((10 * a) + b))), (7, .int (nI t1))]) S.1 S.2.1 dX6_way_121 hl (by decide) rfl (fun ls hl => ?_)
                refine lv_iinc (v := nI (t1 + 1)) (lv' := [(7, .int (nI (t1 + 1))), (6, .int (nI (nlM g (lrn g (-1000) (-1000)).1 b (otM g l6 a1)))), (5, .int (nI (otM g l6 a1))), (0, .ref (q 0)), (1, .int (nI a)), (2, .int (nI b)), (3, .int (nI k)), (4, .int (((lrn g (-1000) (-1000)).1) ((10 * a) + b)))]) (k := 7) S.1 S.2.1 dX6_way_123 hl rfl (nI_1 _) (by decide) rfl (fun ls hl => ?_)
                refine lv_goto (tgt := 98) S.1 S.2.1 dX6_way_126 (by decide) ?_
                exact ih98 (otM g l6 a1) (nlM g (lrn g (-1000) (-1000)).1 b (otM g l6 a1)) (t1 + 1) rfl (by rw [hl6, hat]; rfl) (otM_lt G hk1) h2f (by rw [h2s]; exact congrArg nI (by omega)) (by omega) (by omega) _ _ _ hW (lv_sub hl [3, 4, 5, 6, 7, 2, 1, 0] rfl)
          exact L98 (k + 1) a (nlM g (lrn g (-1000) (-1000)).1 b a) 0 rfl rfl ha hfar hS (by omega) (by omega) _ _ _ hW (lv_sub hl [4, 5, 6, 7, 3, 2, 1, 0] rfl)
        · skip
          refine lv_sipush (v := (-1000)) S.1 S.2.1 dX6_way_79 (by decide) ?_
          exact hR _ _ _ _ _ _ _ _ dX6_way_82 rfl (Nat.le_of_ble_eq_true rfl) (Nat.le_of_ble_eq_true rfl) hW ⟨(by simp only [wayM, hca, hcb, c_10, c_18, eq_false c_53, c_76, eq_self, Nat.add_zero, decide_false, decide_true, Bool.not_true, Bool.not_false, Bool.and_true, Bool.true_and, Bool.and_false, Bool.false_and, Bool.or_true, Bool.true_or, Bool.or_false, Bool.false_or, ↓reduceIte, cond_true, cond_false, bI, and_true, true_and, and_false, false_and, or_true, true_or, or_false, false_or, not_true_eq_false, not_false_eq_true, if_true, if_false, Bool.false_eq_true, reduceCtorEq, ite_true, ite_false]), ⟨_, rfl⟩⟩
    · skip
      refine lv_sipush (v := (-1001)) S.1 S.2.1 dX6_way_21 (by decide) ?_
      exact hR _ _ _ _ _ _ _ _ dX6_way_24 rfl (Nat.le_of_ble_eq_true rfl) (Nat.le_of_ble_eq_true rfl) hW ⟨(by simp only [wayM, c_10, c_18, eq_self, Nat.add_zero, decide_false, decide_true, Bool.not_true, Bool.not_false, Bool.and_true, Bool.true_and, Bool.and_false, Bool.false_and, Bool.or_true, Bool.true_or, Bool.or_false, Bool.false_or, ↓reduceIte, cond_true, cond_false, bI, and_true, true_and, and_false, false_and, or_true, true_or, or_false, false_or, not_true_eq_false, not_false_eq_true, if_true, if_false, Bool.false_eq_true, reduceCtorEq, ite_true, ite_false]), ⟨_, rfl⟩⟩
abbrev r_X6_vital : Room := { frames := 2, cells := 0, slots := 0, locals := 46 }
theorem v_X6_vital : yX6_vital.cls ≠ "java/lang/invoke/MethodHandle" ∧ yX6_vital.cls ≠ "java/lang/invoke/VarHandle" ∧ (parseMethodDescriptor yX6_vital.desc).map (fun d => d.parameters.length) = some 3 := by decide +kernel
set_option maxRecDepth 100000 in
set_option maxHeartbeats 4000000 in
theorem c_X6_vital {l : Launch} {D : va_G} {cI cZ cF : ClassId} {q : Nat → Nat} {g : Gr} {fi ke : Nat → Int32} {ac : Nat} {mk : Int32} {iv : Nat → Int32} {x y z : Int32} (G : Gok g) : cI_ l D cI cZ cF yX6_vital wsX6_vital r_X6_vital [.ref (q 0), .int x, .int y, .int z] (wM q cI cZ cF g fi ke ac mk iv) (fun r u => r = vtlM g x y z ∧ ∃ fi', u = wM q cI cZ cF g fi' ke ac mk iv) 0 0 := by
  refine cI_of (cc := cX6_vital) (maxL := 7) (rt := .int) (plainFor_of_name (by decide +kernel)) rfl (Nat.le_of_ble_eq_true rfl) ?_
  intro p e s m args below meth c A Q ls S hk hW hl hR
  have hl : lv_has ls 7 [(0, .ref (q 0)), (1, .int x), (2, .int y), (3, .int z)] := hl
  have hwsX60 : ∀ x ∈ wsX60, x ∈ wsX6_vital := fun x h => List.mem_cons_of_mem _ (List.mem_append_right _ h)
  have hN := Gok_N G; have hN2 := Gok_N2 G; have hKK := Gok_K G
  refine lv_aload_n S.1 S.2.1 dX6_vital_0 rfl (lv_at hl 0 rfl) ?_
  refine lv_iconst (v := nI 0) S.1 S.2.1 dX6_vital_1 (by decide) ?_
  refine pf (ty := .int) (w' := wM q cI cZ cF g fi ke ac mk iv) S hk hW 0 rfl rfl hwsX60 tyX6 tyX6_ok nmX6 0 (by decide) 1 rfl rfl (by decide +kernel) rfl rfl (Nat.le_of_ble_eq_true rfl) dX6_vital_2 rfl (fun H locs hW => ?_)
  refine lv_aload_n S.1 S.2.1 dX6_vital_5 rfl (lv_at hl 0 rfl) ?_
  refine lv_iload_n S.1 S.2.1 dX6_vital_6 rfl (lv_at hl 1 rfl) ?_
  refine kVi S (c_X6_noPost (l := l) (D := D) (cI := cI) (cZ := cZ) (cF := cF) G) (cwV 1 S.2.2.2.2 gX6_vital_X6_noPost rfl rfl rfl ⟨rfl, v_X6_noPost⟩ ⟨(Nat.le_of_ble_eq_true rfl), (Nat.le_of_ble_eq_true rfl)⟩) hk hW 0 rfl rfl rfl rfl hl rfl (Nat.le_of_ble_eq_true rfl) dX6_vital_7 ⟨(Nat.le_of_ble_eq_true rfl), (Nat.le_of_ble_eq_true rfl)⟩ (fun r u H locs hp hW => ?_)
  obtain ⟨rfl, rfl⟩ := hp
  refine ifne_nb (tgt := 21) S dX6_vital_10 (by decide) (fun c_10 => ?_) (fun c_10 => ?_)
  · skip
    refine lv_sipush (v := (-1001)) S.1 S.2.1 dX6_vital_21 (by decide) ?_
    exact hR _ _ _ _ _ _ _ _ dX6_vital_24 rfl (Nat.le_of_ble_eq_true rfl) (Nat.le_of_ble_eq_true rfl) hW ⟨(by simp only [vtlM, c_10, eq_self, Nat.add_zero, decide_false, decide_true, Bool.not_true, Bool.not_false, Bool.and_true, Bool.true_and, Bool.and_false, Bool.false_and, Bool.or_true, Bool.true_or, Bool.or_false, Bool.false_or, ↓reduceIte, cond_true, cond_false, bI, and_true, true_and, and_false, false_and, or_true, true_or, or_false, false_or, not_true_eq_false, not_false_eq_true, if_true, if_false, Bool.false_eq_true, reduceCtorEq, ite_true, ite_false]), ⟨_, rfl⟩⟩
  · skip
    refine lv_aload_n S.1 S.2.1 dX6_vital_13 rfl (lv_at hl 0 rfl) ?_
    refine lv_iload_n S.1 S.2.1 dX6_vital_14 rfl (lv_at hl 2 rfl) ?_
    refine kVi S (c_X6_noPost (l := l) (D := D) (cI := cI) (cZ := cZ) (cF := cF) G) (cwV 1 S.2.2.2.2 gX6_vital_X6_noPost rfl rfl rfl ⟨rfl, v_X6_noPost⟩ ⟨(Nat.le_of_ble_eq_true rfl), (Nat.le_of_ble_eq_true rfl)⟩) hk hW 0 rfl rfl rfl rfl hl rfl (Nat.le_of_ble_eq_true rfl) dX6_vital_15 ⟨(Nat.le_of_ble_eq_true rfl), (Nat.le_of_ble_eq_true rfl)⟩ (fun r u H locs hp hW => ?_)
    obtain ⟨rfl, rfl⟩ := hp
    refine ifeq_nb (tgt := 25) S dX6_vital_18 (by decide) (fun c_18 => ?_) (fun c_18 => ?_)
    · skip
      obtain ⟨a, ha, rfl⟩ := inb_nat c_10 (by omega)
      have hca : (nI a).toNatClampNeg = a := nI_clamp (by omega)
      obtain ⟨b, hb, rfl⟩ := inb_nat c_18 (by omega)
      have hcb : (nI b).toNatClampNeg = b := nI_clamp (by omega)
      refine lv_aload_n S.1 S.2.1 dX6_vital_25 rfl (lv_at hl 0 rfl) ?_
      refine lv_sipush (v := (-1000)) S.1 S.2.1 dX6_vital_26 (by decide) ?_
      refine lv_sipush (v := (-1000)) S.1 S.2.1 dX6_vital_29 (by decide) ?_
      refine kVi S (c_X6_learn (l := l) (D := D) (cI := cI) (cZ := cZ) (cF := cF) G) (cwV 2 S.2.2.2.2 gX6_vital_X6_learn rfl rfl rfl ⟨rfl, v_X6_learn⟩ ⟨(Nat.le_of_ble_eq_true rfl), (Nat.le_of_ble_eq_true rfl)⟩) hk hW 0 rfl rfl rfl rfl hl rfl (Nat.le_of_ble_eq_true rfl) dX6_vital_32 ⟨(Nat.le_of_ble_eq_true rfl), (Nat.le_of_ble_eq_true rfl)⟩ (fun r u H locs hp hW => ?_)
      obtain ⟨rfl, rfl⟩ := hp
      refine lv_pop S.1 S.2.1 dX6_vital_35 rfl ?_
      refine lv_aload_n S.1 S.2.1 dX6_vital_36 rfl (lv_at hl 0 rfl) ?_
      refine lv_iload_n S.1 S.2.1 dX6_vital_37 rfl (lv_at hl 1 rfl) ?_
      refine lv_iload_n S.1 S.2.1 dX6_vital_38 rfl (lv_at hl 2 rfl) ?_
      refine kVi S (c_X6_farOf (l := l) (D := D) (cI := cI) (cZ := cZ) (cF := cF) (by first | assumption | omega) (by first | assumption | omega)) (cwV 2 S.2.2.2.2 gX6_vital_X6_farOf rfl rfl rfl ⟨rfl, v_X6_farOf⟩ ⟨(Nat.le_of_ble_eq_true rfl), (Nat.le_of_ble_eq_true rfl)⟩) hk hW 0 rfl rfl rfl rfl hl rfl (Nat.le_of_ble_eq_true rfl) dX6_vital_39 ⟨(Nat.le_of_ble_eq_true rfl), (Nat.le_of_ble_eq_true rfl)⟩ (fun r u H locs hp hW => ?_)
      obtain ⟨rfl, rfl⟩ := hp
      refine lv_istore (lv' := [(4, .int (cfr ((lrn g (-1000) (-1000)).1) a b)), (0, .ref (q 0)), (1, .int (nI a)), (2, .int (nI b)), (3, .int z)]) S.1 S.2.1 dX6_vital_42 hl (by decide) rfl (fun ls hl => ?_)
      refine lv_iconst (v := nI 0) S.1 S.2.1 dX6_vital_44 (by decide) ?_
      refine lv_istore (lv' := [(5, .int (nI 0)), (4, .int (cfr ((lrn g (-1000) (-1000)).1) a b)), (0, .ref (q 0)), (1, .int (nI a)), (2, .int (nI b)), (3, .int z)]) S.1 S.2.1 dX6_vital_45 hl (by decide) rfl (fun ls hl => ?_)
      refine lv_iconst (v := nI 0) S.1 S.2.1 dX6_vital_47 (by decide) ?_
      refine lv_istore (lv' := [(6, .int (nI 0)), (5, .int (nI 0)), (4, .int (cfr ((lrn g (-1000) (-1000)).1) a b)), (0, .ref (q 0)), (1, .int (nI a)), (2, .int (nI b)), (3, .int z)]) S.1 S.2.1 dX6_vital_48 hl (by decide) rfl (fun ls hl => ?_)
      have L50 : ∀ (dd : Nat), ∀ (n : Nat), ∀ (i : Nat), ∀ (f1 : Nat → Int32), (n = cvM g a b (cfr (lrn g (-1000) (-1000)).1 a b) i) → (fj (vtP g a b (cfr (lrn g (-1000) (-1000)).1 a b) z) (gK g) 0 = fj (vtP g a b (cfr (lrn g (-1000) (-1000)).1 a b) z) (gK g - i) i) → (i ≤ gK g) → gK g < i + dd → ∀ (H : Heap) (locs : List Loc) (ls : Array Slot), wd D A s H locs (wM q cI cZ cF g f1 ke ac mk iv) → lv_has ls 7 [(0, .ref (q 0)), (1, .int (nI a)), (2, .int (nI b)), (3, .int z), (4, .int (cfr ((lrn g (-1000) (-1000)).1) a b)), (5, .int (nI n)), (6, .int (nI i))] → W p l e r_X6_vital s m args below meth c H locs 0 0 Q (F0 m 50 ls []) := by
        intro dd
        induction dd with
        | zero => intros; omega
        | succ dd ih50 =>
          intro n i f1 hn hf hi hdd H locs ls hW hl
          refine lv_iload S.1 S.2.1 dX6_vital_50 (lv_at hl 6 rfl) ?_
          refine lv_aload_n S.1 S.2.1 dX6_vital_52 rfl (lv_at hl 0 rfl) ?_
          refine gf S hk hW 0 rfl rfl hwsX60 2 (by decide) 2 rfl rfl dX6_vital_53 ?_
          refine icge_n (tgt := 106) S (by omega) (by omega) dX6_vital_56 (by decide) (fun c_56 => ?_) (fun c_56 => ?_)
          · skip
            refine lv_sipush (v := (-1000)) S.1 S.2.1 dX6_vital_106 (by decide) ?_
            exact hR _ _ _ _ _ _ _ _ dX6_vital_109 rfl (Nat.le_of_ble_eq_true rfl) (Nat.le_of_ble_eq_true rfl) hW ⟨(by
                simp only [vtlM, c_10, c_18, hca, hcb, if_true]
                rw [fj_none hf (by omega)]
                by_cases h9 : cfr (lrn g (-1000) (-1000)).1 a b = (-1000)
                · rw [if_pos h9]
                · rw [if_neg h9]; rfl), ⟨_, rfl⟩⟩
          · skip
            refine lv_iload S.1 S.2.1 dX6_vital_59 (lv_at hl 4 rfl) ?_
            refine lv_sipush (v := (-1000)) S.1 S.2.1 dX6_vital_61 (by decide) ?_
            refine lv_icmp_eq (tgt := 106) S.1 S.2.1 dX6_vital_64 (by decide) (fun c_64 => ?_) (fun c_64 => ?_)
            · skip
              refine lv_sipush (v := (-1000)) S.1 S.2.1 dX6_vital_106 (by decide) ?_
              exact hR _ _ _ _ _ _ _ _ dX6_vital_109 rfl (Nat.le_of_ble_eq_true rfl) (Nat.le_of_ble_eq_true rfl) hW ⟨(by simp only [vtlM, c_10, c_18, hca, hcb, eq_true c_64, if_true]), ⟨_, rfl⟩⟩
            · skip
              refine lv_aload_n S.1 S.2.1 dX6_vital_67 rfl (lv_at hl 0 rfl) ?_
              refine lv_iload S.1 S.2.1 dX6_vital_68 (lv_at hl 6 rfl) ?_
              refine lv_sipush (v := (-1000)) S.1 S.2.1 dX6_vital_70 (by decide) ?_
              refine kVi S (c_X6_learn (l := l) (D := D) (cI := cI) (cZ := cZ) (cF := cF) G) (cwV 2 S.2.2.2.2 gX6_vital_X6_learn rfl rfl rfl ⟨rfl, v_X6_learn⟩ ⟨(Nat.le_of_ble_eq_true rfl), (Nat.le_of_ble_eq_true rfl)⟩) hk hW 0 rfl rfl rfl rfl hl rfl (Nat.le_of_ble_eq_true rfl) dX6_vital_73 ⟨(Nat.le_of_ble_eq_true rfl), (Nat.le_of_ble_eq_true rfl)⟩ (fun r u H locs hp hW => ?_)
              obtain ⟨rfl, rfl⟩ := hp
              refine lv_pop S.1 S.2.1 dX6_vital_76 rfl ?_
              refine lv_aload_n S.1 S.2.1 dX6_vital_77 rfl (lv_at hl 0 rfl) ?_
              refine lv_iload_n S.1 S.2.1 dX6_vital_78 rfl (lv_at hl 1 rfl) ?_
              refine lv_iload_n S.1 S.2.1 dX6_vital_79 rfl (lv_at hl 2 rfl) ?_
              refine kVi S (c_X6_farOf (l := l) (D := D) (cI := cI) (cZ := cZ) (cF := cF) (by first | assumption | omega) (by first | assumption | omega)) (cwV 2 S.2.2.2.2 gX6_vital_X6_farOf rfl rfl rfl ⟨rfl, v_X6_farOf⟩ ⟨(Nat.le_of_ble_eq_true rfl), (Nat.le_of_ble_eq_true rfl)⟩) hk hW 0 rfl rfl rfl rfl hl rfl (Nat.le_of_ble_eq_true rfl) dX6_vital_80 ⟨(Nat.le_of_ble_eq_true rfl), (Nat.le_of_ble_eq_true rfl)⟩ (fun r u H locs hp hW => ?_)
              obtain ⟨rfl, rfl⟩ := hp
              refine lv_iload S.1 S.2.1 dX6_vital_83 (lv_at hl 4 rfl) ?_
              refine lv_icmp_eq (tgt := 100) S.1 S.2.1 dX6_vital_85 (by decide) (fun c_85 => ?_) (fun c_85 => ?_)
              · skip
                refine lv_iinc (v := nI (i + 1)) (lv' := [(6, .int (nI (i + 1))), (0, .ref (q 0)), (1, .int (nI a)), (2, .int (nI b)), (3, .int z), (4, .int (cfr ((lrn g (-1000) (-1000)).1) a b)), (5, .int (nI n))]) (k := 6) S.1 S.2.1 dX6_vital_100 hl rfl (nI_1 _) (by decide) rfl (fun ls hl => ?_)
                refine lv_goto (tgt := 50) S.1 S.2.1 dX6_vital_103 (by decide) ?_
                exact ih50 n (i + 1) ((lrn g (nI i) (-1000)).1) (by simp only [cvM, hn, eq_true c_85, eq_self, Nat.add_zero, decide_false, decide_true, Bool.not_true, Bool.not_false, Bool.and_true, Bool.true_and, Bool.and_false, Bool.false_and, Bool.or_true, Bool.true_or, Bool.or_false, Bool.false_or, ↓reduceIte, cond_true, cond_false, bI, and_true, true_and, and_false, false_and, or_true, true_or, or_false, false_or, not_true_eq_false, not_false_eq_true, if_true, if_false, Bool.false_eq_true, reduceCtorEq, ite_true, ite_false]) (fj_step hf (by omega) (by simp only [vtP, ← hn, eq_true c_85, eq_self, Nat.add_zero, decide_false, decide_true, Bool.not_true, Bool.not_false, Bool.and_true, Bool.true_and, Bool.and_false, Bool.false_and, Bool.or_true, Bool.true_or, Bool.or_false, Bool.false_or, ↓reduceIte, cond_true, cond_false, bI, and_true, true_and, and_false, false_and, or_true, true_or, or_false, false_or, not_true_eq_false, not_false_eq_true, if_true, if_false, Bool.false_eq_true, reduceCtorEq, ite_true, ite_false])) (by omega) (by omega) _ _ _ hW (lv_sub hl [1, 2, 3, 4, 5, 6, 0] rfl)
              · skip
                refine lv_iload S.1 S.2.1 dX6_vital_88 (lv_at hl 5 rfl) ?_
                refine lv_iload_n S.1 S.2.1 dX6_vital_90 rfl (lv_at hl 3 rfl) ?_
                refine lv_icmp_ne (tgt := 97) S.1 S.2.1 dX6_vital_91 (by decide) (fun c_91 => ?_) (fun c_91 => ?_)
                · skip
                  refine lv_iinc (v := nI (n + 1)) (lv' := [(5, .int (nI (n + 1))), (0, .ref (q 0)), (1, .int (nI a)), (2, .int (nI b)), (3, .int z), (4, .int (cfr ((lrn g (-1000) (-1000)).1) a b)), (6, .int (nI i))]) (k := 5) S.1 S.2.1 dX6_vital_97 hl rfl (nI_1 _) (by decide) rfl (fun ls hl => ?_)
                  refine lv_iinc (v := nI (i + 1)) (lv' := [(6, .int (nI (i + 1))), (5, .int (nI (n + 1))), (0, .ref (q 0)), (1, .int (nI a)), (2, .int (nI b)), (3, .int z), (4, .int (cfr ((lrn g (-1000) (-1000)).1) a b))]) (k := 6) S.1 S.2.1 dX6_vital_100 hl rfl (nI_1 _) (by decide) rfl (fun ls hl => ?_)
                  refine lv_goto (tgt := 50) S.1 S.2.1 dX6_vital_103 (by decide) ?_
                  exact ih50 (n + 1) (i + 1) ((lrn g (nI i) (-1000)).1) (by simp only [cvM, hn, eq_false c_85, eq_self, Nat.add_zero, decide_false, decide_true, Bool.not_true, Bool.not_false, Bool.and_true, Bool.true_and, Bool.and_false, Bool.false_and, Bool.or_true, Bool.true_or, Bool.or_false, Bool.false_or, ↓reduceIte, cond_true, cond_false, bI, and_true, true_and, and_false, false_and, or_true, true_or, or_false, false_or, not_true_eq_false, not_false_eq_true, if_true, if_false, Bool.false_eq_true, reduceCtorEq, ite_true, ite_false]) (fj_step hf (by omega) (by simp only [vtP, ← hn, eq_false c_85, eq_false c_91, eq_self, Nat.add_zero, decide_false, decide_true, Bool.not_true, Bool.not_false, Bool.and_true, Bool.true_and, Bool.and_false, Bool.false_and, Bool.or_true, Bool.true_or, Bool.or_false, Bool.false_or, ↓reduceIte, cond_true, cond_false, bI, and_true, true_and, and_false, false_and, or_true, true_or, or_false, false_or, not_true_eq_false, not_false_eq_true, if_true, if_false, Bool.false_eq_true, reduceCtorEq, ite_true, ite_false])) (by omega) (by omega) _ _ _ hW (lv_sub hl [2, 3, 4, 5, 6, 1, 0] rfl)
                · skip
                  refine lv_iload S.1 S.2.1 dX6_vital_94 (lv_at hl 6 rfl) ?_
                  exact hR _ _ _ _ _ _ _ _ dX6_vital_96 rfl (Nat.le_of_ble_eq_true rfl) (Nat.le_of_ble_eq_true rfl) hW ⟨(by simp only [vtlM, c_10, c_18, hca, hcb, eq_false c_64, if_true, if_false]; rw [fj_found hf (by omega) (by simp only [vtP, ← hn, eq_false c_85, eq_true c_91, eq_self, Nat.add_zero, decide_false, decide_true, Bool.not_true, Bool.not_false, Bool.and_true, Bool.true_and, Bool.and_false, Bool.false_and, Bool.or_true, Bool.true_or, Bool.or_false, Bool.false_or, ↓reduceIte, cond_true, cond_false, bI, and_true, true_and, and_false, false_and, or_true, true_or, or_false, false_or, not_true_eq_false, not_false_eq_true, if_true, if_false, Bool.false_eq_true, reduceCtorEq, ite_true, ite_false])]; rfl), ⟨_, rfl⟩⟩
      exact L50 ((gK g) + 1) 0 0 ((lrn g (-1000) (-1000)).1) rfl rfl (by omega) (by omega) _ _ _ hW (lv_sub hl [3, 4, 5, 6, 2, 1, 0] rfl)
    · skip
      refine lv_sipush (v := (-1001)) S.1 S.2.1 dX6_vital_21 (by decide) ?_
      exact hR _ _ _ _ _ _ _ _ dX6_vital_24 rfl (Nat.le_of_ble_eq_true rfl) (Nat.le_of_ble_eq_true rfl) hW ⟨(by simp only [vtlM, c_10, c_18, eq_self, Nat.add_zero, decide_false, decide_true, Bool.not_true, Bool.not_false, Bool.and_true, Bool.true_and, Bool.and_false, Bool.false_and, Bool.or_true, Bool.true_or, Bool.or_false, Bool.false_or, ↓reduceIte, cond_true, cond_false, bI, and_true, true_and, and_false, false_and, or_true, true_or, or_false, false_or, not_true_eq_false, not_false_eq_true, if_true, if_false, Bool.false_eq_true, reduceCtorEq, ite_true, ite_false]), ⟨_, rfl⟩⟩
abbrev r_X6_ring : Room := { frames := 2, cells := 0, slots := 0, locals := 43 }
theorem v_X6_ring : yX6_ring.cls ≠ "java/lang/invoke/MethodHandle" ∧ yX6_ring.cls ≠ "java/lang/invoke/VarHandle" ∧ (parseMethodDescriptor yX6_ring.desc).map (fun d => d.parameters.length) = some 0 := by decide +kernel
set_option maxRecDepth 100000 in
set_option maxHeartbeats 4000000 in
theorem c_X6_ring {l : Launch} {D : va_G} {cI cZ cF : ClassId} {q : Nat → Nat} {g : Gr} {fi ke : Nat → Int32} {ac : Nat} {mk : Int32} {iv : Nat → Int32}  (G : Gok g) : cI_ l D cI cZ cF yX6_ring wsX6_ring r_X6_ring [.ref (q 0)] (wM q cI cZ cF g fi ke ac mk iv) (fun r u => r = rgM g ((lrn g (-1000) (-1000)).1) (gK g) ∧ ∃ fi', u = wM q cI cZ cF g fi' ke ac mk iv) 0 0 := by
  refine cI_of (cc := cX6_ring) (maxL := 5) (rt := .int) (plainFor_of_name (by decide +kernel)) rfl (Nat.le_of_ble_eq_true rfl) ?_
  intro p e s m args below meth c A Q ls S hk hW hl hR
  have hl : lv_has ls 5 [(0, .ref (q 0))] := hl
  have hwsX60 : ∀ x ∈ wsX60, x ∈ wsX6_ring := fun x h => List.mem_cons_of_mem _ (List.mem_append_right _ h)
  have hN := Gok_N G; have hN2 := Gok_N2 G; have hKK := Gok_K G
  refine lv_aload_n S.1 S.2.1 dX6_ring_0 rfl (lv_at hl 0 rfl) ?_
  refine lv_iconst (v := nI 0) S.1 S.2.1 dX6_ring_1 (by decide) ?_
  refine pf (ty := .int) (w' := wM q cI cZ cF g fi ke ac mk iv) S hk hW 0 rfl rfl hwsX60 tyX6 tyX6_ok nmX6 0 (by decide) 1 rfl rfl (by decide +kernel) rfl rfl (Nat.le_of_ble_eq_true rfl) dX6_ring_2 rfl (fun H locs hW => ?_)
  refine lv_aload_n S.1 S.2.1 dX6_ring_5 rfl (lv_at hl 0 rfl) ?_
  refine lv_sipush (v := (-1000)) S.1 S.2.1 dX6_ring_6 (by decide) ?_
  refine lv_sipush (v := (-1000)) S.1 S.2.1 dX6_ring_9 (by decide) ?_
  refine kVi S (c_X6_learn (l := l) (D := D) (cI := cI) (cZ := cZ) (cF := cF) G) (cwV 2 S.2.2.2.2 gX6_ring_X6_learn rfl rfl rfl ⟨rfl, v_X6_learn⟩ ⟨(Nat.le_of_ble_eq_true rfl), (Nat.le_of_ble_eq_true rfl)⟩) hk hW 0 rfl rfl rfl rfl hl rfl (Nat.le_of_ble_eq_true rfl) dX6_ring_12 ⟨(Nat.le_of_ble_eq_true rfl), (Nat.le_of_ble_eq_true rfl)⟩ (fun r u H locs hp hW => ?_)
  obtain ⟨rfl, rfl⟩ := hp
  refine lv_pop S.1 S.2.1 dX6_ring_15 rfl ?_
  refine lv_sipush (v := (-1000)) S.1 S.2.1 dX6_ring_16 (by decide) ?_
  refine lv_istore_n (lv' := [(1, .int (-1000)), (0, .ref (q 0))]) S.1 S.2.1 dX6_ring_19 rfl hl (by decide) rfl (fun ls hl => ?_)
  refine lv_iconst (v := nI 0) S.1 S.2.1 dX6_ring_20 (by decide) ?_
  refine lv_istore_n (lv' := [(2, .int (nI 0)), (1, .int (-1000)), (0, .ref (q 0))]) S.1 S.2.1 dX6_ring_21 rfl hl (by decide) rfl (fun ls hl => ?_)
  have L22 : ∀ (dd : Nat), ∀ (z : Int32), ∀ (i : Nat), (z = rgM g (lrn g (-1000) (-1000)).1 i) → (i ≤ gK g) → gK g < i + dd → ∀ (H : Heap) (locs : List Loc) (ls : Array Slot), wd D A s H locs (wM q cI cZ cF g ((lrn g (-1000) (-1000)).1) ke ac mk iv) → lv_has ls 5 [(0, .ref (q 0)), (1, .int z), (2, .int (nI i))] → W p l e r_X6_ring s m args below meth c H locs 0 0 Q (F0 m 22 ls []) := by
    intro dd
    induction dd with
    | zero => intros; omega
    | succ dd ih22 =>
      intro z i hz hi hdd H locs ls hW hl
      refine lv_iload_n S.1 S.2.1 dX6_ring_22 rfl (lv_at hl 2 rfl) ?_
      refine lv_aload_n S.1 S.2.1 dX6_ring_23 rfl (lv_at hl 0 rfl) ?_
      refine gf S hk hW 0 rfl rfl hwsX60 2 (by decide) 2 rfl rfl dX6_ring_24 ?_
      refine icge_n (tgt := 150) S (by omega) (by omega) dX6_ring_27 (by decide) (fun c_27 => ?_) (fun c_27 => ?_)
      · skip
        refine lv_iload_n S.1 S.2.1 dX6_ring_150 rfl (lv_at hl 1 rfl) ?_
        exact hR _ _ _ _ _ _ _ _ dX6_ring_151 rfl (Nat.le_of_ble_eq_true rfl) (Nat.le_of_ble_eq_true rfl) hW ⟨by rw [hz, show i = gK g by omega], ⟨_, rfl⟩⟩
      · skip
        refine lv_iconst (v := nI 0) S.1 S.2.1 dX6_ring_30 (by decide) ?_
        refine lv_istore_n (lv' := [(3, .int (nI 0)), (0, .ref (q 0)), (1, .int z), (2, .int (nI i))]) S.1 S.2.1 dX6_ring_31 rfl hl (by decide) rfl (fun ls hl => ?_)
        have L32 : ∀ (dd : Nat), ∀ (z2 : Int32), ∀ (t1 : Nat), (z2 = rgT g (lrn g (-1000) (-1000)).1 i (rgM g (lrn g (-1000) (-1000)).1 i) t1) → (t1 ≤ 2) → (bW g i = false → t1 ≤ 1) → 2 < t1 + dd → ∀ (H : Heap) (locs : List Loc) (ls : Array Slot), wd D A s H locs (wM q cI cZ cF g ((lrn g (-1000) (-1000)).1) ke ac mk iv) → lv_has ls 5 [(0, .ref (q 0)), (1, .int z2), (2, .int (nI i)), (3, .int (nI t1))] → W p l e r_X6_ring s m args below meth c H locs 0 0 Q (F0 m 32 ls []) := by
          intro dd
          induction dd with
          | zero => intros; omega
          | succ dd ih32 =>
            intro z2 t1 hz2 ht2 ht1 hdd H locs ls hW hl
            refine lv_iload_n S.1 S.2.1 dX6_ring_32 rfl (lv_at hl 3 rfl) ?_
            refine lv_aload_n S.1 S.2.1 dX6_ring_33 rfl (lv_at hl 0 rfl) ?_
            refine gf S hk hW 0 rfl rfl hwsX60 6 (by decide) 3 rfl rfl dX6_ring_34 ?_
            refine lv_iload_n S.1 S.2.1 dX6_ring_37 rfl (lv_at hl 2 rfl) ?_
            refine zld S hk hW 4 rfl i rfl (by omega) (by omega) dX6_ring_38 ?_
            refine top_eq (Gok_W G (j := i) (by omega)) ?_
            refine ifeq_b (tgt := 46) S dX6_ring_39 (by decide) (fun c_39 => ?_) (fun c_39 => ?_)
            · skip
              refine lv_iconst (v := nI 1) S.1 S.2.1 dX6_ring_46 (by decide) ?_
              refine icge_n (tgt := 144) S (by omega) (by omega) dX6_ring_47 (by decide) (fun c_47 => ?_) (fun c_47 => ?_)
              · skip
                refine lv_iinc (v := nI (i + 1)) (lv' := [(2, .int (nI (i + 1))), (0, .ref (q 0)), (1, .int z2), (3, .int (nI t1))]) (k := 2) S.1 S.2.1 dX6_ring_144 hl rfl (nI_1 _) (by decide) rfl (fun ls hl => ?_)
                refine lv_goto (tgt := 22) S.1 S.2.1 dX6_ring_147 (by decide) ?_
                exact ih22 z2 (i + 1) (by rw [hz2]; simp only [rgM, c_39, eq_self, Nat.add_zero, decide_false, decide_true, Bool.not_true, Bool.not_false, Bool.and_true, Bool.true_and, Bool.and_false, Bool.false_and, Bool.or_true, Bool.true_or, Bool.or_false, Bool.false_or, ↓reduceIte, cond_true, cond_false, bI, and_true, true_and, and_false, false_and, or_true, true_or, or_false, false_or, not_true_eq_false, not_false_eq_true, if_true, if_false, Bool.false_eq_true, reduceCtorEq, ite_true, ite_false]; exact congrArg _ (by first | omega | (have h8 := ht1 c_39; omega))) (by omega) (by omega) _ _ _ hW (lv_sub hl [1, 2, 0] rfl)
              · skip
                refine lv_iload_n S.1 S.2.1 dX6_ring_50 rfl (lv_at hl 3 rfl) ?_
                refine lv_if_ne (tgt := 73) S.1 S.2.1 dX6_ring_51 (by decide) (fun c_51 => ?_) (fun c_51 => ?_)
                · skip
                  refine lv_aload_n S.1 S.2.1 dX6_ring_73 rfl (lv_at hl 0 rfl) ?_
                  refine lv_aload_n S.1 S.2.1 dX6_ring_74 rfl (lv_at hl 0 rfl) ?_
                  refine gf S hk hW 0 rfl rfl hwsX60 3 (by decide) 5 rfl rfl dX6_ring_75 ?_
                  refine lv_iload_n S.1 S.2.1 dX6_ring_78 rfl (lv_at hl 2 rfl) ?_
                  refine ild S hk hW 1 rfl i rfl (by omega) (by omega) dX6_ring_79 ?_
                  refine top_eq (Gok_B G (j := i) (by omega)) ?_
                  have hb79 := Gok_B2 G (j := i) (by omega)
                  refine lv_aload_n S.1 S.2.1 dX6_ring_80 rfl (lv_at hl 0 rfl) ?_
                  refine gf S hk hW 0 rfl rfl hwsX60 4 (by decide) 4 rfl rfl dX6_ring_81 ?_
                  refine lv_iload_n S.1 S.2.1 dX6_ring_84 rfl (lv_at hl 2 rfl) ?_
                  refine ild S hk hW 2 rfl i rfl (by omega) (by omega) dX6_ring_85 ?_
                  refine top_eq (Gok_E G (j := i) (by omega)) ?_
                  have hb85 := Gok_E2 G (j := i) (by omega)
                  refine kVi S (c_X6_farOf (l := l) (D := D) (cI := cI) (cZ := cZ) (cF := cF) (by first | assumption | omega) (by first | assumption | omega)) (cwV 2 S.2.2.2.2 gX6_ring_X6_farOf rfl rfl rfl ⟨rfl, v_X6_farOf⟩ ⟨(Nat.le_of_ble_eq_true rfl), (Nat.le_of_ble_eq_true rfl)⟩) hk hW 0 rfl rfl rfl rfl hl rfl (Nat.le_of_ble_eq_true rfl) dX6_ring_86 ⟨(Nat.le_of_ble_eq_true rfl), (Nat.le_of_ble_eq_true rfl)⟩ (fun r u H locs hp hW => ?_)
                  obtain ⟨rfl, rfl⟩ := hp
                  refine lv_istore (lv' := [(4, .int (cfr ((lrn g (-1000) (-1000)).1) (e1 g i) (e2 g i))), (0, .ref (q 0)), (1, .int z2), (2, .int (nI i)), (3, .int (nI t1))]) S.1 S.2.1 dX6_ring_89 hl (by decide) rfl (fun ls hl => ?_)
                  refine lv_aload_n S.1 S.2.1 dX6_ring_91 rfl (lv_at hl 1 rfl) ?_
                  refine gf S hk hW 0 rfl rfl hwsX60 7 (by decide) 6 rfl rfl dX6_ring_92 ?_
                  refine lv_iload_n S.1 S.2.1 dX6_ring_95 rfl (lv_at hl 3 rfl) ?_
                  refine zld S hk hW 5 rfl i rfl (by omega) (by omega) dX6_ring_96 ?_
                  refine top_eq (Gok_T G (j := i) (by omega)) ?_
                  refine ifeq_b (tgt := 138) S dX6_ring_97 (by decide) (fun c_97 => ?_) (fun c_97 => ?_)
                  · skip
                    refine lv_iinc (v := nI (t1 + 1)) (lv' := [(3, .int (nI (t1 + 1))), (4, .int (cfr ((lrn g (-1000) (-1000)).1) (e1 g i) (e2 g i))), (0, .ref (q 0)), (1, .int z2), (2, .int (nI i))]) (k := 4) S.1 S.2.1 dX6_ring_138 hl rfl (nI_1 _) (by decide) rfl (fun ls hl => ?_)
                    refine lv_goto (tgt := 32) S.1 S.2.1 dX6_ring_141 (by decide) ?_
                    exact ih32 z2 (t1 + 1) (by simp only [rgT, ← hz2, eq_false c_51, c_97, eq_self, Nat.add_zero, decide_false, decide_true, Bool.not_true, Bool.not_false, Bool.and_true, Bool.true_and, Bool.and_false, Bool.false_and, Bool.or_true, Bool.true_or, Bool.or_false, Bool.false_or, ↓reduceIte, cond_true, cond_false, bI, and_true, true_and, and_false, false_and, or_true, true_or, or_false, false_or, not_true_eq_false, not_false_eq_true, if_true, if_false, Bool.false_eq_true, reduceCtorEq, ite_true, ite_false]) (by omega) (fun h => (by first | (exact absurd (c_39.symm.trans h) (by decide)) | omega)) (by omega) _ _ _ hW (lv_sub hl [2, 3, 4, 0] rfl)
                  · skip
                    refine lv_iload S.1 S.2.1 dX6_ring_100 (lv_at hl 0 rfl) ?_
                    refine lv_sipush (v := (-1000)) S.1 S.2.1 dX6_ring_102 (by decide) ?_
                    refine lv_icmp_eq (tgt := 138) S.1 S.2.1 dX6_ring_105 (by decide) (fun c_105 => ?_) (fun c_105 => ?_)
                    · skip
                      refine lv_iinc (v := nI (t1 + 1)) (lv' := [(3, .int (nI (t1 + 1))), (4, .int (cfr ((lrn g (-1000) (-1000)).1) (e1 g i) (e2 g i))), (0, .ref (q 0)), (1, .int z2), (2, .int (nI i))]) (k := 4) S.1 S.2.1 dX6_ring_138 hl rfl (nI_1 _) (by decide) rfl (fun ls hl => ?_)
                      refine lv_goto (tgt := 32) S.1 S.2.1 dX6_ring_141 (by decide) ?_
                      exact ih32 z2 (t1 + 1) (by simp only [rgT, ← hz2, eq_false c_51, c_97, eq_true c_105, eq_self, Nat.add_zero, decide_false, decide_true, Bool.not_true, Bool.not_false, Bool.and_true, Bool.true_and, Bool.and_false, Bool.false_and, Bool.or_true, Bool.true_or, Bool.or_false, Bool.false_or, ↓reduceIte, cond_true, cond_false, bI, and_true, true_and, and_false, false_and, or_true, true_or, or_false, false_or, not_true_eq_false, not_false_eq_true, if_true, if_false, Bool.false_eq_true, reduceCtorEq, ite_true, ite_false]) (by omega) (fun h => (by first | (exact absurd (c_39.symm.trans h) (by decide)) | omega)) (by omega) _ _ _ hW (lv_sub hl [2, 3, 4, 0] rfl)
                    · skip
                      refine lv_iload_n S.1 S.2.1 dX6_ring_108 rfl (lv_at hl 2 rfl) ?_
                      refine lv_sipush (v := (-1000)) S.1 S.2.1 dX6_ring_109 (by decide) ?_
                      refine lv_icmp_eq (tgt := 128) S.1 S.2.1 dX6_ring_112 (by decide) (fun c_112 => ?_) (fun c_112 => ?_)
                      · skip
                        refine lv_aload_n S.1 S.2.1 dX6_ring_128 rfl (lv_at hl 1 rfl) ?_
                        refine gf S hk hW 0 rfl rfl hwsX60 5 (by decide) 7 rfl rfl dX6_ring_129 ?_
                        refine lv_iload_n S.1 S.2.1 dX6_ring_132 rfl (lv_at hl 3 rfl) ?_
                        refine ild S hk hW 3 rfl i rfl (by omega) (by omega) dX6_ring_133 ?_
                        refine lv_iload S.1 S.2.1 dX6_ring_134 (lv_at hl 0 rfl) ?_
                        refine lv_iadd S.1 S.2.1 dX6_ring_136 ?_
                        refine lv_istore_n (lv' := [(1, .int ((gP g i) + (cfr ((lrn g (-1000) (-1000)).1) (e1 g i) (e2 g i)))), (4, .int (cfr ((lrn g (-1000) (-1000)).1) (e1 g i) (e2 g i))), (0, .ref (q 0)), (2, .int (nI i)), (3, .int (nI t1))]) S.1 S.2.1 dX6_ring_137 rfl hl (by decide) rfl (fun ls hl => ?_)
                        refine lv_iinc (v := nI (t1 + 1)) (lv' := [(3, .int (nI (t1 + 1))), (1, .int ((gP g i) + (cfr ((lrn g (-1000) (-1000)).1) (e1 g i) (e2 g i)))), (4, .int (cfr ((lrn g (-1000) (-1000)).1) (e1 g i) (e2 g i))), (0, .ref (q 0)), (2, .int (nI i))]) (k := 4) S.1 S.2.1 dX6_ring_138 hl rfl (nI_1 _) (by decide) rfl (fun ls hl => ?_)
                        refine lv_goto (tgt := 32) S.1 S.2.1 dX6_ring_141 (by decide) ?_
                        exact ih32 ((gP g i) + (cfr ((lrn g (-1000) (-1000)).1) (e1 g i) (e2 g i))) (t1 + 1) (by simp only [rgT, ← hz2, eq_false c_51, c_97, eq_false c_105, eq_true c_112, eq_self, Nat.add_zero, decide_false, decide_true, Bool.not_true, Bool.not_false, Bool.and_true, Bool.true_and, Bool.and_false, Bool.false_and, Bool.or_true, Bool.true_or, Bool.or_false, Bool.false_or, ↓reduceIte, cond_true, cond_false, bI, and_true, true_and, and_false, false_and, or_true, true_or, or_false, false_or, not_true_eq_false, not_false_eq_true, if_true, if_false, Bool.false_eq_true, reduceCtorEq, ite_true, ite_false]) (by omega) (fun h => (by first | (exact absurd (c_39.symm.trans h) (by decide)) | omega)) (by omega) _ _ _ hW (lv_sub hl [3, 1, 4, 0] rfl)
                      · skip
                        refine lv_aload_n S.1 S.2.1 dX6_ring_115 rfl (lv_at hl 1 rfl) ?_
                        refine gf S hk hW 0 rfl rfl hwsX60 5 (by decide) 7 rfl rfl dX6_ring_116 ?_
                        refine lv_iload_n S.1 S.2.1 dX6_ring_119 rfl (lv_at hl 3 rfl) ?_
                        refine ild S hk hW 3 rfl i rfl (by omega) (by omega) dX6_ring_120 ?_
                        refine lv_iload S.1 S.2.1 dX6_ring_121 (lv_at hl 0 rfl) ?_
                        refine lv_iadd S.1 S.2.1 dX6_ring_123 ?_
                        refine lv_iload_n S.1 S.2.1 dX6_ring_124 rfl (lv_at hl 2 rfl) ?_
                        refine lv_icmp_ge (tgt := 138) S.1 S.2.1 dX6_ring_125 (by decide) (fun c_125 => ?_) (fun c_125 => ?_)
                        · skip
                          refine lv_iinc (v := nI (t1 + 1)) (lv' := [(3, .int (nI (t1 + 1))), (4, .int (cfr ((lrn g (-1000) (-1000)).1) (e1 g i) (e2 g i))), (0, .ref (q 0)), (1, .int z2), (2, .int (nI i))]) (k := 4) S.1 S.2.1 dX6_ring_138 hl rfl (nI_1 _) (by decide) rfl (fun ls hl => ?_)
                          refine lv_goto (tgt := 32) S.1 S.2.1 dX6_ring_141 (by decide) ?_
                          exact ih32 z2 (t1 + 1) (by simp only [rgT, ← hz2, eq_false c_51, c_97, eq_false c_105, eq_false c_112, eq_true c_125, eq_self, Nat.add_zero, decide_false, decide_true, Bool.not_true, Bool.not_false, Bool.and_true, Bool.true_and, Bool.and_false, Bool.false_and, Bool.or_true, Bool.true_or, Bool.or_false, Bool.false_or, ↓reduceIte, cond_true, cond_false, bI, and_true, true_and, and_false, false_and, or_true, true_or, or_false, false_or, not_true_eq_false, not_false_eq_true, if_true, if_false, Bool.false_eq_true, reduceCtorEq, ite_true, ite_false]) (by omega) (fun h => (by first | (exact absurd (c_39.symm.trans h) (by decide)) | omega)) (by omega) _ _ _ hW (lv_sub hl [2, 3, 4, 0] rfl)
                        · skip
                          refine lv_aload_n S.1 S.2.1 dX6_ring_128 rfl (lv_at hl 1 rfl) ?_
                          refine gf S hk hW 0 rfl rfl hwsX60 5 (by decide) 7 rfl rfl dX6_ring_129 ?_
                          refine lv_iload_n S.1 S.2.1 dX6_ring_132 rfl (lv_at hl 3 rfl) ?_
                          refine ild S hk hW 3 rfl i rfl (by omega) (by omega) dX6_ring_133 ?_
                          refine lv_iload S.1 S.2.1 dX6_ring_134 (lv_at hl 0 rfl) ?_
                          refine lv_iadd S.1 S.2.1 dX6_ring_136 ?_
                          refine lv_istore_n (lv' := [(1, .int ((gP g i) + (cfr ((lrn g (-1000) (-1000)).1) (e1 g i) (e2 g i)))), (4, .int (cfr ((lrn g (-1000) (-1000)).1) (e1 g i) (e2 g i))), (0, .ref (q 0)), (2, .int (nI i)), (3, .int (nI t1))]) S.1 S.2.1 dX6_ring_137 rfl hl (by decide) rfl (fun ls hl => ?_)
                          refine lv_iinc (v := nI (t1 + 1)) (lv' := [(3, .int (nI (t1 + 1))), (1, .int ((gP g i) + (cfr ((lrn g (-1000) (-1000)).1) (e1 g i) (e2 g i)))), (4, .int (cfr ((lrn g (-1000) (-1000)).1) (e1 g i) (e2 g i))), (0, .ref (q 0)), (2, .int (nI i))]) (k := 4) S.1 S.2.1 dX6_ring_138 hl rfl (nI_1 _) (by decide) rfl (fun ls hl => ?_)
                          refine lv_goto (tgt := 32) S.1 S.2.1 dX6_ring_141 (by decide) ?_
                          exact ih32 ((gP g i) + (cfr ((lrn g (-1000) (-1000)).1) (e1 g i) (e2 g i))) (t1 + 1) (by simp only [rgT, ← hz2, eq_false c_51, c_97, eq_false c_105, eq_false c_112, eq_false c_125, eq_self, Nat.add_zero, decide_false, decide_true, Bool.not_true, Bool.not_false, Bool.and_true, Bool.true_and, Bool.and_false, Bool.false_and, Bool.or_true, Bool.true_or, Bool.or_false, Bool.false_or, ↓reduceIte, cond_true, cond_false, bI, and_true, true_and, and_false, false_and, or_true, true_or, or_false, false_or, not_true_eq_false, not_false_eq_true, if_true, if_false, Bool.false_eq_true, reduceCtorEq, ite_true, ite_false]) (by omega) (fun h => (by first | (exact absurd (c_39.symm.trans h) (by decide)) | omega)) (by omega) _ _ _ hW (lv_sub hl [3, 1, 4, 0] rfl)
                · skip
                  refine lv_aload_n S.1 S.2.1 dX6_ring_54 rfl (lv_at hl 0 rfl) ?_
                  refine lv_aload_n S.1 S.2.1 dX6_ring_55 rfl (lv_at hl 0 rfl) ?_
                  refine gf S hk hW 0 rfl rfl hwsX60 4 (by decide) 4 rfl rfl dX6_ring_56 ?_
                  refine lv_iload_n S.1 S.2.1 dX6_ring_59 rfl (lv_at hl 2 rfl) ?_
                  refine ild S hk hW 2 rfl i rfl (by omega) (by omega) dX6_ring_60 ?_
                  refine top_eq (Gok_E G (j := i) (by omega)) ?_
                  have hb60 := Gok_E2 G (j := i) (by omega)
                  refine lv_aload_n S.1 S.2.1 dX6_ring_61 rfl (lv_at hl 0 rfl) ?_
                  refine gf S hk hW 0 rfl rfl hwsX60 3 (by decide) 5 rfl rfl dX6_ring_62 ?_
                  refine lv_iload_n S.1 S.2.1 dX6_ring_65 rfl (lv_at hl 2 rfl) ?_
                  refine ild S hk hW 1 rfl i rfl (by omega) (by omega) dX6_ring_66 ?_
                  refine top_eq (Gok_B G (j := i) (by omega)) ?_
                  have hb66 := Gok_B2 G (j := i) (by omega)
                  refine kVi S (c_X6_farOf (l := l) (D := D) (cI := cI) (cZ := cZ) (cF := cF) (by first | assumption | omega) (by first | assumption | omega)) (cwV 2 S.2.2.2.2 gX6_ring_X6_farOf rfl rfl rfl ⟨rfl, v_X6_farOf⟩ ⟨(Nat.le_of_ble_eq_true rfl), (Nat.le_of_ble_eq_true rfl)⟩) hk hW 0 rfl rfl rfl rfl hl rfl (Nat.le_of_ble_eq_true rfl) dX6_ring_67 ⟨(Nat.le_of_ble_eq_true rfl), (Nat.le_of_ble_eq_true rfl)⟩ (fun r u H locs hp hW => ?_)
                  obtain ⟨rfl, rfl⟩ := hp
                  refine lv_goto (tgt := 89) S.1 S.2.1 dX6_ring_70 (by decide) ?_
                  refine lv_istore (lv' := [(4, .int (cfr ((lrn g (-1000) (-1000)).1) (e2 g i) (e1 g i))), (0, .ref (q 0)), (1, .int z2), (2, .int (nI i)), (3, .int (nI t1))]) S.1 S.2.1 dX6_ring_89 hl (by decide) rfl (fun ls hl => ?_)
                  refine lv_aload_n S.1 S.2.1 dX6_ring_91 rfl (lv_at hl 1 rfl) ?_
                  refine gf S hk hW 0 rfl rfl hwsX60 7 (by decide) 6 rfl rfl dX6_ring_92 ?_
                  refine lv_iload_n S.1 S.2.1 dX6_ring_95 rfl (lv_at hl 3 rfl) ?_
                  refine zld S hk hW 5 rfl i rfl (by omega) (by omega) dX6_ring_96 ?_
                  refine top_eq (Gok_T G (j := i) (by omega)) ?_
                  refine ifeq_b (tgt := 138) S dX6_ring_97 (by decide) (fun c_97 => ?_) (fun c_97 => ?_)
                  · skip
                    refine lv_iinc (v := nI (t1 + 1)) (lv' := [(3, .int (nI (t1 + 1))), (4, .int (cfr ((lrn g (-1000) (-1000)).1) (e2 g i) (e1 g i))), (0, .ref (q 0)), (1, .int z2), (2, .int (nI i))]) (k := 4) S.1 S.2.1 dX6_ring_138 hl rfl (nI_1 _) (by decide) rfl (fun ls hl => ?_)
                    refine lv_goto (tgt := 32) S.1 S.2.1 dX6_ring_141 (by decide) ?_
                    exact ih32 z2 (t1 + 1) (by simp only [rgT, ← hz2, eq_true c_51, c_97, eq_self, Nat.add_zero, decide_false, decide_true, Bool.not_true, Bool.not_false, Bool.and_true, Bool.true_and, Bool.and_false, Bool.false_and, Bool.or_true, Bool.true_or, Bool.or_false, Bool.false_or, ↓reduceIte, cond_true, cond_false, bI, and_true, true_and, and_false, false_and, or_true, true_or, or_false, false_or, not_true_eq_false, not_false_eq_true, if_true, if_false, Bool.false_eq_true, reduceCtorEq, ite_true, ite_false]) (by omega) (fun h => (by first | (exact absurd (c_39.symm.trans h) (by decide)) | omega)) (by omega) _ _ _ hW (lv_sub hl [2, 3, 4, 0] rfl)
                  · skip
                    refine lv_iload S.1 S.2.1 dX6_ring_100 (lv_at hl 0 rfl) ?_
                    refine lv_sipush (v := (-1000)) S.1 S.2.1 dX6_ring_102 (by decide) ?_
                    refine lv_icmp_eq (tgt := 138) S.1 S.2.1 dX6_ring_105 (by decide) (fun c_105 => ?_) (fun c_105 => ?_)
                    · skip
                      refine lv_iinc (v := nI (t1 + 1)) (lv' := [(3, .int (nI (t1 + 1))), (4, .int (cfr ((lrn g (-1000) (-1000)).1) (e2 g i) (e1 g i))), (0, .ref (q 0)), (1, .int z2), (2, .int (nI i))]) (k := 4) S.1 S.2.1 dX6_ring_138 hl rfl (nI_1 _) (by decide) rfl (fun ls hl => ?_)
                      refine lv_goto (tgt := 32) S.1 S.2.1 dX6_ring_141 (by decide) ?_
                      exact ih32 z2 (t1 + 1) (by simp only [rgT, ← hz2, eq_true c_51, c_97, eq_true c_105, eq_self, Nat.add_zero, decide_false, decide_true, Bool.not_true, Bool.not_false, Bool.and_true, Bool.true_and, Bool.and_false, Bool.false_and, Bool.or_true, Bool.true_or, Bool.or_false, Bool.false_or, ↓reduceIte, cond_true, cond_false, bI, and_true, true_and, and_false, false_and, or_true, true_or, or_false, false_or, not_true_eq_false, not_false_eq_true, if_true, if_false, Bool.false_eq_true, reduceCtorEq, ite_true, ite_false]) (by omega) (fun h => (by first | (exact absurd (c_39.symm.trans h) (by decide)) | omega)) (by omega) _ _ _ hW (lv_sub hl [2, 3, 4, 0] rfl)
                    · skip
                      refine lv_iload_n S.1 S.2.1 dX6_ring_108 rfl (lv_at hl 2 rfl) ?_
                      refine lv_sipush (v := (-1000)) S.1 S.2.1 dX6_ring_109 (by decide) ?_
                      refine lv_icmp_eq (tgt := 128) S.1 S.2.1 dX6_ring_112 (by decide) (fun c_112 => ?_) (fun c_112 => ?_)
                      · skip
                        refine lv_aload_n S.1 S.2.1 dX6_ring_128 rfl (lv_at hl 1 rfl) ?_
                        refine gf S hk hW 0 rfl rfl hwsX60 5 (by decide) 7 rfl rfl dX6_ring_129 ?_
                        refine lv_iload_n S.1 S.2.1 dX6_ring_132 rfl (lv_at hl 3 rfl) ?_
                        refine ild S hk hW 3 rfl i rfl (by omega) (by omega) dX6_ring_133 ?_
                        refine lv_iload S.1 S.2.1 dX6_ring_134 (lv_at hl 0 rfl) ?_
                        refine lv_iadd S.1 S.2.1 dX6_ring_136 ?_
                        refine lv_istore_n (lv' := [(1, .int ((gP g i) + (cfr ((lrn g (-1000) (-1000)).1) (e2 g i) (e1 g i)))), (4, .int (cfr ((lrn g (-1000) (-1000)).1) (e2 g i) (e1 g i))), (0, .ref (q 0)), (2, .int (nI i)), (3, .int (nI t1))]) S.1 S.2.1 dX6_ring_137 rfl hl (by decide) rfl (fun ls hl => ?_)
                        refine lv_iinc (v := nI (t1 + 1)) (lv' := [(3, .int (nI (t1 + 1))), (1, .int ((gP g i) + (cfr ((lrn g (-1000) (-1000)).1) (e2 g i) (e1 g i)))), (4, .int (cfr ((lrn g (-1000) (-1000)).1) (e2 g i) (e1 g i))), (0, .ref (q 0)), (2, .int (nI i))]) (k := 4) S.1 S.2.1 dX6_ring_138 hl rfl (nI_1 _) (by decide) rfl (fun ls hl => ?_)
                        refine lv_goto (tgt := 32) S.1 S.2.1 dX6_ring_141 (by decide) ?_
                        exact ih32 ((gP g i) + (cfr ((lrn g (-1000) (-1000)).1) (e2 g i) (e1 g i))) (t1 + 1) (by simp only [rgT, ← hz2, eq_true c_51, c_97, eq_false c_105, eq_true c_112, eq_self, Nat.add_zero, decide_false, decide_true, Bool.not_true, Bool.not_false, Bool.and_true, Bool.true_and, Bool.and_false, Bool.false_and, Bool.or_true, Bool.true_or, Bool.or_false, Bool.false_or, ↓reduceIte, cond_true, cond_false, bI, and_true, true_and, and_false, false_and, or_true, true_or, or_false, false_or, not_true_eq_false, not_false_eq_true, if_true, if_false, Bool.false_eq_true, reduceCtorEq, ite_true, ite_false]) (by omega) (fun h => (by first | (exact absurd (c_39.symm.trans h) (by decide)) | omega)) (by omega) _ _ _ hW (lv_sub hl [3, 1, 4, 0] rfl)
                      · skip
                        refine lv_aload_n S.1 S.2.1 dX6_ring_115 rfl (lv_at hl 1 rfl) ?_
                        refine gf S hk hW 0 rfl rfl hwsX60 5 (by decide) 7 rfl rfl dX6_ring_116 ?_
                        refine lv_iload_n S.1 S.2.1 dX6_ring_119 rfl (lv_at hl 3 rfl) ?_
                        refine ild S hk hW 3 rfl i rfl (by omega) (by omega) dX6_ring_120 ?_
                        refine lv_iload S.1 S.2.1 dX6_ring_121 (lv_at hl 0 rfl) ?_
                        refine lv_iadd S.1 S.2.1 dX6_ring_123 ?_
                        refine lv_iload_n S.1 S.2.1 dX6_ring_124 rfl (lv_at hl 2 rfl) ?_
                        refine lv_icmp_ge (tgt := 138) S.1 S.2.1 dX6_ring_125 (by decide) (fun c_125 => ?_) (fun c_125 => ?_)
                        · skip
                          refine lv_iinc (v := nI (t1 + 1)) (lv' := [(3, .int (nI (t1 + 1))), (4, .int (cfr ((lrn g (-1000) (-1000)).1) (e2 g i) (e1 g i))), (0, .ref (q 0)), (1, .int z2), (2, .int (nI i))]) (k := 4) S.1 S.2.1 dX6_ring_138 hl rfl (nI_1 _) (by decide) rfl (fun ls hl => ?_)
                          refine lv_goto (tgt := 32) S.1 S.2.1 dX6_ring_141 (by decide) ?_
                          exact ih32 z2 (t1 + 1) (by simp only [rgT, ← hz2, eq_true c_51, c_97, eq_false c_105, eq_false c_112, eq_true c_125, eq_self, Nat.add_zero, decide_false, decide_true, Bool.not_true, Bool.not_false, Bool.and_true, Bool.true_and, Bool.and_false, Bool.false_and, Bool.or_true, Bool.true_or, Bool.or_false, Bool.false_or, ↓reduceIte, cond_true, cond_false, bI, and_true, true_and, and_false, false_and, or_true, true_or, or_false, false_or, not_true_eq_false, not_false_eq_true, if_true, if_false, Bool.false_eq_true, reduceCtorEq, ite_true, ite_false]) (by omega) (fun h => (by first | (exact absurd (c_39.symm.trans h) (by decide)) | omega)) (by omega) _ _ _ hW (lv_sub hl [2, 3, 4, 0] rfl)
                        · skip
                          refine lv_aload_n S.1 S.2.1 dX6_ring_128 rfl (lv_at hl 1 rfl) ?_
                          refine gf S hk hW 0 rfl rfl hwsX60 5 (by decide) 7 rfl rfl dX6_ring_129 ?_
                          refine lv_iload_n S.1 S.2.1 dX6_ring_132 rfl (lv_at hl 3 rfl) ?_
                          refine ild S hk hW 3 rfl i rfl (by omega) (by omega) dX6_ring_133 ?_
                          refine lv_iload S.1 S.2.1 dX6_ring_134 (lv_at hl 0 rfl) ?_
                          refine lv_iadd S.1 S.2.1 dX6_ring_136 ?_
                          refine lv_istore_n (lv' := [(1, .int ((gP g i) + (cfr ((lrn g (-1000) (-1000)).1) (e2 g i) (e1 g i)))), (4, .int (cfr ((lrn g (-1000) (-1000)).1) (e2 g i) (e1 g i))), (0, .ref (q 0)), (2, .int (nI i)), (3, .int (nI t1))]) S.1 S.2.1 dX6_ring_137 rfl hl (by decide) rfl (fun ls hl => ?_)
                          refine lv_iinc (v := nI (t1 + 1)) (lv' := [(3, .int (nI (t1 + 1))), (1, .int ((gP g i) + (cfr ((lrn g (-1000) (-1000)).1) (e2 g i) (e1 g i)))), (4, .int (cfr ((lrn g (-1000) (-1000)).1) (e2 g i) (e1 g i))), (0, .ref (q 0)), (2, .int (nI i))]) (k := 4) S.1 S.2.1 dX6_ring_138 hl rfl (nI_1 _) (by decide) rfl (fun ls hl => ?_)
                          refine lv_goto (tgt := 32) S.1 S.2.1 dX6_ring_141 (by decide) ?_
                          exact ih32 ((gP g i) + (cfr ((lrn g (-1000) (-1000)).1) (e2 g i) (e1 g i))) (t1 + 1) (by simp only [rgT, ← hz2, eq_true c_51, c_97, eq_false c_105, eq_false c_112, eq_false c_125, eq_self, Nat.add_zero, decide_false, decide_true, Bool.not_true, Bool.not_false, Bool.and_true, Bool.true_and, Bool.and_false, Bool.false_and, Bool.or_true, Bool.true_or, Bool.or_false, Bool.false_or, ↓reduceIte, cond_true, cond_false, bI, and_true, true_and, and_false, false_and, or_true, true_or, or_false, false_or, not_true_eq_false, not_false_eq_true, if_true, if_false, Bool.false_eq_true, reduceCtorEq, ite_true, ite_false]) (by omega) (fun h => (by first | (exact absurd (c_39.symm.trans h) (by decide)) | omega)) (by omega) _ _ _ hW (lv_sub hl [3, 1, 4, 0] rfl)
            · skip
              refine lv_iconst (v := nI 2) S.1 S.2.1 dX6_ring_42 (by decide) ?_
              refine lv_goto (tgt := 47) S.1 S.2.1 dX6_ring_43 (by decide) ?_
              refine icge_n (tgt := 144) S (by omega) (by omega) dX6_ring_47 (by decide) (fun c_47 => ?_) (fun c_47 => ?_)
              · skip
                refine lv_iinc (v := nI (i + 1)) (lv' := [(2, .int (nI (i + 1))), (0, .ref (q 0)), (1, .int z2), (3, .int (nI t1))]) (k := 2) S.1 S.2.1 dX6_ring_144 hl rfl (nI_1 _) (by decide) rfl (fun ls hl => ?_)
                refine lv_goto (tgt := 22) S.1 S.2.1 dX6_ring_147 (by decide) ?_
                exact ih22 z2 (i + 1) (by rw [hz2]; simp only [rgM, c_39, eq_self, Nat.add_zero, decide_false, decide_true, Bool.not_true, Bool.not_false, Bool.and_true, Bool.true_and, Bool.and_false, Bool.false_and, Bool.or_true, Bool.true_or, Bool.or_false, Bool.false_or, ↓reduceIte, cond_true, cond_false, bI, and_true, true_and, and_false, false_and, or_true, true_or, or_false, false_or, not_true_eq_false, not_false_eq_true, if_true, if_false, Bool.false_eq_true, reduceCtorEq, ite_true, ite_false]; exact congrArg _ (by first | omega | (have h8 := ht1 c_39; omega))) (by omega) (by omega) _ _ _ hW (lv_sub hl [1, 2, 0] rfl)
              · skip
                refine lv_iload_n S.1 S.2.1 dX6_ring_50 rfl (lv_at hl 3 rfl) ?_
                refine lv_if_ne (tgt := 73) S.1 S.2.1 dX6_ring_51 (by decide) (fun c_51 => ?_) (fun c_51 => ?_)
                · skip
                  refine lv_aload_n S.1 S.2.1 dX6_ring_73 rfl (lv_at hl 0 rfl) ?_
                  refine lv_aload_n S.1 S.2.1 dX6_ring_74 rfl (lv_at hl 0 rfl) ?_
                  refine gf S hk hW 0 rfl rfl hwsX60 3 (by decide) 5 rfl rfl dX6_ring_75 ?_
                  refine lv_iload_n S.1 S.2.1 dX6_ring_78 rfl (lv_at hl 2 rfl) ?_
                  refine ild S hk hW 1 rfl i rfl (by omega) (by omega) dX6_ring_79 ?_
                  refine top_eq (Gok_B G (j := i) (by omega)) ?_
                  have hb79 := Gok_B2 G (j := i) (by omega)
                  refine lv_aload_n S.1 S.2.1 dX6_ring_80 rfl (lv_at hl 0 rfl) ?_
                  refine gf S hk hW 0 rfl rfl hwsX60 4 (by decide) 4 rfl rfl dX6_ring_81 ?_
                  refine lv_iload_n S.1 S.2.1 dX6_ring_84 rfl (lv_at hl 2 rfl) ?_
                  refine ild S hk hW 2 rfl i rfl (by omega) (by omega) dX6_ring_85 ?_
                  refine top_eq (Gok_E G (j := i) (by omega)) ?_
                  have hb85 := Gok_E2 G (j := i) (by omega)
                  refine kVi S (c_X6_farOf (l := l) (D := D) (cI := cI) (cZ := cZ) (cF := cF) (by first | assumption | omega) (by first | assumption | omega)) (cwV 2 S.2.2.2.2 gX6_ring_X6_farOf rfl rfl rfl ⟨rfl, v_X6_farOf⟩ ⟨(Nat.le_of_ble_eq_true rfl), (Nat.le_of_ble_eq_true rfl)⟩) hk hW 0 rfl rfl rfl rfl hl rfl (Nat.le_of_ble_eq_true rfl) dX6_ring_86 ⟨(Nat.le_of_ble_eq_true rfl), (Nat.le_of_ble_eq_true rfl)⟩ (fun r u H locs hp hW => ?_)
                  obtain ⟨rfl, rfl⟩ := hp
                  refine lv_istore (lv' := [(4, .int (cfr ((lrn g (-1000) (-1000)).1) (e1 g i) (e2 g i))), (0, .ref (q 0)), (1, .int z2), (2, .int (nI i)), (3, .int (nI t1))]) S.1 S.2.1 dX6_ring_89 hl (by decide) rfl (fun ls hl => ?_)
                  refine lv_aload_n S.1 S.2.1 dX6_ring_91 rfl (lv_at hl 1 rfl) ?_
                  refine gf S hk hW 0 rfl rfl hwsX60 7 (by decide) 6 rfl rfl dX6_ring_92 ?_
                  refine lv_iload_n S.1 S.2.1 dX6_ring_95 rfl (lv_at hl 3 rfl) ?_
                  refine zld S hk hW 5 rfl i rfl (by omega) (by omega) dX6_ring_96 ?_
                  refine top_eq (Gok_T G (j := i) (by omega)) ?_
                  refine ifeq_b (tgt := 138) S dX6_ring_97 (by decide) (fun c_97 => ?_) (fun c_97 => ?_)
                  · skip
                    refine lv_iinc (v := nI (t1 + 1)) (lv' := [(3, .int (nI (t1 + 1))), (4, .int (cfr ((lrn g (-1000) (-1000)).1) (e1 g i) (e2 g i))), (0, .ref (q 0)), (1, .int z2), (2, .int (nI i))]) (k := 4) S.1 S.2.1 dX6_ring_138 hl rfl (nI_1 _) (by decide) rfl (fun ls hl => ?_)
                    refine lv_goto (tgt := 32) S.1 S.2.1 dX6_ring_141 (by decide) ?_
                    exact ih32 z2 (t1 + 1) (by simp only [rgT, ← hz2, eq_false c_51, c_97, eq_self, Nat.add_zero, decide_false, decide_true, Bool.not_true, Bool.not_false, Bool.and_true, Bool.true_and, Bool.and_false, Bool.false_and, Bool.or_true, Bool.true_or, Bool.or_false, Bool.false_or, ↓reduceIte, cond_true, cond_false, bI, and_true, true_and, and_false, false_and, or_true, true_or, or_false, false_or, not_true_eq_false, not_false_eq_true, if_true, if_false, Bool.false_eq_true, reduceCtorEq, ite_true, ite_false]) (by omega) (fun h => (by first | (exact absurd (c_39.symm.trans h) (by decide)) | omega)) (by omega) _ _ _ hW (lv_sub hl [2, 3, 4, 0] rfl)
                  · skip
                    refine lv_iload S.1 S.2.1 dX6_ring_100 (lv_at hl 0 rfl) ?_
                    refine lv_sipush (v := (-1000)) S.1 S.2.1 dX6_ring_102 (by decide) ?_
                    refine lv_icmp_eq (tgt := 138) S.1 S.2.1 dX6_ring_105 (by decide) (fun c_105 => ?_) (fun c_105 => ?_)
                    · skip
                      refine lv_iinc (v := nI (t1 + 1)) (lv' := [(3, .int (nI (t1 + 1))), (4, .int (cfr ((lrn g (-1000) (-1000)).1) (e1 g i) (e2 g i))), (0, .ref (q 0)), (1, .int z2), (2, .int (nI i))]) (k := 4) S.1 S.2.1 dX6_ring_138 hl rfl (nI_1 _) (by decide) rfl (fun ls hl => ?_)
                      refine lv_goto (tgt := 32) S.1 S.2.1 dX6_ring_141 (by decide) ?_
                      exact ih32 z2 (t1 + 1) (by simp only [rgT, ← hz2, eq_false c_51, c_97, eq_true c_105, eq_self, Nat.add_zero, decide_false, decide_true, Bool.not_true, Bool.not_false, Bool.and_true, Bool.true_and, Bool.and_false, Bool.false_and, Bool.or_true, Bool.true_or, Bool.or_false, Bool.false_or, ↓reduceIte, cond_true, cond_false, bI, and_true, true_and, and_false, false_and, or_true, true_or, or_false, false_or, not_true_eq_false, not_false_eq_true, if_true, if_false, Bool.false_eq_true, reduceCtorEq, ite_true, ite_false]) (by omega) (fun h => (by first | (exact absurd (c_39.symm.trans h) (by decide)) | omega)) (by omega) _ _ _ hW (lv_sub hl [2, 3, 4, 0] rfl)
                    · skip
                      refine lv_iload_n S.1 S.2.1 dX6_ring_108 rfl (lv_at hl 2 rfl) ?_
                      refine lv_sipush (v := (-1000)) S.1 S.2.1 dX6_ring_109 (by decide) ?_
                      refine lv_icmp_eq (tgt := 128) S.1 S.2.1 dX6_ring_112 (by decide) (fun c_112 => ?_) (fun c_112 => ?_)
                      · skip
                        refine lv_aload_n S.1 S.2.1 dX6_ring_128 rfl (lv_at hl 1 rfl) ?_
                        refine gf S hk hW 0 rfl rfl hwsX60 5 (by decide) 7 rfl rfl dX6_ring_129 ?_
                        refine lv_iload_n S.1 S.2.1 dX6_ring_132 rfl (lv_at hl 3 rfl) ?_
                        refine ild S hk hW 3 rfl i rfl (by omega) (by omega) dX6_ring_133 ?_
                        refine lv_iload S.1 S.2.1 dX6_ring_134 (lv_at hl 0 rfl) ?_
                        refine lv_iadd S.1 S.2.1 dX6_ring_136 ?_
                        refine lv_istore_n (lv' := [(1, .int ((gP g i) + (cfr ((lrn g (-1000) (-1000)).1) (e1 g i) (e2 g i)))), (4, .int (cfr ((lrn g (-1000) (-1000)).1) (e1 g i) (e2 g i))), (0, .ref (q 0)), (2, .int (nI i)), (3, .int (nI t1))]) S.1 S.2.1 dX6_ring_137 rfl hl (by decide) rfl (fun ls hl => ?_)
                        refine lv_iinc (v := nI (t1 + 1)) (lv' := [(3, .int (nI (t1 + 1))), (1, .int ((gP g i) + (cfr ((lrn g (-1000) (-1000)).1) (e1 g i) (e2 g i)))), (4, .int (cfr ((lrn g (-1000) (-1000)).1) (e1 g i) (e2 g i))), (0, .ref (q 0)), (2, .int (nI i))]) (k := 4) S.1 S.2.1 dX6_ring_138 hl rfl (nI_1 _) (by decide) rfl (fun ls hl => ?_)
                        refine lv_goto (tgt := 32) S.1 S.2.1 dX6_ring_141 (by decide) ?_
                        exact ih32 ((gP g i) + (cfr ((lrn g (-1000) (-1000)).1) (e1 g i) (e2 g i))) (t1 + 1) (by simp only [rgT, ← hz2, eq_false c_51, c_97, eq_false c_105, eq_true c_112, eq_self, Nat.add_zero, decide_false, decide_true, Bool.not_true, Bool.not_false, Bool.and_true, Bool.true_and, Bool.and_false, Bool.false_and, Bool.or_true, Bool.true_or, Bool.or_false, Bool.false_or, ↓reduceIte, cond_true, cond_false, bI, and_true, true_and, and_false, false_and, or_true, true_or, or_false, false_or, not_true_eq_false, not_false_eq_true, if_true, if_false, Bool.false_eq_true, reduceCtorEq, ite_true, ite_false]) (by omega) (fun h => (by first | (exact absurd (c_39.symm.trans h) (by decide)) | omega)) (by omega) _ _ _ hW (lv_sub hl [3, 1, 4, 0] rfl)
                      · skip
                        refine lv_aload_n S.1 S.2.1 dX6_ring_115 rfl (lv_at hl 1 rfl) ?_
                        refine gf S hk hW 0 rfl rfl hwsX60 5 (by decide) 7 rfl rfl dX6_ring_116 ?_
                        refine lv_iload_n S.1 S.2.1 dX6_ring_119 rfl (lv_at hl 3 rfl) ?_
                        refine ild S hk hW 3 rfl i rfl (by omega) (by omega) dX6_ring_120 ?_
                        refine lv_iload S.1 S.2.1 dX6_ring_121 (lv_at hl 0 rfl) ?_
                        refine lv_iadd S.1 S.2.1 dX6_ring_123 ?_
                        refine lv_iload_n S.1 S.2.1 dX6_ring_124 rfl (lv_at hl 2 rfl) ?_
                        refine lv_icmp_ge (tgt := 138) S.1 S.2.1 dX6_ring_125 (by decide) (fun c_125 => ?_) (fun c_125 => ?_)
                        · skip
                          refine lv_iinc (v := nI (t1 + 1)) (lv' := [(3, .int (nI (t1 + 1))), (4, .int (cfr ((lrn g (-1000) (-1000)).1) (e1 g i) (e2 g i))), (0, .ref (q 0)), (1, .int z2), (2, .int (nI i))]) (k := 4) S.1 S.2.1 dX6_ring_138 hl rfl (nI_1 _) (by decide) rfl (fun ls hl => ?_)
                          refine lv_goto (tgt := 32) S.1 S.2.1 dX6_ring_141 (by decide) ?_
                          exact ih32 z2 (t1 + 1) (by simp only [rgT, ← hz2, eq_false c_51, c_97, eq_false c_105, eq_false c_112, eq_true c_125, eq_self, Nat.add_zero, decide_false, decide_true, Bool.not_true, Bool.not_false, Bool.and_true, Bool.true_and, Bool.and_false, Bool.false_and, Bool.or_true, Bool.true_or, Bool.or_false, Bool.false_or, ↓reduceIte, cond_true, cond_false, bI, and_true, true_and, and_false, false_and, or_true, true_or, or_false, false_or, not_true_eq_false, not_false_eq_true, if_true, if_false, Bool.false_eq_true, reduceCtorEq, ite_true, ite_false]) (by omega) (fun h => (by first | (exact absurd (c_39.symm.trans h) (by decide)) | omega)) (by omega) _ _ _ hW (lv_sub hl [2, 3, 4, 0] rfl)
                        · skip
                          refine lv_aload_n S.1 S.2.1 dX6_ring_128 rfl (lv_at hl 1 rfl) ?_
                          refine gf S hk hW 0 rfl rfl hwsX60 5 (by decide) 7 rfl rfl dX6_ring_129 ?_
                          refine lv_iload_n S.1 S.2.1 dX6_ring_132 rfl (lv_at hl 3 rfl) ?_
                          refine ild S hk hW 3 rfl i rfl (by omega) (by omega) dX6_ring_133 ?_
                          refine lv_iload S.1 S.2.1 dX6_ring_134 (lv_at hl 0 rfl) ?_
                          refine lv_iadd S.1 S.2.1 dX6_ring_136 ?_
                          refine lv_istore_n (lv' := [(1, .int ((gP g i) + (cfr ((lrn g (-1000) (-1000)).1) (e1 g i) (e2 g i)))), (4, .int (cfr ((lrn g (-1000) (-1000)).1) (e1 g i) (e2 g i))), (0, .ref (q 0)), (2, .int (nI i)), (3, .int (nI t1))]) S.1 S.2.1 dX6_ring_137 rfl hl (by decide) rfl (fun ls hl => ?_)
                          refine lv_iinc (v := nI (t1 + 1)) (lv' := [(3, .int (nI (t1 + 1))), (1, .int ((gP g i) + (cfr ((lrn g (-1000) (-1000)).1) (e1 g i) (e2 g i)))), (4, .int (cfr ((lrn g (-1000) (-1000)).1) (e1 g i) (e2 g i))), (0, .ref (q 0)), (2, .int (nI i))]) (k := 4) S.1 S.2.1 dX6_ring_138 hl rfl (nI_1 _) (by decide) rfl (fun ls hl => ?_)
                          refine lv_goto (tgt := 32) S.1 S.2.1 dX6_ring_141 (by decide) ?_
                          exact ih32 ((gP g i) + (cfr ((lrn g (-1000) (-1000)).1) (e1 g i) (e2 g i))) (t1 + 1) (by simp only [rgT, ← hz2, eq_false c_51, c_97, eq_false c_105, eq_false c_112, eq_false c_125, eq_self, Nat.add_zero, decide_false, decide_true, Bool.not_true, Bool.not_false, Bool.and_true, Bool.true_and, Bool.and_false, Bool.false_and, Bool.or_true, Bool.true_or, Bool.or_false, Bool.false_or, ↓reduceIte, cond_true, cond_false, bI, and_true, true_and, and_false, false_and, or_true, true_or, or_false, false_or, not_true_eq_false, not_false_eq_true, if_true, if_false, Bool.false_eq_true, reduceCtorEq, ite_true, ite_false]) (by omega) (fun h => (by first | (exact absurd (c_39.symm.trans h) (by decide)) | omega)) (by omega) _ _ _ hW (lv_sub hl [3, 1, 4, 0] rfl)
                · skip
                  refine lv_aload_n S.1 S.2.1 dX6_ring_54 rfl (lv_at hl 0 rfl) ?_
                  refine lv_aload_n S.1 S.2.1 dX6_ring_55 rfl (lv_at hl 0 rfl) ?_
                  refine gf S hk hW 0 rfl rfl hwsX60 4 (by decide) 4 rfl rfl dX6_ring_56 ?_
                  refine lv_iload_n S.1 S.2.1 dX6_ring_59 rfl (lv_at hl 2 rfl) ?_
                  refine ild S hk hW 2 rfl i rfl (by omega) (by omega) dX6_ring_60 ?_
                  refine top_eq (Gok_E G (j := i) (by omega)) ?_
                  have hb60 := Gok_E2 G (j := i) (by omega)
                  refine lv_aload_n S.1 S.2.1 dX6_ring_61 rfl (lv_at hl 0 rfl) ?_
                  refine gf S hk hW 0 rfl rfl hwsX60 3 (by decide) 5 rfl rfl dX6_ring_62 ?_
                  refine lv_iload_n S.1 S.2.1 dX6_ring_65 rfl (lv_at hl 2 rfl) ?_
                  refine ild S hk hW 1 rfl i rfl (by omega) (by omega) dX6_ring_66 ?_
                  refine top_eq (Gok_B G (j := i) (by omega)) ?_
                  have hb66 := Gok_B2 G (j := i) (by omega)
                  refine kVi S (c_X6_farOf (l := l) (D := D) (cI := cI) (cZ := cZ) (cF := cF) (by first | assumption | omega) (by first | assumption | omega)) (cwV 2 S.2.2.2.2 gX6_ring_X6_farOf rfl rfl rfl ⟨rfl, v_X6_farOf⟩ ⟨(Nat.le_of_ble_eq_true rfl), (Nat.le_of_ble_eq_true rfl)⟩) hk hW 0 rfl rfl rfl rfl hl rfl (Nat.le_of_ble_eq_true rfl) dX6_ring_67 ⟨(Nat.le_of_ble_eq_true rfl), (Nat.le_of_ble_eq_true rfl)⟩ (fun r u H locs hp hW => ?_)
                  obtain ⟨rfl, rfl⟩ := hp
                  refine lv_goto (tgt := 89) S.1 S.2.1 dX6_ring_70 (by decide) ?_
                  refine lv_istore (lv' := [(4, .int (cfr ((lrn g (-1000) (-1000)).1) (e2 g i) (e1 g i))), (0, .ref (q 0)), (1, .int z2), (2, .int (nI i)), (3, .int (nI t1))]) S.1 S.2.1 dX6_ring_89 hl (by decide) rfl (fun ls hl => ?_)
                  refine lv_aload_n S.1 S.2.1 dX6_ring_91 rfl (lv_at hl 1 rfl) ?_
                  refine gf S hk hW 0 rfl rfl hwsX60 7 (by decide) 6 rfl rfl dX6_ring_92 ?_
                  refine lv_iload_n S.1 S.2.1 dX6_ring_95 rfl (lv_at hl 3 rfl) ?_
                  refine zld S hk hW 5 rfl i rfl (by omega) (by omega) dX6_ring_96 ?_
                  refine top_eq (Gok_T G (j := i) (by omega)) ?_
                  refine ifeq_b (tgt := 138) S dX6_ring_97 (by decide) (fun c_97 => ?_) (fun c_97 => ?_)
                  · skip
                    refine lv_iinc (v := nI (t1 + 1)) (lv' := [(3, .int (nI (t1 + 1))), (4, .int (cfr ((lrn g (-1000) (-1000)).1) (e2 g i) (e1 g i))), (0, .ref (q 0)), (1, .int z2), (2, .int (nI i))]) (k := 4) S.1 S.2.1 dX6_ring_138 hl rfl (nI_1 _) (by decide) rfl (fun ls hl => ?_)
                    refine lv_goto (tgt := 32) S.1 S.2.1 dX6_ring_141 (by decide) ?_
                    exact ih32 z2 (t1 + 1) (by simp only [rgT, ← hz2, eq_true c_51, c_97, eq_self, Nat.add_zero, decide_false, decide_true, Bool.not_true, Bool.not_false, Bool.and_true, Bool.true_and, Bool.and_false, Bool.false_and, Bool.or_true, Bool.true_or, Bool.or_false, Bool.false_or, ↓reduceIte, cond_true, cond_false, bI, and_true, true_and, and_false, false_and, or_true, true_or, or_false, false_or, not_true_eq_false, not_false_eq_true, if_true, if_false, Bool.false_eq_true, reduceCtorEq, ite_true, ite_false]) (by omega) (fun h => (by first | (exact absurd (c_39.symm.trans h) (by decide)) | omega)) (by omega) _ _ _ hW (lv_sub hl [2, 3, 4, 0] rfl)
                  · skip
                    refine lv_iload S.1 S.2.1 dX6_ring_100 (lv_at hl 0 rfl) ?_
                    refine lv_sipush (v := (-1000)) S.1 S.2.1 dX6_ring_102 (by decide) ?_
                    refine lv_icmp_eq (tgt := 138) S.1 S.2.1 dX6_ring_105 (by decide) (fun c_105 => ?_) (fun c_105 => ?_)
                    · skip
                      refine lv_iinc (v := nI (t1 + 1)) (lv' := [(3, .int (nI (t1 + 1))), (4, .int (cfr ((lrn g (-1000) (-1000)).1) (e2 g i) (e1 g i))), (0, .ref (q 0)), (1, .int z2), (2, .int (nI i))]) (k := 4) S.1 S.2.1 dX6_ring_138 hl rfl (nI_1 _) (by decide) rfl (fun ls hl => ?_)
                      refine lv_goto (tgt := 32) S.1 S.2.1 dX6_ring_141 (by decide) ?_
                      exact ih32 z2 (t1 + 1) (by simp only [rgT, ← hz2, eq_true c_51, c_97, eq_true c_105, eq_self, Nat.add_zero, decide_false, decide_true, Bool.not_true, Bool.not_false, Bool.and_true, Bool.true_and, Bool.and_false, Bool.false_and, Bool.or_true, Bool.true_or, Bool.or_false, Bool.false_or, ↓reduceIte, cond_true, cond_false, bI, and_true, true_and, and_false, false_and, or_true, true_or, or_false, false_or, not_true_eq_false, not_false_eq_true, if_true, if_false, Bool.false_eq_true, reduceCtorEq, ite_true, ite_false]) (by omega) (fun h => (by first | (exact absurd (c_39.symm.trans h) (by decide)) | omega)) (by omega) _ _ _ hW (lv_sub hl [2, 3, 4, 0] rfl)
                    · skip
                      refine lv_iload_n S.1 S.2.1 dX6_ring_108 rfl (lv_at hl 2 rfl) ?_
                      refine lv_sipush (v := (-1000)) S.1 S.2.1 dX6_ring_109 (by decide) ?_
                      refine lv_icmp_eq (tgt := 128) S.1 S.2.1 dX6_ring_112 (by decide) (fun c_112 => ?_) (fun c_112 => ?_)
                      · skip
                        refine lv_aload_n S.1 S.2.1 dX6_ring_128 rfl (lv_at hl 1 rfl) ?_
                        refine gf S hk hW 0 rfl rfl hwsX60 5 (by decide) 7 rfl rfl dX6_ring_129 ?_
                        refine lv_iload_n S.1 S.2.1 dX6_ring_132 rfl (lv_at hl 3 rfl) ?_
                        refine ild S hk hW 3 rfl i rfl (by omega) (by omega) dX6_ring_133 ?_
                        refine lv_iload S.1 S.2.1 dX6_ring_134 (lv_at hl 0 rfl) ?_
                        refine lv_iadd S.1 S.2.1 dX6_ring_136 ?_
                        refine lv_istore_n (lv' := [(1, .int ((gP g i) + (cfr ((lrn g (-1000) (-1000)).1) (e2 g i) (e1 g i)))), (4, .int (cfr ((lrn g (-1000) (-1000)).1) (e2 g i) (e1 g i))), (0, .ref (q 0)), (2, .int (nI i)), (3, .int (nI t1))]) S.1 S.2.1 dX6_ring_137 rfl hl (by decide) rfl (fun ls hl => ?_)
                        refine lv_iinc (v := nI (t1 + 1)) (lv' := [(3, .int (nI (t1 + 1))), (1, .int ((gP g i) + (cfr ((lrn g (-1000) (-1000)).1) (e2 g i) (e1 g i)))), (4, .int (cfr ((lrn g (-1000) (-1000)).1) (e2 g i) (e1 g i))), (0, .ref (q 0)), (2, .int (nI i))]) (k := 4) S.1 S.2.1 dX6_ring_138 hl rfl (nI_1 _) (by decide) rfl (fun ls hl => ?_)
                        refine lv_goto (tgt := 32) S.1 S.2.1 dX6_ring_141 (by decide) ?_
                        exact ih32 ((gP g i) + (cfr ((lrn g (-1000) (-1000)).1) (e2 g i) (e1 g i))) (t1 + 1) (by simp only [rgT, ← hz2, eq_true c_51, c_97, eq_false c_105, eq_true c_112, eq_self, Nat.add_zero, decide_false, decide_true, Bool.not_true, Bool.not_false, Bool.and_true, Bool.true_and, Bool.and_false, Bool.false_and, Bool.or_true, Bool.true_or, Bool.or_false, Bool.false_or, ↓reduceIte, cond_true, cond_false, bI, and_true, true_and, and_false, false_and, or_true, true_or, or_false, false_or, not_true_eq_false, not_false_eq_true, if_true, if_false, Bool.false_eq_true, reduceCtorEq, ite_true, ite_false]) (by omega) (fun h => (by first | (exact absurd (c_39.symm.trans h) (by decide)) | omega)) (by omega) _ _ _ hW (lv_sub hl [3, 1, 4, 0] rfl)
                      · skip
                        refine lv_aload_n S.1 S.2.1 dX6_ring_115 rfl (lv_at hl 1 rfl) ?_
                        refine gf S hk hW 0 rfl rfl hwsX60 5 (by decide) 7 rfl rfl dX6_ring_116 ?_
                        refine lv_iload_n S.1 S.2.1 dX6_ring_119 rfl (lv_at hl 3 rfl) ?_
                        refine ild S hk hW 3 rfl i rfl (by omega) (by omega) dX6_ring_120 ?_
                        refine lv_iload S.1 S.2.1 dX6_ring_121 (lv_at hl 0 rfl) ?_
                        refine lv_iadd S.1 S.2.1 dX6_ring_123 ?_
                        refine lv_iload_n S.1 S.2.1 dX6_ring_124 rfl (lv_at hl 2 rfl) ?_
                        refine lv_icmp_ge (tgt := 138) S.1 S.2.1 dX6_ring_125 (by decide) (fun c_125 => ?_) (fun c_125 => ?_)
                        · skip
                          refine lv_iinc (v := nI (t1 + 1)) (lv' := [(3, .int (nI (t1 + 1))), (4, .int (cfr ((lrn g (-1000) (-1000)).1) (e2 g i) (e1 g i))), (0, .ref (q 0)), (1, .int z2), (2, .int (nI i))]) (k := 4) S.1 S.2.1 dX6_ring_138 hl rfl (nI_1 _) (by decide) rfl (fun ls hl => ?_)
                          refine lv_goto (tgt := 32) S.1 S.2.1 dX6_ring_141 (by decide) ?_
                          exact ih32 z2 (t1 + 1) (by simp only [rgT, ← hz2, eq_true c_51, c_97, eq_false c_105, eq_false c_112, eq_true c_125, eq_self, Nat.add_zero, decide_false, decide_true, Bool.not_true, Bool.not_false, Bool.and_true, Bool.true_and, Bool.and_false, Bool.false_and, Bool.or_true, Bool.true_or, Bool.or_false, Bool.false_or, ↓reduceIte, cond_true, cond_false, bI, and_true, true_and, and_false, false_and, or_true, true_or, or_false, false_or, not_true_eq_false, not_false_eq_true, if_true, if_false, Bool.false_eq_true, reduceCtorEq, ite_true, ite_false]) (by omega) (fun h => (by first | (exact absurd (c_39.symm.trans h) (by decide)) | omega)) (by omega) _ _ _ hW (lv_sub hl [2, 3, 4, 0] rfl)
                        · skip
                          refine lv_aload_n S.1 S.2.1 dX6_ring_128 rfl (lv_at hl 1 rfl) ?_
                          refine gf S hk hW 0 rfl rfl hwsX60 5 (by decide) 7 rfl rfl dX6_ring_129 ?_
                          refine lv_iload_n S.1 S.2.1 dX6_ring_132 rfl (lv_at hl 3 rfl) ?_
                          refine ild S hk hW 3 rfl i rfl (by omega) (by omega) dX6_ring_133 ?_
                          refine lv_iload S.1 S.2.1 dX6_ring_134 (lv_at hl 0 rfl) ?_
                          refine lv_iadd S.1 S.2.1 dX6_ring_136 ?_
                          refine lv_istore_n (lv' := [(1, .int ((gP g i) + (cfr ((lrn g (-1000) (-1000)).1) (e2 g i) (e1 g i)))), (4, .int (cfr ((lrn g (-1000) (-1000)).1) (e2 g i) (e1 g i))), (0, .ref (q 0)), (2, .int (nI i)), (3, .int (nI t1))]) S.1 S.2.1 dX6_ring_137 rfl hl (by decide) rfl (fun ls hl => ?_)
                          refine lv_iinc (v := nI (t1 + 1)) (lv' := [(3, .int (nI (t1 + 1))), (1, .int ((gP g i) + (cfr ((lrn g (-1000) (-1000)).1) (e2 g i) (e1 g i)))), (4, .int (cfr ((lrn g (-1000) (-1000)).1) (e2 g i) (e1 g i))), (0, .ref (q 0)), (2, .int (nI i))]) (k := 4) S.1 S.2.1 dX6_ring_138 hl rfl (nI_1 _) (by decide) rfl (fun ls hl => ?_)
                          refine lv_goto (tgt := 32) S.1 S.2.1 dX6_ring_141 (by decide) ?_
                          exact ih32 ((gP g i) + (cfr ((lrn g (-1000) (-1000)).1) (e2 g i) (e1 g i))) (t1 + 1) (by simp only [rgT, ← hz2, eq_true c_51, c_97, eq_false c_105, eq_false c_112, eq_false c_125, eq_self, Nat.add_zero, decide_false, decide_true, Bool.not_true, Bool.not_false, Bool.and_true, Bool.true_and, Bool.and_false, Bool.false_and, Bool.or_true, Bool.true_or, Bool.or_false, Bool.false_or, ↓reduceIte, cond_true, cond_false, bI, and_true, true_and, and_false, false_and, or_true, true_or, or_false, false_or, not_true_eq_false, not_false_eq_true, if_true, if_false, Bool.false_eq_true, reduceCtorEq, ite_true, ite_false]) (by omega) (fun h => (by first | (exact absurd (c_39.symm.trans h) (by decide)) | omega)) (by omega) _ _ _ hW (lv_sub hl [3, 1, 4, 0] rfl)
        exact L32 (2 + 1) z 0 hz (by omega) (fun _ => by omega) (by omega) _ _ _ hW (lv_sub hl [1, 2, 3, 0] rfl)
  exact L22 ((gK g) + 1) (-1000) 0 rfl (by omega) (by omega) _ _ _ hW (lv_sub hl [2, 1, 0] rfl)
abbrev r_X6_moved : Room := { frames := 1, cells := 0, slots := 0, locals := 25 }
theorem v_X6_moved : yX6_moved.cls ≠ "java/lang/invoke/MethodHandle" ∧ yX6_moved.cls ≠ "java/lang/invoke/VarHandle" ∧ (parseMethodDescriptor yX6_moved.desc).map (fun d => d.parameters.length) = some 1 := by decide +kernel
set_option maxRecDepth 100000 in
set_option maxHeartbeats 4000000 in
theorem c_X6_moved {l : Launch} {D : va_G} {cI cZ cF : ClassId} {q : Nat → Nat} {g : Gr} {fi ke : Nat → Int32} {ac : Nat} {mk : Int32} {iv : Nat → Int32} {x : Int32} (G : Gok g) (hac : ac ≤ 400) : cI_ l D cI cZ cF yX6_moved wsX6_moved r_X6_moved [.ref (q 0), .int x] (wM q cI cZ cF g fi ke ac mk iv) (fun r u => r = movM (gN g) ke ac x ∧ u = wM q cI cZ cF g fi ke ac mk iv) 0 0 := by
  refine cI_of (cc := cX6_moved) (maxL := 4) (rt := .int) (plainFor_of_name (by decide +kernel)) rfl (Nat.le_of_ble_eq_true rfl) ?_
  intro p e s m args below meth c A Q ls S hk hW hl hR
  have hl : lv_has ls 4 [(0, .ref (q 0)), (1, .int x)] := hl
  have hwsX60 : ∀ x ∈ wsX60, x ∈ wsX6_moved := fun x h => List.mem_cons_of_mem _ (List.mem_append_right _ h)
  have hN := Gok_N G; have hN2 := Gok_N2 G; have hKK := Gok_K G
  refine lv_aload_n S.1 S.2.1 dX6_moved_0 rfl (lv_at hl 0 rfl) ?_
  refine lv_iconst (v := nI 0) S.1 S.2.1 dX6_moved_1 (by decide) ?_
  refine pf (ty := .int) (w' := wM q cI cZ cF g fi ke ac mk iv) S hk hW 0 rfl rfl hwsX60 tyX6 tyX6_ok nmX6 0 (by decide) 1 rfl rfl (by decide +kernel) rfl rfl (Nat.le_of_ble_eq_true rfl) dX6_moved_2 rfl (fun H locs hW => ?_)
  refine lv_iload_n S.1 S.2.1 dX6_moved_5 rfl (lv_at hl 1 rfl) ?_
  refine lv_i2l S.1 S.2.1 dX6_moved_6 rfl ?_
  refine lv_lconst (v := 1) S.1 S.2.1 dX6_moved_7 (by decide) ?_
  refine lv_aload_n S.1 S.2.1 dX6_moved_8 rfl (lv_at hl 0 rfl) ?_
  refine gf S hk hW 0 rfl rfl hwsX60 10 (by decide) 2 rfl rfl dX6_moved_9 ?_
  refine lv_i2l S.1 S.2.1 dX6_moved_12 rfl ?_
  refine kSi S (c_X6_in (l := l) (D := D) (cI := cI) (cZ := cZ) (cF := cF)) (va_cwS 3 S.2.2.2.2 gX6_moved_X6_in rfl rfl rfl v_X6_in ⟨(Nat.le_of_ble_eq_true rfl), (Nat.le_of_ble_eq_true rfl)⟩) hk hW rfl hl rfl (Nat.le_of_ble_eq_true rfl) dX6_moved_13 ⟨(Nat.le_of_ble_eq_true rfl), (Nat.le_of_ble_eq_true rfl)⟩ (fun r u H locs hp hW => ?_)
  obtain ⟨rfl, rfl⟩ := hp
  refine ifne_b (tgt := 23) S dX6_moved_16 (by decide) (fun c_16 => ?_) (fun c_16 => ?_)
  · skip
    obtain ⟨a, h1a, hax, rfl⟩ := inL_nat (a := 1) (b := ac) c_16 (by decide) (nI64 (by omega))
    have hca : (nI a).toNatClampNeg = a := nI_clamp (by omega)
    refine lv_iconst (v := nI 0) S.1 S.2.1 dX6_moved_23 (by decide) ?_
    refine lv_istore_n (lv' := [(2, .int (nI 0)), (0, .ref (q 0)), (1, .int (nI a))]) S.1 S.2.1 dX6_moved_24 rfl hl (by decide) rfl (fun ls hl => ?_)
    refine lv_iconst (v := nI 0) S.1 S.2.1 dX6_moved_25 (by decide) ?_
    refine lv_istore_n (lv' := [(3, .int (nI 0)), (2, .int (nI 0)), (0, .ref (q 0)), (1, .int (nI a))]) S.1 S.2.1 dX6_moved_26 rfl hl (by decide) rfl (fun ls hl => ?_)
    have L27 : ∀ (dd : Nat), ∀ (n : Nat), ∀ (i : Nat), (n = cmM (gN g) ke a i) → (i ≤ 100) → 100 < i + dd → ∀ (H : Heap) (locs : List Loc) (ls : Array Slot), wd D A s H locs (wM q cI cZ cF g fi ke ac mk iv) → lv_has ls 4 [(0, .ref (q 0)), (1, .int (nI a)), (2, .int (nI n)), (3, .int (nI i))] → W p l e r_X6_moved s m args below meth c H locs 0 0 Q (F0 m 27 ls []) := by
      intro dd
      induction dd with
      | zero => intros; omega
      | succ dd ih27 =>
        intro n i hn hi hdd H locs ls hW hl
        refine lv_iload_n S.1 S.2.1 dX6_moved_27 rfl (lv_at hl 3 rfl) ?_
        refine lv_bipush (v := nI 100) S.1 S.2.1 dX6_moved_28 (by decide) ?_
        refine icge_n (tgt := 56) S (by omega) (by omega) dX6_moved_30 (by decide) (fun c_30 => ?_) (fun c_30 => ?_)
        · skip
          refine lv_iload_n S.1 S.2.1 dX6_moved_56 rfl (lv_at hl 2 rfl) ?_
          exact hR _ _ _ _ _ _ _ _ dX6_moved_57 rfl (Nat.le_of_ble_eq_true rfl) (Nat.le_of_ble_eq_true rfl) hW ⟨(by simp only [movM, c_16, hca, if_true]; rw [hn, show i = 100 by omega]), rfl⟩
        · skip
          refine lv_iload_n S.1 S.2.1 dX6_moved_33 rfl (lv_at hl 2 rfl) ?_
          refine lv_aload_n S.1 S.2.1 dX6_moved_34 rfl (lv_at hl 0 rfl) ?_
          refine lv_iload_n S.1 S.2.1 dX6_moved_35 rfl (lv_at hl 1 rfl) ?_
          refine lv_iload_n S.1 S.2.1 dX6_moved_36 rfl (lv_at hl 3 rfl) ?_
          refine kVi S (c_X6_isMoved (l := l) (D := D) (cI := cI) (cZ := cZ) (cF := cF) G (by first | assumption | omega) (by first | assumption | omega) (by first | assumption | omega)) (cwV 2 S.2.2.2.2 gX6_moved_X6_isMoved rfl rfl rfl ⟨rfl, v_X6_isMoved⟩ ⟨(Nat.le_of_ble_eq_true rfl), (Nat.le_of_ble_eq_true rfl)⟩) hk hW 0 rfl rfl rfl rfl hl rfl (Nat.le_of_ble_eq_true rfl) dX6_moved_37 ⟨(Nat.le_of_ble_eq_true rfl), (Nat.le_of_ble_eq_true rfl)⟩ (fun r u H locs hp hW => ?_)
          obtain ⟨rfl, rfl⟩ := hp
          refine ifeq_b (tgt := 47) S dX6_moved_40 (by decide) (fun c_40 => ?_) (fun c_40 => ?_)
          · skip
            refine lv_iconst (v := nI 0) S.1 S.2.1 dX6_moved_47 (by decide) ?_
            refine lv_iadd S.1 S.2.1 dX6_moved_48 (top_eq (nI_add _ _) ?_)
            refine lv_istore_n (lv' := [(2, .int (nI (n + 0))), (0, .ref (q 0)), (1, .int (nI a)), (3, .int (nI i))]) S.1 S.2.1 dX6_moved_49 rfl hl (by decide) rfl (fun ls hl => ?_)
            refine lv_iinc (v := nI (i + 1)) (lv' := [(3, .int (nI (i + 1))), (2, .int (nI (n + 0))), (0, .ref (q 0)), (1, .int (nI a))]) (k := 3) S.1 S.2.1 dX6_moved_50 hl rfl (nI_1 _) (by decide) rfl (fun ls hl => ?_)
            refine lv_goto (tgt := 27) S.1 S.2.1 dX6_moved_53 (by decide) ?_
            exact ih27 (n + 0) (i + 1) (by simp only [cmM, hn, c_40, eq_self, Nat.add_zero, decide_false, decide_true, Bool.not_true, Bool.not_false, Bool.and_true, Bool.true_and, Bool.and_false, Bool.false_and, Bool.or_true, Bool.true_or, Bool.or_false, Bool.false_or, ↓reduceIte, cond_true, cond_false, bI, and_true, true_and, and_false, false_and, or_true, true_or, or_false, false_or, not_true_eq_false, not_false_eq_true, if_true, if_false, Bool.false_eq_true, reduceCtorEq, ite_true, ite_false]) (by omega) (by omega) _ _ _ hW (lv_sub hl [2, 3, 1, 0] rfl)
          · skip
            refine lv_iconst (v := nI 1) S.1 S.2.1 dX6_moved_43 (by decide) ?_
            refine lv_goto (tgt := 48) S.1 S.2.1 dX6_moved_44 (by decide) ?_
            refine lv_iadd S.1 S.2.1 dX6_moved_48 (top_eq (nI_add _ _) ?_)
            refine lv_istore_n (lv' := [(2, .int (nI (n + 1))), (0, .ref (q 0)), (1, .int (nI a)), (3, .int (nI i))]) S.1 S.2.1 dX6_moved_49 rfl hl (by decide) rfl (fun ls hl => ?_)
            refine lv_iinc (v := nI (i + 1)) (lv' := [(3, .int (nI (i + 1))), (2, .int (nI (n + 1))), (0, .ref (q 0)), (1, .int (nI a))]) (k := 3) S.1 S.2.1 dX6_moved_50 hl rfl (nI_1 _) (by decide) rfl (fun ls hl => ?_)
            refine lv_goto (tgt := 27) S.1 S.2.1 dX6_moved_53 (by decide) ?_
            exact ih27 (n + 1) (i + 1) (by simp only [cmM, hn, c_40, eq_self, Nat.add_zero, decide_false, decide_true, Bool.not_true, Bool.not_false, Bool.and_true, Bool.true_and, Bool.and_false, Bool.false_and, Bool.or_true, Bool.true_or, Bool.or_false, Bool.false_or, ↓reduceIte, cond_true, cond_false, bI, and_true, true_and, and_false, false_and, or_true, true_or, or_false, false_or, not_true_eq_false, not_false_eq_true, if_true, if_false, Bool.false_eq_true, reduceCtorEq, ite_true, ite_false]) (by omega) (by omega) _ _ _ hW (lv_sub hl [2, 3, 1, 0] rfl)
    exact L27 (100 + 1) 0 0 rfl (by omega) (by omega) _ _ _ hW (lv_sub hl [2, 3, 1, 0] rfl)
  · skip
    refine lv_sipush (v := (-1001)) S.1 S.2.1 dX6_moved_19 (by decide) ?_
    exact hR _ _ _ _ _ _ _ _ dX6_moved_22 rfl (Nat.le_of_ble_eq_true rfl) (Nat.le_of_ble_eq_true rfl) hW ⟨(by simp only [movM, c_16, eq_self, Nat.add_zero, decide_false, decide_true, Bool.not_true, Bool.not_false, Bool.and_true, Bool.true_and, Bool.and_false, Bool.false_and, Bool.or_true, Bool.true_or, Bool.or_false, Bool.false_or, ↓reduceIte, cond_true, cond_false, bI, and_true, true_and, and_false, false_and, or_true, true_or, or_false, false_or, not_true_eq_false, not_false_eq_true, if_true, if_false, Bool.false_eq_true, reduceCtorEq, ite_true, ite_false]), rfl⟩
abbrev r_X6_pair : Room := { frames := 1, cells := 0, slots := 0, locals := 25 }
theorem v_X6_pair : yX6_pair.cls ≠ "java/lang/invoke/MethodHandle" ∧ yX6_pair.cls ≠ "java/lang/invoke/VarHandle" ∧ (parseMethodDescriptor yX6_pair.desc).map (fun d => d.parameters.length) = some 2 := by decide +kernel
set_option maxRecDepth 100000 in
set_option maxHeartbeats 4000000 in
theorem c_X6_pair {l : Launch} {D : va_G} {cI cZ cF : ClassId} {q : Nat → Nat} {g : Gr} {fi ke : Nat → Int32} {ac : Nat} {mk : Int32} {iv : Nat → Int32} {x y : Int32} (G : Gok g) (hac : ac ≤ 400) : cI_ l D cI cZ cF yX6_pair wsX6_pair r_X6_pair [.ref (q 0), .int x, .int y] (wM q cI cZ cF g fi ke ac mk iv) (fun r u => r = paiM (gN g) ke ac x y ∧ u = wM q cI cZ cF g fi ke ac mk iv) 0 0 := by
  refine cI_of (cc := cX6_pair) (maxL := 5) (rt := .int) (plainFor_of_name (by decide +kernel)) rfl (Nat.le_of_ble_eq_true rfl) ?_
  intro p e s m args below meth c A Q ls S hk hW hl hR
  have hl : lv_has ls 5 [(0, .ref (q 0)), (1, .int x), (2, .int y)] := hl
  have hwsX60 : ∀ x ∈ wsX60, x ∈ wsX6_pair := fun x h => List.mem_cons_of_mem _ (List.mem_append_right _ h)
  have hN := Gok_N G; have hN2 := Gok_N2 G; have hKK := Gok_K G
  refine lv_aload_n S.1 S.2.1 dX6_pair_0 rfl (lv_at hl 0 rfl) ?_
  refine lv_iconst (v := nI 0) S.1 S.2.1 dX6_pair_1 (by decide) ?_
  refine pf (ty := .int) (w' := wM q cI cZ cF g fi ke ac mk iv) S hk hW 0 rfl rfl hwsX60 tyX6 tyX6_ok nmX6 0 (by decide) 1 rfl rfl (by decide +kernel) rfl rfl (Nat.le_of_ble_eq_true rfl) dX6_pair_2 rfl (fun H locs hW => ?_)
  refine lv_iload_n S.1 S.2.1 dX6_pair_5 rfl (lv_at hl 1 rfl) ?_
  refine lv_i2l S.1 S.2.1 dX6_pair_6 rfl ?_
  refine lv_lconst (v := 1) S.1 S.2.1 dX6_pair_7 (by decide) ?_
  refine lv_aload_n S.1 S.2.1 dX6_pair_8 rfl (lv_at hl 0 rfl) ?_
  refine gf S hk hW 0 rfl rfl hwsX60 10 (by decide) 2 rfl rfl dX6_pair_9 ?_
  refine lv_i2l S.1 S.2.1 dX6_pair_12 rfl ?_
  refine kSi S (c_X6_in (l := l) (D := D) (cI := cI) (cZ := cZ) (cF := cF)) (va_cwS 3 S.2.2.2.2 gX6_pair_X6_in rfl rfl rfl v_X6_in ⟨(Nat.le_of_ble_eq_true rfl), (Nat.le_of_ble_eq_true rfl)⟩) hk hW rfl hl rfl (Nat.le_of_ble_eq_true rfl) dX6_pair_13 ⟨(Nat.le_of_ble_eq_true rfl), (Nat.le_of_ble_eq_true rfl)⟩ (fun r u H locs hp hW => ?_)
  obtain ⟨rfl, rfl⟩ := hp
  refine ifne_b (tgt := 23) S dX6_pair_16 (by decide) (fun c_16 => ?_) (fun c_16 => ?_)
  · skip
    obtain ⟨a, h1a, hax, rfl⟩ := inL_nat (a := 1) (b := ac) c_16 (by decide) (nI64 (by omega))
    have hca : (nI a).toNatClampNeg = a := nI_clamp (by omega)
    refine lv_iconst (v := nI 0) S.1 S.2.1 dX6_pair_23 (by decide) ?_
    refine lv_istore_n (lv' := [(3, .int (nI 0)), (0, .ref (q 0)), (1, .int (nI a)), (2, .int y)]) S.1 S.2.1 dX6_pair_24 rfl hl (by decide) rfl (fun ls hl => ?_)
    refine lv_iconst (v := nI 0) S.1 S.2.1 dX6_pair_25 (by decide) ?_
    refine lv_istore (lv' := [(4, .int (nI 0)), (3, .int (nI 0)), (0, .ref (q 0)), (1, .int (nI a)), (2, .int y)]) S.1 S.2.1 dX6_pair_26 hl (by decide) rfl (fun ls hl => ?_)
    have L28 : ∀ (dd : Nat), ∀ (n : Nat), ∀ (i : Nat), (n = cmM (gN g) ke a i) → (fj (mpM (gN g) ke a y) 100 0 = fj (mpM (gN g) ke a y) (100 - i) i) → (i ≤ 100) → 100 < i + dd → ∀ (H : Heap) (locs : List Loc) (ls : Array Slot), wd D A s H locs (wM q cI cZ cF g fi ke ac mk iv) → lv_has ls 5 [(0, .ref (q 0)), (1, .int (nI a)), (2, .int y), (3, .int (nI n)), (4, .int (nI i))] → W p l e r_X6_pair s m args below meth c H locs 0 0 Q (F0 m 28 ls []) := by
      intro dd
      induction dd with
      | zero => intros; omega
      | succ dd ih28 =>
        intro n i hn hf hi hdd H locs ls hW hl
        refine lv_iload S.1 S.2.1 dX6_pair_28 (lv_at hl 4 rfl) ?_
        refine lv_bipush (v := nI 100) S.1 S.2.1 dX6_pair_30 (by decide) ?_
        refine icge_n (tgt := 62) S (by omega) (by omega) dX6_pair_32 (by decide) (fun c_32 => ?_) (fun c_32 => ?_)
        · skip
          refine lv_sipush (v := (-1000)) S.1 S.2.1 dX6_pair_62 (by decide) ?_
          exact hR _ _ _ _ _ _ _ _ dX6_pair_65 rfl (Nat.le_of_ble_eq_true rfl) (Nat.le_of_ble_eq_true rfl) hW ⟨(by simp only [paiM, c_16, hca, if_true]; rw [fj_none hf (by omega)]; rfl), rfl⟩
        · skip
          refine lv_aload_n S.1 S.2.1 dX6_pair_35 rfl (lv_at hl 0 rfl) ?_
          refine lv_iload_n S.1 S.2.1 dX6_pair_36 rfl (lv_at hl 1 rfl) ?_
          refine lv_iload S.1 S.2.1 dX6_pair_37 (lv_at hl 4 rfl) ?_
          refine kVi S (c_X6_isMoved (l := l) (D := D) (cI := cI) (cZ := cZ) (cF := cF) G (by first | assumption | omega) (by first | assumption | omega) (by first | assumption | omega)) (cwV 2 S.2.2.2.2 gX6_pair_X6_isMoved rfl rfl rfl ⟨rfl, v_X6_isMoved⟩ ⟨(Nat.le_of_ble_eq_true rfl), (Nat.le_of_ble_eq_true rfl)⟩) hk hW 0 rfl rfl rfl rfl hl rfl (Nat.le_of_ble_eq_true rfl) dX6_pair_39 ⟨(Nat.le_of_ble_eq_true rfl), (Nat.le_of_ble_eq_true rfl)⟩ (fun r u H locs hp hW => ?_)
          obtain ⟨rfl, rfl⟩ := hp
          refine ifeq_b (tgt := 56) S dX6_pair_42 (by decide) (fun c_42 => ?_) (fun c_42 => ?_)
          · skip
            refine lv_iinc (v := nI (i + 1)) (lv' := [(4, .int (nI (i + 1))), (0, .ref (q 0)), (1, .int (nI a)), (2, .int y), (3, .int (nI n))]) (k := 4) S.1 S.2.1 dX6_pair_56 hl rfl (nI_1 _) (by decide) rfl (fun ls hl => ?_)
            refine lv_goto (tgt := 28) S.1 S.2.1 dX6_pair_59 (by decide) ?_
            exact ih28 n (i + 1) (by simp only [cmM, hn, c_42, eq_self, Nat.add_zero, decide_false, decide_true, Bool.not_true, Bool.not_false, Bool.and_true, Bool.true_and, Bool.and_false, Bool.false_and, Bool.or_true, Bool.true_or, Bool.or_false, Bool.false_or, ↓reduceIte, cond_true, cond_false, bI, and_true, true_and, and_false, false_and, or_true, true_or, or_false, false_or, not_true_eq_false, not_false_eq_true, if_true, if_false, Bool.false_eq_true, reduceCtorEq, ite_true, ite_false]) (fj_step hf (by omega) (by simp only [mpM, ← hn, c_42, eq_self, Nat.add_zero, decide_false, decide_true, Bool.not_true, Bool.not_false, Bool.and_true, Bool.true_and, Bool.and_false, Bool.false_and, Bool.or_true, Bool.true_or, Bool.or_false, Bool.false_or, ↓reduceIte, cond_true, cond_false, bI, and_true, true_and, and_false, false_and, or_true, true_or, or_false, false_or, not_true_eq_false, not_false_eq_true, if_true, if_false, Bool.false_eq_true, reduceCtorEq, ite_true, ite_false])) (by omega) (by omega) _ _ _ hW (lv_sub hl [1, 2, 3, 4, 0] rfl)
          · skip
            refine lv_iload_n S.1 S.2.1 dX6_pair_45 rfl (lv_at hl 3 rfl) ?_
            refine lv_iload_n S.1 S.2.1 dX6_pair_46 rfl (lv_at hl 2 rfl) ?_
            refine lv_icmp_ne (tgt := 53) S.1 S.2.1 dX6_pair_47 (by decide) (fun c_47 => ?_) (fun c_47 => ?_)
            · skip
              refine lv_iinc (v := nI (n + 1)) (lv' := [(3, .int (nI (n + 1))), (0, .ref (q 0)), (1, .int (nI a)), (2, .int y), (4, .int (nI i))]) (k := 3) S.1 S.2.1 dX6_pair_53 hl rfl (nI_1 _) (by decide) rfl (fun ls hl => ?_)
              refine lv_iinc (v := nI (i + 1)) (lv' := [(4, .int (nI (i + 1))), (3, .int (nI (n + 1))), (0, .ref (q 0)), (1, .int (nI a)), (2, .int y)]) (k := 4) S.1 S.2.1 dX6_pair_56 hl rfl (nI_1 _) (by decide) rfl (fun ls hl => ?_)
              refine lv_goto (tgt := 28) S.1 S.2.1 dX6_pair_59 (by decide) ?_
              exact ih28 (n + 1) (i + 1) (by simp only [cmM, hn, c_42, eq_self, Nat.add_zero, decide_false, decide_true, Bool.not_true, Bool.not_false, Bool.and_true, Bool.true_and, Bool.and_false, Bool.false_and, Bool.or_true, Bool.true_or, Bool.or_false, Bool.false_or, ↓reduceIte, cond_true, cond_false, bI, and_true, true_and, and_false, false_and, or_true, true_or, or_false, false_or, not_true_eq_false, not_false_eq_true, if_true, if_false, Bool.false_eq_true, reduceCtorEq, ite_true, ite_false]) (fj_step hf (by omega) (by simp only [mpM, ← hn, c_42, eq_false c_47, eq_self, Nat.add_zero, decide_false, decide_true, Bool.not_true, Bool.not_false, Bool.and_true, Bool.true_and, Bool.and_false, Bool.false_and, Bool.or_true, Bool.true_or, Bool.or_false, Bool.false_or, ↓reduceIte, cond_true, cond_false, bI, and_true, true_and, and_false, false_and, or_true, true_or, or_false, false_or, not_true_eq_false, not_false_eq_true, if_true, if_false, Bool.false_eq_true, reduceCtorEq, ite_true, ite_false])) (by omega) (by omega) _ _ _ hW (lv_sub hl [2, 3, 4, 1, 0] rfl)
            · skip
              refine lv_iload S.1 S.2.1 dX6_pair_50 (lv_at hl 4 rfl) ?_
              exact hR _ _ _ _ _ _ _ _ dX6_pair_52 rfl (Nat.le_of_ble_eq_true rfl) (Nat.le_of_ble_eq_true rfl) hW ⟨(by simp only [paiM, c_16, hca, if_true]; rw [fj_found hf (by omega) (by simp only [mpM, ← hn, c_42, eq_true c_47, eq_self, Nat.add_zero, decide_false, decide_true, Bool.not_true, Bool.not_false, Bool.and_true, Bool.true_and, Bool.and_false, Bool.false_and, Bool.or_true, Bool.true_or, Bool.or_false, Bool.false_or, ↓reduceIte, cond_true, cond_false, bI, and_true, true_and, and_false, false_and, or_true, true_or, or_false, false_or, not_true_eq_false, not_false_eq_true, if_true, if_false, Bool.false_eq_true, reduceCtorEq, ite_true, ite_false])]; rfl), rfl⟩
    exact L28 (100 + 1) 0 0 rfl rfl (by omega) (by omega) _ _ _ hW (lv_sub hl [2, 3, 4, 1, 0] rfl)
  · skip
    refine lv_sipush (v := (-1001)) S.1 S.2.1 dX6_pair_19 (by decide) ?_
    exact hR _ _ _ _ _ _ _ _ dX6_pair_22 rfl (Nat.le_of_ble_eq_true rfl) (Nat.le_of_ble_eq_true rfl) hW ⟨(by simp only [paiM, c_16, eq_self, Nat.add_zero, decide_false, decide_true, Bool.not_true, Bool.not_false, Bool.and_true, Bool.true_and, Bool.and_false, Bool.false_and, Bool.or_true, Bool.true_or, Bool.or_false, Bool.false_or, ↓reduceIte, cond_true, cond_false, bI, and_true, true_and, and_false, false_and, or_true, true_or, or_false, false_or, not_true_eq_false, not_false_eq_true, if_true, if_false, Bool.false_eq_true, reduceCtorEq, ite_true, ite_false]), rfl⟩
abbrev r_X6_then : Room := { frames := 2, cells := 0, slots := 0, locals := 46 }
theorem v_X6_then : yX6_then.cls ≠ "java/lang/invoke/MethodHandle" ∧ yX6_then.cls ≠ "java/lang/invoke/VarHandle" ∧ (parseMethodDescriptor yX6_then.desc).map (fun d => d.parameters.length) = some 3 := by decide +kernel
set_option maxRecDepth 100000 in
set_option maxHeartbeats 4000000 in
theorem c_X6_then {l : Launch} {D : va_G} {cI cZ cF : ClassId} {q : Nat → Nat} {g : Gr} {fi ke : Nat → Int32} {ac : Nat} {mk : Int32} {iv : Nat → Int32} {x y z : Int32} (G : Gok g) (hac : ac ≤ 400) : cI_ l D cI cZ cF yX6_then wsX6_then r_X6_then [.ref (q 0), .int x, .int y, .int z] (wM q cI cZ cF g fi ke ac mk iv) (fun r u => r = thnM g ke ac x y z ∧ u = wM q cI cZ cF g fi ke ac mk iv) 0 0 := by
  refine cI_of (cc := cX6_then) (maxL := 4) (rt := .int) (plainFor_of_name (by decide +kernel)) rfl (Nat.le_of_ble_eq_true rfl) ?_
  intro p e s m args below meth c A Q ls S hk hW hl hR
  have hl : lv_has ls 4 [(0, .ref (q 0)), (1, .int x), (2, .int y), (3, .int z)] := hl
  have hwsX60 : ∀ x ∈ wsX60, x ∈ wsX6_then := fun x h => List.mem_cons_of_mem _ (List.mem_append_right _ h)
  have hN := Gok_N G; have hN2 := Gok_N2 G; have hKK := Gok_K G
  refine lv_aload_n S.1 S.2.1 dX6_then_0 rfl (lv_at hl 0 rfl) ?_
  refine lv_iconst (v := nI 0) S.1 S.2.1 dX6_then_1 (by decide) ?_
  refine pf (ty := .int) (w' := wM q cI cZ cF g fi ke ac mk iv) S hk hW 0 rfl rfl hwsX60 tyX6 tyX6_ok nmX6 0 (by decide) 1 rfl rfl (by decide +kernel) rfl rfl (Nat.le_of_ble_eq_true rfl) dX6_then_2 rfl (fun H locs hW => ?_)
  refine lv_aload_n S.1 S.2.1 dX6_then_5 rfl (lv_at hl 0 rfl) ?_
  refine lv_iload_n S.1 S.2.1 dX6_then_6 rfl (lv_at hl 2 rfl) ?_
  refine kVi S (c_X6_noPost (l := l) (D := D) (cI := cI) (cZ := cZ) (cF := cF) G) (cwV 1 S.2.2.2.2 gX6_then_X6_noPost rfl rfl rfl ⟨rfl, v_X6_noPost⟩ ⟨(Nat.le_of_ble_eq_true rfl), (Nat.le_of_ble_eq_true rfl)⟩) hk hW 0 rfl rfl rfl rfl hl rfl (Nat.le_of_ble_eq_true rfl) dX6_then_7 ⟨(Nat.le_of_ble_eq_true rfl), (Nat.le_of_ble_eq_true rfl)⟩ (fun r u H locs hp hW => ?_)
  obtain ⟨rfl, rfl⟩ := hp
  refine ifne_nb (tgt := 35) S dX6_then_10 (by decide) (fun c_10 => ?_) (fun c_10 => ?_)
  · skip
    refine lv_sipush (v := (-1001)) S.1 S.2.1 dX6_then_35 (by decide) ?_
    refine lv_goto (tgt := 57) S.1 S.2.1 dX6_then_38 (by decide) ?_
    exact hR _ _ _ _ _ _ _ _ dX6_then_57 rfl (Nat.le_of_ble_eq_true rfl) (Nat.le_of_ble_eq_true rfl) hW ⟨(by simp only [thnM, c_10, eq_self, Nat.add_zero, decide_false, decide_true, Bool.not_true, Bool.not_false, Bool.and_true, Bool.true_and, Bool.and_false, Bool.false_and, Bool.or_true, Bool.true_or, Bool.or_false, Bool.false_or, ↓reduceIte, cond_true, cond_false, bI, and_true, true_and, and_false, false_and, or_true, true_or, or_false, false_or, not_true_eq_false, not_false_eq_true, if_true, if_false, Bool.false_eq_true, reduceCtorEq, ite_true, ite_false]), rfl⟩
  · skip
    refine lv_aload_n S.1 S.2.1 dX6_then_13 rfl (lv_at hl 0 rfl) ?_
    refine lv_iload_n S.1 S.2.1 dX6_then_14 rfl (lv_at hl 3 rfl) ?_
    refine kVi S (c_X6_noPost (l := l) (D := D) (cI := cI) (cZ := cZ) (cF := cF) G) (cwV 1 S.2.2.2.2 gX6_then_X6_noPost rfl rfl rfl ⟨rfl, v_X6_noPost⟩ ⟨(Nat.le_of_ble_eq_true rfl), (Nat.le_of_ble_eq_true rfl)⟩) hk hW 0 rfl rfl rfl rfl hl rfl (Nat.le_of_ble_eq_true rfl) dX6_then_15 ⟨(Nat.le_of_ble_eq_true rfl), (Nat.le_of_ble_eq_true rfl)⟩ (fun r u H locs hp hW => ?_)
    obtain ⟨rfl, rfl⟩ := hp
    refine ifne_nb (tgt := 35) S dX6_then_18 (by decide) (fun c_18 => ?_) (fun c_18 => ?_)
    · skip
      refine lv_sipush (v := (-1001)) S.1 S.2.1 dX6_then_35 (by decide) ?_
      refine lv_goto (tgt := 57) S.1 S.2.1 dX6_then_38 (by decide) ?_
      exact hR _ _ _ _ _ _ _ _ dX6_then_57 rfl (Nat.le_of_ble_eq_true rfl) (Nat.le_of_ble_eq_true rfl) hW ⟨(by simp only [thnM, c_10, c_18, eq_self, Nat.add_zero, decide_false, decide_true, Bool.not_true, Bool.not_false, Bool.and_true, Bool.true_and, Bool.and_false, Bool.false_and, Bool.or_true, Bool.true_or, Bool.or_false, Bool.false_or, ↓reduceIte, cond_true, cond_false, bI, and_true, true_and, and_false, false_and, or_true, true_or, or_false, false_or, not_true_eq_false, not_false_eq_true, if_true, if_false, Bool.false_eq_true, reduceCtorEq, ite_true, ite_false]), rfl⟩
    · skip
      refine lv_iload_n S.1 S.2.1 dX6_then_21 rfl (lv_at hl 1 rfl) ?_
      refine lv_i2l S.1 S.2.1 dX6_then_22 rfl ?_
      refine lv_lconst (v := 0) S.1 S.2.1 dX6_then_23 (by decide) ?_
      refine lv_aload_n S.1 S.2.1 dX6_then_24 rfl (lv_at hl 0 rfl) ?_
      refine gf S hk hW 0 rfl rfl hwsX60 10 (by decide) 2 rfl rfl dX6_then_25 ?_
      refine lv_i2l S.1 S.2.1 dX6_then_28 rfl ?_
      refine kSi S (c_X6_in (l := l) (D := D) (cI := cI) (cZ := cZ) (cF := cF)) (va_cwS 3 S.2.2.2.2 gX6_then_X6_in rfl rfl rfl v_X6_in ⟨(Nat.le_of_ble_eq_true rfl), (Nat.le_of_ble_eq_true rfl)⟩) hk hW rfl hl rfl (Nat.le_of_ble_eq_true rfl) dX6_then_29 ⟨(Nat.le_of_ble_eq_true rfl), (Nat.le_of_ble_eq_true rfl)⟩ (fun r u H locs hp hW => ?_)
      obtain ⟨rfl, rfl⟩ := hp
      refine ifne_b (tgt := 41) S dX6_then_32 (by decide) (fun c_32 => ?_) (fun c_32 => ?_)
      · skip
        obtain ⟨b, hb, rfl⟩ := inb_nat c_10 (by omega)
        have hcb : (nI b).toNatClampNeg = b := nI_clamp (by omega)
        obtain ⟨d, hd, rfl⟩ := inb_nat c_18 (by omega)
        have hcd : (nI d).toNatClampNeg = d := nI_clamp (by omega)
        obtain ⟨a, h1a, hax, rfl⟩ := inL_nat (a := 0) (b := ac) c_32 (by decide) (nI64 (by omega))
        have hca : (nI a).toNatClampNeg = a := nI_clamp (by omega)
        refine lv_aload_n S.1 S.2.1 dX6_then_41 rfl (lv_at hl 0 rfl) ?_
        refine gf S hk hW 0 rfl rfl hwsX60 9 (by decide) 3 rfl rfl dX6_then_42 ?_
        refine lv_bipush (v := nI 100) S.1 S.2.1 dX6_then_45 (by decide) ?_
        refine lv_iload_n S.1 S.2.1 dX6_then_47 rfl (lv_at hl 1 rfl) ?_
        refine lv_imul S.1 S.2.1 dX6_then_48 (top_eq (pk_mul _ _) ?_)
        refine lv_bipush (v := nI 10) S.1 S.2.1 dX6_then_49 (by decide) ?_
        refine lv_iload_n S.1 S.2.1 dX6_then_51 rfl (lv_at hl 2 rfl) ?_
        refine lv_imul S.1 S.2.1 dX6_then_52 (top_eq (pk_mul _ _) ?_)
        refine lv_iadd S.1 S.2.1 dX6_then_53 (top_eq (nI_add _ _) ?_)
        refine lv_iload_n S.1 S.2.1 dX6_then_54 rfl (lv_at hl 3 rfl) ?_
        refine lv_iadd S.1 S.2.1 dX6_then_55 (top_eq (nI_add _ _) ?_)
        refine ild S hk hW 7 rfl (((100 * a) + (10 * b)) + d) rfl (by omega) (by omega) dX6_then_56 ?_
        exact hR _ _ _ _ _ _ _ _ dX6_then_57 rfl (Nat.le_of_ble_eq_true rfl) (Nat.le_of_ble_eq_true rfl) hW ⟨(by simp only [thnM, hca, hcb, hcd, c_10, c_18, c_32, eq_self, Nat.add_zero, decide_false, decide_true, Bool.not_true, Bool.not_false, Bool.and_true, Bool.true_and, Bool.and_false, Bool.false_and, Bool.or_true, Bool.true_or, Bool.or_false, Bool.false_or, ↓reduceIte, cond_true, cond_false, bI, and_true, true_and, and_false, false_and, or_true, true_or, or_false, false_or, not_true_eq_false, not_false_eq_true, if_true, if_false, Bool.false_eq_true, reduceCtorEq, ite_true, ite_false]), rfl⟩
      · skip
        refine lv_sipush (v := (-1001)) S.1 S.2.1 dX6_then_35 (by decide) ?_
        refine lv_goto (tgt := 57) S.1 S.2.1 dX6_then_38 (by decide) ?_
        exact hR _ _ _ _ _ _ _ _ dX6_then_57 rfl (Nat.le_of_ble_eq_true rfl) (Nat.le_of_ble_eq_true rfl) hW ⟨(by simp only [thnM, c_10, c_18, c_32, eq_self, Nat.add_zero, decide_false, decide_true, Bool.not_true, Bool.not_false, Bool.and_true, Bool.true_and, Bool.and_false, Bool.false_and, Bool.or_true, Bool.true_or, Bool.or_false, Bool.false_or, ↓reduceIte, cond_true, cond_false, bI, and_true, true_and, and_false, false_and, or_true, true_or, or_false, false_or, not_true_eq_false, not_false_eq_true, if_true, if_false, Bool.false_eq_true, reduceCtorEq, ite_true, ite_false]), rfl⟩
abbrev r_X6_since : Room := { frames := 2, cells := 0, slots := 0, locals := 46 }
theorem v_X6_since : yX6_since.cls ≠ "java/lang/invoke/MethodHandle" ∧ yX6_since.cls ≠ "java/lang/invoke/VarHandle" ∧ (parseMethodDescriptor yX6_since.desc).map (fun d => d.parameters.length) = some 4 := by decide +kernel
set_option maxRecDepth 100000 in
set_option maxHeartbeats 4000000 in
theorem c_X6_since {l : Launch} {D : va_G} {cI cZ cF : ClassId} {q : Nat → Nat} {g : Gr} {fi ke : Nat → Int32} {ac : Nat} {mk : Int32} {iv : Nat → Int32} {x y z v : Int32} (G : Gok g) (hac : ac ≤ 400) : cI_ l D cI cZ cF yX6_since wsX6_since r_X6_since [.ref (q 0), .int x, .int y, .int z, .int v] (wM q cI cZ cF g fi ke ac mk iv) (fun r u => r = sinM g ke ac x y z v ∧ u = wM q cI cZ cF g fi ke ac mk iv) 0 0 := by
  refine cI_of (cc := cX6_since) (maxL := 7) (rt := .int) (plainFor_of_name (by decide +kernel)) rfl (Nat.le_of_ble_eq_true rfl) ?_
  intro p e s m args below meth c A Q ls S hk hW hl hR
  have hl : lv_has ls 7 [(0, .ref (q 0)), (1, .int x), (2, .int y), (3, .int z), (4, .int v)] := hl
  have hwsX60 : ∀ x ∈ wsX60, x ∈ wsX6_since := fun x h => List.mem_cons_of_mem _ (List.mem_append_right _ h)
  have hN := Gok_N G; have hN2 := Gok_N2 G; have hKK := Gok_K G
  refine lv_aload_n S.1 S.2.1 dX6_since_0 rfl (lv_at hl 0 rfl) ?_
  refine lv_iconst (v := nI 0) S.1 S.2.1 dX6_since_1 (by decide) ?_
  refine pf (ty := .int) (w' := wM q cI cZ cF g fi ke ac mk iv) S hk hW 0 rfl rfl hwsX60 tyX6 tyX6_ok nmX6 0 (by decide) 1 rfl rfl (by decide +kernel) rfl rfl (Nat.le_of_ble_eq_true rfl) dX6_since_2 rfl (fun H locs hW => ?_)
  refine lv_aload_n S.1 S.2.1 dX6_since_5 rfl (lv_at hl 0 rfl) ?_
  refine lv_iload_n S.1 S.2.1 dX6_since_6 rfl (lv_at hl 2 rfl) ?_
  refine kVi S (c_X6_noPost (l := l) (D := D) (cI := cI) (cZ := cZ) (cF := cF) G) (cwV 1 S.2.2.2.2 gX6_since_X6_noPost rfl rfl rfl ⟨rfl, v_X6_noPost⟩ ⟨(Nat.le_of_ble_eq_true rfl), (Nat.le_of_ble_eq_true rfl)⟩) hk hW 0 rfl rfl rfl rfl hl rfl (Nat.le_of_ble_eq_true rfl) dX6_since_7 ⟨(Nat.le_of_ble_eq_true rfl), (Nat.le_of_ble_eq_true rfl)⟩ (fun r u H locs hp hW => ?_)
  obtain ⟨rfl, rfl⟩ := hp
  refine ifne_nb (tgt := 35) S dX6_since_10 (by decide) (fun c_10 => ?_) (fun c_10 => ?_)
  · skip
    refine lv_sipush (v := (-1001)) S.1 S.2.1 dX6_since_35 (by decide) ?_
    exact hR _ _ _ _ _ _ _ _ dX6_since_38 rfl (Nat.le_of_ble_eq_true rfl) (Nat.le_of_ble_eq_true rfl) hW ⟨(by simp only [sinM, c_10, eq_self, Nat.add_zero, decide_false, decide_true, Bool.not_true, Bool.not_false, Bool.and_true, Bool.true_and, Bool.and_false, Bool.false_and, Bool.or_true, Bool.true_or, Bool.or_false, Bool.false_or, ↓reduceIte, cond_true, cond_false, bI, and_true, true_and, and_false, false_and, or_true, true_or, or_false, false_or, not_true_eq_false, not_false_eq_true, if_true, if_false, Bool.false_eq_true, reduceCtorEq, ite_true, ite_false]), rfl⟩
  · skip
    refine lv_aload_n S.1 S.2.1 dX6_since_13 rfl (lv_at hl 0 rfl) ?_
    refine lv_iload_n S.1 S.2.1 dX6_since_14 rfl (lv_at hl 3 rfl) ?_
    refine kVi S (c_X6_noPost (l := l) (D := D) (cI := cI) (cZ := cZ) (cF := cF) G) (cwV 1 S.2.2.2.2 gX6_since_X6_noPost rfl rfl rfl ⟨rfl, v_X6_noPost⟩ ⟨(Nat.le_of_ble_eq_true rfl), (Nat.le_of_ble_eq_true rfl)⟩) hk hW 0 rfl rfl rfl rfl hl rfl (Nat.le_of_ble_eq_true rfl) dX6_since_15 ⟨(Nat.le_of_ble_eq_true rfl), (Nat.le_of_ble_eq_true rfl)⟩ (fun r u H locs hp hW => ?_)
    obtain ⟨rfl, rfl⟩ := hp
    refine ifne_nb (tgt := 35) S dX6_since_18 (by decide) (fun c_18 => ?_) (fun c_18 => ?_)
    · skip
      refine lv_sipush (v := (-1001)) S.1 S.2.1 dX6_since_35 (by decide) ?_
      exact hR _ _ _ _ _ _ _ _ dX6_since_38 rfl (Nat.le_of_ble_eq_true rfl) (Nat.le_of_ble_eq_true rfl) hW ⟨(by simp only [sinM, c_10, c_18, eq_self, Nat.add_zero, decide_false, decide_true, Bool.not_true, Bool.not_false, Bool.and_true, Bool.true_and, Bool.and_false, Bool.false_and, Bool.or_true, Bool.true_or, Bool.or_false, Bool.false_or, ↓reduceIte, cond_true, cond_false, bI, and_true, true_and, and_false, false_and, or_true, true_or, or_false, false_or, not_true_eq_false, not_false_eq_true, if_true, if_false, Bool.false_eq_true, reduceCtorEq, ite_true, ite_false]), rfl⟩
    · skip
      refine lv_iload_n S.1 S.2.1 dX6_since_21 rfl (lv_at hl 1 rfl) ?_
      refine lv_i2l S.1 S.2.1 dX6_since_22 rfl ?_
      refine lv_lconst (v := 1) S.1 S.2.1 dX6_since_23 (by decide) ?_
      refine lv_aload_n S.1 S.2.1 dX6_since_24 rfl (lv_at hl 0 rfl) ?_
      refine gf S hk hW 0 rfl rfl hwsX60 10 (by decide) 2 rfl rfl dX6_since_25 ?_
      refine lv_i2l S.1 S.2.1 dX6_since_28 rfl ?_
      refine kSi S (c_X6_in (l := l) (D := D) (cI := cI) (cZ := cZ) (cF := cF)) (va_cwS 3 S.2.2.2.2 gX6_since_X6_in rfl rfl rfl v_X6_in ⟨(Nat.le_of_ble_eq_true rfl), (Nat.le_of_ble_eq_true rfl)⟩) hk hW rfl hl rfl (Nat.le_of_ble_eq_true rfl) dX6_since_29 ⟨(Nat.le_of_ble_eq_true rfl), (Nat.le_of_ble_eq_true rfl)⟩ (fun r u H locs hp hW => ?_)
      obtain ⟨rfl, rfl⟩ := hp
      refine ifne_b (tgt := 39) S dX6_since_32 (by decide) (fun c_32 => ?_) (fun c_32 => ?_)
      · skip
        obtain ⟨b, hb, rfl⟩ := inb_nat c_10 (by omega)
        have hcb : (nI b).toNatClampNeg = b := nI_clamp (by omega)
        obtain ⟨d, hd, rfl⟩ := inb_nat c_18 (by omega)
        have hcd : (nI d).toNatClampNeg = d := nI_clamp (by omega)
        obtain ⟨a, h1a, hax, rfl⟩ := inL_nat (a := 1) (b := ac) c_32 (by decide) (nI64 (by omega))
        have hca : (nI a).toNatClampNeg = a := nI_clamp (by omega)
        refine lv_iload S.1 S.2.1 dX6_since_39 (lv_at hl 4 rfl) ?_
        refine lv_i2l S.1 S.2.1 dX6_since_41 rfl ?_
        refine lv_ldc2 (v := (-500)) S.1 S.2.1 S.2.2.2.1 (S.2.2.2.2 _ (List.mem_of_getElem? (i := 3) rfl)) dX6_since_42 ?_
        refine lv_ldc2 (v := 1000) S.1 S.2.1 S.2.2.2.1 (S.2.2.2.2 _ (List.mem_of_getElem? (i := 4) rfl)) dX6_since_45 ?_
        refine kSi S (c_X6_in (l := l) (D := D) (cI := cI) (cZ := cZ) (cF := cF)) (va_cwS 3 S.2.2.2.2 gX6_since_X6_in rfl rfl rfl v_X6_in ⟨(Nat.le_of_ble_eq_true rfl), (Nat.le_of_ble_eq_true rfl)⟩) hk hW rfl hl rfl (Nat.le_of_ble_eq_true rfl) dX6_since_48 ⟨(Nat.le_of_ble_eq_true rfl), (Nat.le_of_ble_eq_true rfl)⟩ (fun r u H locs hp hW => ?_)
        obtain ⟨rfl, rfl⟩ := hp
        refine ifne_b (tgt := 58) S dX6_since_51 (by decide) (fun c_51 => ?_) (fun c_51 => ?_)
        · skip
          refine lv_iload_n S.1 S.2.1 dX6_since_58 rfl (lv_at hl 1 rfl) ?_
          refine lv_istore (lv' := [(5, .int (nI a)), (0, .ref (q 0)), (1, .int (nI a)), (2, .int (nI b)), (3, .int (nI d)), (4, .int v)]) S.1 S.2.1 dX6_since_59 hl (by decide) rfl (fun ls hl => ?_)
          have L61 : ∀ (dd : Nat), ∀ (t : Nat), (fj (fwM ke b d v) (ac + 1 - a) a = fj (fwM ke b d v) (ac + 1 - t) t) → (t ≤ ac + 1) → ac + 1 < t + dd → ∀ (H : Heap) (locs : List Loc) (ls : Array Slot), wd D A s H locs (wM q cI cZ cF g fi ke ac mk iv) → lv_has ls 7 [(0, .ref (q 0)), (1, .int (nI a)), (2, .int (nI b)), (3, .int (nI d)), (4, .int v), (5, .int (nI t))] → W p l e r_X6_since s m args below meth c H locs 0 0 Q (F0 m 61 ls []) := by
            intro dd
            induction dd with
            | zero => intros; omega
            | succ dd ih61 =>
              intro t hf ht hdd H locs ls hW hl
              refine lv_iload S.1 S.2.1 dX6_since_61 (lv_at hl 5 rfl) ?_
              refine lv_aload_n S.1 S.2.1 dX6_since_63 rfl (lv_at hl 0 rfl) ?_
              refine gf S hk hW 0 rfl rfl hwsX60 10 (by decide) 2 rfl rfl dX6_since_64 ?_
              refine icgt_n (tgt := 113) S (by omega) (by omega) dX6_since_67 (by decide) (fun c_67 => ?_) (fun c_67 => ?_)
              · skip
                refine lv_sipush (v := (-1000)) S.1 S.2.1 dX6_since_113 (by decide) ?_
                exact hR _ _ _ _ _ _ _ _ dX6_since_116 rfl (Nat.le_of_ble_eq_true rfl) (Nat.le_of_ble_eq_true rfl) hW ⟨(by simp only [sinM, c_10, c_18, c_32, c_51, hca, hcb, hcd, if_true]; rw [fj_none hf (by omega)]; rfl), rfl⟩
              · skip
                refine lv_aload_n S.1 S.2.1 dX6_since_70 rfl (lv_at hl 0 rfl) ?_
                refine gf S hk hW 0 rfl rfl hwsX60 9 (by decide) 5 rfl rfl dX6_since_71 ?_
                refine lv_bipush (v := nI 100) S.1 S.2.1 dX6_since_74 (by decide) ?_
                refine lv_iload S.1 S.2.1 dX6_since_76 (lv_at hl 5 rfl) ?_
                refine lv_imul S.1 S.2.1 dX6_since_78 (top_eq (pk_mul _ _) ?_)
                refine lv_bipush (v := nI 10) S.1 S.2.1 dX6_since_79 (by decide) ?_
                refine lv_iload_n S.1 S.2.1 dX6_since_81 rfl (lv_at hl 2 rfl) ?_
                refine lv_imul S.1 S.2.1 dX6_since_82 (top_eq (pk_mul _ _) ?_)
                refine lv_iadd S.1 S.2.1 dX6_since_83 (top_eq (nI_add _ _) ?_)
                refine lv_iload_n S.1 S.2.1 dX6_since_84 rfl (lv_at hl 3 rfl) ?_
                refine lv_iadd S.1 S.2.1 dX6_since_85 (top_eq (nI_add _ _) ?_)
                refine ild S hk hW 7 rfl (((100 * t) + (10 * b)) + d) rfl (by omega) (by omega) dX6_since_86 ?_
                refine lv_istore (lv' := [(6, .int (ke (((100 * t) + (10 * b)) + d))), (0, .ref (q 0)), (1, .int (nI a)), (2, .int (nI b)), (3, .int (nI d)), (4, .int v), (5, .int (nI t))]) S.1 S.2.1 dX6_since_87 hl (by decide) rfl (fun ls hl => ?_)
                refine lv_iload S.1 S.2.1 dX6_since_89 (lv_at hl 0 rfl) ?_
                refine lv_sipush (v := (-1000)) S.1 S.2.1 dX6_since_91 (by decide) ?_
                refine lv_icmp_eq (tgt := 107) S.1 S.2.1 dX6_since_94 (by decide) (fun c_94 => ?_) (fun c_94 => ?_)
                · skip
                  refine lv_iinc (v := nI (t + 1)) (lv' := [(5, .int (nI (t + 1))), (6, .int (ke (((100 * t) + (10 * b)) + d))), (0, .ref (q 0)), (1, .int (nI a)), (2, .int (nI b)), (3, .int (nI d)), (4, .int v)]) (k := 6) S.1 S.2.1 dX6_since_107 hl rfl (nI_1 _) (by decide) rfl (fun ls hl => ?_)
                  refine lv_goto (tgt := 61) S.1 S.2.1 dX6_since_110 (by decide) ?_
                  exact ih61 (t + 1) (fj_step hf (by omega) (by simp only [fwM, eq_true c_94, eq_self, Nat.add_zero, decide_false, decide_true, Bool.not_true, Bool.not_false, Bool.and_true, Bool.true_and, Bool.and_false, Bool.false_and, Bool.or_true, Bool.true_or, Bool.or_false, Bool.false_or, ↓reduceIte, cond_true, cond_false, bI, and_true, true_and, and_false, false_and, or_true, true_or, or_false, false_or, not_true_eq_false, not_false_eq_true, if_true, if_false, Bool.false_eq_true, reduceCtorEq, ite_true, ite_false])) (by omega) (by omega) _ _ _ hW (lv_sub hl [2, 3, 4, 5, 6, 0] rfl)
                · skip
                  refine lv_iload S.1 S.2.1 dX6_since_97 (lv_at hl 0 rfl) ?_
                  refine lv_iload S.1 S.2.1 dX6_since_99 (lv_at hl 5 rfl) ?_
                  refine lv_icmp_gt (tgt := 107) S.1 S.2.1 dX6_since_101 (by decide) (fun c_101 => ?_) (fun c_101 => ?_)
                  · skip
                    refine lv_iinc (v := nI (t + 1)) (lv' := [(5, .int (nI (t + 1))), (6, .int (ke (((100 * t) + (10 * b)) + d))), (0, .ref (q 0)), (1, .int (nI a)), (2, .int (nI b)), (3, .int (nI d)), (4, .int v)]) (k := 6) S.1 S.2.1 dX6_since_107 hl rfl (nI_1 _) (by decide) rfl (fun ls hl => ?_)
                    refine lv_goto (tgt := 61) S.1 S.2.1 dX6_since_110 (by decide) ?_
                    exact ih61 (t + 1) (fj_step hf (by omega) (by simp only [fwM, eq_false c_94, eq_true c_101, eq_self, Nat.add_zero, decide_false, decide_true, Bool.not_true, Bool.not_false, Bool.and_true, Bool.true_and, Bool.and_false, Bool.false_and, Bool.or_true, Bool.true_or, Bool.or_false, Bool.false_or, ↓reduceIte, cond_true, cond_false, bI, and_true, true_and, and_false, false_and, or_true, true_or, or_false, false_or, not_true_eq_false, not_false_eq_true, if_true, if_false, Bool.false_eq_true, reduceCtorEq, ite_true, ite_false])) (by omega) (by omega) _ _ _ hW (lv_sub hl [2, 3, 4, 5, 6, 0] rfl)
                  · skip
                    refine lv_iload S.1 S.2.1 dX6_since_104 (lv_at hl 6 rfl) ?_
                    exact hR _ _ _ _ _ _ _ _ dX6_since_106 rfl (Nat.le_of_ble_eq_true rfl) (Nat.le_of_ble_eq_true rfl) hW ⟨(by simp only [sinM, c_10, c_18, c_32, c_51, hca, hcb, hcd, if_true]; rw [fj_found hf (by omega) (by simp only [fwM, eq_false c_94, eq_false c_101, eq_self, Nat.add_zero, decide_false, decide_true, Bool.not_true, Bool.not_false, Bool.and_true, Bool.true_and, Bool.and_false, Bool.false_and, Bool.or_true, Bool.true_or, Bool.or_false, Bool.false_or, ↓reduceIte, cond_true, cond_false, bI, and_true, true_and, and_false, false_and, or_true, true_or, or_false, false_or, not_true_eq_false, not_false_eq_true, if_true, if_false, Bool.false_eq_true, reduceCtorEq, ite_true, ite_false])]; rfl), rfl⟩
          exact L61 ((ac + 1) + 1) a rfl (by omega) (by omega) _ _ _ hW (lv_sub hl [1, 2, 3, 4, 5, 0] rfl)
        · skip
          refine lv_sipush (v := (-1002)) S.1 S.2.1 dX6_since_54 (by decide) ?_
          exact hR _ _ _ _ _ _ _ _ dX6_since_57 rfl (Nat.le_of_ble_eq_true rfl) (Nat.le_of_ble_eq_true rfl) hW ⟨(by simp only [sinM, hca, hcb, hcd, c_10, c_18, c_32, c_51, eq_self, Nat.add_zero, decide_false, decide_true, Bool.not_true, Bool.not_false, Bool.and_true, Bool.true_and, Bool.and_false, Bool.false_and, Bool.or_true, Bool.true_or, Bool.or_false, Bool.false_or, ↓reduceIte, cond_true, cond_false, bI, and_true, true_and, and_false, false_and, or_true, true_or, or_false, false_or, not_true_eq_false, not_false_eq_true, if_true, if_false, Bool.false_eq_true, reduceCtorEq, ite_true, ite_false]), rfl⟩
      · skip
        refine lv_sipush (v := (-1001)) S.1 S.2.1 dX6_since_35 (by decide) ?_
        exact hR _ _ _ _ _ _ _ _ dX6_since_38 rfl (Nat.le_of_ble_eq_true rfl) (Nat.le_of_ble_eq_true rfl) hW ⟨(by simp only [sinM, c_10, c_18, c_32, eq_self, Nat.add_zero, decide_false, decide_true, Bool.not_true, Bool.not_false, Bool.and_true, Bool.true_and, Bool.and_false, Bool.false_and, Bool.or_true, Bool.true_or, Bool.or_false, Bool.false_or, ↓reduceIte, cond_true, cond_false, bI, and_true, true_and, and_false, false_and, or_true, true_or, or_false, false_or, not_true_eq_false, not_false_eq_true, if_true, if_false, Bool.false_eq_true, reduceCtorEq, ite_true, ite_false]), rfl⟩
abbrev r_X6_marks : Room := { frames := 0, cells := 0, slots := 0, locals := 0 }
theorem v_X6_marks : yX6_marks.cls ≠ "java/lang/invoke/MethodHandle" ∧ yX6_marks.cls ≠ "java/lang/invoke/VarHandle" ∧ (parseMethodDescriptor yX6_marks.desc).map (fun d => d.parameters.length) = some 1 := by decide +kernel
set_option maxRecDepth 100000 in
set_option maxHeartbeats 4000000 in
theorem c_X6_marks {l : Launch} {D : va_G} {cI cZ cF : ClassId} {q : Nat → Nat} {g : Gr} {fi ke : Nat → Int32} {ac : Nat} {mk : Int32} {iv : Nat → Int32} {x : Int32}  : cI_ l D cI cZ cF yX6_marks wsX6_marks r_X6_marks [.ref (q 0), .int x] (wM q cI cZ cF g fi ke ac mk iv) (fun r u => (mrkM g x = true → r = mk ∧ u = wM q cI cZ cF g fi ke ac x iv) ∧ (mrkM g x = false → r = (-1002) ∧ u = wM q cI cZ cF g fi ke ac mk iv)) 0 0 := by
  refine cI_of (cc := cX6_marks) (maxL := 3) (rt := .int) (plainFor_of_name (by decide +kernel)) rfl (Nat.le_of_ble_eq_true rfl) ?_
  intro p e s m args below meth c A Q ls S hk hW hl hR
  have hl : lv_has ls 3 [(0, .ref (q 0)), (1, .int x)] := hl
  have hwsX60 : ∀ x ∈ wsX60, x ∈ wsX6_marks := fun x h => List.mem_cons_of_mem _ (List.mem_append_right _ h)
  refine lv_aload_n S.1 S.2.1 dX6_marks_0 rfl (lv_at hl 0 rfl) ?_
  refine lv_iconst (v := nI 0) S.1 S.2.1 dX6_marks_1 (by decide) ?_
  refine pf (ty := .int) (w' := wM q cI cZ cF g fi ke ac mk iv) S hk hW 0 rfl rfl hwsX60 tyX6 tyX6_ok nmX6 0 (by decide) 1 rfl rfl (by decide +kernel) rfl rfl (Nat.le_of_ble_eq_true rfl) dX6_marks_2 rfl (fun H locs hW => ?_)
  refine lv_iload_n S.1 S.2.1 dX6_marks_5 rfl (lv_at hl 1 rfl) ?_
  refine lv_if_lt (tgt := 18) S.1 S.2.1 dX6_marks_6 (by decide) (fun c_6 => ?_) (fun c_6 => ?_)
  · skip
    refine lv_sipush (v := (-1002)) S.1 S.2.1 dX6_marks_18 (by decide) ?_
    exact hR _ _ _ _ _ _ _ _ dX6_marks_21 rfl (Nat.le_of_ble_eq_true rfl) (Nat.le_of_ble_eq_true rfl) hW ⟨fun h => absurd h (by simp only [mrkM, eq_true c_6, eq_self, Nat.add_zero, decide_false, decide_true, Bool.not_true, Bool.not_false, Bool.and_true, Bool.true_and, Bool.and_false, Bool.false_and, Bool.or_true, Bool.true_or, Bool.or_false, Bool.false_or, ↓reduceIte, cond_true, cond_false, bI, and_true, true_and, and_false, false_and, or_true, true_or, or_false, false_or, not_true_eq_false, not_false_eq_true, if_true, if_false, Bool.false_eq_true, reduceCtorEq, ite_true, ite_false]), fun _ => ⟨rfl, rfl⟩⟩
  · skip
    refine lv_iload_n S.1 S.2.1 dX6_marks_9 rfl (lv_at hl 1 rfl) ?_
    refine lv_aload_n S.1 S.2.1 dX6_marks_10 rfl (lv_at hl 0 rfl) ?_
    refine gf S hk hW 0 rfl rfl hwsX60 1 (by decide) 2 rfl rfl dX6_marks_11 ?_
    refine lv_ishr S.1 S.2.1 dX6_marks_14 ?_
    refine lv_if_eq (tgt := 22) S.1 S.2.1 dX6_marks_15 (by decide) (fun c_15 => ?_) (fun c_15 => ?_)
    · skip
      refine lv_aload_n S.1 S.2.1 dX6_marks_22 rfl (lv_at hl 0 rfl) ?_
      refine gf S hk hW 0 rfl rfl hwsX60 11 (by decide) 3 rfl rfl dX6_marks_23 ?_
      refine lv_istore_n (lv' := [(2, .int mk), (0, .ref (q 0)), (1, .int x)]) S.1 S.2.1 dX6_marks_26 rfl hl (by decide) rfl (fun ls hl => ?_)
      refine lv_aload_n S.1 S.2.1 dX6_marks_27 rfl (lv_at hl 1 rfl) ?_
      refine lv_iload_n S.1 S.2.1 dX6_marks_28 rfl (lv_at hl 2 rfl) ?_
      refine pf (ty := .int) (w' := wM q cI cZ cF g fi ke ac x iv) S hk hW 0 rfl rfl hwsX60 tyX6 tyX6_ok nmX6 11 (by decide) 3 rfl rfl (by decide +kernel) rfl rfl (Nat.le_of_ble_eq_true rfl) dX6_marks_29 rfl (fun H locs hW => ?_)
      refine lv_iload_n S.1 S.2.1 dX6_marks_32 rfl (lv_at hl 0 rfl) ?_
      exact hR _ _ _ _ _ _ _ _ dX6_marks_33 rfl (Nat.le_of_ble_eq_true rfl) (Nat.le_of_ble_eq_true rfl) hW ⟨fun _ => ⟨rfl, rfl⟩, fun h => absurd h (by simp only [mrkM, eq_false c_6, eq_true c_15, eq_self, Nat.add_zero, decide_false, decide_true, Bool.not_true, Bool.not_false, Bool.and_true, Bool.true_and, Bool.and_false, Bool.false_and, Bool.or_true, Bool.true_or, Bool.or_false, Bool.false_or, ↓reduceIte, cond_true, cond_false, bI, and_true, true_and, and_false, false_and, or_true, true_or, or_false, false_or, not_true_eq_false, not_false_eq_true, if_true, if_false, Bool.false_eq_true, reduceCtorEq, ite_true, ite_false])⟩
    · skip
      refine lv_sipush (v := (-1002)) S.1 S.2.1 dX6_marks_18 (by decide) ?_
      exact hR _ _ _ _ _ _ _ _ dX6_marks_21 rfl (Nat.le_of_ble_eq_true rfl) (Nat.le_of_ble_eq_true rfl) hW ⟨fun h => absurd h (by simp only [mrkM, eq_false c_6, eq_false c_15, eq_self, Nat.add_zero, decide_false, decide_true, Bool.not_true, Bool.not_false, Bool.and_true, Bool.true_and, Bool.and_false, Bool.false_and, Bool.or_true, Bool.true_or, Bool.or_false, Bool.false_or, ↓reduceIte, cond_true, cond_false, bI, and_true, true_and, and_false, false_and, or_true, true_or, or_false, false_or, not_true_eq_false, not_false_eq_true, if_true, if_false, Bool.false_eq_true, reduceCtorEq, ite_true, ite_false]), fun _ => ⟨rfl, rfl⟩⟩
abbrev r_X6_worst : Room := { frames := 3, cells := 0, slots := 0, locals := 68 }
theorem v_X6_worst : yX6_worst.cls ≠ "java/lang/invoke/MethodHandle" ∧ yX6_worst.cls ≠ "java/lang/invoke/VarHandle" ∧ (parseMethodDescriptor yX6_worst.desc).map (fun d => d.parameters.length) = some 0 := by decide +kernel
set_option maxRecDepth 100000 in
set_option maxHeartbeats 4000000 in
theorem c_X6_worst {l : Launch} {D : va_G} {cI cZ cF : ClassId} {q : Nat → Nat} {g : Gr} {fi ke : Nat → Int32} {ac : Nat} {mk : Int32} {iv : Nat → Int32}  (G : Gok g) : cI_ l D cI cZ cF yX6_worst wsX6_worst r_X6_worst [.ref (q 0)] (wM q cI cZ cF g fi ke ac mk iv) (fun r u => r = wrM (lrn g (-1000) (-1000)).1 (gN g) mk ∧ ∃ fi', u = wM q cI cZ cF g fi' ke ac mk iv) 0 0 := by
  refine cI_of (cc := cX6_worst) (maxL := 4) (rt := .int) (plainFor_of_name (by decide +kernel)) rfl (Nat.le_of_ble_eq_true rfl) ?_
  intro p e s m args below meth c A Q ls S hk hW hl hR
  have hl : lv_has ls 4 [(0, .ref (q 0))] := hl
  have hwsX60 : ∀ x ∈ wsX60, x ∈ wsX6_worst := fun x h => List.mem_cons_of_mem _ (List.mem_append_right _ h)
  have hN := Gok_N G; have hN2 := Gok_N2 G; have hKK := Gok_K G
  refine lv_aload_n S.1 S.2.1 dX6_worst_0 rfl (lv_at hl 0 rfl) ?_
  refine lv_iconst (v := nI 0) S.1 S.2.1 dX6_worst_1 (by decide) ?_
  refine pf (ty := .int) (w' := wM q cI cZ cF g fi ke ac mk iv) S hk hW 0 rfl rfl hwsX60 tyX6 tyX6_ok nmX6 0 (by decide) 1 rfl rfl (by decide +kernel) rfl rfl (Nat.le_of_ble_eq_true rfl) dX6_worst_2 rfl (fun H locs hW => ?_)
  refine lv_aload_n S.1 S.2.1 dX6_worst_5 rfl (lv_at hl 0 rfl) ?_
  refine lv_sipush (v := (-1000)) S.1 S.2.1 dX6_worst_6 (by decide) ?_
  refine lv_sipush (v := (-1000)) S.1 S.2.1 dX6_worst_9 (by decide) ?_
  refine kVi S (c_X6_learn (l := l) (D := D) (cI := cI) (cZ := cZ) (cF := cF) G) (cwV 2 S.2.2.2.2 gX6_worst_X6_learn rfl rfl rfl ⟨rfl, v_X6_learn⟩ ⟨(Nat.le_of_ble_eq_true rfl), (Nat.le_of_ble_eq_true rfl)⟩) hk hW 0 rfl rfl rfl rfl hl rfl (Nat.le_of_ble_eq_true rfl) dX6_worst_12 ⟨(Nat.le_of_ble_eq_true rfl), (Nat.le_of_ble_eq_true rfl)⟩ (fun r u H locs hp hW => ?_)
  obtain ⟨rfl, rfl⟩ := hp
  refine lv_pop S.1 S.2.1 dX6_worst_15 rfl ?_
  refine lv_iconst (v := nI 0) S.1 S.2.1 dX6_worst_16 (by decide) ?_
  refine lv_istore_n (lv' := [(1, .int (nI 0)), (0, .ref (q 0))]) S.1 S.2.1 dX6_worst_17 rfl hl (by decide) rfl (fun ls hl => ?_)
  refine lv_iconst (v := nI 0) S.1 S.2.1 dX6_worst_18 (by decide) ?_
  refine lv_istore_n (lv' := [(2, .int (nI 0)), (1, .int (nI 0)), (0, .ref (q 0))]) S.1 S.2.1 dX6_worst_19 rfl hl (by decide) rfl (fun ls hl => ?_)
  have L20 : ∀ (dd : Nat), ∀ (z : Int32), ∀ (a : Nat), (z = woM (lrn g (-1000) (-1000)).1 (gN g) mk a) → (anyN (fun a => anyN (wbM (lrn g (-1000) (-1000)).1 (gN g) mk a) (gN g)) a = false) → (a ≤ gN g) → gN g < a + dd → ∀ (H : Heap) (locs : List Loc) (ls : Array Slot), wd D A s H locs (wM q cI cZ cF g ((lrn g (-1000) (-1000)).1) ke ac mk iv) → lv_has ls 4 [(0, .ref (q 0)), (1, .int z), (2, .int (nI a))] → W p l e r_X6_worst s m args below meth c H locs 0 0 Q (F0 m 20 ls []) := by
    intro dd
    induction dd with
    | zero => intros; omega
    | succ dd ih20 =>
      intro z a hz hf ha hdd H locs ls hW hl
      refine lv_iload_n S.1 S.2.1 dX6_worst_20 rfl (lv_at hl 2 rfl) ?_
      refine lv_aload_n S.1 S.2.1 dX6_worst_21 rfl (lv_at hl 0 rfl) ?_
      refine gf S hk hW 0 rfl rfl hwsX60 1 (by decide) 2 rfl rfl dX6_worst_22 ?_
      refine icge_n (tgt := 113) S (by omega) (by omega) dX6_worst_25 (by decide) (fun c_25 => ?_) (fun c_25 => ?_)
      · skip
        refine lv_iload_n S.1 S.2.1 dX6_worst_113 rfl (lv_at hl 1 rfl) ?_
        exact hR _ _ _ _ _ _ _ _ dX6_worst_114 rfl (Nat.le_of_ble_eq_true rfl) (Nat.le_of_ble_eq_true rfl) hW ⟨(by have ea : a = gN g := (by omega); have hf9 := hf; rw [ea] at hf9 hz; rw [hz, wrM, hf9]; rfl), ⟨_, rfl⟩⟩
      · skip
        refine lv_iconst (v := nI 0) S.1 S.2.1 dX6_worst_28 (by decide) ?_
        refine lv_istore_n (lv' := [(3, .int (nI 0)), (0, .ref (q 0)), (1, .int z), (2, .int (nI a))]) S.1 S.2.1 dX6_worst_29 rfl hl (by decide) rfl (fun ls hl => ?_)
        have L30 : ∀ (dd : Nat), ∀ (z2 : Int32), ∀ (b : Nat), (z2 = wiM (lrn g (-1000) (-1000)).1 (gN g) mk a (woM (lrn g (-1000) (-1000)).1 (gN g) mk a) b) → (anyN (wbM (lrn g (-1000) (-1000)).1 (gN g) mk a) b = false) → (b ≤ gN g) → gN g < b + dd → ∀ (H : Heap) (locs : List Loc) (ls : Array Slot), wd D A s H locs (wM q cI cZ cF g ((lrn g (-1000) (-1000)).1) ke ac mk iv) → lv_has ls 4 [(0, .ref (q 0)), (1, .int z2), (2, .int (nI a)), (3, .int (nI b))] → W p l e r_X6_worst s m args below meth c H locs 0 0 Q (F0 m 30 ls []) := by
          intro dd
          induction dd with
          | zero => intros; omega
          | succ dd ih30 =>
            intro z2 b hz2 hf2 hb hdd H locs ls hW hl
            refine lv_iload_n S.1 S.2.1 dX6_worst_30 rfl (lv_at hl 3 rfl) ?_
            refine lv_aload_n S.1 S.2.1 dX6_worst_31 rfl (lv_at hl 0 rfl) ?_
            refine gf S hk hW 0 rfl rfl hwsX60 1 (by decide) 2 rfl rfl dX6_worst_32 ?_
            refine icge_n (tgt := 107) S (by omega) (by omega) dX6_worst_35 (by decide) (fun c_35 => ?_) (fun c_35 => ?_)
            · skip
              refine lv_iinc (v := nI (a + 1)) (lv' := [(2, .int (nI (a + 1))), (0, .ref (q 0)), (1, .int z2), (3, .int (nI b))]) (k := 2) S.1 S.2.1 dX6_worst_107 hl rfl (nI_1 _) (by decide) rfl (fun ls hl => ?_)
              refine lv_goto (tgt := 20) S.1 S.2.1 dX6_worst_110 (by decide) ?_
              exact ih20 z2 (a + 1) (by rw [hz2, show b = gN g by omega]; rfl) (by have e9 : b = gN g := (by omega); have hf8 := hf2; rw [e9] at hf8; simp only [anyN, hf, Bool.false_or]; exact hf8) (by omega) (by omega) _ _ _ hW (lv_sub hl [1, 2, 0] rfl)
            · skip
              refine lv_aload_n S.1 S.2.1 dX6_worst_38 rfl (lv_at hl 0 rfl) ?_
              refine lv_iload_n S.1 S.2.1 dX6_worst_39 rfl (lv_at hl 2 rfl) ?_
              refine lv_iload_n S.1 S.2.1 dX6_worst_40 rfl (lv_at hl 3 rfl) ?_
              refine kVi S (c_X6_farOf (l := l) (D := D) (cI := cI) (cZ := cZ) (cF := cF) (by first | assumption | omega) (by first | assumption | omega)) (cwV 2 S.2.2.2.2 gX6_worst_X6_farOf rfl rfl rfl ⟨rfl, v_X6_farOf⟩ ⟨(Nat.le_of_ble_eq_true rfl), (Nat.le_of_ble_eq_true rfl)⟩) hk hW 0 rfl rfl rfl rfl hl rfl (Nat.le_of_ble_eq_true rfl) dX6_worst_41 ⟨(Nat.le_of_ble_eq_true rfl), (Nat.le_of_ble_eq_true rfl)⟩ (fun r u H locs hp hW => ?_)
              obtain ⟨rfl, rfl⟩ := hp
              refine lv_sipush (v := (-1000)) S.1 S.2.1 dX6_worst_44 (by decide) ?_
              refine lv_icmp_eq (tgt := 101) S.1 S.2.1 dX6_worst_47 (by decide) (fun c_47 => ?_) (fun c_47 => ?_)
              · skip
                refine lv_iinc (v := nI (b + 1)) (lv' := [(3, .int (nI (b + 1))), (0, .ref (q 0)), (1, .int z2), (2, .int (nI a))]) (k := 3) S.1 S.2.1 dX6_worst_101 hl rfl (nI_1 _) (by decide) rfl (fun ls hl => ?_)
                refine lv_goto (tgt := 30) S.1 S.2.1 dX6_worst_104 (by decide) ?_
                exact ih30 z2 (b + 1) (by simp only [wiM, ← hz2, eq_true c_47, eq_self, Nat.add_zero, decide_false, decide_true, Bool.not_true, Bool.not_false, Bool.and_true, Bool.true_and, Bool.and_false, Bool.false_and, Bool.or_true, Bool.true_or, Bool.or_false, Bool.false_or, ↓reduceIte, cond_true, cond_false, bI, and_true, true_and, and_false, false_and, or_true, true_or, or_false, false_or, not_true_eq_false, not_false_eq_true, if_true, if_false, Bool.false_eq_true, reduceCtorEq, ite_true, ite_false]) (by simp only [anyN, hf2, wbM, eq_true c_47, eq_self, Nat.add_zero, decide_false, decide_true, Bool.not_true, Bool.not_false, Bool.and_true, Bool.true_and, Bool.and_false, Bool.false_and, Bool.or_true, Bool.true_or, Bool.or_false, Bool.false_or, ↓reduceIte, cond_true, cond_false, bI, and_true, true_and, and_false, false_and, or_true, true_or, or_false, false_or, not_true_eq_false, not_false_eq_true, if_true, if_false, Bool.false_eq_true, reduceCtorEq, ite_true, ite_false]) (by omega) (by omega) _ _ _ hW (lv_sub hl [1, 2, 3, 0] rfl)
              · skip
                refine lv_aload_n S.1 S.2.1 dX6_worst_50 rfl (lv_at hl 0 rfl) ?_
                refine lv_iload_n S.1 S.2.1 dX6_worst_51 rfl (lv_at hl 2 rfl) ?_
                refine lv_iload_n S.1 S.2.1 dX6_worst_52 rfl (lv_at hl 3 rfl) ?_
                refine kVi S (c_X6_nearOf (l := l) (D := D) (cI := cI) (cZ := cZ) (cF := cF) G (by first | assumption | omega) (by first | assumption | omega)) (cwV 2 S.2.2.2.2 gX6_worst_X6_nearOf rfl rfl rfl ⟨rfl, v_X6_nearOf⟩ ⟨(Nat.le_of_ble_eq_true rfl), (Nat.le_of_ble_eq_true rfl)⟩) hk hW 0 rfl rfl rfl rfl hl rfl (Nat.le_of_ble_eq_true rfl) dX6_worst_53 ⟨(Nat.le_of_ble_eq_true rfl), (Nat.le_of_ble_eq_true rfl)⟩ (fun r u H locs hp hW => ?_)
                obtain ⟨rfl, rfl⟩ := hp
                refine lv_sipush (v := (-1000)) S.1 S.2.1 dX6_worst_56 (by decide) ?_
                refine lv_icmp_ne (tgt := 66) S.1 S.2.1 dX6_worst_59 (by decide) (fun c_59 => ?_) (fun c_59 => ?_)
                · skip
                  refine lv_aload_n S.1 S.2.1 dX6_worst_66 rfl (lv_at hl 0 rfl) ?_
                  refine lv_iload_n S.1 S.2.1 dX6_worst_67 rfl (lv_at hl 2 rfl) ?_
                  refine lv_iload_n S.1 S.2.1 dX6_worst_68 rfl (lv_at hl 3 rfl) ?_
                  refine kVi S (c_X6_nearOf (l := l) (D := D) (cI := cI) (cZ := cZ) (cF := cF) G (by first | assumption | omega) (by first | assumption | omega)) (cwV 2 S.2.2.2.2 gX6_worst_X6_nearOf rfl rfl rfl ⟨rfl, v_X6_nearOf⟩ ⟨(Nat.le_of_ble_eq_true rfl), (Nat.le_of_ble_eq_true rfl)⟩) hk hW 0 rfl rfl rfl rfl hl rfl (Nat.le_of_ble_eq_true rfl) dX6_worst_69 ⟨(Nat.le_of_ble_eq_true rfl), (Nat.le_of_ble_eq_true rfl)⟩ (fun r u H locs hp hW => ?_)
                  obtain ⟨rfl, rfl⟩ := hp
                  refine lv_aload_n S.1 S.2.1 dX6_worst_72 rfl (lv_at hl 0 rfl) ?_
                  refine lv_iload_n S.1 S.2.1 dX6_worst_73 rfl (lv_at hl 2 rfl) ?_
                  refine lv_iload_n S.1 S.2.1 dX6_worst_74 rfl (lv_at hl 3 rfl) ?_
                  refine kVi S (c_X6_farOf (l := l) (D := D) (cI := cI) (cZ := cZ) (cF := cF) (by first | assumption | omega) (by first | assumption | omega)) (cwV 2 S.2.2.2.2 gX6_worst_X6_farOf rfl rfl rfl ⟨rfl, v_X6_farOf⟩ ⟨(Nat.le_of_ble_eq_true rfl), (Nat.le_of_ble_eq_true rfl)⟩) hk hW 0 rfl rfl rfl rfl hl rfl (Nat.le_of_ble_eq_true rfl) dX6_worst_75 ⟨(Nat.le_of_ble_eq_true rfl), (Nat.le_of_ble_eq_true rfl)⟩ (fun r u H locs hp hW => ?_)
                  obtain ⟨rfl, rfl⟩ := hp
                  refine lv_isub S.1 S.2.1 dX6_worst_78 ?_
                  refine lv_iload_n S.1 S.2.1 dX6_worst_79 rfl (lv_at hl 1 rfl) ?_
                  refine lv_icmp_le (tgt := 99) S.1 S.2.1 dX6_worst_80 (by decide) (fun c_80 => ?_) (fun c_80 => ?_)
                  · skip
                    refine lv_iload_n S.1 S.2.1 dX6_worst_99 rfl (lv_at hl 1 rfl) ?_
                    refine lv_istore_n (lv' := [(1, .int z2), (0, .ref (q 0)), (2, .int (nI a)), (3, .int (nI b))]) S.1 S.2.1 dX6_worst_100 rfl hl (by decide) rfl (fun ls hl => ?_)
                    refine lv_iinc (v := nI (b + 1)) (lv' := [(3, .int (nI (b + 1))), (1, .int z2), (0, .ref (q 0)), (2, .int (nI a))]) (k := 3) S.1 S.2.1 dX6_worst_101 hl rfl (nI_1 _) (by decide) rfl (fun ls hl => ?_)
                    refine lv_goto (tgt := 30) S.1 S.2.1 dX6_worst_104 (by decide) ?_
                    exact ih30 z2 (b + 1) (by simp only [wiM, ← hz2, eq_false c_47, eq_true c_80, eq_self, Nat.add_zero, decide_false, decide_true, Bool.not_true, Bool.not_false, Bool.and_true, Bool.true_and, Bool.and_false, Bool.false_and, Bool.or_true, Bool.true_or, Bool.or_false, Bool.false_or, ↓reduceIte, cond_true, cond_false, bI, and_true, true_and, and_false, false_and, or_true, true_or, or_false, false_or, not_true_eq_false, not_false_eq_true, if_true, if_false, Bool.false_eq_true, reduceCtorEq, ite_true, ite_false]) (by simp only [anyN, hf2, wbM, eq_false c_47, eq_false c_59, eq_self, Nat.add_zero, decide_false, decide_true, Bool.not_true, Bool.not_false, Bool.and_true, Bool.true_and, Bool.and_false, Bool.false_and, Bool.or_true, Bool.true_or, Bool.or_false, Bool.false_or, ↓reduceIte, cond_true, cond_false, bI, and_true, true_and, and_false, false_and, or_true, true_or, or_false, false_or, not_true_eq_false, not_false_eq_true, if_true, if_false, Bool.false_eq_true, reduceCtorEq, ite_true, ite_false]) (by omega) (by omega) _ _ _ hW (lv_sub hl [2, 1, 3, 0] rfl)
                  · skip
                    refine lv_aload_n S.1 S.2.1 dX6_worst_83 rfl (lv_at hl 0 rfl) ?_
                    refine lv_iload_n S.1 S.2.1 dX6_worst_84 rfl (lv_at hl 2 rfl) ?_
                    refine lv_iload_n S.1 S.2.1 dX6_worst_85 rfl (lv_at hl 3 rfl) ?_
                    refine kVi S (c_X6_nearOf (l := l) (D := D) (cI := cI) (cZ := cZ) (cF := cF) G (by first | assumption | omega) (by first | assumption | omega)) (cwV 2 S.2.2.2.2 gX6_worst_X6_nearOf rfl rfl rfl ⟨rfl, v_X6_nearOf⟩ ⟨(Nat.le_of_ble_eq_true rfl), (Nat.le_of_ble_eq_true rfl)⟩) hk hW 0 rfl rfl rfl rfl hl rfl (Nat.le_of_ble_eq_true rfl) dX6_worst_86 ⟨(Nat.le_of_ble_eq_true rfl), (Nat.le_of_ble_eq_true rfl)⟩ (fun r u H locs hp hW => ?_)
                    obtain ⟨rfl, rfl⟩ := hp
                    refine lv_aload_n S.1 S.2.1 dX6_worst_89 rfl (lv_at hl 0 rfl) ?_
                    refine lv_iload_n S.1 S.2.1 dX6_worst_90 rfl (lv_at hl 2 rfl) ?_
                    refine lv_iload_n S.1 S.2.1 dX6_worst_91 rfl (lv_at hl 3 rfl) ?_
                    refine kVi S (c_X6_farOf (l := l) (D := D) (cI := cI) (cZ := cZ) (cF := cF) (by first | assumption | omega) (by first | assumption | omega)) (cwV 2 S.2.2.2.2 gX6_worst_X6_farOf rfl rfl rfl ⟨rfl, v_X6_farOf⟩ ⟨(Nat.le_of_ble_eq_true rfl), (Nat.le_of_ble_eq_true rfl)⟩) hk hW 0 rfl rfl rfl rfl hl rfl (Nat.le_of_ble_eq_true rfl) dX6_worst_92 ⟨(Nat.le_of_ble_eq_true rfl), (Nat.le_of_ble_eq_true rfl)⟩ (fun r u H locs hp hW => ?_)
                    obtain ⟨rfl, rfl⟩ := hp
                    refine lv_isub S.1 S.2.1 dX6_worst_95 ?_
                    refine lv_goto (tgt := 100) S.1 S.2.1 dX6_worst_96 (by decide) ?_
                    refine lv_istore_n (lv' := [(1, .int ((nrM ((lrn g (-1000) (-1000)).1) mk a b (gN g)) - (cfr ((lrn g (-1000) (-1000)).1) a b))), (0, .ref (q 0)), (2, .int (nI a)), (3, .int (nI b))]) S.1 S.2.1 dX6_worst_100 rfl hl (by decide) rfl (fun ls hl => ?_)
                    refine lv_iinc (v := nI (b + 1)) (lv' := [(3, .int (nI (b + 1))), (1, .int ((nrM ((lrn g (-1000) (-1000)).1) mk a b (gN g)) - (cfr ((lrn g (-1000) (-1000)).1) a b))), (0, .ref (q 0)), (2, .int (nI a))]) (k := 3) S.1 S.2.1 dX6_worst_101 hl rfl (nI_1 _) (by decide) rfl (fun ls hl => ?_)
                    refine lv_goto (tgt := 30) S.1 S.2.1 dX6_worst_104 (by decide) ?_
                    exact ih30 ((nrM ((lrn g (-1000) (-1000)).1) mk a b (gN g)) - (cfr ((lrn g (-1000) (-1000)).1) a b)) (b + 1) (by simp only [wiM, ← hz2, eq_false c_47, eq_false c_80, eq_self, Nat.add_zero, decide_false, decide_true, Bool.not_true, Bool.not_false, Bool.and_true, Bool.true_and, Bool.and_false, Bool.false_and, Bool.or_true, Bool.true_or, Bool.or_false, Bool.false_or, ↓reduceIte, cond_true, cond_false, bI, and_true, true_and, and_false, false_and, or_true, true_or, or_false, false_or, not_true_eq_false, not_false_eq_true, if_true, if_false, Bool.false_eq_true, reduceCtorEq, ite_true, ite_false]) (by simp only [anyN, hf2, wbM, eq_false c_47, eq_false c_59, eq_self, Nat.add_zero, decide_false, decide_true, Bool.not_true, Bool.not_false, Bool.and_true, Bool.true_and, Bool.and_false, Bool.false_and, Bool.or_true, Bool.true_or, Bool.or_false, Bool.false_or, ↓reduceIte, cond_true, cond_false, bI, and_true, true_and, and_false, false_and, or_true, true_or, or_false, false_or, not_true_eq_false, not_false_eq_true, if_true, if_false, Bool.false_eq_true, reduceCtorEq, ite_true, ite_false]) (by omega) (by omega) _ _ _ hW (lv_sub hl [2, 1, 3, 0] rfl)
                · skip
                  refine lv_sipush (v := (-1000)) S.1 S.2.1 dX6_worst_62 (by decide) ?_
                  exact hR _ _ _ _ _ _ _ _ dX6_worst_65 rfl (Nat.le_of_ble_eq_true rfl) (Nat.le_of_ble_eq_true rfl) hW ⟨(by have hb9 : anyN (fun a => anyN (wbM (lrn g (-1000) (-1000)).1 (gN g) mk a) (gN g)) (gN g) = true := anyN_true (i := a) (by omega) (anyN_true (i := b) (by omega) (by simp only [wbM, eq_false c_47, eq_true c_59, eq_self, Nat.add_zero, decide_false, decide_true, Bool.not_true, Bool.not_false, Bool.and_true, Bool.true_and, Bool.and_false, Bool.false_and, Bool.or_true, Bool.true_or, Bool.or_false, Bool.false_or, ↓reduceIte, cond_true, cond_false, bI, and_true, true_and, and_false, false_and, or_true, true_or, or_false, false_or, not_true_eq_false, not_false_eq_true, if_true, if_false, Bool.false_eq_true, reduceCtorEq, ite_true, ite_false])); rw [wrM, hb9]; rfl), ⟨_, rfl⟩⟩
        exact L30 ((gN g) + 1) z 0 hz rfl (by omega) (by omega) _ _ _ hW (lv_sub hl [1, 2, 3, 0] rfl)
  exact L20 ((gN g) + 1) (nI 0) 0 rfl rfl (by omega) (by omega) _ _ _ hW (lv_sub hl [2, 1, 0] rfl)
abbrev r_X6_count : Room := { frames := 2, cells := 0, slots := 0, locals := 43 }
theorem v_X6_count : yX6_count.cls ≠ "java/lang/invoke/MethodHandle" ∧ yX6_count.cls ≠ "java/lang/invoke/VarHandle" ∧ (parseMethodDescriptor yX6_count.desc).map (fun d => d.parameters.length) = some 1 := by decide +kernel
set_option maxRecDepth 100000 in
set_option maxHeartbeats 4000000 in
theorem c_X6_count {l : Launch} {D : va_G} {cI cZ cF : ClassId} {q : Nat → Nat} {g : Gr} {fi ke : Nat → Int32} {ac : Nat} {mk : Int32} {iv : Nat → Int32} {x : Int32} (G : Gok g) : cI_ l D cI cZ cF yX6_count wsX6_count r_X6_count [.ref (q 0), .int x] (wM q cI cZ cF g fi ke ac mk iv) (fun r u => (r = if x = 0 then nI (gN g) else if x = nI 1 then nI (gK g) else if x = nI 2 then nI (cntT g (gK g)) else if x = nI 3 then nI (clMO (lrn g (-1000) (-1000)).1 (gN g) (gN g)) else if x = nI 4 then bsM mk 10 else (-1002)) ∧ ∃ fi', u = wM q cI cZ cF g fi' ke ac mk iv) 0 0 := by
  refine cI_of (cc := cX6_count) (maxL := 5) (rt := .int) (plainFor_of_name (by decide +kernel)) rfl (Nat.le_of_ble_eq_true rfl) ?_
  intro p e s m args below meth c A Q ls S hk hW hl hR
  have hl : lv_has ls 5 [(0, .ref (q 0)), (1, .int x)] := hl
  have hwsX60 : ∀ x ∈ wsX60, x ∈ wsX6_count := fun x h => List.mem_cons_of_mem _ (List.mem_append_right _ h)
  have hN := Gok_N G; have hN2 := Gok_N2 G; have hKK := Gok_K G
  refine lv_aload_n S.1 S.2.1 dX6_count_0 rfl (lv_at hl 0 rfl) ?_
  refine lv_iconst (v := nI 0) S.1 S.2.1 dX6_count_1 (by decide) ?_
  refine pf (ty := .int) (w' := wM q cI cZ cF g fi ke ac mk iv) S hk hW 0 rfl rfl hwsX60 tyX6 tyX6_ok nmX6 0 (by decide) 1 rfl rfl (by decide +kernel) rfl rfl (Nat.le_of_ble_eq_true rfl) dX6_count_2 rfl (fun H locs hW => ?_)
  refine lv_aload_n S.1 S.2.1 dX6_count_5 rfl (lv_at hl 0 rfl) ?_
  refine lv_sipush (v := (-1000)) S.1 S.2.1 dX6_count_6 (by decide) ?_
  refine lv_sipush (v := (-1000)) S.1 S.2.1 dX6_count_9 (by decide) ?_
  refine kVi S (c_X6_learn (l := l) (D := D) (cI := cI) (cZ := cZ) (cF := cF) G) (cwV 2 S.2.2.2.2 gX6_count_X6_learn rfl rfl rfl ⟨rfl, v_X6_learn⟩ ⟨(Nat.le_of_ble_eq_true rfl), (Nat.le_of_ble_eq_true rfl)⟩) hk hW 0 rfl rfl rfl rfl hl rfl (Nat.le_of_ble_eq_true rfl) dX6_count_12 ⟨(Nat.le_of_ble_eq_true rfl), (Nat.le_of_ble_eq_true rfl)⟩ (fun r u H locs hp hW => ?_)
  obtain ⟨rfl, rfl⟩ := hp
  refine lv_pop S.1 S.2.1 dX6_count_15 rfl ?_
  refine lv_iconst (v := nI 0) S.1 S.2.1 dX6_count_16 (by decide) ?_
  refine lv_istore_n (lv' := [(2, .int (nI 0)), (0, .ref (q 0)), (1, .int x)]) S.1 S.2.1 dX6_count_17 rfl hl (by decide) rfl (fun ls hl => ?_)
  refine lv_iconst (v := nI 0) S.1 S.2.1 dX6_count_18 (by decide) ?_
  refine lv_istore_n (lv' := [(3, .int (nI 0)), (2, .int (nI 0)), (0, .ref (q 0)), (1, .int x)]) S.1 S.2.1 dX6_count_19 rfl hl (by decide) rfl (fun ls hl => ?_)
  have L20 : ∀ (dd : Nat), ∀ (n : Nat), ∀ (a : Nat), (n = clMO (lrn g (-1000) (-1000)).1 (gN g) a) → (a ≤ gN g) → gN g < a + dd → ∀ (H : Heap) (locs : List Loc) (ls : Array Slot), wd D A s H locs (wM q cI cZ cF g ((lrn g (-1000) (-1000)).1) ke ac mk iv) → lv_has ls 5 [(0, .ref (q 0)), (1, .int x), (2, .int (nI n)), (3, .int (nI a))] → W p l e r_X6_count s m args below meth c H locs 0 0 Q (F0 m 20 ls []) := by
    intro dd
    induction dd with
    | zero => intros; omega
    | succ dd ih20 =>
      intro n a hn ha hdd H locs ls hW hl
      refine lv_iload_n S.1 S.2.1 dX6_count_20 rfl (lv_at hl 3 rfl) ?_
      refine lv_aload_n S.1 S.2.1 dX6_count_21 rfl (lv_at hl 0 rfl) ?_
      refine gf S hk hW 0 rfl rfl hwsX60 1 (by decide) 2 rfl rfl dX6_count_22 ?_
      refine icge_n (tgt := 79) S (by omega) (by omega) dX6_count_25 (by decide) (fun c_25 => ?_) (fun c_25 => ?_)
      · skip
        refine lv_iload_n S.1 S.2.1 dX6_count_79 rfl (lv_at hl 1 rfl) ?_
        refine lv_if_ne (tgt := 90) S.1 S.2.1 dX6_count_80 (by decide) (fun c_80 => ?_) (fun c_80 => ?_)
        · skip
          refine lv_iload_n S.1 S.2.1 dX6_count_90 rfl (lv_at hl 1 rfl) ?_
          refine lv_iconst (v := nI 1) S.1 S.2.1 dX6_count_91 (by decide) ?_
          refine lv_icmp_ne (tgt := 102) S.1 S.2.1 dX6_count_92 (by decide) (fun c_92 => ?_) (fun c_92 => ?_)
          · skip
            refine lv_iload_n S.1 S.2.1 dX6_count_102 rfl (lv_at hl 1 rfl) ?_
            refine lv_iconst (v := nI 2) S.1 S.2.1 dX6_count_103 (by decide) ?_
            refine lv_icmp_ne (tgt := 114) S.1 S.2.1 dX6_count_104 (by decide) (fun c_104 => ?_) (fun c_104 => ?_)
            · skip
              refine lv_iload_n S.1 S.2.1 dX6_count_114 rfl (lv_at hl 1 rfl) ?_
              refine lv_iconst (v := nI 3) S.1 S.2.1 dX6_count_115 (by decide) ?_
              refine lv_icmp_ne (tgt := 123) S.1 S.2.1 dX6_count_116 (by decide) (fun c_116 => ?_) (fun c_116 => ?_)
              · skip
                refine lv_iload_n S.1 S.2.1 dX6_count_123 rfl (lv_at hl 1 rfl) ?_
                refine lv_iconst (v := nI 4) S.1 S.2.1 dX6_count_124 (by decide) ?_
                refine lv_icmp_ne (tgt := 138) S.1 S.2.1 dX6_count_125 (by decide) (fun c_125 => ?_) (fun c_125 => ?_)
                · skip
                  refine lv_sipush (v := (-1002)) S.1 S.2.1 dX6_count_138 (by decide) ?_
                  exact hR _ _ _ _ _ _ _ _ dX6_count_141 rfl (Nat.le_of_ble_eq_true rfl) (Nat.le_of_ble_eq_true rfl) hW ⟨(by simp only [eq_false c_80, eq_false c_92, eq_false c_104, eq_false c_116, eq_false c_125, eq_self, Nat.add_zero, decide_false, decide_true, Bool.not_true, Bool.not_false, Bool.and_true, Bool.true_and, Bool.and_false, Bool.false_and, Bool.or_true, Bool.true_or, Bool.or_false, Bool.false_or, ↓reduceIte, cond_true, cond_false, bI, and_true, true_and, and_false, false_and, or_true, true_or, or_false, false_or, not_true_eq_false, not_false_eq_true, if_true, if_false, Bool.false_eq_true, reduceCtorEq, ite_true, ite_false]), ⟨_, rfl⟩⟩
                · skip
                  refine lv_aload_n S.1 S.2.1 dX6_count_128 rfl (lv_at hl 0 rfl) ?_
                  refine gf S hk hW 0 rfl rfl hwsX60 11 (by decide) 4 rfl rfl dX6_count_129 ?_
                  refine kSi S (c_X6_bits (l := l) (D := D) (cI := cI) (cZ := cZ) (cF := cF)) (va_cwS 1 S.2.2.2.2 gX6_count_X6_bits rfl rfl rfl v_X6_bits ⟨(Nat.le_of_ble_eq_true rfl), (Nat.le_of_ble_eq_true rfl)⟩) hk hW rfl hl rfl (Nat.le_of_ble_eq_true rfl) dX6_count_132 ⟨(Nat.le_of_ble_eq_true rfl), (Nat.le_of_ble_eq_true rfl)⟩ (fun r u H locs hp hW => ?_)
                  obtain ⟨rfl, rfl⟩ := hp
                  refine lv_goto (tgt := 141) S.1 S.2.1 dX6_count_135 (by decide) ?_
                  exact hR _ _ _ _ _ _ _ _ dX6_count_141 rfl (Nat.le_of_ble_eq_true rfl) (Nat.le_of_ble_eq_true rfl) hW ⟨(by simp only [eq_false c_80, eq_false c_92, eq_false c_104, eq_false c_116, eq_true c_125, eq_self, Nat.add_zero, decide_false, decide_true, Bool.not_true, Bool.not_false, Bool.and_true, Bool.true_and, Bool.and_false, Bool.false_and, Bool.or_true, Bool.true_or, Bool.or_false, Bool.false_or, ↓reduceIte, cond_true, cond_false, bI, and_true, true_and, and_false, false_and, or_true, true_or, or_false, false_or, not_true_eq_false, not_false_eq_true, if_true, if_false, Bool.false_eq_true, reduceCtorEq, ite_true, ite_false]), ⟨_, rfl⟩⟩
              · skip
                refine lv_iload_n S.1 S.2.1 dX6_count_119 rfl (lv_at hl 2 rfl) ?_
                refine lv_goto (tgt := 141) S.1 S.2.1 dX6_count_120 (by decide) ?_
                exact hR _ _ _ _ _ _ _ _ dX6_count_141 rfl (Nat.le_of_ble_eq_true rfl) (Nat.le_of_ble_eq_true rfl) hW ⟨(by rw [hn, show a = gN g by omega]; simp only [eq_false c_80, eq_false c_92, eq_false c_104, eq_true c_116, eq_self, Nat.add_zero, decide_false, decide_true, Bool.not_true, Bool.not_false, Bool.and_true, Bool.true_and, Bool.and_false, Bool.false_and, Bool.or_true, Bool.true_or, Bool.or_false, Bool.false_or, ↓reduceIte, cond_true, cond_false, bI, and_true, true_and, and_false, false_and, or_true, true_or, or_false, false_or, not_true_eq_false, not_false_eq_true, if_true, if_false, Bool.false_eq_true, reduceCtorEq, ite_true, ite_false]), ⟨_, rfl⟩⟩
            · skip
              refine lv_aload_n S.1 S.2.1 dX6_count_107 rfl (lv_at hl 0 rfl) ?_
              refine kVi S (c_X6_there (l := l) (D := D) (cI := cI) (cZ := cZ) (cF := cF) G) (cwV 0 S.2.2.2.2 gX6_count_X6_there rfl rfl rfl ⟨rfl, v_X6_there⟩ ⟨(Nat.le_of_ble_eq_true rfl), (Nat.le_of_ble_eq_true rfl)⟩) hk hW 0 rfl rfl rfl rfl hl rfl (Nat.le_of_ble_eq_true rfl) dX6_count_108 ⟨(Nat.le_of_ble_eq_true rfl), (Nat.le_of_ble_eq_true rfl)⟩ (fun r u H locs hp hW => ?_)
              obtain ⟨rfl, rfl⟩ := hp
              refine lv_goto (tgt := 141) S.1 S.2.1 dX6_count_111 (by decide) ?_
              exact hR _ _ _ _ _ _ _ _ dX6_count_141 rfl (Nat.le_of_ble_eq_true rfl) (Nat.le_of_ble_eq_true rfl) hW ⟨(by simp only [eq_false c_80, eq_false c_92, eq_true c_104, eq_self, Nat.add_zero, decide_false, decide_true, Bool.not_true, Bool.not_false, Bool.and_true, Bool.true_and, Bool.and_false, Bool.false_and, Bool.or_true, Bool.true_or, Bool.or_false, Bool.false_or, ↓reduceIte, cond_true, cond_false, bI, and_true, true_and, and_false, false_and, or_true, true_or, or_false, false_or, not_true_eq_false, not_false_eq_true, if_true, if_false, Bool.false_eq_true, reduceCtorEq, ite_true, ite_false]), ⟨_, rfl⟩⟩
          · skip
            refine lv_aload_n S.1 S.2.1 dX6_count_95 rfl (lv_at hl 0 rfl) ?_
            refine gf S hk hW 0 rfl rfl hwsX60 2 (by decide) 3 rfl rfl dX6_count_96 ?_
            refine lv_goto (tgt := 141) S.1 S.2.1 dX6_count_99 (by decide) ?_
            exact hR _ _ _ _ _ _ _ _ dX6_count_141 rfl (Nat.le_of_ble_eq_true rfl) (Nat.le_of_ble_eq_true rfl) hW ⟨(by simp only [eq_false c_80, eq_true c_92, eq_self, Nat.add_zero, decide_false, decide_true, Bool.not_true, Bool.not_false, Bool.and_true, Bool.true_and, Bool.and_false, Bool.false_and, Bool.or_true, Bool.true_or, Bool.or_false, Bool.false_or, ↓reduceIte, cond_true, cond_false, bI, and_true, true_and, and_false, false_and, or_true, true_or, or_false, false_or, not_true_eq_false, not_false_eq_true, if_true, if_false, Bool.false_eq_true, reduceCtorEq, ite_true, ite_false]), ⟨_, rfl⟩⟩
        · skip
          refine lv_aload_n S.1 S.2.1 dX6_count_83 rfl (lv_at hl 0 rfl) ?_
          refine gf S hk hW 0 rfl rfl hwsX60 1 (by decide) 2 rfl rfl dX6_count_84 ?_
          refine lv_goto (tgt := 141) S.1 S.2.1 dX6_count_87 (by decide) ?_
          exact hR _ _ _ _ _ _ _ _ dX6_count_141 rfl (Nat.le_of_ble_eq_true rfl) (Nat.le_of_ble_eq_true rfl) hW ⟨(by simp only [eq_true c_80, eq_self, Nat.add_zero, decide_false, decide_true, Bool.not_true, Bool.not_false, Bool.and_true, Bool.true_and, Bool.and_false, Bool.false_and, Bool.or_true, Bool.true_or, Bool.or_false, Bool.false_or, ↓reduceIte, cond_true, cond_false, bI, and_true, true_and, and_false, false_and, or_true, true_or, or_false, false_or, not_true_eq_false, not_false_eq_true, if_true, if_false, Bool.false_eq_true, reduceCtorEq, ite_true, ite_false]), ⟨_, rfl⟩⟩
      · skip
        refine lv_iconst (v := nI 0) S.1 S.2.1 dX6_count_28 (by decide) ?_
        refine lv_istore (lv' := [(4, .int (nI 0)), (0, .ref (q 0)), (1, .int x), (2, .int (nI n)), (3, .int (nI a))]) S.1 S.2.1 dX6_count_29 hl (by decide) rfl (fun ls hl => ?_)
        have L31 : ∀ (dd : Nat), ∀ (n2 : Nat), ∀ (b : Nat), (n2 = clMO (lrn g (-1000) (-1000)).1 (gN g) a + clMI (lrn g (-1000) (-1000)).1 a b) → (b ≤ gN g) → gN g < b + dd → ∀ (H : Heap) (locs : List Loc) (ls : Array Slot), wd D A s H locs (wM q cI cZ cF g ((lrn g (-1000) (-1000)).1) ke ac mk iv) → lv_has ls 5 [(0, .ref (q 0)), (1, .int x), (2, .int (nI n2)), (3, .int (nI a)), (4, .int (nI b))] → W p l e r_X6_count s m args below meth c H locs 0 0 Q (F0 m 31 ls []) := by
          intro dd
          induction dd with
          | zero => intros; omega
          | succ dd ih31 =>
            intro n2 b hn2 hb hdd H locs ls hW hl
            refine lv_iload S.1 S.2.1 dX6_count_31 (lv_at hl 4 rfl) ?_
            refine lv_aload_n S.1 S.2.1 dX6_count_33 rfl (lv_at hl 0 rfl) ?_
            refine gf S hk hW 0 rfl rfl hwsX60 1 (by decide) 2 rfl rfl dX6_count_34 ?_
            refine icge_n (tgt := 73) S (by omega) (by omega) dX6_count_37 (by decide) (fun c_37 => ?_) (fun c_37 => ?_)
            · skip
              refine lv_iinc (v := nI (a + 1)) (lv' := [(3, .int (nI (a + 1))), (0, .ref (q 0)), (1, .int x), (2, .int (nI n2)), (4, .int (nI b))]) (k := 3) S.1 S.2.1 dX6_count_73 hl rfl (nI_1 _) (by decide) rfl (fun ls hl => ?_)
              refine lv_goto (tgt := 20) S.1 S.2.1 dX6_count_76 (by decide) ?_
              exact ih20 n2 (a + 1) (by rw [hn2, show b = gN g by omega]; rfl) (by omega) (by omega) _ _ _ hW (lv_sub hl [1, 2, 3, 0] rfl)
            · skip
              refine lv_iload_n S.1 S.2.1 dX6_count_40 rfl (lv_at hl 2 rfl) ?_
              refine lv_iload_n S.1 S.2.1 dX6_count_41 rfl (lv_at hl 3 rfl) ?_
              refine lv_iload S.1 S.2.1 dX6_count_42 (lv_at hl 4 rfl) ?_
              refine iceq_n (tgt := 64) S (by omega) (by omega) dX6_count_44 (by decide) (fun c_44 => ?_) (fun c_44 => ?_)
              · skip
                refine lv_iconst (v := nI 0) S.1 S.2.1 dX6_count_64 (by decide) ?_
                refine lv_iadd S.1 S.2.1 dX6_count_65 (top_eq (nI_add _ _) ?_)
                refine lv_istore_n (lv' := [(2, .int (nI (n2 + 0))), (0, .ref (q 0)), (1, .int x), (3, .int (nI a)), (4, .int (nI b))]) S.1 S.2.1 dX6_count_66 rfl hl (by decide) rfl (fun ls hl => ?_)
                refine lv_iinc (v := nI (b + 1)) (lv' := [(4, .int (nI (b + 1))), (2, .int (nI (n2 + 0))), (0, .ref (q 0)), (1, .int x), (3, .int (nI a))]) (k := 4) S.1 S.2.1 dX6_count_67 hl rfl (nI_1 _) (by decide) rfl (fun ls hl => ?_)
                refine lv_goto (tgt := 31) S.1 S.2.1 dX6_count_70 (by decide) ?_
                exact ih31 (n2 + 0) (b + 1) (by simp only [clMI, eq_true c_44, eq_self, Nat.add_zero, decide_false, decide_true, Bool.not_true, Bool.not_false, Bool.and_true, Bool.true_and, Bool.and_false, Bool.false_and, Bool.or_true, Bool.true_or, Bool.or_false, Bool.false_or, ↓reduceIte, cond_true, cond_false, bI, and_true, true_and, and_false, false_and, or_true, true_or, or_false, false_or, not_true_eq_false, not_false_eq_true, if_true, if_false, Bool.false_eq_true, reduceCtorEq, ite_true, ite_false]; omega) (by omega) (by omega) _ _ _ hW (lv_sub hl [2, 3, 1, 4, 0] rfl)
              · skip
                refine lv_aload_n S.1 S.2.1 dX6_count_47 rfl (lv_at hl 0 rfl) ?_
                refine lv_iload_n S.1 S.2.1 dX6_count_48 rfl (lv_at hl 3 rfl) ?_
                refine lv_iload S.1 S.2.1 dX6_count_49 (lv_at hl 4 rfl) ?_
                refine kVi S (c_X6_farOf (l := l) (D := D) (cI := cI) (cZ := cZ) (cF := cF) (by first | assumption | omega) (by first | assumption | omega)) (cwV 2 S.2.2.2.2 gX6_count_X6_farOf rfl rfl rfl ⟨rfl, v_X6_farOf⟩ ⟨(Nat.le_of_ble_eq_true rfl), (Nat.le_of_ble_eq_true rfl)⟩) hk hW 0 rfl rfl rfl rfl hl rfl (Nat.le_of_ble_eq_true rfl) dX6_count_51 ⟨(Nat.le_of_ble_eq_true rfl), (Nat.le_of_ble_eq_true rfl)⟩ (fun r u H locs hp hW => ?_)
                obtain ⟨rfl, rfl⟩ := hp
                refine lv_sipush (v := (-1000)) S.1 S.2.1 dX6_count_54 (by decide) ?_
                refine lv_icmp_eq (tgt := 64) S.1 S.2.1 dX6_count_57 (by decide) (fun c_57 => ?_) (fun c_57 => ?_)
                · skip
                  refine lv_iconst (v := nI 0) S.1 S.2.1 dX6_count_64 (by decide) ?_
                  refine lv_iadd S.1 S.2.1 dX6_count_65 (top_eq (nI_add _ _) ?_)
                  refine lv_istore_n (lv' := [(2, .int (nI (n2 + 0))), (0, .ref (q 0)), (1, .int x), (3, .int (nI a)), (4, .int (nI b))]) S.1 S.2.1 dX6_count_66 rfl hl (by decide) rfl (fun ls hl => ?_)
                  refine lv_iinc (v := nI (b + 1)) (lv' := [(4, .int (nI (b + 1))), (2, .int (nI (n2 + 0))), (0, .ref (q 0)), (1, .int x), (3, .int (nI a))]) (k := 4) S.1 S.2.1 dX6_count_67 hl rfl (nI_1 _) (by decide) rfl (fun ls hl => ?_)
                  refine lv_goto (tgt := 31) S.1 S.2.1 dX6_count_70 (by decide) ?_
                  exact ih31 (n2 + 0) (b + 1) (by simp only [clMI, eq_false c_44, eq_true c_57, eq_self, Nat.add_zero, decide_false, decide_true, Bool.not_true, Bool.not_false, Bool.and_true, Bool.true_and, Bool.and_false, Bool.false_and, Bool.or_true, Bool.true_or, Bool.or_false, Bool.false_or, ↓reduceIte, cond_true, cond_false, bI, and_true, true_and, and_false, false_and, or_true, true_or, or_false, false_or, not_true_eq_false, not_false_eq_true, if_true, if_false, Bool.false_eq_true, reduceCtorEq, ite_true, ite_false]; omega) (by omega) (by omega) _ _ _ hW (lv_sub hl [2, 3, 1, 4, 0] rfl)
                · skip
                  refine lv_iconst (v := nI 1) S.1 S.2.1 dX6_count_60 (by decide) ?_
                  refine lv_goto (tgt := 65) S.1 S.2.1 dX6_count_61 (by decide) ?_
                  refine lv_iadd S.1 S.2.1 dX6_count_65 (top_eq (nI_add _ _) ?_)
                  refine lv_istore_n (lv' := [(2, .int (nI (n2 + 1))), (0, .ref (q 0)), (1, .int x), (3, .int (nI a)), (4, .int (nI b))]) S.1 S.2.1 dX6_count_66 rfl hl (by decide) rfl (fun ls hl => ?_)
                  refine lv_iinc (v := nI (b + 1)) (lv' := [(4, .int (nI (b + 1))), (2, .int (nI (n2 + 1))), (0, .ref (q 0)), (1, .int x), (3, .int (nI a))]) (k := 4) S.1 S.2.1 dX6_count_67 hl rfl (nI_1 _) (by decide) rfl (fun ls hl => ?_)
                  refine lv_goto (tgt := 31) S.1 S.2.1 dX6_count_70 (by decide) ?_
                  exact ih31 (n2 + 1) (b + 1) (by simp only [clMI, eq_false c_44, eq_false c_57, eq_self, Nat.add_zero, decide_false, decide_true, Bool.not_true, Bool.not_false, Bool.and_true, Bool.true_and, Bool.and_false, Bool.false_and, Bool.or_true, Bool.true_or, Bool.or_false, Bool.false_or, ↓reduceIte, cond_true, cond_false, bI, and_true, true_and, and_false, false_and, or_true, true_or, or_false, false_or, not_true_eq_false, not_false_eq_true, if_true, if_false, Bool.false_eq_true, reduceCtorEq, ite_true, ite_false]; omega) (by omega) (by omega) _ _ _ hW (lv_sub hl [2, 3, 1, 4, 0] rfl)
        exact L31 ((gN g) + 1) n 0 hn (by omega) (by omega) _ _ _ hW (lv_sub hl [1, 2, 3, 4, 0] rfl)
  exact L20 ((gN g) + 1) 0 0 rfl (by omega) (by omega) _ _ _ hW (lv_sub hl [2, 3, 1, 0] rfl)
