abbrev r_X5_far : Room := { frames := 3, cells := 0, slots := 0, locals := 64 }
theorem v_X5_far : yX5_far.cls ≠ "java/lang/invoke/MethodHandle" ∧ yX5_far.cls ≠ "java/lang/invoke/VarHandle" ∧ (parseMethodDescriptor yX5_far.desc).map (fun d => d.parameters.length) = some 2 := by decide +kernel
set_option maxRecDepth 100000 in
set_option maxHeartbeats 4000000 in
theorem c_X5_far {l : Launch} {D : va_G} {cI cZ cF : ClassId} {q : Nat → Nat} {qf : Nat → Nat} {g : Gr} {C R : Nat → Int32} {rw len : Nat} {F : Nat → Int32} {sz : Nat} {X : Nat → Int32} {mk : Int32} {x y : Int32} (G : Gok g) : cI_ l D cI cZ cF yX5_far wsX5_far r_X5_far [.ref (q 0), .int x, .int y] (wC q qf cI cZ cF g C R rw len F sz X mk) (fun r u => r = farC g C x y ∧ u = wC q qf cI cZ cF g C R rw len F sz X mk) 0 0 := by
  refine cI_of (cc := cX5_far) (maxL := 3) (rt := .int) (plainFor_of_name (by decide +kernel)) rfl (Nat.le_of_ble_eq_true rfl) ?_
  intro p e s m args below meth c A Q ls S hk hW hl hR
  have hl : lv_has ls 3 [(0, .ref (q 0)), (1, .int x), (2, .int y)] := hl
  have hwsX50 : ∀ x ∈ wsX50, x ∈ wsX5_far := fun x h => List.mem_cons_of_mem _ (List.mem_append_left _ (List.mem_append_left _ (List.mem_append_right _ h)))
  have hwsX20 : ∀ x ∈ wsX20, x ∈ wsX5_far := fun x h => List.mem_cons_of_mem _ (List.mem_append_left _ (List.mem_append_right _ h))
  have hwsX40 : ∀ x ∈ wsX40, x ∈ wsX5_far := fun x h => List.mem_cons_of_mem _ (List.mem_append_right _ h)
  have hN := Gok_N G; have hN2 := Gok_N2 G; have hKK := Gok_K G
  refine lv_aload_n S.1 S.2.1 dX5_far_0 rfl (lv_at hl 0 rfl) ?_
  refine gf S hk hW 0 rfl rfl hwsX50 0 (by decide) 1 rfl rfl dX5_far_1 ?_
  refine lv_iload_n S.1 S.2.1 dX5_far_4 rfl (lv_at hl 1 rfl) ?_
  refine lv_iload_n S.1 S.2.1 dX5_far_5 rfl (lv_at hl 2 rfl) ?_
  refine kVi S (c_X2_hasPosts (l := l) (D := D) (cI := cI) (cZ := cZ) (cF := cF)) (cwV 2 S.2.2.2.2 gX5_far_X2_hasPosts rfl rfl rfl ⟨rfl, v_X2_hasPosts⟩ ⟨(Nat.le_of_ble_eq_true rfl), (Nat.le_of_ble_eq_true rfl)⟩) hk hW 1 rfl rfl rfl rfl hl rfl (Nat.le_of_ble_eq_true rfl) dX5_far_6 ⟨(Nat.le_of_ble_eq_true rfl), (Nat.le_of_ble_eq_true rfl)⟩ (fun r u H locs hp hW => ?_)
  obtain ⟨rfl, rfl⟩ := hp
  refine ifeq_b (tgt := 24) S dX5_far_9 (by decide) (fun c_9 => ?_) (fun c_9 => ?_)
  · skip
    refine lv_sipush (v := (-1001)) S.1 S.2.1 dX5_far_24 (by decide) ?_
    exact hR _ _ _ _ _ _ _ _ dX5_far_27 rfl (Nat.le_of_ble_eq_true rfl) (Nat.le_of_ble_eq_true rfl) hW ⟨(by simp only [farC, c_9, eq_self, Nat.add_zero, decide_false, decide_true, Bool.not_true, Bool.not_false, Bool.and_true, Bool.true_and, Bool.and_false, Bool.false_and, Bool.or_true, Bool.true_or, Bool.or_false, Bool.false_or, ↓reduceIte, cond_true, cond_false, bI, and_true, true_and, and_false, false_and, or_true, true_or, or_false, false_or, not_true_eq_false, not_false_eq_true, if_true, if_false, Bool.false_eq_true, reduceCtorEq, ite_true, ite_false]), rfl⟩
  · skip
    obtain ⟨c9a, c9b⟩ := (Bool.and_eq_true_iff).mp c_9
    obtain ⟨a, ha, rfl⟩ := inb_nat c9a (by omega)
    obtain ⟨b, hb, rfl⟩ := inb_nat c9b (by omega)
    have hca : (nI a).toNatClampNeg = a := nI_clamp (by omega)
    have hcb : (nI b).toNatClampNeg = b := nI_clamp (by omega)
    refine lv_aload_n S.1 S.2.1 dX5_far_12 rfl (lv_at hl 0 rfl) ?_
    refine gf S hk hW 0 rfl rfl hwsX50 1 (by decide) 2 rfl rfl dX5_far_13 ?_
    refine lv_iload_n S.1 S.2.1 dX5_far_16 rfl (lv_at hl 1 rfl) ?_
    refine lv_iload_n S.1 S.2.1 dX5_far_17 rfl (lv_at hl 2 rfl) ?_
    refine kVi S (c_X4_leastPrice (l := l) (D := D) (cI := cI) (cZ := cZ) (cF := cF) (by first | assumption | omega) (by first | assumption | omega)) (cwV 2 S.2.2.2.2 gX5_far_X4_leastPrice rfl rfl rfl ⟨rfl, v_X4_leastPrice⟩ ⟨(Nat.le_of_ble_eq_true rfl), (Nat.le_of_ble_eq_true rfl)⟩) hk hW 2 rfl rfl rfl rfl hl rfl (Nat.le_of_ble_eq_true rfl) dX5_far_18 ⟨(Nat.le_of_ble_eq_true rfl), (Nat.le_of_ble_eq_true rfl)⟩ (fun r u H locs hp hW => ?_)
    obtain ⟨rfl, rfl⟩ := hp
    refine lv_goto (tgt := 27) S.1 S.2.1 dX5_far_21 (by decide) ?_
    exact hR _ _ _ _ _ _ _ _ dX5_far_27 rfl (Nat.le_of_ble_eq_true rfl) (Nat.le_of_ble_eq_true rfl) hW ⟨(by simp only [farC, hca, hcb, c_9, eq_self, Nat.add_zero, decide_false, decide_true, Bool.not_true, Bool.not_false, Bool.and_true, Bool.true_and, Bool.and_false, Bool.false_and, Bool.or_true, Bool.true_or, Bool.or_false, Bool.false_or, ↓reduceIte, cond_true, cond_false, bI, and_true, true_and, and_false, false_and, or_true, true_or, or_false, false_or, not_true_eq_false, not_false_eq_true, if_true, if_false, Bool.false_eq_true, reduceCtorEq, ite_true, ite_false]), rfl⟩
abbrev r_X5_steps : Room := { frames := 2, cells := 0, slots := 0, locals := 45 }
theorem v_X5_steps : yX5_steps.cls ≠ "java/lang/invoke/MethodHandle" ∧ yX5_steps.cls ≠ "java/lang/invoke/VarHandle" ∧ (parseMethodDescriptor yX5_steps.desc).map (fun d => d.parameters.length) = some 2 := by decide +kernel
set_option maxRecDepth 100000 in
set_option maxHeartbeats 4000000 in
theorem c_X5_steps {l : Launch} {D : va_G} {cI cZ cF : ClassId} {q : Nat → Nat} {qf : Nat → Nat} {g : Gr} {C R : Nat → Int32} {rw len : Nat} {F : Nat → Int32} {sz : Nat} {X : Nat → Int32} {mk : Int32} {x y : Int32} (G : Gok g) : cI_ l D cI cZ cF yX5_steps wsX5_steps r_X5_steps [.ref (q 0), .int x, .int y] (wC q qf cI cZ cF g C R rw len F sz X mk) (fun r u => r = stpC g C x y ∧ u = wC q qf cI cZ cF g C R rw len F sz X mk) 0 0 := by
  refine cI_of (cc := cX5_steps) (maxL := 3) (rt := .int) (plainFor_of_name (by decide +kernel)) rfl (Nat.le_of_ble_eq_true rfl) ?_
  intro p e s m args below meth c A Q ls S hk hW hl hR
  have hl : lv_has ls 3 [(0, .ref (q 0)), (1, .int x), (2, .int y)] := hl
  have hwsX50 : ∀ x ∈ wsX50, x ∈ wsX5_steps := fun x h => List.mem_cons_of_mem _ (List.mem_append_left _ (List.mem_append_left _ (List.mem_append_right _ h)))
  have hwsX20 : ∀ x ∈ wsX20, x ∈ wsX5_steps := fun x h => List.mem_cons_of_mem _ (List.mem_append_left _ (List.mem_append_right _ h))
  have hwsX40 : ∀ x ∈ wsX40, x ∈ wsX5_steps := fun x h => List.mem_cons_of_mem _ (List.mem_append_right _ h)
  have hN := Gok_N G; have hN2 := Gok_N2 G; have hKK := Gok_K G
  refine lv_aload_n S.1 S.2.1 dX5_steps_0 rfl (lv_at hl 0 rfl) ?_
  refine gf S hk hW 0 rfl rfl hwsX50 0 (by decide) 1 rfl rfl dX5_steps_1 ?_
  refine lv_iload_n S.1 S.2.1 dX5_steps_4 rfl (lv_at hl 1 rfl) ?_
  refine lv_iload_n S.1 S.2.1 dX5_steps_5 rfl (lv_at hl 2 rfl) ?_
  refine kVi S (c_X2_hasPosts (l := l) (D := D) (cI := cI) (cZ := cZ) (cF := cF)) (cwV 2 S.2.2.2.2 gX5_steps_X2_hasPosts rfl rfl rfl ⟨rfl, v_X2_hasPosts⟩ ⟨(Nat.le_of_ble_eq_true rfl), (Nat.le_of_ble_eq_true rfl)⟩) hk hW 1 rfl rfl rfl rfl hl rfl (Nat.le_of_ble_eq_true rfl) dX5_steps_6 ⟨(Nat.le_of_ble_eq_true rfl), (Nat.le_of_ble_eq_true rfl)⟩ (fun r u H locs hp hW => ?_)
  obtain ⟨rfl, rfl⟩ := hp
  refine ifeq_b (tgt := 24) S dX5_steps_9 (by decide) (fun c_9 => ?_) (fun c_9 => ?_)
  · skip
    refine lv_sipush (v := (-1001)) S.1 S.2.1 dX5_steps_24 (by decide) ?_
    exact hR _ _ _ _ _ _ _ _ dX5_steps_27 rfl (Nat.le_of_ble_eq_true rfl) (Nat.le_of_ble_eq_true rfl) hW ⟨(by simp only [stpC, c_9, eq_self, Nat.add_zero, decide_false, decide_true, Bool.not_true, Bool.not_false, Bool.and_true, Bool.true_and, Bool.and_false, Bool.false_and, Bool.or_true, Bool.true_or, Bool.or_false, Bool.false_or, ↓reduceIte, cond_true, cond_false, bI, and_true, true_and, and_false, false_and, or_true, true_or, or_false, false_or, not_true_eq_false, not_false_eq_true, if_true, if_false, Bool.false_eq_true, reduceCtorEq, ite_true, ite_false]), rfl⟩
  · skip
    obtain ⟨c9a, c9b⟩ := (Bool.and_eq_true_iff).mp c_9
    obtain ⟨a, ha, rfl⟩ := inb_nat c9a (by omega)
    obtain ⟨b, hb, rfl⟩ := inb_nat c9b (by omega)
    have hca : (nI a).toNatClampNeg = a := nI_clamp (by omega)
    have hcb : (nI b).toNatClampNeg = b := nI_clamp (by omega)
    refine lv_aload_n S.1 S.2.1 dX5_steps_12 rfl (lv_at hl 0 rfl) ?_
    refine gf S hk hW 0 rfl rfl hwsX50 1 (by decide) 2 rfl rfl dX5_steps_13 ?_
    refine lv_iload_n S.1 S.2.1 dX5_steps_16 rfl (lv_at hl 1 rfl) ?_
    refine lv_iload_n S.1 S.2.1 dX5_steps_17 rfl (lv_at hl 2 rfl) ?_
    refine kVi S (c_X4_length (l := l) (D := D) (cI := cI) (cZ := cZ) (cF := cF) (by first | assumption | omega) (by first | assumption | omega)) (cwV 2 S.2.2.2.2 gX5_steps_X4_length rfl rfl rfl ⟨rfl, v_X4_length⟩ ⟨(Nat.le_of_ble_eq_true rfl), (Nat.le_of_ble_eq_true rfl)⟩) hk hW 2 rfl rfl rfl rfl hl rfl (Nat.le_of_ble_eq_true rfl) dX5_steps_18 ⟨(Nat.le_of_ble_eq_true rfl), (Nat.le_of_ble_eq_true rfl)⟩ (fun r u H locs hp hW => ?_)
    obtain ⟨rfl, rfl⟩ := hp
    refine lv_goto (tgt := 27) S.1 S.2.1 dX5_steps_21 (by decide) ?_
    exact hR _ _ _ _ _ _ _ _ dX5_steps_27 rfl (Nat.le_of_ble_eq_true rfl) (Nat.le_of_ble_eq_true rfl) hW ⟨(by simp only [stpC, hca, hcb, c_9, eq_self, Nat.add_zero, decide_false, decide_true, Bool.not_true, Bool.not_false, Bool.and_true, Bool.true_and, Bool.and_false, Bool.false_and, Bool.or_true, Bool.true_or, Bool.or_false, Bool.false_or, ↓reduceIte, cond_true, cond_false, bI, and_true, true_and, and_false, false_and, or_true, true_or, or_false, false_or, not_true_eq_false, not_false_eq_true, if_true, if_false, Bool.false_eq_true, reduceCtorEq, ite_true, ite_false]), rfl⟩
abbrev r_X5_way : Room := { frames := 4, cells := 0, slots := 0, locals := 93 }
theorem v_X5_way : yX5_way.cls ≠ "java/lang/invoke/MethodHandle" ∧ yX5_way.cls ≠ "java/lang/invoke/VarHandle" ∧ (parseMethodDescriptor yX5_way.desc).map (fun d => d.parameters.length) = some 3 := by decide +kernel
set_option maxRecDepth 100000 in
set_option maxHeartbeats 4000000 in
theorem c_X5_way {l : Launch} {D : va_G} {cI cZ cF : ClassId} {q : Nat → Nat} {qf : Nat → Nat} {g : Gr} {C R : Nat → Int32} {rw len : Nat} {F : Nat → Int32} {sz : Nat} {X : Nat → Int32} {mk : Int32} {x y z : Int32} (G : Gok g) : cI_ l D cI cZ cF yX5_way wsX5_way r_X5_way [.ref (q 0), .int x, .int y, .int z] (wC q qf cI cZ cF g C R rw len F sz X mk) (fun r u => r = wayC g C x y z ∧ u = wC q qf cI cZ cF g C R rw len F sz X mk) 0 0 := by
  refine cI_of (cc := cX5_way) (maxL := 4) (rt := .int) (plainFor_of_name (by decide +kernel)) rfl (Nat.le_of_ble_eq_true rfl) ?_
  intro p e s m args below meth c A Q ls S hk hW hl hR
  have hl : lv_has ls 4 [(0, .ref (q 0)), (1, .int x), (2, .int y), (3, .int z)] := hl
  have hwsX50 : ∀ x ∈ wsX50, x ∈ wsX5_way := fun x h => List.mem_cons_of_mem _ (List.mem_append_left _ (List.mem_append_left _ (List.mem_append_right _ h)))
  have hwsX20 : ∀ x ∈ wsX20, x ∈ wsX5_way := fun x h => List.mem_cons_of_mem _ (List.mem_append_left _ (List.mem_append_right _ h))
  have hwsX40 : ∀ x ∈ wsX40, x ∈ wsX5_way := fun x h => List.mem_cons_of_mem _ (List.mem_append_right _ h)
  have hN := Gok_N G; have hN2 := Gok_N2 G; have hKK := Gok_K G
  refine lv_aload_n S.1 S.2.1 dX5_way_0 rfl (lv_at hl 0 rfl) ?_
  refine gf S hk hW 0 rfl rfl hwsX50 0 (by decide) 1 rfl rfl dX5_way_1 ?_
  refine lv_iload_n S.1 S.2.1 dX5_way_4 rfl (lv_at hl 1 rfl) ?_
  refine lv_iload_n S.1 S.2.1 dX5_way_5 rfl (lv_at hl 2 rfl) ?_
  refine kVi S (c_X2_hasPosts (l := l) (D := D) (cI := cI) (cZ := cZ) (cF := cF)) (cwV 2 S.2.2.2.2 gX5_way_X2_hasPosts rfl rfl rfl ⟨rfl, v_X2_hasPosts⟩ ⟨(Nat.le_of_ble_eq_true rfl), (Nat.le_of_ble_eq_true rfl)⟩) hk hW 1 rfl rfl rfl rfl hl rfl (Nat.le_of_ble_eq_true rfl) dX5_way_6 ⟨(Nat.le_of_ble_eq_true rfl), (Nat.le_of_ble_eq_true rfl)⟩ (fun r u H locs hp hW => ?_)
  obtain ⟨rfl, rfl⟩ := hp
  refine ifeq_b (tgt := 25) S dX5_way_9 (by decide) (fun c_9 => ?_) (fun c_9 => ?_)
  · skip
    refine lv_sipush (v := (-1001)) S.1 S.2.1 dX5_way_25 (by decide) ?_
    exact hR _ _ _ _ _ _ _ _ dX5_way_28 rfl (Nat.le_of_ble_eq_true rfl) (Nat.le_of_ble_eq_true rfl) hW ⟨(by simp only [wayC, c_9, eq_self, Nat.add_zero, decide_false, decide_true, Bool.not_true, Bool.not_false, Bool.and_true, Bool.true_and, Bool.and_false, Bool.false_and, Bool.or_true, Bool.true_or, Bool.or_false, Bool.false_or, ↓reduceIte, cond_true, cond_false, bI, and_true, true_and, and_false, false_and, or_true, true_or, or_false, false_or, not_true_eq_false, not_false_eq_true, if_true, if_false, Bool.false_eq_true, reduceCtorEq, ite_true, ite_false]), rfl⟩
  · skip
    obtain ⟨c9a, c9b⟩ := (Bool.and_eq_true_iff).mp c_9
    obtain ⟨a, ha, rfl⟩ := inb_nat c9a (by omega)
    obtain ⟨b, hb, rfl⟩ := inb_nat c9b (by omega)
    have hca : (nI a).toNatClampNeg = a := nI_clamp (by omega)
    have hcb : (nI b).toNatClampNeg = b := nI_clamp (by omega)
    refine lv_aload_n S.1 S.2.1 dX5_way_12 rfl (lv_at hl 0 rfl) ?_
    refine gf S hk hW 0 rfl rfl hwsX50 1 (by decide) 2 rfl rfl dX5_way_13 ?_
    refine lv_iload_n S.1 S.2.1 dX5_way_16 rfl (lv_at hl 1 rfl) ?_
    refine lv_iload_n S.1 S.2.1 dX5_way_17 rfl (lv_at hl 2 rfl) ?_
    refine lv_iload_n S.1 S.2.1 dX5_way_18 rfl (lv_at hl 3 rfl) ?_
    refine kVi S (c_X4_lineAt (l := l) (D := D) (cI := cI) (cZ := cZ) (cF := cF) G (by first | assumption | omega) (by first | assumption | omega)) (cwV 3 S.2.2.2.2 gX5_way_X4_lineAt rfl rfl rfl ⟨rfl, v_X4_lineAt⟩ ⟨(Nat.le_of_ble_eq_true rfl), (Nat.le_of_ble_eq_true rfl)⟩) hk hW 2 rfl rfl rfl rfl hl rfl (Nat.le_of_ble_eq_true rfl) dX5_way_19 ⟨(Nat.le_of_ble_eq_true rfl), (Nat.le_of_ble_eq_true rfl)⟩ (fun r u H locs hp hW => ?_)
    obtain ⟨rfl, rfl⟩ := hp
    refine lv_goto (tgt := 28) S.1 S.2.1 dX5_way_22 (by decide) ?_
    exact hR _ _ _ _ _ _ _ _ dX5_way_28 rfl (Nat.le_of_ble_eq_true rfl) (Nat.le_of_ble_eq_true rfl) hW ⟨(by simp only [wayC, hca, hcb, c_9, eq_self, Nat.add_zero, decide_false, decide_true, Bool.not_true, Bool.not_false, Bool.and_true, Bool.true_and, Bool.and_false, Bool.false_and, Bool.or_true, Bool.true_or, Bool.or_false, Bool.false_or, ↓reduceIte, cond_true, cond_false, bI, and_true, true_and, and_false, false_and, or_true, true_or, or_false, false_or, not_true_eq_false, not_false_eq_true, if_true, if_false, Bool.false_eq_true, reduceCtorEq, ite_true, ite_false]), rfl⟩
abbrev r_X5_without : Room := { frames := 4, cells := 0, slots := 0, locals := 98 }
theorem v_X5_without : yX5_without.cls ≠ "java/lang/invoke/MethodHandle" ∧ yX5_without.cls ≠ "java/lang/invoke/VarHandle" ∧ (parseMethodDescriptor yX5_without.desc).map (fun d => d.parameters.length) = some 3 := by decide +kernel
set_option maxRecDepth 100000 in
set_option maxHeartbeats 4000000 in
theorem c_X5_without {l : Launch} {D : va_G} {cI cZ cF : ClassId} {q : Nat → Nat} {qf : Nat → Nat} {g : Gr} {C R : Nat → Int32} {rw len : Nat} {F : Nat → Int32} {sz : Nat} {X : Nat → Int32} {mk : Int32} {x y z : Int32} (G : Gok g) : cI_ l D cI cZ cF yX5_without wsX5_without r_X5_without [.ref (q 0), .int x, .int y, .int z] (wC q qf cI cZ cF g C R rw len F sz X mk) (fun r u => r = wtoC g x y z ∧ ∃ R', u = wC q qf cI cZ cF g C R' rw len F sz X mk) 0 0 := by
  refine cI_of (cc := cX5_without) (maxL := 4) (rt := .int) (plainFor_of_name (by decide +kernel)) rfl (Nat.le_of_ble_eq_true rfl) ?_
  intro p e s m args below meth c A Q ls S hk hW hl hR
  have hl : lv_has ls 4 [(0, .ref (q 0)), (1, .int x), (2, .int y), (3, .int z)] := hl
  have hwsX50 : ∀ x ∈ wsX50, x ∈ wsX5_without := fun x h => List.mem_cons_of_mem _ (List.mem_append_left _ (List.mem_append_left _ (List.mem_append_right _ h)))
  have hwsX20 : ∀ x ∈ wsX20, x ∈ wsX5_without := fun x h => List.mem_cons_of_mem _ (List.mem_append_left _ (List.mem_append_right _ h))
  have hwsX40 : ∀ x ∈ wsX40, x ∈ wsX5_without := fun x h => List.mem_cons_of_mem _ (List.mem_append_right _ h)
  have hN := Gok_N G; have hN2 := Gok_N2 G; have hKK := Gok_K G
  refine lv_aload_n S.1 S.2.1 dX5_without_0 rfl (lv_at hl 0 rfl) ?_
  refine gf S hk hW 0 rfl rfl hwsX50 0 (by decide) 1 rfl rfl dX5_without_1 ?_
  refine lv_iload_n S.1 S.2.1 dX5_without_4 rfl (lv_at hl 1 rfl) ?_
  refine lv_iload_n S.1 S.2.1 dX5_without_5 rfl (lv_at hl 2 rfl) ?_
  refine kVi S (c_X2_hasPosts (l := l) (D := D) (cI := cI) (cZ := cZ) (cF := cF)) (cwV 2 S.2.2.2.2 gX5_without_X2_hasPosts rfl rfl rfl ⟨rfl, v_X2_hasPosts⟩ ⟨(Nat.le_of_ble_eq_true rfl), (Nat.le_of_ble_eq_true rfl)⟩) hk hW 1 rfl rfl rfl rfl hl rfl (Nat.le_of_ble_eq_true rfl) dX5_without_6 ⟨(Nat.le_of_ble_eq_true rfl), (Nat.le_of_ble_eq_true rfl)⟩ (fun r u H locs hp hW => ?_)
  obtain ⟨rfl, rfl⟩ := hp
  refine ifeq_b (tgt := 23) S dX5_without_9 (by decide) (fun c_9 => ?_) (fun c_9 => ?_)
  · skip
    refine lv_sipush (v := (-1001)) S.1 S.2.1 dX5_without_23 (by decide) ?_
    exact hR _ _ _ _ _ _ _ _ dX5_without_26 rfl (Nat.le_of_ble_eq_true rfl) (Nat.le_of_ble_eq_true rfl) hW ⟨(by simp only [wtoC, c_9, eq_self, Nat.add_zero, decide_false, decide_true, Bool.not_true, Bool.not_false, Bool.and_true, Bool.true_and, Bool.and_false, Bool.false_and, Bool.or_true, Bool.true_or, Bool.or_false, Bool.false_or, ↓reduceIte, cond_true, cond_false, bI, and_true, true_and, and_false, false_and, or_true, true_or, or_false, false_or, not_true_eq_false, not_false_eq_true, if_true, if_false, Bool.false_eq_true, reduceCtorEq, ite_true, ite_false]), ⟨_, rfl⟩⟩
  · skip
    obtain ⟨c9a, c9b⟩ := (Bool.and_eq_true_iff).mp c_9
    obtain ⟨a, ha, rfl⟩ := inb_nat c9a (by omega)
    obtain ⟨b, hb, rfl⟩ := inb_nat c9b (by omega)
    have hca : (nI a).toNatClampNeg = a := nI_clamp (by omega)
    have hcb : (nI b).toNatClampNeg = b := nI_clamp (by omega)
    refine lv_aload_n S.1 S.2.1 dX5_without_12 rfl (lv_at hl 0 rfl) ?_
    refine gf S hk hW 0 rfl rfl hwsX50 0 (by decide) 1 rfl rfl dX5_without_13 ?_
    refine lv_iload_n S.1 S.2.1 dX5_without_16 rfl (lv_at hl 3 rfl) ?_
    refine kVi S (c_X2_hasLine (l := l) (D := D) (cI := cI) (cZ := cZ) (cF := cF)) (cwV 1 S.2.2.2.2 gX5_without_X2_hasLine rfl rfl rfl ⟨rfl, v_X2_hasLine⟩ ⟨(Nat.le_of_ble_eq_true rfl), (Nat.le_of_ble_eq_true rfl)⟩) hk hW 1 rfl rfl rfl rfl hl rfl (Nat.le_of_ble_eq_true rfl) dX5_without_17 ⟨(Nat.le_of_ble_eq_true rfl), (Nat.le_of_ble_eq_true rfl)⟩ (fun r u H locs hp hW => ?_)
    obtain ⟨rfl, rfl⟩ := hp
    refine ifne_b (tgt := 27) S dX5_without_20 (by decide) (fun c_20 => ?_) (fun c_20 => ?_)
    · skip
      refine lv_aload_n S.1 S.2.1 dX5_without_27 rfl (lv_at hl 0 rfl) ?_
      refine gf S hk hW 0 rfl rfl hwsX50 1 (by decide) 2 rfl rfl dX5_without_28 ?_
      refine lv_iload_n S.1 S.2.1 dX5_without_31 rfl (lv_at hl 1 rfl) ?_
      refine lv_iload_n S.1 S.2.1 dX5_without_32 rfl (lv_at hl 2 rfl) ?_
      refine lv_iload_n S.1 S.2.1 dX5_without_33 rfl (lv_at hl 3 rfl) ?_
      refine lv_iconst (v := (-1)) S.1 S.2.1 dX5_without_34 (by decide) ?_
      refine kVi S (c_X4_leastAvoiding (l := l) (D := D) (cI := cI) (cZ := cZ) (cF := cF) G (by first | assumption | omega) (by first | assumption | omega)) (cwV 4 S.2.2.2.2 gX5_without_X4_leastAvoiding rfl rfl rfl ⟨rfl, v_X4_leastAvoiding⟩ ⟨(Nat.le_of_ble_eq_true rfl), (Nat.le_of_ble_eq_true rfl)⟩) hk hW 2 rfl rfl rfl rfl hl rfl (Nat.le_of_ble_eq_true rfl) dX5_without_35 ⟨(Nat.le_of_ble_eq_true rfl), (Nat.le_of_ble_eq_true rfl)⟩ (fun r u H locs hp hW => ?_)
      obtain ⟨rfl, R'_1, rfl⟩ := hp
      exact hR _ _ _ _ _ _ _ _ dX5_without_38 rfl (Nat.le_of_ble_eq_true rfl) (Nat.le_of_ble_eq_true rfl) hW ⟨(by simp only [wtoC, hca, hcb, c_9, c_20, eq_self, Nat.add_zero, decide_false, decide_true, Bool.not_true, Bool.not_false, Bool.and_true, Bool.true_and, Bool.and_false, Bool.false_and, Bool.or_true, Bool.true_or, Bool.or_false, Bool.false_or, ↓reduceIte, cond_true, cond_false, bI, and_true, true_and, and_false, false_and, or_true, true_or, or_false, false_or, not_true_eq_false, not_false_eq_true, if_true, if_false, Bool.false_eq_true, reduceCtorEq, ite_true, ite_false]), ⟨_, rfl⟩⟩
    · skip
      refine lv_sipush (v := (-1001)) S.1 S.2.1 dX5_without_23 (by decide) ?_
      exact hR _ _ _ _ _ _ _ _ dX5_without_26 rfl (Nat.le_of_ble_eq_true rfl) (Nat.le_of_ble_eq_true rfl) hW ⟨(by simp only [wtoC, hca, hcb, c_9, c_20, eq_self, Nat.add_zero, decide_false, decide_true, Bool.not_true, Bool.not_false, Bool.and_true, Bool.true_and, Bool.and_false, Bool.false_and, Bool.or_true, Bool.true_or, Bool.or_false, Bool.false_or, ↓reduceIte, cond_true, cond_false, bI, and_true, true_and, and_false, false_and, or_true, true_or, or_false, false_or, not_true_eq_false, not_false_eq_true, if_true, if_false, Bool.false_eq_true, reduceCtorEq, ite_true, ite_false]), ⟨_, rfl⟩⟩
abbrev r_X5_vital : Room := { frames := 6, cells := 0, slots := 0, locals := 140 }
theorem v_X5_vital : yX5_vital.cls ≠ "java/lang/invoke/MethodHandle" ∧ yX5_vital.cls ≠ "java/lang/invoke/VarHandle" ∧ (parseMethodDescriptor yX5_vital.desc).map (fun d => d.parameters.length) = some 3 := by decide +kernel
set_option maxRecDepth 100000 in
set_option maxHeartbeats 4000000 in
theorem c_X5_vital {l : Launch} {D : va_G} {cI cZ cF : ClassId} {q : Nat → Nat} {qf : Nat → Nat} {g : Gr} {C R : Nat → Int32} {rw len : Nat} {F : Nat → Int32} {sz : Nat} {X : Nat → Int32} {mk : Int32} {x y z : Int32} (G : Gok g) : cI_ l D cI cZ cF yX5_vital wsX5_vital r_X5_vital [.ref (q 0), .int x, .int y, .int z] (wC q qf cI cZ cF g C R rw len F sz X mk) (fun r u => r = vtlC g C x y z ∧ ∃ R', u = wC q qf cI cZ cF g C R' rw len F sz X mk) 0 0 := by
  refine cI_of (cc := cX5_vital) (maxL := 6) (rt := .int) (plainFor_of_name (by decide +kernel)) rfl (Nat.le_of_ble_eq_true rfl) ?_
  intro p e s m args below meth c A Q ls S hk hW hl hR
  have hl : lv_has ls 6 [(0, .ref (q 0)), (1, .int x), (2, .int y), (3, .int z)] := hl
  have hwsX50 : ∀ x ∈ wsX50, x ∈ wsX5_vital := fun x h => List.mem_cons_of_mem _ (List.mem_append_left _ (List.mem_append_left _ (List.mem_append_right _ h)))
  have hwsX20 : ∀ x ∈ wsX20, x ∈ wsX5_vital := fun x h => List.mem_cons_of_mem _ (List.mem_append_left _ (List.mem_append_right _ h))
  have hwsX40 : ∀ x ∈ wsX40, x ∈ wsX5_vital := fun x h => List.mem_cons_of_mem _ (List.mem_append_right _ h)
  have hN := Gok_N G; have hN2 := Gok_N2 G; have hKK := Gok_K G
  refine lv_aload_n S.1 S.2.1 dX5_vital_0 rfl (lv_at hl 0 rfl) ?_
  refine gf S hk hW 0 rfl rfl hwsX50 0 (by decide) 1 rfl rfl dX5_vital_1 ?_
  refine lv_iload_n S.1 S.2.1 dX5_vital_4 rfl (lv_at hl 1 rfl) ?_
  refine lv_iload_n S.1 S.2.1 dX5_vital_5 rfl (lv_at hl 2 rfl) ?_
  refine kVi S (c_X2_hasPosts (l := l) (D := D) (cI := cI) (cZ := cZ) (cF := cF)) (cwV 2 S.2.2.2.2 gX5_vital_X2_hasPosts rfl rfl rfl ⟨rfl, v_X2_hasPosts⟩ ⟨(Nat.le_of_ble_eq_true rfl), (Nat.le_of_ble_eq_true rfl)⟩) hk hW 1 rfl rfl rfl rfl hl rfl (Nat.le_of_ble_eq_true rfl) dX5_vital_6 ⟨(Nat.le_of_ble_eq_true rfl), (Nat.le_of_ble_eq_true rfl)⟩ (fun r u H locs hp hW => ?_)
  obtain ⟨rfl, rfl⟩ := hp
  refine ifne_b (tgt := 16) S dX5_vital_9 (by decide) (fun c_9 => ?_) (fun c_9 => ?_)
  · skip
    obtain ⟨c9a, c9b⟩ := (Bool.and_eq_true_iff).mp c_9
    obtain ⟨a, ha, rfl⟩ := inb_nat c9a (by omega)
    obtain ⟨b, hb, rfl⟩ := inb_nat c9b (by omega)
    have hca : (nI a).toNatClampNeg = a := nI_clamp (by omega)
    have hcb : (nI b).toNatClampNeg = b := nI_clamp (by omega)
    refine lv_iconst (v := nI 0) S.1 S.2.1 dX5_vital_16 (by decide) ?_
    refine lv_istore (lv' := [(4, .int (nI 0)), (0, .ref (q 0)), (1, .int (nI a)), (2, .int (nI b)), (3, .int z)]) S.1 S.2.1 dX5_vital_17 hl (by decide) rfl (fun ls hl => ?_)
    refine lv_iconst (v := nI 0) S.1 S.2.1 dX5_vital_19 (by decide) ?_
    refine lv_istore (lv' := [(5, .int (nI 0)), (4, .int (nI 0)), (0, .ref (q 0)), (1, .int (nI a)), (2, .int (nI b)), (3, .int z)]) S.1 S.2.1 dX5_vital_20 hl (by decide) rfl (fun ls hl => ?_)
    have L22 : ∀ (dd : Nat), ∀ (n : Nat), ∀ (i : Nat), ∀ (R1 : Nat → Int32), (n = cvt g C a b i) → (fj (vitP g C a b z) (gK g) 0 = fj (vitP g C a b z) (gK g - i) i) → (i ≤ gK g) → gK g < i + dd → ∀ (H : Heap) (locs : List Loc) (ls : Array Slot), wd D A s H locs (wC q qf cI cZ cF g C R1 rw len F sz X mk) → lv_has ls 6 [(0, .ref (q 0)), (1, .int (nI a)), (2, .int (nI b)), (3, .int z), (4, .int (nI n)), (5, .int (nI i))] → W p l e r_X5_vital s m args below meth c H locs 0 0 Q (F0 m 22 ls []) := by
      intro dd
      induction dd with
      | zero => intros; omega
      | succ dd ih22 =>
        intro n i R1 hn hf hi hdd H locs ls hW hl
        refine lv_iload S.1 S.2.1 dX5_vital_22 (lv_at hl 5 rfl) ?_
        refine lv_aload_n S.1 S.2.1 dX5_vital_24 rfl (lv_at hl 0 rfl) ?_
        refine gf S hk hW 0 rfl rfl hwsX50 0 (by decide) 1 rfl rfl dX5_vital_25 ?_
        refine gfN (host := RX5) S hk hW 1 rfl rfl hwsX20 6 (by decide) 1 rfl rfl dX5_vital_28 ?_
        refine icge_n (tgt := 66) S (by omega) (by omega) dX5_vital_31 (by decide) (fun c_31 => ?_) (fun c_31 => ?_)
        · skip
          refine lv_sipush (v := (-1000)) S.1 S.2.1 dX5_vital_66 (by decide) ?_
          exact hR _ _ _ _ _ _ _ _ dX5_vital_69 rfl (Nat.le_of_ble_eq_true rfl) (Nat.le_of_ble_eq_true rfl) hW ⟨(by simp only [vtlC, c_9, hca, hcb, if_true]; rw [fj_none hf (by omega)]; rfl), ⟨_, rfl⟩⟩
        · skip
          refine lv_aload_n S.1 S.2.1 dX5_vital_34 rfl (lv_at hl 0 rfl) ?_
          refine gf S hk hW 0 rfl rfl hwsX50 1 (by decide) 2 rfl rfl dX5_vital_35 ?_
          refine lv_iload_n S.1 S.2.1 dX5_vital_38 rfl (lv_at hl 1 rfl) ?_
          refine lv_iload_n S.1 S.2.1 dX5_vital_39 rfl (lv_at hl 2 rfl) ?_
          refine lv_iload S.1 S.2.1 dX5_vital_40 (lv_at hl 5 rfl) ?_
          refine kVi S (c_X4_isVital (l := l) (D := D) (cI := cI) (cZ := cZ) (cF := cF) G (by first | assumption | omega) (by first | assumption | omega)) (cwV 3 S.2.2.2.2 gX5_vital_X4_isVital rfl rfl rfl ⟨rfl, v_X4_isVital⟩ ⟨(Nat.le_of_ble_eq_true rfl), (Nat.le_of_ble_eq_true rfl)⟩) hk hW 2 rfl rfl rfl rfl hl rfl (Nat.le_of_ble_eq_true rfl) dX5_vital_42 ⟨(Nat.le_of_ble_eq_true rfl), (Nat.le_of_ble_eq_true rfl)⟩ (fun r u H locs hp hW => ?_)
          obtain ⟨rfl, R'_1, rfl⟩ := hp
          refine ifeq_b (tgt := 60) S dX5_vital_45 (by decide) (fun c_45 => ?_) (fun c_45 => ?_)
          · skip
            refine lv_iinc (v := nI (i + 1)) (lv' := [(5, .int (nI (i + 1))), (0, .ref (q 0)), (1, .int (nI a)), (2, .int (nI b)), (3, .int z), (4, .int (nI n))]) (k := 5) S.1 S.2.1 dX5_vital_60 hl rfl (nI_1 _) (by decide) rfl (fun ls hl => ?_)
            refine lv_goto (tgt := 22) S.1 S.2.1 dX5_vital_63 (by decide) ?_
            exact ih22 n (i + 1) R'_1 (by simp only [cvt, hn, c_45, eq_self, Nat.add_zero, decide_false, decide_true, Bool.not_true, Bool.not_false, Bool.and_true, Bool.true_and, Bool.and_false, Bool.false_and, Bool.or_true, Bool.true_or, Bool.or_false, Bool.false_or, ↓reduceIte, cond_true, cond_false, bI, and_true, true_and, and_false, false_and, or_true, true_or, or_false, false_or, not_true_eq_false, not_false_eq_true, if_true, if_false, Bool.false_eq_true, reduceCtorEq, ite_true, ite_false]) (fj_step hf (by omega) (by simp only [vitP, ← hn, c_45, eq_self, Nat.add_zero, decide_false, decide_true, Bool.not_true, Bool.not_false, Bool.and_true, Bool.true_and, Bool.and_false, Bool.false_and, Bool.or_true, Bool.true_or, Bool.or_false, Bool.false_or, ↓reduceIte, cond_true, cond_false, bI, and_true, true_and, and_false, false_and, or_true, true_or, or_false, false_or, not_true_eq_false, not_false_eq_true, if_true, if_false, Bool.false_eq_true, reduceCtorEq, ite_true, ite_false])) (by omega) (by omega) _ _ _ hW (lv_sub hl [1, 2, 3, 4, 5, 0] rfl)
          · skip
            refine lv_iload S.1 S.2.1 dX5_vital_48 (lv_at hl 4 rfl) ?_
            refine lv_iload_n S.1 S.2.1 dX5_vital_50 rfl (lv_at hl 3 rfl) ?_
            refine lv_icmp_ne (tgt := 57) S.1 S.2.1 dX5_vital_51 (by decide) (fun c_51 => ?_) (fun c_51 => ?_)
            · skip
              refine lv_iinc (v := nI (n + 1)) (lv' := [(4, .int (nI (n + 1))), (0, .ref (q 0)), (1, .int (nI a)), (2, .int (nI b)), (3, .int z), (5, .int (nI i))]) (k := 4) S.1 S.2.1 dX5_vital_57 hl rfl (nI_1 _) (by decide) rfl (fun ls hl => ?_)
              refine lv_iinc (v := nI (i + 1)) (lv' := [(5, .int (nI (i + 1))), (4, .int (nI (n + 1))), (0, .ref (q 0)), (1, .int (nI a)), (2, .int (nI b)), (3, .int z)]) (k := 5) S.1 S.2.1 dX5_vital_60 hl rfl (nI_1 _) (by decide) rfl (fun ls hl => ?_)
              refine lv_goto (tgt := 22) S.1 S.2.1 dX5_vital_63 (by decide) ?_
              exact ih22 (n + 1) (i + 1) R'_1 (by simp only [cvt, hn, c_45, eq_self, Nat.add_zero, decide_false, decide_true, Bool.not_true, Bool.not_false, Bool.and_true, Bool.true_and, Bool.and_false, Bool.false_and, Bool.or_true, Bool.true_or, Bool.or_false, Bool.false_or, ↓reduceIte, cond_true, cond_false, bI, and_true, true_and, and_false, false_and, or_true, true_or, or_false, false_or, not_true_eq_false, not_false_eq_true, if_true, if_false, Bool.false_eq_true, reduceCtorEq, ite_true, ite_false]) (fj_step hf (by omega) (by simp only [vitP, ← hn, c_45, c_51, eq_self, Nat.add_zero, decide_false, decide_true, Bool.not_true, Bool.not_false, Bool.and_true, Bool.true_and, Bool.and_false, Bool.false_and, Bool.or_true, Bool.true_or, Bool.or_false, Bool.false_or, ↓reduceIte, cond_true, cond_false, bI, and_true, true_and, and_false, false_and, or_true, true_or, or_false, false_or, not_true_eq_false, not_false_eq_true, if_true, if_false, Bool.false_eq_true, reduceCtorEq, ite_true, ite_false])) (by omega) (by omega) _ _ _ hW (lv_sub hl [2, 3, 4, 5, 1, 0] rfl)
            · skip
              refine lv_iload S.1 S.2.1 dX5_vital_54 (lv_at hl 5 rfl) ?_
              exact hR _ _ _ _ _ _ _ _ dX5_vital_56 rfl (Nat.le_of_ble_eq_true rfl) (Nat.le_of_ble_eq_true rfl) hW ⟨(by simp only [vtlC, c_9, hca, hcb, if_true]; rw [fj_found hf (by omega) (by simp only [vitP, ← hn, c_45, c_51, eq_self, Nat.add_zero, decide_false, decide_true, Bool.not_true, Bool.not_false, Bool.and_true, Bool.true_and, Bool.and_false, Bool.false_and, Bool.or_true, Bool.true_or, Bool.or_false, Bool.false_or, ↓reduceIte, cond_true, cond_false, bI, and_true, true_and, and_false, false_and, or_true, true_or, or_false, false_or, not_true_eq_false, not_false_eq_true, if_true, if_false, Bool.false_eq_true, reduceCtorEq, ite_true, ite_false])]; rfl), ⟨_, rfl⟩⟩
    exact L22 ((gK g) + 1) 0 0 R rfl rfl (by omega) (by omega) _ _ _ hW (lv_sub hl [2, 3, 4, 5, 1, 0] rfl)
  · skip
    refine lv_sipush (v := (-1001)) S.1 S.2.1 dX5_vital_12 (by decide) ?_
    exact hR _ _ _ _ _ _ _ _ dX5_vital_15 rfl (Nat.le_of_ble_eq_true rfl) (Nat.le_of_ble_eq_true rfl) hW ⟨(by simp only [vtlC, c_9, eq_self, Nat.add_zero, decide_false, decide_true, Bool.not_true, Bool.not_false, Bool.and_true, Bool.true_and, Bool.and_false, Bool.false_and, Bool.or_true, Bool.true_or, Bool.or_false, Bool.false_or, ↓reduceIte, cond_true, cond_false, bI, and_true, true_and, and_false, false_and, or_true, true_or, or_false, false_or, not_true_eq_false, not_false_eq_true, if_true, if_false, Bool.false_eq_true, reduceCtorEq, ite_true, ite_false]), ⟨_, rfl⟩⟩
abbrev r_X5_about : Room := { frames := 4, cells := 0, slots := 0, locals := 98 }
theorem v_X5_about : yX5_about.cls ≠ "java/lang/invoke/MethodHandle" ∧ yX5_about.cls ≠ "java/lang/invoke/VarHandle" ∧ (parseMethodDescriptor yX5_about.desc).map (fun d => d.parameters.length) = some 3 := by decide +kernel
set_option maxRecDepth 100000 in
set_option maxHeartbeats 4000000 in
theorem c_X5_about {l : Launch} {D : va_G} {cI cZ cF : ClassId} {q : Nat → Nat} {qf : Nat → Nat} {g : Gr} {C R : Nat → Int32} {rw len : Nat} {F : Nat → Int32} {sz : Nat} {X : Nat → Int32} {mk : Int32} {x y z : Int32} (G : Gok g) : cI_ l D cI cZ cF yX5_about wsX5_about r_X5_about [.ref (q 0), .int x, .int y, .int z] (wC q qf cI cZ cF g C R rw len F sz X mk) (fun r u => r = abtC g x y z ∧ ∃ R', u = wC q qf cI cZ cF g C R' rw len F sz X mk) 0 0 := by
  refine cI_of (cc := cX5_about) (maxL := 4) (rt := .int) (plainFor_of_name (by decide +kernel)) rfl (Nat.le_of_ble_eq_true rfl) ?_
  intro p e s m args below meth c A Q ls S hk hW hl hR
  have hl : lv_has ls 4 [(0, .ref (q 0)), (1, .int x), (2, .int y), (3, .int z)] := hl
  have hwsX50 : ∀ x ∈ wsX50, x ∈ wsX5_about := fun x h => List.mem_cons_of_mem _ (List.mem_append_left _ (List.mem_append_left _ (List.mem_append_right _ h)))
  have hwsX20 : ∀ x ∈ wsX20, x ∈ wsX5_about := fun x h => List.mem_cons_of_mem _ (List.mem_append_left _ (List.mem_append_right _ h))
  have hwsX40 : ∀ x ∈ wsX40, x ∈ wsX5_about := fun x h => List.mem_cons_of_mem _ (List.mem_append_right _ h)
  have hN := Gok_N G; have hN2 := Gok_N2 G; have hKK := Gok_K G
  refine lv_aload_n S.1 S.2.1 dX5_about_0 rfl (lv_at hl 0 rfl) ?_
  refine gf S hk hW 0 rfl rfl hwsX50 0 (by decide) 1 rfl rfl dX5_about_1 ?_
  refine lv_iload_n S.1 S.2.1 dX5_about_4 rfl (lv_at hl 1 rfl) ?_
  refine lv_iload_n S.1 S.2.1 dX5_about_5 rfl (lv_at hl 2 rfl) ?_
  refine kVi S (c_X2_hasPosts (l := l) (D := D) (cI := cI) (cZ := cZ) (cF := cF)) (cwV 2 S.2.2.2.2 gX5_about_X2_hasPosts rfl rfl rfl ⟨rfl, v_X2_hasPosts⟩ ⟨(Nat.le_of_ble_eq_true rfl), (Nat.le_of_ble_eq_true rfl)⟩) hk hW 1 rfl rfl rfl rfl hl rfl (Nat.le_of_ble_eq_true rfl) dX5_about_6 ⟨(Nat.le_of_ble_eq_true rfl), (Nat.le_of_ble_eq_true rfl)⟩ (fun r u H locs hp hW => ?_)
  obtain ⟨rfl, rfl⟩ := hp
  refine ifeq_b (tgt := 23) S dX5_about_9 (by decide) (fun c_9 => ?_) (fun c_9 => ?_)
  · skip
    refine lv_sipush (v := (-1001)) S.1 S.2.1 dX5_about_23 (by decide) ?_
    exact hR _ _ _ _ _ _ _ _ dX5_about_26 rfl (Nat.le_of_ble_eq_true rfl) (Nat.le_of_ble_eq_true rfl) hW ⟨(by simp only [abtC, c_9, eq_self, Nat.add_zero, decide_false, decide_true, Bool.not_true, Bool.not_false, Bool.and_true, Bool.true_and, Bool.and_false, Bool.false_and, Bool.or_true, Bool.true_or, Bool.or_false, Bool.false_or, ↓reduceIte, cond_true, cond_false, bI, and_true, true_and, and_false, false_and, or_true, true_or, or_false, false_or, not_true_eq_false, not_false_eq_true, if_true, if_false, Bool.false_eq_true, reduceCtorEq, ite_true, ite_false]), ⟨_, rfl⟩⟩
  · skip
    obtain ⟨c9a, c9b⟩ := (Bool.and_eq_true_iff).mp c_9
    obtain ⟨a, ha, rfl⟩ := inb_nat c9a (by omega)
    obtain ⟨b, hb, rfl⟩ := inb_nat c9b (by omega)
    have hca : (nI a).toNatClampNeg = a := nI_clamp (by omega)
    have hcb : (nI b).toNatClampNeg = b := nI_clamp (by omega)
    refine lv_aload_n S.1 S.2.1 dX5_about_12 rfl (lv_at hl 0 rfl) ?_
    refine gf S hk hW 0 rfl rfl hwsX50 0 (by decide) 1 rfl rfl dX5_about_13 ?_
    refine lv_iload_n S.1 S.2.1 dX5_about_16 rfl (lv_at hl 3 rfl) ?_
    refine kVi S (c_X2_hasPost (l := l) (D := D) (cI := cI) (cZ := cZ) (cF := cF)) (cwV 1 S.2.2.2.2 gX5_about_X2_hasPost rfl rfl rfl ⟨rfl, v_X2_hasPost⟩ ⟨(Nat.le_of_ble_eq_true rfl), (Nat.le_of_ble_eq_true rfl)⟩) hk hW 1 rfl rfl rfl rfl hl rfl (Nat.le_of_ble_eq_true rfl) dX5_about_17 ⟨(Nat.le_of_ble_eq_true rfl), (Nat.le_of_ble_eq_true rfl)⟩ (fun r u H locs hp hW => ?_)
    obtain ⟨rfl, rfl⟩ := hp
    refine ifne_b (tgt := 27) S dX5_about_20 (by decide) (fun c_20 => ?_) (fun c_20 => ?_)
    · skip
      refine lv_iload_n S.1 S.2.1 dX5_about_27 rfl (lv_at hl 3 rfl) ?_
      refine lv_iload_n S.1 S.2.1 dX5_about_28 rfl (lv_at hl 1 rfl) ?_
      refine lv_icmp_eq (tgt := 37) S.1 S.2.1 dX5_about_29 (by decide) (fun c_29 => ?_) (fun c_29 => ?_)
      · skip
        refine lv_sipush (v := (-1003)) S.1 S.2.1 dX5_about_37 (by decide) ?_
        exact hR _ _ _ _ _ _ _ _ dX5_about_40 rfl (Nat.le_of_ble_eq_true rfl) (Nat.le_of_ble_eq_true rfl) hW ⟨(by simp only [abtC, hca, hcb, c_9, c_20, eq_true c_29, eq_self, Nat.add_zero, decide_false, decide_true, Bool.not_true, Bool.not_false, Bool.and_true, Bool.true_and, Bool.and_false, Bool.false_and, Bool.or_true, Bool.true_or, Bool.or_false, Bool.false_or, ↓reduceIte, cond_true, cond_false, bI, and_true, true_and, and_false, false_and, or_true, true_or, or_false, false_or, not_true_eq_false, not_false_eq_true, if_true, if_false, Bool.false_eq_true, reduceCtorEq, ite_true, ite_false]), ⟨_, rfl⟩⟩
      · skip
        refine lv_iload_n S.1 S.2.1 dX5_about_32 rfl (lv_at hl 3 rfl) ?_
        refine lv_iload_n S.1 S.2.1 dX5_about_33 rfl (lv_at hl 2 rfl) ?_
        refine lv_icmp_ne (tgt := 41) S.1 S.2.1 dX5_about_34 (by decide) (fun c_34 => ?_) (fun c_34 => ?_)
        · skip
          refine lv_aload_n S.1 S.2.1 dX5_about_41 rfl (lv_at hl 0 rfl) ?_
          refine gf S hk hW 0 rfl rfl hwsX50 1 (by decide) 2 rfl rfl dX5_about_42 ?_
          refine lv_iload_n S.1 S.2.1 dX5_about_45 rfl (lv_at hl 1 rfl) ?_
          refine lv_iload_n S.1 S.2.1 dX5_about_46 rfl (lv_at hl 2 rfl) ?_
          refine lv_iconst (v := (-1)) S.1 S.2.1 dX5_about_47 (by decide) ?_
          refine lv_iload_n S.1 S.2.1 dX5_about_48 rfl (lv_at hl 3 rfl) ?_
          refine kVi S (c_X4_leastAvoiding (l := l) (D := D) (cI := cI) (cZ := cZ) (cF := cF) G (by first | assumption | omega) (by first | assumption | omega)) (cwV 4 S.2.2.2.2 gX5_about_X4_leastAvoiding rfl rfl rfl ⟨rfl, v_X4_leastAvoiding⟩ ⟨(Nat.le_of_ble_eq_true rfl), (Nat.le_of_ble_eq_true rfl)⟩) hk hW 2 rfl rfl rfl rfl hl rfl (Nat.le_of_ble_eq_true rfl) dX5_about_49 ⟨(Nat.le_of_ble_eq_true rfl), (Nat.le_of_ble_eq_true rfl)⟩ (fun r u H locs hp hW => ?_)
          obtain ⟨rfl, R'_1, rfl⟩ := hp
          exact hR _ _ _ _ _ _ _ _ dX5_about_52 rfl (Nat.le_of_ble_eq_true rfl) (Nat.le_of_ble_eq_true rfl) hW ⟨(by simp only [abtC, hca, hcb, c_9, c_20, eq_false c_29, eq_false c_34, eq_self, Nat.add_zero, decide_false, decide_true, Bool.not_true, Bool.not_false, Bool.and_true, Bool.true_and, Bool.and_false, Bool.false_and, Bool.or_true, Bool.true_or, Bool.or_false, Bool.false_or, ↓reduceIte, cond_true, cond_false, bI, and_true, true_and, and_false, false_and, or_true, true_or, or_false, false_or, not_true_eq_false, not_false_eq_true, if_true, if_false, Bool.false_eq_true, reduceCtorEq, ite_true, ite_false]), ⟨_, rfl⟩⟩
        · skip
          refine lv_sipush (v := (-1003)) S.1 S.2.1 dX5_about_37 (by decide) ?_
          exact hR _ _ _ _ _ _ _ _ dX5_about_40 rfl (Nat.le_of_ble_eq_true rfl) (Nat.le_of_ble_eq_true rfl) hW ⟨(by simp only [abtC, hca, hcb, c_9, c_20, eq_false c_29, eq_true c_34, eq_self, Nat.add_zero, decide_false, decide_true, Bool.not_true, Bool.not_false, Bool.and_true, Bool.true_and, Bool.and_false, Bool.false_and, Bool.or_true, Bool.true_or, Bool.or_false, Bool.false_or, ↓reduceIte, cond_true, cond_false, bI, and_true, true_and, and_false, false_and, or_true, true_or, or_false, false_or, not_true_eq_false, not_false_eq_true, if_true, if_false, Bool.false_eq_true, reduceCtorEq, ite_true, ite_false]), ⟨_, rfl⟩⟩
    · skip
      refine lv_sipush (v := (-1001)) S.1 S.2.1 dX5_about_23 (by decide) ?_
      exact hR _ _ _ _ _ _ _ _ dX5_about_26 rfl (Nat.le_of_ble_eq_true rfl) (Nat.le_of_ble_eq_true rfl) hW ⟨(by simp only [abtC, hca, hcb, c_9, c_20, eq_self, Nat.add_zero, decide_false, decide_true, Bool.not_true, Bool.not_false, Bool.and_true, Bool.true_and, Bool.and_false, Bool.false_and, Bool.or_true, Bool.true_or, Bool.or_false, Bool.false_or, ↓reduceIte, cond_true, cond_false, bI, and_true, true_and, and_false, false_and, or_true, true_or, or_false, false_or, not_true_eq_false, not_false_eq_true, if_true, if_false, Bool.false_eq_true, reduceCtorEq, ite_true, ite_false]), ⟨_, rfl⟩⟩
abbrev r_X5_ring : Room := { frames := 5, cells := 0, slots := 0, locals := 110 }
theorem v_X5_ring : yX5_ring.cls ≠ "java/lang/invoke/MethodHandle" ∧ yX5_ring.cls ≠ "java/lang/invoke/VarHandle" ∧ (parseMethodDescriptor yX5_ring.desc).map (fun d => d.parameters.length) = some 0 := by decide +kernel
set_option maxRecDepth 100000 in
set_option maxHeartbeats 4000000 in
theorem c_X5_ring {l : Launch} {D : va_G} {cI cZ cF : ClassId} {q : Nat → Nat} {qf : Nat → Nat} {g : Gr} {C R : Nat → Int32} {rw len : Nat} {F : Nat → Int32} {sz : Nat} {X : Nat → Int32} {mk : Int32}  (G : Gok g) : cI_ l D cI cZ cF yX5_ring wsX5_ring r_X5_ring [.ref (q 0)] (wC q qf cI cZ cF g C R rw len F sz X mk) (fun r u => r = rgS g C (gK g) ∧ u = wC q qf cI cZ cF g C R rw len F sz X mk) 0 0 := by
  refine cI_of (cc := cX5_ring) (maxL := 1) (rt := .int) (plainFor_of_name (by decide +kernel)) rfl (Nat.le_of_ble_eq_true rfl) ?_
  intro p e s m args below meth c A Q ls S hk hW hl hR
  have hl : lv_has ls 1 [(0, .ref (q 0))] := hl
  have hwsX50 : ∀ x ∈ wsX50, x ∈ wsX5_ring := fun x h => List.mem_cons_of_mem _ (List.mem_append_left _ (List.mem_append_left _ (List.mem_append_right _ h)))
  have hwsX40 : ∀ x ∈ wsX40, x ∈ wsX5_ring := fun x h => List.mem_cons_of_mem _ (List.mem_append_left _ (List.mem_append_right _ h))
  have hwsX20 : ∀ x ∈ wsX20, x ∈ wsX5_ring := fun x h => List.mem_cons_of_mem _ (List.mem_append_right _ h)
  refine lv_aload_n S.1 S.2.1 dX5_ring_0 rfl (lv_at hl 0 rfl) ?_
  refine gf S hk hW 0 rfl rfl hwsX50 1 (by decide) 1 rfl rfl dX5_ring_1 ?_
  refine kVi S (c_X4_leastRing (l := l) (D := D) (cI := cI) (cZ := cZ) (cF := cF) G) (cwV 0 S.2.2.2.2 gX5_ring_X4_leastRing rfl rfl rfl ⟨rfl, v_X4_leastRing⟩ ⟨(Nat.le_of_ble_eq_true rfl), (Nat.le_of_ble_eq_true rfl)⟩) hk hW 2 rfl rfl rfl rfl hl rfl (Nat.le_of_ble_eq_true rfl) dX5_ring_4 ⟨(Nat.le_of_ble_eq_true rfl), (Nat.le_of_ble_eq_true rfl)⟩ (fun r u H locs hp hW => ?_)
  obtain ⟨rfl, rfl⟩ := hp
  exact hR _ _ _ _ _ _ _ _ dX5_ring_7 rfl (Nat.le_of_ble_eq_true rfl) (Nat.le_of_ble_eq_true rfl) hW ⟨rfl, rfl⟩
abbrev r_X5_height : Room := { frames := 4, cells := 0, slots := 0, locals := 87 }
theorem v_X5_height : yX5_height.cls ≠ "java/lang/invoke/MethodHandle" ∧ yX5_height.cls ≠ "java/lang/invoke/VarHandle" ∧ (parseMethodDescriptor yX5_height.desc).map (fun d => d.parameters.length) = some 1 := by decide +kernel
set_option maxRecDepth 100000 in
set_option maxHeartbeats 4000000 in
theorem c_X5_height {l : Launch} {D : va_G} {cI cZ cF : ClassId} {q : Nat → Nat} {qf : Nat → Nat} {g : Gr} {C R : Nat → Int32} {rw len : Nat} {F : Nat → Int32} {sz : Nat} {X : Nat → Int32} {mk : Int32} {x : Int32} (G : Gok g) : cI_ l D cI cZ cF yX5_height wsX5_height r_X5_height [.ref (q 0), .int x] (wC q qf cI cZ cF g C R rw len F sz X mk) (fun r u => r = hgtC g C x ∧ u = wC q qf cI cZ cF g C R rw len F sz X mk) 0 0 := by
  refine cI_of (cc := cX5_height) (maxL := 2) (rt := .int) (plainFor_of_name (by decide +kernel)) rfl (Nat.le_of_ble_eq_true rfl) ?_
  intro p e s m args below meth c A Q ls S hk hW hl hR
  have hl : lv_has ls 2 [(0, .ref (q 0)), (1, .int x)] := hl
  have hwsX50 : ∀ x ∈ wsX50, x ∈ wsX5_height := fun x h => List.mem_cons_of_mem _ (List.mem_append_left _ (List.mem_append_left _ (List.mem_append_right _ h)))
  have hwsX20 : ∀ x ∈ wsX20, x ∈ wsX5_height := fun x h => List.mem_cons_of_mem _ (List.mem_append_left _ (List.mem_append_right _ h))
  have hwsX40 : ∀ x ∈ wsX40, x ∈ wsX5_height := fun x h => List.mem_cons_of_mem _ (List.mem_append_right _ h)
  have hN := Gok_N G; have hN2 := Gok_N2 G; have hKK := Gok_K G
  refine lv_aload_n S.1 S.2.1 dX5_height_0 rfl (lv_at hl 0 rfl) ?_
  refine gf S hk hW 0 rfl rfl hwsX50 0 (by decide) 1 rfl rfl dX5_height_1 ?_
  refine lv_iload_n S.1 S.2.1 dX5_height_4 rfl (lv_at hl 1 rfl) ?_
  refine kVi S (c_X2_hasPost (l := l) (D := D) (cI := cI) (cZ := cZ) (cF := cF)) (cwV 1 S.2.2.2.2 gX5_height_X2_hasPost rfl rfl rfl ⟨rfl, v_X2_hasPost⟩ ⟨(Nat.le_of_ble_eq_true rfl), (Nat.le_of_ble_eq_true rfl)⟩) hk hW 1 rfl rfl rfl rfl hl rfl (Nat.le_of_ble_eq_true rfl) dX5_height_5 ⟨(Nat.le_of_ble_eq_true rfl), (Nat.le_of_ble_eq_true rfl)⟩ (fun r u H locs hp hW => ?_)
  obtain ⟨rfl, rfl⟩ := hp
  refine ifeq_b (tgt := 22) S dX5_height_8 (by decide) (fun c_8 => ?_) (fun c_8 => ?_)
  · skip
    refine lv_sipush (v := (-1001)) S.1 S.2.1 dX5_height_22 (by decide) ?_
    exact hR _ _ _ _ _ _ _ _ dX5_height_25 rfl (Nat.le_of_ble_eq_true rfl) (Nat.le_of_ble_eq_true rfl) hW ⟨(by simp only [hgtC, c_8, eq_self, Nat.add_zero, decide_false, decide_true, Bool.not_true, Bool.not_false, Bool.and_true, Bool.true_and, Bool.and_false, Bool.false_and, Bool.or_true, Bool.true_or, Bool.or_false, Bool.false_or, ↓reduceIte, cond_true, cond_false, bI, and_true, true_and, and_false, false_and, or_true, true_or, or_false, false_or, not_true_eq_false, not_false_eq_true, if_true, if_false, Bool.false_eq_true, reduceCtorEq, ite_true, ite_false]), rfl⟩
  · skip
    obtain ⟨a, ha, rfl⟩ := inb_nat c_8 (by omega)
    have hca : (nI a).toNatClampNeg = a := nI_clamp (by omega)
    refine lv_aload_n S.1 S.2.1 dX5_height_11 rfl (lv_at hl 0 rfl) ?_
    refine gf S hk hW 0 rfl rfl hwsX50 1 (by decide) 2 rfl rfl dX5_height_12 ?_
    refine lv_iload_n S.1 S.2.1 dX5_height_15 rfl (lv_at hl 1 rfl) ?_
    refine kVi S (c_X4_heightOf (l := l) (D := D) (cI := cI) (cZ := cZ) (cF := cF) G (by first | assumption | omega)) (cwV 1 S.2.2.2.2 gX5_height_X4_heightOf rfl rfl rfl ⟨rfl, v_X4_heightOf⟩ ⟨(Nat.le_of_ble_eq_true rfl), (Nat.le_of_ble_eq_true rfl)⟩) hk hW 2 rfl rfl rfl rfl hl rfl (Nat.le_of_ble_eq_true rfl) dX5_height_16 ⟨(Nat.le_of_ble_eq_true rfl), (Nat.le_of_ble_eq_true rfl)⟩ (fun r u H locs hp hW => ?_)
    obtain ⟨rfl, rfl⟩ := hp
    refine lv_goto (tgt := 25) S.1 S.2.1 dX5_height_19 (by decide) ?_
    exact hR _ _ _ _ _ _ _ _ dX5_height_25 rfl (Nat.le_of_ble_eq_true rfl) (Nat.le_of_ble_eq_true rfl) hW ⟨(by simp only [hgtC, hca, c_8, eq_self, Nat.add_zero, decide_false, decide_true, Bool.not_true, Bool.not_false, Bool.and_true, Bool.true_and, Bool.and_false, Bool.false_and, Bool.or_true, Bool.true_or, Bool.or_false, Bool.false_or, ↓reduceIte, cond_true, cond_false, bI, and_true, true_and, and_false, false_and, or_true, true_or, or_false, false_or, not_true_eq_false, not_false_eq_true, if_true, if_false, Bool.false_eq_true, reduceCtorEq, ite_true, ite_false]), rfl⟩
abbrev r_X5_acts : Room := { frames := 1, cells := 0, slots := 0, locals := 20 }
theorem v_X5_acts : yX5_acts.cls ≠ "java/lang/invoke/MethodHandle" ∧ yX5_acts.cls ≠ "java/lang/invoke/VarHandle" ∧ (parseMethodDescriptor yX5_acts.desc).map (fun d => d.parameters.length) = some 0 := by decide +kernel
set_option maxRecDepth 100000 in
set_option maxHeartbeats 4000000 in
theorem c_X5_acts {l : Launch} {D : va_G} {cI cZ cF : ClassId} {q : Nat → Nat} {qf : Nat → Nat} {g : Gr} {C R : Nat → Int32} {rw len : Nat} {F : Nat → Int32} {sz : Nat} {X : Nat → Int32} {mk : Int32}  (h1 : 1 ≤ rw) : cI_ l D cI cZ cF yX5_acts wsX5_acts r_X5_acts [.ref (q 0)] (wC q qf cI cZ cF g C R rw len F sz X mk) (fun r u => r = nI (rw - 1) ∧ u = wC q qf cI cZ cF g C R rw len F sz X mk) 0 0 := by
  refine cI_of (cc := cX5_acts) (maxL := 1) (rt := .int) (plainFor_of_name (by decide +kernel)) rfl (Nat.le_of_ble_eq_true rfl) ?_
  intro p e s m args below meth c A Q ls S hk hW hl hR
  have hl : lv_has ls 1 [(0, .ref (q 0))] := hl
  have hwsX50 : ∀ x ∈ wsX50, x ∈ wsX5_acts := fun x h => List.mem_cons_of_mem _ (List.mem_append_left _ (List.mem_append_right _ h))
  have hwsX30 : ∀ x ∈ wsX30, x ∈ wsX5_acts := fun x h => List.mem_cons_of_mem _ (List.mem_append_right _ h)
  refine lv_aload_n S.1 S.2.1 dX5_acts_0 rfl (lv_at hl 0 rfl) ?_
  refine gf S hk hW 0 rfl rfl hwsX50 2 (by decide) 1 rfl rfl dX5_acts_1 ?_
  refine kVi S (c_X3_countActs (l := l) (D := D) (cI := cI) (cZ := cZ) (cF := cF) (by first | assumption | omega)) (cwV 0 S.2.2.2.2 gX5_acts_X3_countActs rfl rfl rfl ⟨rfl, v_X3_countActs⟩ ⟨(Nat.le_of_ble_eq_true rfl), (Nat.le_of_ble_eq_true rfl)⟩) hk hW 3 rfl rfl rfl rfl hl rfl (Nat.le_of_ble_eq_true rfl) dX5_acts_4 ⟨(Nat.le_of_ble_eq_true rfl), (Nat.le_of_ble_eq_true rfl)⟩ (fun r u H locs hp hW => ?_)
  obtain ⟨rfl, rfl⟩ := hp
  exact hR _ _ _ _ _ _ _ _ dX5_acts_7 rfl (Nat.le_of_ble_eq_true rfl) (Nat.le_of_ble_eq_true rfl) hW ⟨rfl, rfl⟩
abbrev r_X5_moved : Room := { frames := 3, cells := 0, slots := 0, locals := 68 }
theorem v_X5_moved : yX5_moved.cls ≠ "java/lang/invoke/MethodHandle" ∧ yX5_moved.cls ≠ "java/lang/invoke/VarHandle" ∧ (parseMethodDescriptor yX5_moved.desc).map (fun d => d.parameters.length) = some 1 := by decide +kernel
set_option maxRecDepth 100000 in
set_option maxHeartbeats 4000000 in
theorem c_X5_moved {l : Launch} {D : va_G} {cI cZ cF : ClassId} {q : Nat → Nat} {qf : Nat → Nat} {g : Gr} {C R : Nat → Int32} {rw len : Nat} {F : Nat → Int32} {sz : Nat} {X : Nat → Int32} {mk : Int32} {x : Int32} (hrl : rw ≤ len) (hlm : len ≤ 401) : cI_ l D cI cZ cF yX5_moved wsX5_moved r_X5_moved [.ref (q 0), .int x] (wC q qf cI cZ cF g C R rw len F sz X mk) (fun r u => r = movC F rw x ∧ u = wC q qf cI cZ cF g C R rw len F sz X mk) 0 0 := by
  refine cI_of (cc := cX5_moved) (maxL := 2) (rt := .int) (plainFor_of_name (by decide +kernel)) rfl (Nat.le_of_ble_eq_true rfl) ?_
  intro p e s m args below meth c A Q ls S hk hW hl hR
  have hl : lv_has ls 2 [(0, .ref (q 0)), (1, .int x)] := hl
  have hwsX50 : ∀ x ∈ wsX50, x ∈ wsX5_moved := fun x h => List.mem_cons_of_mem _ (List.mem_append_left _ (List.mem_append_left _ (List.mem_append_right _ h)))
  have hwsX30 : ∀ x ∈ wsX30, x ∈ wsX5_moved := fun x h => List.mem_cons_of_mem _ (List.mem_append_left _ (List.mem_append_right _ h))
  have hwsX00 : ∀ x ∈ wsX00, x ∈ wsX5_moved := fun x h => List.mem_cons_of_mem _ (List.mem_append_right _ h)
  refine lv_aload_n S.1 S.2.1 dX5_moved_0 rfl (lv_at hl 0 rfl) ?_
  refine gf S hk hW 0 rfl rfl hwsX50 2 (by decide) 1 rfl rfl dX5_moved_1 ?_
  refine lv_iload_n S.1 S.2.1 dX5_moved_4 rfl (lv_at hl 1 rfl) ?_
  refine kVi S (c_X3_hasAct (l := l) (D := D) (cI := cI) (cZ := cZ) (cF := cF)) (cwV 1 S.2.2.2.2 gX5_moved_X3_hasAct rfl rfl rfl ⟨rfl, v_X3_hasAct⟩ ⟨(Nat.le_of_ble_eq_true rfl), (Nat.le_of_ble_eq_true rfl)⟩) hk hW 3 rfl rfl rfl rfl hl rfl (Nat.le_of_ble_eq_true rfl) dX5_moved_5 ⟨(Nat.le_of_ble_eq_true rfl), (Nat.le_of_ble_eq_true rfl)⟩ (fun r u H locs hp hW => ?_)
  obtain ⟨rfl, rfl⟩ := hp
  refine ifeq_b (tgt := 22) S dX5_moved_8 (by decide) (fun c_8 => ?_) (fun c_8 => ?_)
  · skip
    refine lv_sipush (v := (-1001)) S.1 S.2.1 dX5_moved_22 (by decide) ?_
    exact hR _ _ _ _ _ _ _ _ dX5_moved_25 rfl (Nat.le_of_ble_eq_true rfl) (Nat.le_of_ble_eq_true rfl) hW ⟨(by simp only [movC, c_8, eq_self, Nat.add_zero, decide_false, decide_true, Bool.not_true, Bool.not_false, Bool.and_true, Bool.true_and, Bool.and_false, Bool.false_and, Bool.or_true, Bool.true_or, Bool.or_false, Bool.false_or, ↓reduceIte, cond_true, cond_false, bI, and_true, true_and, and_false, false_and, or_true, true_or, or_false, false_or, not_true_eq_false, not_false_eq_true, if_true, if_false, Bool.false_eq_true, reduceCtorEq, ite_true, ite_false]), rfl⟩
  · skip
    obtain ⟨a, h1a, hax, rfl⟩ := hasB_nat c_8 (by omega)
    have hca : (nI a).toNatClampNeg = a := nI_clamp (by omega)
    refine lv_aload_n S.1 S.2.1 dX5_moved_11 rfl (lv_at hl 0 rfl) ?_
    refine gf S hk hW 0 rfl rfl hwsX50 2 (by decide) 1 rfl rfl dX5_moved_12 ?_
    refine lv_iload_n S.1 S.2.1 dX5_moved_15 rfl (lv_at hl 1 rfl) ?_
    refine kVi S (c_X3_countMoved (l := l) (D := D) (cI := cI) (cZ := cZ) (cF := cF) (by first | assumption | omega) (by first | assumption | omega) (by first | assumption | omega)) (cwV 1 S.2.2.2.2 gX5_moved_X3_countMoved rfl rfl rfl ⟨rfl, v_X3_countMoved⟩ ⟨(Nat.le_of_ble_eq_true rfl), (Nat.le_of_ble_eq_true rfl)⟩) hk hW 3 rfl rfl rfl rfl hl rfl (Nat.le_of_ble_eq_true rfl) dX5_moved_16 ⟨(Nat.le_of_ble_eq_true rfl), (Nat.le_of_ble_eq_true rfl)⟩ (fun r u H locs hp hW => ?_)
    obtain ⟨rfl, rfl⟩ := hp
    refine lv_goto (tgt := 25) S.1 S.2.1 dX5_moved_19 (by decide) ?_
    exact hR _ _ _ _ _ _ _ _ dX5_moved_25 rfl (Nat.le_of_ble_eq_true rfl) (Nat.le_of_ble_eq_true rfl) hW ⟨(by simp only [movC, hca, c_8, eq_self, Nat.add_zero, decide_false, decide_true, Bool.not_true, Bool.not_false, Bool.and_true, Bool.true_and, Bool.and_false, Bool.false_and, Bool.or_true, Bool.true_or, Bool.or_false, Bool.false_or, ↓reduceIte, cond_true, cond_false, bI, and_true, true_and, and_false, false_and, or_true, true_or, or_false, false_or, not_true_eq_false, not_false_eq_true, if_true, if_false, Bool.false_eq_true, reduceCtorEq, ite_true, ite_false]), rfl⟩
abbrev r_X5_pair : Room := { frames := 3, cells := 0, slots := 0, locals := 69 }
theorem v_X5_pair : yX5_pair.cls ≠ "java/lang/invoke/MethodHandle" ∧ yX5_pair.cls ≠ "java/lang/invoke/VarHandle" ∧ (parseMethodDescriptor yX5_pair.desc).map (fun d => d.parameters.length) = some 2 := by decide +kernel
set_option maxRecDepth 100000 in
set_option maxHeartbeats 4000000 in
theorem c_X5_pair {l : Launch} {D : va_G} {cI cZ cF : ClassId} {q : Nat → Nat} {qf : Nat → Nat} {g : Gr} {C R : Nat → Int32} {rw len : Nat} {F : Nat → Int32} {sz : Nat} {X : Nat → Int32} {mk : Int32} {x y : Int32} (hrl : rw ≤ len) (hlm : len ≤ 401) : cI_ l D cI cZ cF yX5_pair wsX5_pair r_X5_pair [.ref (q 0), .int x, .int y] (wC q qf cI cZ cF g C R rw len F sz X mk) (fun r u => r = paiC F rw x y ∧ u = wC q qf cI cZ cF g C R rw len F sz X mk) 0 0 := by
  refine cI_of (cc := cX5_pair) (maxL := 3) (rt := .int) (plainFor_of_name (by decide +kernel)) rfl (Nat.le_of_ble_eq_true rfl) ?_
  intro p e s m args below meth c A Q ls S hk hW hl hR
  have hl : lv_has ls 3 [(0, .ref (q 0)), (1, .int x), (2, .int y)] := hl
  have hwsX50 : ∀ x ∈ wsX50, x ∈ wsX5_pair := fun x h => List.mem_cons_of_mem _ (List.mem_append_left _ (List.mem_append_left _ (List.mem_append_right _ h)))
  have hwsX30 : ∀ x ∈ wsX30, x ∈ wsX5_pair := fun x h => List.mem_cons_of_mem _ (List.mem_append_left _ (List.mem_append_right _ h))
  have hwsX00 : ∀ x ∈ wsX00, x ∈ wsX5_pair := fun x h => List.mem_cons_of_mem _ (List.mem_append_right _ h)
  refine lv_aload_n S.1 S.2.1 dX5_pair_0 rfl (lv_at hl 0 rfl) ?_
  refine gf S hk hW 0 rfl rfl hwsX50 2 (by decide) 1 rfl rfl dX5_pair_1 ?_
  refine lv_iload_n S.1 S.2.1 dX5_pair_4 rfl (lv_at hl 1 rfl) ?_
  refine kVi S (c_X3_hasAct (l := l) (D := D) (cI := cI) (cZ := cZ) (cF := cF)) (cwV 1 S.2.2.2.2 gX5_pair_X3_hasAct rfl rfl rfl ⟨rfl, v_X3_hasAct⟩ ⟨(Nat.le_of_ble_eq_true rfl), (Nat.le_of_ble_eq_true rfl)⟩) hk hW 3 rfl rfl rfl rfl hl rfl (Nat.le_of_ble_eq_true rfl) dX5_pair_5 ⟨(Nat.le_of_ble_eq_true rfl), (Nat.le_of_ble_eq_true rfl)⟩ (fun r u H locs hp hW => ?_)
  obtain ⟨rfl, rfl⟩ := hp
  refine ifeq_b (tgt := 23) S dX5_pair_8 (by decide) (fun c_8 => ?_) (fun c_8 => ?_)
  · skip
    refine lv_sipush (v := (-1001)) S.1 S.2.1 dX5_pair_23 (by decide) ?_
    exact hR _ _ _ _ _ _ _ _ dX5_pair_26 rfl (Nat.le_of_ble_eq_true rfl) (Nat.le_of_ble_eq_true rfl) hW ⟨(by simp only [paiC, c_8, eq_self, Nat.add_zero, decide_false, decide_true, Bool.not_true, Bool.not_false, Bool.and_true, Bool.true_and, Bool.and_false, Bool.false_and, Bool.or_true, Bool.true_or, Bool.or_false, Bool.false_or, ↓reduceIte, cond_true, cond_false, bI, and_true, true_and, and_false, false_and, or_true, true_or, or_false, false_or, not_true_eq_false, not_false_eq_true, if_true, if_false, Bool.false_eq_true, reduceCtorEq, ite_true, ite_false]), rfl⟩
  · skip
    obtain ⟨a, h1a, hax, rfl⟩ := hasB_nat c_8 (by omega)
    have hca : (nI a).toNatClampNeg = a := nI_clamp (by omega)
    refine lv_aload_n S.1 S.2.1 dX5_pair_11 rfl (lv_at hl 0 rfl) ?_
    refine gf S hk hW 0 rfl rfl hwsX50 2 (by decide) 1 rfl rfl dX5_pair_12 ?_
    refine lv_iload_n S.1 S.2.1 dX5_pair_15 rfl (lv_at hl 1 rfl) ?_
    refine lv_iload_n S.1 S.2.1 dX5_pair_16 rfl (lv_at hl 2 rfl) ?_
    refine kVi S (c_X3_movedPair (l := l) (D := D) (cI := cI) (cZ := cZ) (cF := cF) (by first | assumption | omega) (by first | assumption | omega) (by first | assumption | omega)) (cwV 2 S.2.2.2.2 gX5_pair_X3_movedPair rfl rfl rfl ⟨rfl, v_X3_movedPair⟩ ⟨(Nat.le_of_ble_eq_true rfl), (Nat.le_of_ble_eq_true rfl)⟩) hk hW 3 rfl rfl rfl rfl hl rfl (Nat.le_of_ble_eq_true rfl) dX5_pair_17 ⟨(Nat.le_of_ble_eq_true rfl), (Nat.le_of_ble_eq_true rfl)⟩ (fun r u H locs hp hW => ?_)
    obtain ⟨rfl, rfl⟩ := hp
    refine lv_goto (tgt := 26) S.1 S.2.1 dX5_pair_20 (by decide) ?_
    exact hR _ _ _ _ _ _ _ _ dX5_pair_26 rfl (Nat.le_of_ble_eq_true rfl) (Nat.le_of_ble_eq_true rfl) hW ⟨(by simp only [paiC, hca, c_8, eq_self, Nat.add_zero, decide_false, decide_true, Bool.not_true, Bool.not_false, Bool.and_true, Bool.true_and, Bool.and_false, Bool.false_and, Bool.or_true, Bool.true_or, Bool.or_false, Bool.false_or, ↓reduceIte, cond_true, cond_false, bI, and_true, true_and, and_false, false_and, or_true, true_or, or_false, false_or, not_true_eq_false, not_false_eq_true, if_true, if_false, Bool.false_eq_true, reduceCtorEq, ite_true, ite_false]), rfl⟩
abbrev r_X5_then : Room := { frames := 2, cells := 0, slots := 0, locals := 43 }
theorem v_X5_then : yX5_then.cls ≠ "java/lang/invoke/MethodHandle" ∧ yX5_then.cls ≠ "java/lang/invoke/VarHandle" ∧ (parseMethodDescriptor yX5_then.desc).map (fun d => d.parameters.length) = some 3 := by decide +kernel
set_option maxRecDepth 100000 in
set_option maxHeartbeats 4000000 in
theorem c_X5_then {l : Launch} {D : va_G} {cI cZ cF : ClassId} {q : Nat → Nat} {qf : Nat → Nat} {g : Gr} {C R : Nat → Int32} {rw len : Nat} {F : Nat → Int32} {sz : Nat} {X : Nat → Int32} {mk : Int32} {x y z : Int32} (G : Gok g) (h1 : 1 ≤ rw) (hrl : rw ≤ len) (hlm : len ≤ 401) : cI_ l D cI cZ cF yX5_then wsX5_then r_X5_then [.ref (q 0), .int x, .int y, .int z] (wC q qf cI cZ cF g C R rw len F sz X mk) (fun r u => r = thnC g F rw x y z ∧ u = wC q qf cI cZ cF g C R rw len F sz X mk) 0 0 := by
  refine cI_of (cc := cX5_then) (maxL := 4) (rt := .int) (plainFor_of_name (by decide +kernel)) rfl (Nat.le_of_ble_eq_true rfl) ?_
  intro p e s m args below meth c A Q ls S hk hW hl hR
  have hl : lv_has ls 4 [(0, .ref (q 0)), (1, .int x), (2, .int y), (3, .int z)] := hl
  have hwsX50 : ∀ x ∈ wsX50, x ∈ wsX5_then := fun x h => List.mem_cons_of_mem _ (List.mem_append_left _ (List.mem_append_left _ (List.mem_append_left _ (List.mem_append_right _ h))))
  have hwsX20 : ∀ x ∈ wsX20, x ∈ wsX5_then := fun x h => List.mem_cons_of_mem _ (List.mem_append_left _ (List.mem_append_left _ (List.mem_append_right _ h)))
  have hwsX30 : ∀ x ∈ wsX30, x ∈ wsX5_then := fun x h => List.mem_cons_of_mem _ (List.mem_append_left _ (List.mem_append_right _ h))
  have hwsX00 : ∀ x ∈ wsX00, x ∈ wsX5_then := fun x h => List.mem_cons_of_mem _ (List.mem_append_right _ h)
  have hN := Gok_N G; have hN2 := Gok_N2 G; have hKK := Gok_K G
  refine lv_aload_n S.1 S.2.1 dX5_then_0 rfl (lv_at hl 0 rfl) ?_
  refine gf S hk hW 0 rfl rfl hwsX50 0 (by decide) 1 rfl rfl dX5_then_1 ?_
  refine lv_iload_n S.1 S.2.1 dX5_then_4 rfl (lv_at hl 2 rfl) ?_
  refine lv_iload_n S.1 S.2.1 dX5_then_5 rfl (lv_at hl 3 rfl) ?_
  refine kVi S (c_X2_hasPosts (l := l) (D := D) (cI := cI) (cZ := cZ) (cF := cF)) (cwV 2 S.2.2.2.2 gX5_then_X2_hasPosts rfl rfl rfl ⟨rfl, v_X2_hasPosts⟩ ⟨(Nat.le_of_ble_eq_true rfl), (Nat.le_of_ble_eq_true rfl)⟩) hk hW 1 rfl rfl rfl rfl hl rfl (Nat.le_of_ble_eq_true rfl) dX5_then_6 ⟨(Nat.le_of_ble_eq_true rfl), (Nat.le_of_ble_eq_true rfl)⟩ (fun r u H locs hp hW => ?_)
  obtain ⟨rfl, rfl⟩ := hp
  refine ifeq_b (tgt := 27) S dX5_then_9 (by decide) (fun c_9 => ?_) (fun c_9 => ?_)
  · skip
    refine lv_sipush (v := (-1001)) S.1 S.2.1 dX5_then_27 (by decide) ?_
    exact hR _ _ _ _ _ _ _ _ dX5_then_30 rfl (Nat.le_of_ble_eq_true rfl) (Nat.le_of_ble_eq_true rfl) hW ⟨(by simp only [thnC, c_9, eq_self, Nat.add_zero, decide_false, decide_true, Bool.not_true, Bool.not_false, Bool.and_true, Bool.true_and, Bool.and_false, Bool.false_and, Bool.or_true, Bool.true_or, Bool.or_false, Bool.false_or, ↓reduceIte, cond_true, cond_false, bI, and_true, true_and, and_false, false_and, or_true, true_or, or_false, false_or, not_true_eq_false, not_false_eq_true, if_true, if_false, Bool.false_eq_true, reduceCtorEq, ite_true, ite_false]), rfl⟩
  · skip
    obtain ⟨c9a, c9b⟩ := (Bool.and_eq_true_iff).mp c_9
    obtain ⟨b, hb, rfl⟩ := inb_nat c9a (by omega)
    obtain ⟨d, hd, rfl⟩ := inb_nat c9b (by omega)
    have hcb : (nI b).toNatClampNeg = b := nI_clamp (by omega)
    have hcd : (nI d).toNatClampNeg = d := nI_clamp (by omega)
    refine lv_iload_n S.1 S.2.1 dX5_then_12 rfl (lv_at hl 1 rfl) ?_
    refine lv_if_eq (tgt := 31) S.1 S.2.1 dX5_then_13 (by decide) (fun c_13 => ?_) (fun c_13 => ?_)
    · skip
      have c13 := c_13
      obtain rfl : x = nI 0 := c13
      have hca : (nI 0).toNatClampNeg = 0 := nI_clamp (by omega)
      refine lv_aload_n S.1 S.2.1 dX5_then_31 rfl (lv_at hl 0 rfl) ?_
      refine gf S hk hW 0 rfl rfl hwsX50 2 (by decide) 2 rfl rfl dX5_then_32 ?_
      refine lv_iload_n S.1 S.2.1 dX5_then_35 rfl (lv_at hl 1 rfl) ?_
      refine lv_iload_n S.1 S.2.1 dX5_then_36 rfl (lv_at hl 2 rfl) ?_
      refine lv_iload_n S.1 S.2.1 dX5_then_37 rfl (lv_at hl 3 rfl) ?_
      refine kSi S (c_X5_pairOf (l := l) (D := D) (cI := cI) (cZ := cZ) (cF := cF)) (va_cwS 2 S.2.2.2.2 gX5_then_X5_pairOf rfl rfl rfl v_X5_pairOf ⟨(Nat.le_of_ble_eq_true rfl), (Nat.le_of_ble_eq_true rfl)⟩) hk hW rfl hl rfl (Nat.le_of_ble_eq_true rfl) dX5_then_38 ⟨(Nat.le_of_ble_eq_true rfl), (Nat.le_of_ble_eq_true rfl)⟩ (fun r u H locs hp hW => ?_)
      obtain ⟨rfl, rfl⟩ := hp
      refine kVi S (c_X3_leastAsOf (l := l) (D := D) (cI := cI) (cZ := cZ) (cF := cF) (by first | assumption | omega) (by first | assumption | omega) (by first | assumption | omega)) (cwV 2 S.2.2.2.2 gX5_then_X3_leastAsOf rfl rfl rfl ⟨rfl, v_X3_leastAsOf⟩ ⟨(Nat.le_of_ble_eq_true rfl), (Nat.le_of_ble_eq_true rfl)⟩) hk hW 3 rfl rfl rfl rfl hl rfl (Nat.le_of_ble_eq_true rfl) dX5_then_41 ⟨(Nat.le_of_ble_eq_true rfl), (Nat.le_of_ble_eq_true rfl)⟩ (fun r u H locs hp hW => ?_)
      obtain ⟨rfl, rfl⟩ := hp
      exact hR _ _ _ _ _ _ _ _ dX5_then_44 rfl (Nat.le_of_ble_eq_true rfl) (Nat.le_of_ble_eq_true rfl) hW ⟨(by simp only [thnC, hcb, hcd, hca, c_9, eq_true c_13, eq_self, Nat.add_zero, decide_false, decide_true, Bool.not_true, Bool.not_false, Bool.and_true, Bool.true_and, Bool.and_false, Bool.false_and, Bool.or_true, Bool.true_or, Bool.or_false, Bool.false_or, ↓reduceIte, cond_true, cond_false, bI, and_true, true_and, and_false, false_and, or_true, true_or, or_false, false_or, not_true_eq_false, not_false_eq_true, if_true, if_false, Bool.false_eq_true, reduceCtorEq, ite_true, ite_false]), rfl⟩
    · skip
      refine lv_aload_n S.1 S.2.1 dX5_then_16 rfl (lv_at hl 0 rfl) ?_
      refine gf S hk hW 0 rfl rfl hwsX50 2 (by decide) 2 rfl rfl dX5_then_17 ?_
      refine lv_iload_n S.1 S.2.1 dX5_then_20 rfl (lv_at hl 1 rfl) ?_
      refine kVi S (c_X3_hasAct (l := l) (D := D) (cI := cI) (cZ := cZ) (cF := cF)) (cwV 1 S.2.2.2.2 gX5_then_X3_hasAct rfl rfl rfl ⟨rfl, v_X3_hasAct⟩ ⟨(Nat.le_of_ble_eq_true rfl), (Nat.le_of_ble_eq_true rfl)⟩) hk hW 3 rfl rfl rfl rfl hl rfl (Nat.le_of_ble_eq_true rfl) dX5_then_21 ⟨(Nat.le_of_ble_eq_true rfl), (Nat.le_of_ble_eq_true rfl)⟩ (fun r u H locs hp hW => ?_)
      obtain ⟨rfl, rfl⟩ := hp
      refine ifne_b (tgt := 31) S dX5_then_24 (by decide) (fun c_24 => ?_) (fun c_24 => ?_)
      · skip
        obtain ⟨a, h1a, hax, rfl⟩ := hasB_nat c_24 (by omega)
        have hca : (nI a).toNatClampNeg = a := nI_clamp (by omega)
        refine lv_aload_n S.1 S.2.1 dX5_then_31 rfl (lv_at hl 0 rfl) ?_
        refine gf S hk hW 0 rfl rfl hwsX50 2 (by decide) 2 rfl rfl dX5_then_32 ?_
        refine lv_iload_n S.1 S.2.1 dX5_then_35 rfl (lv_at hl 1 rfl) ?_
        refine lv_iload_n S.1 S.2.1 dX5_then_36 rfl (lv_at hl 2 rfl) ?_
        refine lv_iload_n S.1 S.2.1 dX5_then_37 rfl (lv_at hl 3 rfl) ?_
        refine kSi S (c_X5_pairOf (l := l) (D := D) (cI := cI) (cZ := cZ) (cF := cF)) (va_cwS 2 S.2.2.2.2 gX5_then_X5_pairOf rfl rfl rfl v_X5_pairOf ⟨(Nat.le_of_ble_eq_true rfl), (Nat.le_of_ble_eq_true rfl)⟩) hk hW rfl hl rfl (Nat.le_of_ble_eq_true rfl) dX5_then_38 ⟨(Nat.le_of_ble_eq_true rfl), (Nat.le_of_ble_eq_true rfl)⟩ (fun r u H locs hp hW => ?_)
        obtain ⟨rfl, rfl⟩ := hp
        refine kVi S (c_X3_leastAsOf (l := l) (D := D) (cI := cI) (cZ := cZ) (cF := cF) (by first | assumption | omega) (by first | assumption | omega) (by first | assumption | omega)) (cwV 2 S.2.2.2.2 gX5_then_X3_leastAsOf rfl rfl rfl ⟨rfl, v_X3_leastAsOf⟩ ⟨(Nat.le_of_ble_eq_true rfl), (Nat.le_of_ble_eq_true rfl)⟩) hk hW 3 rfl rfl rfl rfl hl rfl (Nat.le_of_ble_eq_true rfl) dX5_then_41 ⟨(Nat.le_of_ble_eq_true rfl), (Nat.le_of_ble_eq_true rfl)⟩ (fun r u H locs hp hW => ?_)
        obtain ⟨rfl, rfl⟩ := hp
        exact hR _ _ _ _ _ _ _ _ dX5_then_44 rfl (Nat.le_of_ble_eq_true rfl) (Nat.le_of_ble_eq_true rfl) hW ⟨(by simp only [thnC, hcb, hcd, hca, c_9, eq_false c_13, c_24, eq_self, Nat.add_zero, decide_false, decide_true, Bool.not_true, Bool.not_false, Bool.and_true, Bool.true_and, Bool.and_false, Bool.false_and, Bool.or_true, Bool.true_or, Bool.or_false, Bool.false_or, ↓reduceIte, cond_true, cond_false, bI, and_true, true_and, and_false, false_and, or_true, true_or, or_false, false_or, not_true_eq_false, not_false_eq_true, if_true, if_false, Bool.false_eq_true, reduceCtorEq, ite_true, ite_false]), rfl⟩
      · skip
        refine lv_sipush (v := (-1001)) S.1 S.2.1 dX5_then_27 (by decide) ?_
        exact hR _ _ _ _ _ _ _ _ dX5_then_30 rfl (Nat.le_of_ble_eq_true rfl) (Nat.le_of_ble_eq_true rfl) hW ⟨(by simp only [thnC, hcb, hcd, c_9, eq_false c_13, c_24, eq_self, Nat.add_zero, decide_false, decide_true, Bool.not_true, Bool.not_false, Bool.and_true, Bool.true_and, Bool.and_false, Bool.false_and, Bool.or_true, Bool.true_or, Bool.or_false, Bool.false_or, ↓reduceIte, cond_true, cond_false, bI, and_true, true_and, and_false, false_and, or_true, true_or, or_false, false_or, not_true_eq_false, not_false_eq_true, if_true, if_false, Bool.false_eq_true, reduceCtorEq, ite_true, ite_false]), rfl⟩
abbrev r_X5_since : Room := { frames := 2, cells := 0, slots := 0, locals := 48 }
theorem v_X5_since : yX5_since.cls ≠ "java/lang/invoke/MethodHandle" ∧ yX5_since.cls ≠ "java/lang/invoke/VarHandle" ∧ (parseMethodDescriptor yX5_since.desc).map (fun d => d.parameters.length) = some 4 := by decide +kernel
set_option maxRecDepth 100000 in
set_option maxHeartbeats 4000000 in
theorem c_X5_since {l : Launch} {D : va_G} {cI cZ cF : ClassId} {q : Nat → Nat} {qf : Nat → Nat} {g : Gr} {C R : Nat → Int32} {rw len : Nat} {F : Nat → Int32} {sz : Nat} {X : Nat → Int32} {mk : Int32} {x y z v : Int32} (G : Gok g) (h1 : 1 ≤ rw) (hrl : rw ≤ len) (hlm : len ≤ 401) : cI_ l D cI cZ cF yX5_since wsX5_since r_X5_since [.ref (q 0), .int x, .int y, .int z, .int v] (wC q qf cI cZ cF g C R rw len F sz X mk) (fun r u => r = sinC g F rw x y z v ∧ u = wC q qf cI cZ cF g C R rw len F sz X mk) 0 0 := by
  refine cI_of (cc := cX5_since) (maxL := 5) (rt := .int) (plainFor_of_name (by decide +kernel)) rfl (Nat.le_of_ble_eq_true rfl) ?_
  intro p e s m args below meth c A Q ls S hk hW hl hR
  have hl : lv_has ls 5 [(0, .ref (q 0)), (1, .int x), (2, .int y), (3, .int z), (4, .int v)] := hl
  have hwsX50 : ∀ x ∈ wsX50, x ∈ wsX5_since := fun x h => List.mem_cons_of_mem _ (List.mem_append_left _ (List.mem_append_left _ (List.mem_append_left _ (List.mem_append_right _ h))))
  have hwsX20 : ∀ x ∈ wsX20, x ∈ wsX5_since := fun x h => List.mem_cons_of_mem _ (List.mem_append_left _ (List.mem_append_left _ (List.mem_append_right _ h)))
  have hwsX30 : ∀ x ∈ wsX30, x ∈ wsX5_since := fun x h => List.mem_cons_of_mem _ (List.mem_append_left _ (List.mem_append_right _ h))
  have hwsX00 : ∀ x ∈ wsX00, x ∈ wsX5_since := fun x h => List.mem_cons_of_mem _ (List.mem_append_right _ h)
  have hN := Gok_N G; have hN2 := Gok_N2 G; have hKK := Gok_K G
  refine lv_aload_n S.1 S.2.1 dX5_since_0 rfl (lv_at hl 0 rfl) ?_
  refine gf S hk hW 0 rfl rfl hwsX50 0 (by decide) 1 rfl rfl dX5_since_1 ?_
  refine lv_iload_n S.1 S.2.1 dX5_since_4 rfl (lv_at hl 2 rfl) ?_
  refine lv_iload_n S.1 S.2.1 dX5_since_5 rfl (lv_at hl 3 rfl) ?_
  refine kVi S (c_X2_hasPosts (l := l) (D := D) (cI := cI) (cZ := cZ) (cF := cF)) (cwV 2 S.2.2.2.2 gX5_since_X2_hasPosts rfl rfl rfl ⟨rfl, v_X2_hasPosts⟩ ⟨(Nat.le_of_ble_eq_true rfl), (Nat.le_of_ble_eq_true rfl)⟩) hk hW 1 rfl rfl rfl rfl hl rfl (Nat.le_of_ble_eq_true rfl) dX5_since_6 ⟨(Nat.le_of_ble_eq_true rfl), (Nat.le_of_ble_eq_true rfl)⟩ (fun r u H locs hp hW => ?_)
  obtain ⟨rfl, rfl⟩ := hp
  refine ifeq_b (tgt := 23) S dX5_since_9 (by decide) (fun c_9 => ?_) (fun c_9 => ?_)
  · skip
    refine lv_sipush (v := (-1001)) S.1 S.2.1 dX5_since_23 (by decide) ?_
    exact hR _ _ _ _ _ _ _ _ dX5_since_26 rfl (Nat.le_of_ble_eq_true rfl) (Nat.le_of_ble_eq_true rfl) hW ⟨(by simp only [sinC, c_9, eq_self, Nat.add_zero, decide_false, decide_true, Bool.not_true, Bool.not_false, Bool.and_true, Bool.true_and, Bool.and_false, Bool.false_and, Bool.or_true, Bool.true_or, Bool.or_false, Bool.false_or, ↓reduceIte, cond_true, cond_false, bI, and_true, true_and, and_false, false_and, or_true, true_or, or_false, false_or, not_true_eq_false, not_false_eq_true, if_true, if_false, Bool.false_eq_true, reduceCtorEq, ite_true, ite_false]), rfl⟩
  · skip
    obtain ⟨c9a, c9b⟩ := (Bool.and_eq_true_iff).mp c_9
    obtain ⟨b, hb, rfl⟩ := inb_nat c9a (by omega)
    obtain ⟨d, hd, rfl⟩ := inb_nat c9b (by omega)
    have hcb : (nI b).toNatClampNeg = b := nI_clamp (by omega)
    have hcd : (nI d).toNatClampNeg = d := nI_clamp (by omega)
    refine lv_aload_n S.1 S.2.1 dX5_since_12 rfl (lv_at hl 0 rfl) ?_
    refine gf S hk hW 0 rfl rfl hwsX50 2 (by decide) 2 rfl rfl dX5_since_13 ?_
    refine lv_iload_n S.1 S.2.1 dX5_since_16 rfl (lv_at hl 1 rfl) ?_
    refine kVi S (c_X3_hasAct (l := l) (D := D) (cI := cI) (cZ := cZ) (cF := cF)) (cwV 1 S.2.2.2.2 gX5_since_X3_hasAct rfl rfl rfl ⟨rfl, v_X3_hasAct⟩ ⟨(Nat.le_of_ble_eq_true rfl), (Nat.le_of_ble_eq_true rfl)⟩) hk hW 3 rfl rfl rfl rfl hl rfl (Nat.le_of_ble_eq_true rfl) dX5_since_17 ⟨(Nat.le_of_ble_eq_true rfl), (Nat.le_of_ble_eq_true rfl)⟩ (fun r u H locs hp hW => ?_)
    obtain ⟨rfl, rfl⟩ := hp
    refine ifne_b (tgt := 27) S dX5_since_20 (by decide) (fun c_20 => ?_) (fun c_20 => ?_)
    · skip
      obtain ⟨a, h1a, hax, rfl⟩ := hasB_nat c_20 (by omega)
      have hca : (nI a).toNatClampNeg = a := nI_clamp (by omega)
      refine lv_iload S.1 S.2.1 dX5_since_27 (lv_at hl 4 rfl) ?_
      refine lv_sipush (v := (-500)) S.1 S.2.1 dX5_since_29 (by decide) ?_
      refine lv_icmp_lt (tgt := 43) S.1 S.2.1 dX5_since_32 (by decide) (fun c_32 => ?_) (fun c_32 => ?_)
      · skip
        refine lv_sipush (v := (-1002)) S.1 S.2.1 dX5_since_43 (by decide) ?_
        exact hR _ _ _ _ _ _ _ _ dX5_since_46 rfl (Nat.le_of_ble_eq_true rfl) (Nat.le_of_ble_eq_true rfl) hW ⟨(by simp only [sinC, hcb, hcd, hca, c_9, c_20, eq_true c_32, eq_self, Nat.add_zero, decide_false, decide_true, Bool.not_true, Bool.not_false, Bool.and_true, Bool.true_and, Bool.and_false, Bool.false_and, Bool.or_true, Bool.true_or, Bool.or_false, Bool.false_or, ↓reduceIte, cond_true, cond_false, bI, and_true, true_and, and_false, false_and, or_true, true_or, or_false, false_or, not_true_eq_false, not_false_eq_true, if_true, if_false, Bool.false_eq_true, reduceCtorEq, ite_true, ite_false]), rfl⟩
      · skip
        refine lv_iload S.1 S.2.1 dX5_since_35 (lv_at hl 4 rfl) ?_
        refine lv_sipush (v := nI 1000) S.1 S.2.1 dX5_since_37 (by decide) ?_
        refine lv_icmp_le (tgt := 47) S.1 S.2.1 dX5_since_40 (by decide) (fun c_40 => ?_) (fun c_40 => ?_)
        · skip
          refine lv_aload_n S.1 S.2.1 dX5_since_47 rfl (lv_at hl 0 rfl) ?_
          refine gf S hk hW 0 rfl rfl hwsX50 2 (by decide) 2 rfl rfl dX5_since_48 ?_
          refine lv_iload_n S.1 S.2.1 dX5_since_51 rfl (lv_at hl 1 rfl) ?_
          refine lv_iload_n S.1 S.2.1 dX5_since_52 rfl (lv_at hl 2 rfl) ?_
          refine lv_iload_n S.1 S.2.1 dX5_since_53 rfl (lv_at hl 3 rfl) ?_
          refine kSi S (c_X5_pairOf (l := l) (D := D) (cI := cI) (cZ := cZ) (cF := cF)) (va_cwS 2 S.2.2.2.2 gX5_since_X5_pairOf rfl rfl rfl v_X5_pairOf ⟨(Nat.le_of_ble_eq_true rfl), (Nat.le_of_ble_eq_true rfl)⟩) hk hW rfl hl rfl (Nat.le_of_ble_eq_true rfl) dX5_since_54 ⟨(Nat.le_of_ble_eq_true rfl), (Nat.le_of_ble_eq_true rfl)⟩ (fun r u H locs hp hW => ?_)
          obtain ⟨rfl, rfl⟩ := hp
          refine lv_iload S.1 S.2.1 dX5_since_57 (lv_at hl 4 rfl) ?_
          refine kVi S (c_X3_firstWithin (l := l) (D := D) (cI := cI) (cZ := cZ) (cF := cF) (by first | assumption | omega) (by first | assumption | omega) (by first | assumption | omega) (by first | assumption | omega)) (cwV 3 S.2.2.2.2 gX5_since_X3_firstWithin rfl rfl rfl ⟨rfl, v_X3_firstWithin⟩ ⟨(Nat.le_of_ble_eq_true rfl), (Nat.le_of_ble_eq_true rfl)⟩) hk hW 3 rfl rfl rfl rfl hl rfl (Nat.le_of_ble_eq_true rfl) dX5_since_59 ⟨(Nat.le_of_ble_eq_true rfl), (Nat.le_of_ble_eq_true rfl)⟩ (fun r u H locs hp hW => ?_)
          obtain ⟨rfl, rfl⟩ := hp
          exact hR _ _ _ _ _ _ _ _ dX5_since_62 rfl (Nat.le_of_ble_eq_true rfl) (Nat.le_of_ble_eq_true rfl) hW ⟨(by simp only [sinC, hcb, hcd, hca, c_9, c_20, eq_false c_32, eq_true c_40, eq_self, Nat.add_zero, decide_false, decide_true, Bool.not_true, Bool.not_false, Bool.and_true, Bool.true_and, Bool.and_false, Bool.false_and, Bool.or_true, Bool.true_or, Bool.or_false, Bool.false_or, ↓reduceIte, cond_true, cond_false, bI, and_true, true_and, and_false, false_and, or_true, true_or, or_false, false_or, not_true_eq_false, not_false_eq_true, if_true, if_false, Bool.false_eq_true, reduceCtorEq, ite_true, ite_false]), rfl⟩
        · skip
          refine lv_sipush (v := (-1002)) S.1 S.2.1 dX5_since_43 (by decide) ?_
          exact hR _ _ _ _ _ _ _ _ dX5_since_46 rfl (Nat.le_of_ble_eq_true rfl) (Nat.le_of_ble_eq_true rfl) hW ⟨(by simp only [sinC, hcb, hcd, hca, c_9, c_20, eq_false c_32, eq_false c_40, eq_self, Nat.add_zero, decide_false, decide_true, Bool.not_true, Bool.not_false, Bool.and_true, Bool.true_and, Bool.and_false, Bool.false_and, Bool.or_true, Bool.true_or, Bool.or_false, Bool.false_or, ↓reduceIte, cond_true, cond_false, bI, and_true, true_and, and_false, false_and, or_true, true_or, or_false, false_or, not_true_eq_false, not_false_eq_true, if_true, if_false, Bool.false_eq_true, reduceCtorEq, ite_true, ite_false]), rfl⟩
    · skip
      refine lv_sipush (v := (-1001)) S.1 S.2.1 dX5_since_23 (by decide) ?_
      exact hR _ _ _ _ _ _ _ _ dX5_since_26 rfl (Nat.le_of_ble_eq_true rfl) (Nat.le_of_ble_eq_true rfl) hW ⟨(by simp only [sinC, hcb, hcd, c_9, c_20, eq_self, Nat.add_zero, decide_false, decide_true, Bool.not_true, Bool.not_false, Bool.and_true, Bool.true_and, Bool.and_false, Bool.false_and, Bool.or_true, Bool.true_or, Bool.or_false, Bool.false_or, ↓reduceIte, cond_true, cond_false, bI, and_true, true_and, and_false, false_and, or_true, true_or, or_false, false_or, not_true_eq_false, not_false_eq_true, if_true, if_false, Bool.false_eq_true, reduceCtorEq, ite_true, ite_false]), rfl⟩
abbrev r_X5_marks : Room := { frames := 0, cells := 0, slots := 0, locals := 0 }
theorem v_X5_marks : yX5_marks.cls ≠ "java/lang/invoke/MethodHandle" ∧ yX5_marks.cls ≠ "java/lang/invoke/VarHandle" ∧ (parseMethodDescriptor yX5_marks.desc).map (fun d => d.parameters.length) = some 1 := by decide +kernel
set_option maxRecDepth 100000 in
set_option maxHeartbeats 4000000 in
theorem c_X5_marks {l : Launch} {D : va_G} {cI cZ cF : ClassId} {q : Nat → Nat} {qf : Nat → Nat} {g : Gr} {C R : Nat → Int32} {rw len : Nat} {F : Nat → Int32} {sz : Nat} {X : Nat → Int32} {mk : Int32} {x : Int32}  : cI_ l D cI cZ cF yX5_marks wsX5_marks r_X5_marks [.ref (q 0), .int x] (wC q qf cI cZ cF g C R rw len F sz X mk) (fun r u => (mrkB g x = true → r = mk ∧ u = wC q qf cI cZ cF g C R rw len F sz X x) ∧ (mrkB g x = false → r = (-1002) ∧ u = wC q qf cI cZ cF g C R rw len F sz X mk)) 0 0 := by
  refine cI_of (cc := cX5_marks) (maxL := 3) (rt := .int) (plainFor_of_name (by decide +kernel)) rfl (Nat.le_of_ble_eq_true rfl) ?_
  intro p e s m args below meth c A Q ls S hk hW hl hR
  have hl : lv_has ls 3 [(0, .ref (q 0)), (1, .int x)] := hl
  have hwsX50 : ∀ x ∈ wsX50, x ∈ wsX5_marks := fun x h => List.mem_cons_of_mem _ (List.mem_append_left _ (List.mem_append_right _ h))
  have hwsX20 : ∀ x ∈ wsX20, x ∈ wsX5_marks := fun x h => List.mem_cons_of_mem _ (List.mem_append_right _ h)
  refine lv_iload_n S.1 S.2.1 dX5_marks_0 rfl (lv_at hl 1 rfl) ?_
  refine lv_if_lt (tgt := 17) S.1 S.2.1 dX5_marks_1 (by decide) (fun c_1 => ?_) (fun c_1 => ?_)
  · skip
    refine lv_sipush (v := (-1002)) S.1 S.2.1 dX5_marks_17 (by decide) ?_
    exact hR _ _ _ _ _ _ _ _ dX5_marks_20 rfl (Nat.le_of_ble_eq_true rfl) (Nat.le_of_ble_eq_true rfl) hW ⟨fun h => absurd h (by simp only [mrkB, eq_true c_1, eq_self, Nat.add_zero, decide_false, decide_true, Bool.not_true, Bool.not_false, Bool.and_true, Bool.true_and, Bool.and_false, Bool.false_and, Bool.or_true, Bool.true_or, Bool.or_false, Bool.false_or, ↓reduceIte, cond_true, cond_false, bI, and_true, true_and, and_false, false_and, or_true, true_or, or_false, false_or, not_true_eq_false, not_false_eq_true, if_true, if_false, Bool.false_eq_true, reduceCtorEq, ite_true, ite_false]), fun _ => ⟨rfl, rfl⟩⟩
  · skip
    refine lv_iload_n S.1 S.2.1 dX5_marks_4 rfl (lv_at hl 1 rfl) ?_
    refine lv_iconst (v := nI 1) S.1 S.2.1 dX5_marks_5 (by decide) ?_
    refine lv_aload_n S.1 S.2.1 dX5_marks_6 rfl (lv_at hl 0 rfl) ?_
    refine gf S hk hW 0 rfl rfl hwsX50 0 (by decide) 1 rfl rfl dX5_marks_7 ?_
    refine gfN (host := RX5) S hk hW 1 rfl rfl hwsX20 5 (by decide) 0 rfl rfl dX5_marks_10 ?_
    refine lv_ishl S.1 S.2.1 dX5_marks_13 ?_
    refine lv_icmp_lt (tgt := 21) S.1 S.2.1 dX5_marks_14 (by decide) (fun c_14 => ?_) (fun c_14 => ?_)
    · skip
      refine lv_aload_n S.1 S.2.1 dX5_marks_21 rfl (lv_at hl 0 rfl) ?_
      refine gf S hk hW 0 rfl rfl hwsX50 4 (by decide) 2 rfl rfl dX5_marks_22 ?_
      refine lv_istore_n (lv' := [(2, .int mk), (0, .ref (q 0)), (1, .int x)]) S.1 S.2.1 dX5_marks_25 rfl hl (by decide) rfl (fun ls hl => ?_)
      refine lv_aload_n S.1 S.2.1 dX5_marks_26 rfl (lv_at hl 1 rfl) ?_
      refine lv_iload_n S.1 S.2.1 dX5_marks_27 rfl (lv_at hl 2 rfl) ?_
      refine pf (ty := .int) (w' := wC q qf cI cZ cF g C R rw len F sz X x) S hk hW 0 rfl rfl hwsX50 tyX5 tyX5_ok nmX5 4 (by decide) 2 rfl rfl (by decide +kernel) rfl rfl (Nat.le_of_ble_eq_true rfl) dX5_marks_28 rfl (fun H locs hW => ?_)
      refine lv_iload_n S.1 S.2.1 dX5_marks_31 rfl (lv_at hl 0 rfl) ?_
      exact hR _ _ _ _ _ _ _ _ dX5_marks_32 rfl (Nat.le_of_ble_eq_true rfl) (Nat.le_of_ble_eq_true rfl) hW ⟨fun _ => ⟨rfl, rfl⟩, fun h => absurd h (by simp only [mrkB, eq_false c_1, eq_true c_14, eq_self, Nat.add_zero, decide_false, decide_true, Bool.not_true, Bool.not_false, Bool.and_true, Bool.true_and, Bool.and_false, Bool.false_and, Bool.or_true, Bool.true_or, Bool.or_false, Bool.false_or, ↓reduceIte, cond_true, cond_false, bI, and_true, true_and, and_false, false_and, or_true, true_or, or_false, false_or, not_true_eq_false, not_false_eq_true, if_true, if_false, Bool.false_eq_true, reduceCtorEq, ite_true, ite_false])⟩
    · skip
      refine lv_sipush (v := (-1002)) S.1 S.2.1 dX5_marks_17 (by decide) ?_
      exact hR _ _ _ _ _ _ _ _ dX5_marks_20 rfl (Nat.le_of_ble_eq_true rfl) (Nat.le_of_ble_eq_true rfl) hW ⟨fun h => absurd h (by simp only [mrkB, eq_false c_1, eq_false c_14, eq_self, Nat.add_zero, decide_false, decide_true, Bool.not_true, Bool.not_false, Bool.and_true, Bool.true_and, Bool.and_false, Bool.false_and, Bool.or_true, Bool.true_or, Bool.or_false, Bool.false_or, ↓reduceIte, cond_true, cond_false, bI, and_true, true_and, and_false, false_and, or_true, true_or, or_false, false_or, not_true_eq_false, not_false_eq_true, if_true, if_false, Bool.false_eq_true, reduceCtorEq, ite_true, ite_false]), fun _ => ⟨rfl, rfl⟩⟩
abbrev r_X5_near : Room := { frames := 4, cells := 0, slots := 0, locals := 90 }
theorem v_X5_near : yX5_near.cls ≠ "java/lang/invoke/MethodHandle" ∧ yX5_near.cls ≠ "java/lang/invoke/VarHandle" ∧ (parseMethodDescriptor yX5_near.desc).map (fun d => d.parameters.length) = some 2 := by decide +kernel
set_option maxRecDepth 100000 in
set_option maxHeartbeats 4000000 in
theorem c_X5_near {l : Launch} {D : va_G} {cI cZ cF : ClassId} {q : Nat → Nat} {qf : Nat → Nat} {g : Gr} {C R : Nat → Int32} {rw len : Nat} {F : Nat → Int32} {sz : Nat} {X : Nat → Int32} {mk : Int32} {x y : Int32} (G : Gok g) : cI_ l D cI cZ cF yX5_near wsX5_near r_X5_near [.ref (q 0), .int x, .int y] (wC q qf cI cZ cF g C R rw len F sz X mk) (fun r u => r = nerC g C mk x y ∧ u = wC q qf cI cZ cF g C R rw len F sz X mk) 0 0 := by
  refine cI_of (cc := cX5_near) (maxL := 3) (rt := .int) (plainFor_of_name (by decide +kernel)) rfl (Nat.le_of_ble_eq_true rfl) ?_
  intro p e s m args below meth c A Q ls S hk hW hl hR
  have hl : lv_has ls 3 [(0, .ref (q 0)), (1, .int x), (2, .int y)] := hl
  have hwsX50 : ∀ x ∈ wsX50, x ∈ wsX5_near := fun x h => List.mem_cons_of_mem _ (List.mem_append_left _ (List.mem_append_left _ (List.mem_append_right _ h)))
  have hwsX20 : ∀ x ∈ wsX20, x ∈ wsX5_near := fun x h => List.mem_cons_of_mem _ (List.mem_append_left _ (List.mem_append_right _ h))
  have hwsX40 : ∀ x ∈ wsX40, x ∈ wsX5_near := fun x h => List.mem_cons_of_mem _ (List.mem_append_right _ h)
  have hN := Gok_N G; have hN2 := Gok_N2 G; have hKK := Gok_K G
  refine lv_aload_n S.1 S.2.1 dX5_near_0 rfl (lv_at hl 0 rfl) ?_
  refine gf S hk hW 0 rfl rfl hwsX50 0 (by decide) 1 rfl rfl dX5_near_1 ?_
  refine lv_iload_n S.1 S.2.1 dX5_near_4 rfl (lv_at hl 1 rfl) ?_
  refine lv_iload_n S.1 S.2.1 dX5_near_5 rfl (lv_at hl 2 rfl) ?_
  refine kVi S (c_X2_hasPosts (l := l) (D := D) (cI := cI) (cZ := cZ) (cF := cF)) (cwV 2 S.2.2.2.2 gX5_near_X2_hasPosts rfl rfl rfl ⟨rfl, v_X2_hasPosts⟩ ⟨(Nat.le_of_ble_eq_true rfl), (Nat.le_of_ble_eq_true rfl)⟩) hk hW 1 rfl rfl rfl rfl hl rfl (Nat.le_of_ble_eq_true rfl) dX5_near_6 ⟨(Nat.le_of_ble_eq_true rfl), (Nat.le_of_ble_eq_true rfl)⟩ (fun r u H locs hp hW => ?_)
  obtain ⟨rfl, rfl⟩ := hp
  refine ifeq_b (tgt := 28) S dX5_near_9 (by decide) (fun c_9 => ?_) (fun c_9 => ?_)
  · skip
    refine lv_sipush (v := (-1001)) S.1 S.2.1 dX5_near_28 (by decide) ?_
    exact hR _ _ _ _ _ _ _ _ dX5_near_31 rfl (Nat.le_of_ble_eq_true rfl) (Nat.le_of_ble_eq_true rfl) hW ⟨(by simp only [nerC, c_9, eq_self, Nat.add_zero, decide_false, decide_true, Bool.not_true, Bool.not_false, Bool.and_true, Bool.true_and, Bool.and_false, Bool.false_and, Bool.or_true, Bool.true_or, Bool.or_false, Bool.false_or, ↓reduceIte, cond_true, cond_false, bI, and_true, true_and, and_false, false_and, or_true, true_or, or_false, false_or, not_true_eq_false, not_false_eq_true, if_true, if_false, Bool.false_eq_true, reduceCtorEq, ite_true, ite_false]), rfl⟩
  · skip
    obtain ⟨c9a, c9b⟩ := (Bool.and_eq_true_iff).mp c_9
    obtain ⟨a, ha, rfl⟩ := inb_nat c9a (by omega)
    obtain ⟨b, hb, rfl⟩ := inb_nat c9b (by omega)
    have hca : (nI a).toNatClampNeg = a := nI_clamp (by omega)
    have hcb : (nI b).toNatClampNeg = b := nI_clamp (by omega)
    refine lv_aload_n S.1 S.2.1 dX5_near_12 rfl (lv_at hl 0 rfl) ?_
    refine gf S hk hW 0 rfl rfl hwsX50 1 (by decide) 2 rfl rfl dX5_near_13 ?_
    refine lv_iload_n S.1 S.2.1 dX5_near_16 rfl (lv_at hl 1 rfl) ?_
    refine lv_iload_n S.1 S.2.1 dX5_near_17 rfl (lv_at hl 2 rfl) ?_
    refine lv_aload_n S.1 S.2.1 dX5_near_18 rfl (lv_at hl 0 rfl) ?_
    refine gf S hk hW 0 rfl rfl hwsX50 4 (by decide) 3 rfl rfl dX5_near_19 ?_
    refine kVi S (c_X4_leastThrough (l := l) (D := D) (cI := cI) (cZ := cZ) (cF := cF) G (by first | assumption | omega) (by first | assumption | omega)) (cwV 3 S.2.2.2.2 gX5_near_X4_leastThrough rfl rfl rfl ⟨rfl, v_X4_leastThrough⟩ ⟨(Nat.le_of_ble_eq_true rfl), (Nat.le_of_ble_eq_true rfl)⟩) hk hW 2 rfl rfl rfl rfl hl rfl (Nat.le_of_ble_eq_true rfl) dX5_near_22 ⟨(Nat.le_of_ble_eq_true rfl), (Nat.le_of_ble_eq_true rfl)⟩ (fun r u H locs hp hW => ?_)
    obtain ⟨rfl, rfl⟩ := hp
    refine lv_goto (tgt := 31) S.1 S.2.1 dX5_near_25 (by decide) ?_
    exact hR _ _ _ _ _ _ _ _ dX5_near_31 rfl (Nat.le_of_ble_eq_true rfl) (Nat.le_of_ble_eq_true rfl) hW ⟨(by simp only [nerC, hca, hcb, c_9, eq_self, Nat.add_zero, decide_false, decide_true, Bool.not_true, Bool.not_false, Bool.and_true, Bool.true_and, Bool.and_false, Bool.false_and, Bool.or_true, Bool.true_or, Bool.or_false, Bool.false_or, ↓reduceIte, cond_true, cond_false, bI, and_true, true_and, and_false, false_and, or_true, true_or, or_false, false_or, not_true_eq_false, not_false_eq_true, if_true, if_false, Bool.false_eq_true, reduceCtorEq, ite_true, ite_false]), rfl⟩
abbrev r_X5_worst : Room := { frames := 4, cells := 0, slots := 0, locals := 90 }
theorem v_X5_worst : yX5_worst.cls ≠ "java/lang/invoke/MethodHandle" ∧ yX5_worst.cls ≠ "java/lang/invoke/VarHandle" ∧ (parseMethodDescriptor yX5_worst.desc).map (fun d => d.parameters.length) = some 0 := by decide +kernel
set_option maxRecDepth 100000 in
set_option maxHeartbeats 4000000 in
theorem c_X5_worst {l : Launch} {D : va_G} {cI cZ cF : ClassId} {q : Nat → Nat} {qf : Nat → Nat} {g : Gr} {C R : Nat → Int32} {rw len : Nat} {F : Nat → Int32} {sz : Nat} {X : Nat → Int32} {mk : Int32}  (G : Gok g) : cI_ l D cI cZ cF yX5_worst wsX5_worst r_X5_worst [.ref (q 0)] (wC q qf cI cZ cF g C R rw len F sz X mk) (fun r u => r = wrsC C (gN g) mk ∧ u = wC q qf cI cZ cF g C R rw len F sz X mk) 0 0 := by
  refine cI_of (cc := cX5_worst) (maxL := 5) (rt := .int) (plainFor_of_name (by decide +kernel)) rfl (Nat.le_of_ble_eq_true rfl) ?_
  intro p e s m args below meth c A Q ls S hk hW hl hR
  have hl : lv_has ls 5 [(0, .ref (q 0))] := hl
  have hwsX50 : ∀ x ∈ wsX50, x ∈ wsX5_worst := fun x h => List.mem_cons_of_mem _ (List.mem_append_left _ (List.mem_append_left _ (List.mem_append_right _ h)))
  have hwsX20 : ∀ x ∈ wsX20, x ∈ wsX5_worst := fun x h => List.mem_cons_of_mem _ (List.mem_append_left _ (List.mem_append_right _ h))
  have hwsX40 : ∀ x ∈ wsX40, x ∈ wsX5_worst := fun x h => List.mem_cons_of_mem _ (List.mem_append_right _ h)
  have hN := Gok_N G; have hN2 := Gok_N2 G; have hKK := Gok_K G
  refine lv_iconst (v := nI 0) S.1 S.2.1 dX5_worst_0 (by decide) ?_
  refine lv_istore_n (lv' := [(1, .int (nI 0)), (0, .ref (q 0))]) S.1 S.2.1 dX5_worst_1 rfl hl (by decide) rfl (fun ls hl => ?_)
  refine lv_iconst (v := nI 0) S.1 S.2.1 dX5_worst_2 (by decide) ?_
  refine lv_istore_n (lv' := [(2, .int (nI 0)), (1, .int (nI 0)), (0, .ref (q 0))]) S.1 S.2.1 dX5_worst_3 rfl hl (by decide) rfl (fun ls hl => ?_)
  have L4 : ∀ (dd : Nat), ∀ (z : Int32), ∀ (a : Nat), (z = wmO C (gN g) mk a) → (anyN (fun a => anyN (wbI C (gN g) mk a) (gN g)) a = false) → (a ≤ gN g) → gN g < a + dd → ∀ (H : Heap) (locs : List Loc) (ls : Array Slot), wd D A s H locs (wC q qf cI cZ cF g C R rw len F sz X mk) → lv_has ls 5 [(0, .ref (q 0)), (1, .int z), (2, .int (nI a))] → W p l e r_X5_worst s m args below meth c H locs 0 0 Q (F0 m 4 ls []) := by
    intro dd
    induction dd with
    | zero => intros; omega
    | succ dd ih4 =>
      intro z a hz hf ha hdd H locs ls hW hl
      refine lv_iload_n S.1 S.2.1 dX5_worst_4 rfl (lv_at hl 2 rfl) ?_
      refine lv_aload_n S.1 S.2.1 dX5_worst_5 rfl (lv_at hl 0 rfl) ?_
      refine gf S hk hW 0 rfl rfl hwsX50 0 (by decide) 1 rfl rfl dX5_worst_6 ?_
      refine gfN (host := RX5) S hk hW 1 rfl rfl hwsX20 5 (by decide) 0 rfl rfl dX5_worst_9 ?_
      refine icge_n (tgt := 96) S (by omega) (by omega) dX5_worst_12 (by decide) (fun c_12 => ?_) (fun c_12 => ?_)
      · skip
        refine lv_iload_n S.1 S.2.1 dX5_worst_96 rfl (lv_at hl 1 rfl) ?_
        exact hR _ _ _ _ _ _ _ _ dX5_worst_97 rfl (Nat.le_of_ble_eq_true rfl) (Nat.le_of_ble_eq_true rfl) hW ⟨(by have ea : a = gN g := (by omega); have hf9 := hf; rw [ea] at hf9 hz; rw [hz, wrsC, hf9]; rfl), rfl⟩
      · skip
        refine lv_iconst (v := nI 0) S.1 S.2.1 dX5_worst_15 (by decide) ?_
        refine lv_istore_n (lv' := [(3, .int (nI 0)), (0, .ref (q 0)), (1, .int z), (2, .int (nI a))]) S.1 S.2.1 dX5_worst_16 rfl hl (by decide) rfl (fun ls hl => ?_)
        have L17 : ∀ (dd : Nat), ∀ (z2 : Int32), ∀ (b : Nat), (z2 = wmI C (gN g) mk a (wmO C (gN g) mk a) b) → (anyN (wbI C (gN g) mk a) b = false) → (b ≤ gN g) → gN g < b + dd → ∀ (H : Heap) (locs : List Loc) (ls : Array Slot), wd D A s H locs (wC q qf cI cZ cF g C R rw len F sz X mk) → lv_has ls 5 [(0, .ref (q 0)), (1, .int z2), (2, .int (nI a)), (3, .int (nI b))] → W p l e r_X5_worst s m args below meth c H locs 0 0 Q (F0 m 17 ls []) := by
          intro dd
          induction dd with
          | zero => intros; omega
          | succ dd ih17 =>
            intro z2 b hz2 hf2 hb hdd H locs ls hW hl
            refine lv_iload_n S.1 S.2.1 dX5_worst_17 rfl (lv_at hl 3 rfl) ?_
            refine lv_aload_n S.1 S.2.1 dX5_worst_18 rfl (lv_at hl 0 rfl) ?_
            refine gf S hk hW 0 rfl rfl hwsX50 0 (by decide) 1 rfl rfl dX5_worst_19 ?_
            refine gfN (host := RX5) S hk hW 1 rfl rfl hwsX20 5 (by decide) 0 rfl rfl dX5_worst_22 ?_
            refine icge_n (tgt := 90) S (by omega) (by omega) dX5_worst_25 (by decide) (fun c_25 => ?_) (fun c_25 => ?_)
            · skip
              refine lv_iinc (v := nI (a + 1)) (lv' := [(2, .int (nI (a + 1))), (0, .ref (q 0)), (1, .int z2), (3, .int (nI b))]) (k := 2) S.1 S.2.1 dX5_worst_90 hl rfl (nI_1 _) (by decide) rfl (fun ls hl => ?_)
              refine lv_goto (tgt := 4) S.1 S.2.1 dX5_worst_93 (by decide) ?_
              exact ih4 z2 (a + 1) (by rw [hz2, show b = gN g by omega]; rfl) (by have e9 : b = gN g := (by omega); have hf8 := hf2; rw [e9] at hf8; simp only [anyN, hf, Bool.false_or]; exact hf8) (by omega) (by omega) _ _ _ hW (lv_sub hl [1, 2, 0] rfl)
            · skip
              refine lv_aload_n S.1 S.2.1 dX5_worst_28 rfl (lv_at hl 0 rfl) ?_
              refine gf S hk hW 0 rfl rfl hwsX50 1 (by decide) 2 rfl rfl dX5_worst_29 ?_
              refine lv_iload_n S.1 S.2.1 dX5_worst_32 rfl (lv_at hl 2 rfl) ?_
              refine lv_iload_n S.1 S.2.1 dX5_worst_33 rfl (lv_at hl 3 rfl) ?_
              refine kVi S (c_X4_leads (l := l) (D := D) (cI := cI) (cZ := cZ) (cF := cF) (by first | assumption | omega) (by first | assumption | omega)) (cwV 2 S.2.2.2.2 gX5_worst_X4_leads rfl rfl rfl ⟨rfl, v_X4_leads⟩ ⟨(Nat.le_of_ble_eq_true rfl), (Nat.le_of_ble_eq_true rfl)⟩) hk hW 2 rfl rfl rfl rfl hl rfl (Nat.le_of_ble_eq_true rfl) dX5_worst_34 ⟨(Nat.le_of_ble_eq_true rfl), (Nat.le_of_ble_eq_true rfl)⟩ (fun r u H locs hp hW => ?_)
              obtain ⟨rfl, rfl⟩ := hp
              refine ifeq_b (tgt := 84) S dX5_worst_37 (by decide) (fun c_37 => ?_) (fun c_37 => ?_)
              · skip
                refine lv_iinc (v := nI (b + 1)) (lv' := [(3, .int (nI (b + 1))), (0, .ref (q 0)), (1, .int z2), (2, .int (nI a))]) (k := 3) S.1 S.2.1 dX5_worst_84 hl rfl (nI_1 _) (by decide) rfl (fun ls hl => ?_)
                refine lv_goto (tgt := 17) S.1 S.2.1 dX5_worst_87 (by decide) ?_
                exact ih17 z2 (b + 1) (by simp only [wmI, ← hz2, c_37, eq_self, Nat.add_zero, decide_false, decide_true, Bool.not_true, Bool.not_false, Bool.and_true, Bool.true_and, Bool.and_false, Bool.false_and, Bool.or_true, Bool.true_or, Bool.or_false, Bool.false_or, ↓reduceIte, cond_true, cond_false, bI, and_true, true_and, and_false, false_and, or_true, true_or, or_false, false_or, not_true_eq_false, not_false_eq_true, if_true, if_false, Bool.false_eq_true, reduceCtorEq, ite_true, ite_false]) (by simp only [anyN, hf2, wbI, c_37, eq_self, Nat.add_zero, decide_false, decide_true, Bool.not_true, Bool.not_false, Bool.and_true, Bool.true_and, Bool.and_false, Bool.false_and, Bool.or_true, Bool.true_or, Bool.or_false, Bool.false_or, ↓reduceIte, cond_true, cond_false, bI, and_true, true_and, and_false, false_and, or_true, true_or, or_false, false_or, not_true_eq_false, not_false_eq_true, if_true, if_false, Bool.false_eq_true, reduceCtorEq, ite_true, ite_false]) (by omega) (by omega) _ _ _ hW (lv_sub hl [1, 2, 3, 0] rfl)
              · skip
                refine lv_aload_n S.1 S.2.1 dX5_worst_40 rfl (lv_at hl 0 rfl) ?_
                refine gf S hk hW 0 rfl rfl hwsX50 1 (by decide) 2 rfl rfl dX5_worst_41 ?_
                refine lv_iload_n S.1 S.2.1 dX5_worst_44 rfl (lv_at hl 2 rfl) ?_
                refine lv_iload_n S.1 S.2.1 dX5_worst_45 rfl (lv_at hl 3 rfl) ?_
                refine lv_aload_n S.1 S.2.1 dX5_worst_46 rfl (lv_at hl 0 rfl) ?_
                refine gf S hk hW 0 rfl rfl hwsX50 4 (by decide) 3 rfl rfl dX5_worst_47 ?_
                refine kVi S (c_X4_leastThrough (l := l) (D := D) (cI := cI) (cZ := cZ) (cF := cF) G (by first | assumption | omega) (by first | assumption | omega)) (cwV 3 S.2.2.2.2 gX5_worst_X4_leastThrough rfl rfl rfl ⟨rfl, v_X4_leastThrough⟩ ⟨(Nat.le_of_ble_eq_true rfl), (Nat.le_of_ble_eq_true rfl)⟩) hk hW 2 rfl rfl rfl rfl hl rfl (Nat.le_of_ble_eq_true rfl) dX5_worst_50 ⟨(Nat.le_of_ble_eq_true rfl), (Nat.le_of_ble_eq_true rfl)⟩ (fun r u H locs hp hW => ?_)
                obtain ⟨rfl, rfl⟩ := hp
                refine lv_istore (lv' := [(4, .int (ltS C a b mk (gN g))), (0, .ref (q 0)), (1, .int z2), (2, .int (nI a)), (3, .int (nI b))]) S.1 S.2.1 dX5_worst_53 hl (by decide) rfl (fun ls hl => ?_)
                refine lv_iload S.1 S.2.1 dX5_worst_55 (lv_at hl 0 rfl) ?_
                refine lv_sipush (v := (-1000)) S.1 S.2.1 dX5_worst_57 (by decide) ?_
                refine lv_icmp_ne (tgt := 67) S.1 S.2.1 dX5_worst_60 (by decide) (fun c_60 => ?_) (fun c_60 => ?_)
                · skip
                  refine lv_iload_n S.1 S.2.1 dX5_worst_67 rfl (lv_at hl 2 rfl) ?_
                  refine lv_iload S.1 S.2.1 dX5_worst_68 (lv_at hl 0 rfl) ?_
                  refine lv_aload_n S.1 S.2.1 dX5_worst_70 rfl (lv_at hl 1 rfl) ?_
                  refine gf S hk hW 0 rfl rfl hwsX50 1 (by decide) 2 rfl rfl dX5_worst_71 ?_
                  refine lv_iload_n S.1 S.2.1 dX5_worst_74 rfl (lv_at hl 3 rfl) ?_
                  refine lv_iload_n S.1 S.2.1 dX5_worst_75 rfl (lv_at hl 4 rfl) ?_
                  refine kVi S (c_X4_leastPrice (l := l) (D := D) (cI := cI) (cZ := cZ) (cF := cF) (by first | assumption | omega) (by first | assumption | omega)) (cwV 2 S.2.2.2.2 gX5_worst_X4_leastPrice rfl rfl rfl ⟨rfl, v_X4_leastPrice⟩ ⟨(Nat.le_of_ble_eq_true rfl), (Nat.le_of_ble_eq_true rfl)⟩) hk hW 2 rfl rfl rfl rfl hl rfl (Nat.le_of_ble_eq_true rfl) dX5_worst_76 ⟨(Nat.le_of_ble_eq_true rfl), (Nat.le_of_ble_eq_true rfl)⟩ (fun r u H locs hp hW => ?_)
                  obtain ⟨rfl, rfl⟩ := hp
                  refine lv_isub S.1 S.2.1 dX5_worst_79 ?_
                  refine va_mmax S.1 S.2.1 (S.2.2.1.trans hl.1.symm) S.2.2.2.1 (S.2.2.2.2 _ (List.mem_of_getElem? (i := 4) rfl)) (S.2.2.2.2 _ (List.mem_of_getElem? (i := 5) rfl)) (S.2.2.2.2 _ (List.mem_of_getElem? (i := 6) rfl)) (S.2.2.2.2 _ (List.mem_of_getElem? (i := 7) rfl)) (Nat.le_of_ble_eq_true rfl) (Nat.le_of_ble_eq_true rfl) (Nat.zero_le _) (Nat.zero_le _) dX5_worst_80 ?_
                  refine top_eq (y := mmax z2 ((ltS C a b mk (gN g)) - (prI (C (a * 10 + b))))) rfl ?_
                  refine lv_istore_n (lv' := [(1, .int (mmax z2 ((ltS C a b mk (gN g)) - (prI (C (a * 10 + b)))))), (4, .int (ltS C a b mk (gN g))), (0, .ref (q 0)), (2, .int (nI a)), (3, .int (nI b))]) S.1 S.2.1 dX5_worst_83 rfl hl (by decide) rfl (fun ls hl => ?_)
                  refine lv_iinc (v := nI (b + 1)) (lv' := [(3, .int (nI (b + 1))), (1, .int (mmax z2 ((ltS C a b mk (gN g)) - (prI (C (a * 10 + b)))))), (4, .int (ltS C a b mk (gN g))), (0, .ref (q 0)), (2, .int (nI a))]) (k := 4) S.1 S.2.1 dX5_worst_84 hl rfl (nI_1 _) (by decide) rfl (fun ls hl => ?_)
                  refine lv_goto (tgt := 17) S.1 S.2.1 dX5_worst_87 (by decide) ?_
                  exact ih17 (mmax z2 ((ltS C a b mk (gN g)) - (prI (C (a * 10 + b))))) (b + 1) (by simp only [wmI, ← hz2, c_37, eq_self, Nat.add_zero, decide_false, decide_true, Bool.not_true, Bool.not_false, Bool.and_true, Bool.true_and, Bool.and_false, Bool.false_and, Bool.or_true, Bool.true_or, Bool.or_false, Bool.false_or, ↓reduceIte, cond_true, cond_false, bI, and_true, true_and, and_false, false_and, or_true, true_or, or_false, false_or, not_true_eq_false, not_false_eq_true, if_true, if_false, Bool.false_eq_true, reduceCtorEq, ite_true, ite_false]) (by simp only [anyN, hf2, wbI, c_37, c_60, eq_self, Nat.add_zero, decide_false, decide_true, Bool.not_true, Bool.not_false, Bool.and_true, Bool.true_and, Bool.and_false, Bool.false_and, Bool.or_true, Bool.true_or, Bool.or_false, Bool.false_or, ↓reduceIte, cond_true, cond_false, bI, and_true, true_and, and_false, false_and, or_true, true_or, or_false, false_or, not_true_eq_false, not_false_eq_true, if_true, if_false, Bool.false_eq_true, reduceCtorEq, ite_true, ite_false]) (by omega) (by omega) _ _ _ hW (lv_sub hl [3, 1, 4, 0] rfl)
                · skip
                  refine lv_sipush (v := (-1000)) S.1 S.2.1 dX5_worst_63 (by decide) ?_
                  exact hR _ _ _ _ _ _ _ _ dX5_worst_66 rfl (Nat.le_of_ble_eq_true rfl) (Nat.le_of_ble_eq_true rfl) hW ⟨(by have hb9 : anyN (fun a => anyN (wbI C (gN g) mk a) (gN g)) (gN g) = true := anyN_true (i := a) (by omega) (anyN_true (i := b) (by omega) (by simp only [wbI, c_37, c_60, eq_self, Nat.add_zero, decide_false, decide_true, Bool.not_true, Bool.not_false, Bool.and_true, Bool.true_and, Bool.and_false, Bool.false_and, Bool.or_true, Bool.true_or, Bool.or_false, Bool.false_or, ↓reduceIte, cond_true, cond_false, bI, and_true, true_and, and_false, false_and, or_true, true_or, or_false, false_or, not_true_eq_false, not_false_eq_true, if_true, if_false, Bool.false_eq_true, reduceCtorEq, ite_true, ite_false])); rw [wrsC, hb9]; rfl), rfl⟩
        exact L17 ((gN g) + 1) z 0 hz rfl (by omega) (by omega) _ _ _ hW (lv_sub hl [1, 2, 3, 0] rfl)
  exact L4 ((gN g) + 1) (nI 0) 0 rfl rfl (by omega) (by omega) _ _ _ hW (lv_sub hl [2, 1, 0] rfl)
abbrev r_X5_hits : Room := { frames := 5, cells := 0, slots := 0, locals := 118 }
theorem v_X5_hits : yX5_hits.cls ≠ "java/lang/invoke/MethodHandle" ∧ yX5_hits.cls ≠ "java/lang/invoke/VarHandle" ∧ (parseMethodDescriptor yX5_hits.desc).map (fun d => d.parameters.length) = some 1 := by decide +kernel
set_option maxRecDepth 100000 in
set_option maxHeartbeats 4000000 in
theorem c_X5_hits {l : Launch} {D : va_G} {cI cZ cF : ClassId} {q : Nat → Nat} {qf : Nat → Nat} {g : Gr} {C R : Nat → Int32} {rw len : Nat} {F : Nat → Int32} {sz : Nat} {X : Nat → Int32} {mk : Int32} {x : Int32} (G : Gok g) : cI_ l D cI cZ cF yX5_hits wsX5_hits r_X5_hits [.ref (q 0), .int x] (wC q qf cI cZ cF g C R rw len F sz X mk) (fun r u => r = hitC g C X x ∧ ∃ sz', ∃ X', u = wC q qf cI cZ cF g C R rw len F sz' X' mk) 0 0 := by
  refine cI_of (cc := cX5_hits) (maxL := 2) (rt := .int) (plainFor_of_name (by decide +kernel)) rfl (Nat.le_of_ble_eq_true rfl) ?_
  intro p e s m args below meth c A Q ls S hk hW hl hR
  have hl : lv_has ls 2 [(0, .ref (q 0)), (1, .int x)] := hl
  have hwsX50 : ∀ x ∈ wsX50, x ∈ wsX5_hits := fun x h => List.mem_cons_of_mem _ (List.mem_append_left _ (List.mem_append_left _ (List.mem_append_left _ (List.mem_append_right _ h))))
  have hwsX20 : ∀ x ∈ wsX20, x ∈ wsX5_hits := fun x h => List.mem_cons_of_mem _ (List.mem_append_left _ (List.mem_append_left _ (List.mem_append_right _ h)))
  have hwsX10 : ∀ x ∈ wsX10, x ∈ wsX5_hits := fun x h => List.mem_cons_of_mem _ (List.mem_append_left _ (List.mem_append_right _ h))
  have hwsX40 : ∀ x ∈ wsX40, x ∈ wsX5_hits := fun x h => List.mem_cons_of_mem _ (List.mem_append_right _ h)
  have hN := Gok_N G; have hN2 := Gok_N2 G; have hKK := Gok_K G
  refine lv_iload_n S.1 S.2.1 dX5_hits_0 rfl (lv_at hl 1 rfl) ?_
  refine lv_iconst (v := nI 1) S.1 S.2.1 dX5_hits_1 (by decide) ?_
  refine lv_icmp_lt (tgt := 11) S.1 S.2.1 dX5_hits_2 (by decide) (fun c_2 => ?_) (fun c_2 => ?_)
  · skip
    refine lv_sipush (v := (-1002)) S.1 S.2.1 dX5_hits_11 (by decide) ?_
    exact hR _ _ _ _ _ _ _ _ dX5_hits_14 rfl (Nat.le_of_ble_eq_true rfl) (Nat.le_of_ble_eq_true rfl) hW ⟨(by simp only [hitC, eq_true c_2, eq_self, Nat.add_zero, decide_false, decide_true, Bool.not_true, Bool.not_false, Bool.and_true, Bool.true_and, Bool.and_false, Bool.false_and, Bool.or_true, Bool.true_or, Bool.or_false, Bool.false_or, ↓reduceIte, cond_true, cond_false, bI, and_true, true_and, and_false, false_and, or_true, true_or, or_false, false_or, not_true_eq_false, not_false_eq_true, if_true, if_false, Bool.false_eq_true, reduceCtorEq, ite_true, ite_false]), ⟨_, ⟨_, rfl⟩⟩⟩
  · skip
    refine lv_iload_n S.1 S.2.1 dX5_hits_5 rfl (lv_at hl 1 rfl) ?_
    refine lv_bipush (v := nI 9) S.1 S.2.1 dX5_hits_6 (by decide) ?_
    refine lv_icmp_le (tgt := 15) S.1 S.2.1 dX5_hits_8 (by decide) (fun c_8 => ?_) (fun c_8 => ?_)
    · skip
      refine lv_aload_n S.1 S.2.1 dX5_hits_15 rfl (lv_at hl 0 rfl) ?_
      refine gf S hk hW 0 rfl rfl hwsX50 3 (by decide) 1 rfl rfl dX5_hits_16 ?_
      refine lv_aload_n S.1 S.2.1 dX5_hits_19 rfl (lv_at hl 0 rfl) ?_
      refine gf S hk hW 0 rfl rfl hwsX50 1 (by decide) 2 rfl rfl dX5_hits_20 ?_
      refine lv_aload_n S.1 S.2.1 dX5_hits_23 rfl (lv_at hl 0 rfl) ?_
      refine gf S hk hW 0 rfl rfl hwsX50 0 (by decide) 3 rfl rfl dX5_hits_24 ?_
      refine gfN (host := RX5) S hk hW 1 rfl rfl hwsX20 5 (by decide) 0 rfl rfl dX5_hits_27 ?_
      refine lv_iload_n S.1 S.2.1 dX5_hits_30 rfl (lv_at hl 1 rfl) ?_
      refine kVv S (c_X1_askFor (l := l) (D := D) (cI := cI) (cZ := cZ) (cF := cF) G (by first | assumption | omega)) (cwV 3 S.2.2.2.2 gX5_hits_X1_askFor rfl rfl rfl ⟨rfl, v_X1_askFor⟩ ⟨(Nat.le_of_ble_eq_true rfl), (Nat.le_of_ble_eq_true rfl)⟩) hk hW 4 rfl rfl rfl rfl hl rfl (Nat.le_of_ble_eq_true rfl) dX5_hits_31 ⟨(Nat.le_of_ble_eq_true rfl), (Nat.le_of_ble_eq_true rfl)⟩ (fun u H locs hp hW => ?_)
      subst hp
      refine lv_aload_n S.1 S.2.1 dX5_hits_34 rfl (lv_at hl 0 rfl) ?_
      refine gf S hk hW 0 rfl rfl hwsX50 3 (by decide) 1 rfl rfl dX5_hits_35 ?_
      refine lv_aload_n S.1 S.2.1 dX5_hits_38 rfl (lv_at hl 0 rfl) ?_
      refine gf S hk hW 0 rfl rfl hwsX50 0 (by decide) 3 rfl rfl dX5_hits_39 ?_
      refine gfN (host := RX5) S hk hW 1 rfl rfl hwsX20 5 (by decide) 0 rfl rfl dX5_hits_42 ?_
      refine kVi S (c_X1_fewest (l := l) (D := D) (cI := cI) (cZ := cZ) (cF := cF) (by omega) (akO_100 (by omega))) (cwV 1 S.2.2.2.2 gX5_hits_X1_fewest rfl rfl rfl ⟨rfl, v_X1_fewest⟩ ⟨(Nat.le_of_ble_eq_true rfl), (Nat.le_of_ble_eq_true rfl)⟩) hk hW 4 rfl rfl rfl rfl hl rfl (Nat.le_of_ble_eq_true rfl) dX5_hits_45 ⟨(Nat.le_of_ble_eq_true rfl), (Nat.le_of_ble_eq_true rfl)⟩ (fun r u H locs hp hW => ?_)
      obtain ⟨rfl, rfl⟩ := hp
      exact hR _ _ _ _ _ _ _ _ dX5_hits_48 rfl (Nat.le_of_ble_eq_true rfl) (Nat.le_of_ble_eq_true rfl) hW ⟨(by simp only [hitC, eq_false c_2, eq_true c_8, eq_self, Nat.add_zero, decide_false, decide_true, Bool.not_true, Bool.not_false, Bool.and_true, Bool.true_and, Bool.and_false, Bool.false_and, Bool.or_true, Bool.true_or, Bool.or_false, Bool.false_or, ↓reduceIte, cond_true, cond_false, bI, and_true, true_and, and_false, false_and, or_true, true_or, or_false, false_or, not_true_eq_false, not_false_eq_true, if_true, if_false, Bool.false_eq_true, reduceCtorEq, ite_true, ite_false]), ⟨_, ⟨_, rfl⟩⟩⟩
    · skip
      refine lv_sipush (v := (-1002)) S.1 S.2.1 dX5_hits_11 (by decide) ?_
      exact hR _ _ _ _ _ _ _ _ dX5_hits_14 rfl (Nat.le_of_ble_eq_true rfl) (Nat.le_of_ble_eq_true rfl) hW ⟨(by simp only [hitC, eq_false c_2, eq_false c_8, eq_self, Nat.add_zero, decide_false, decide_true, Bool.not_true, Bool.not_false, Bool.and_true, Bool.true_and, Bool.and_false, Bool.false_and, Bool.or_true, Bool.true_or, Bool.or_false, Bool.false_or, ↓reduceIte, cond_true, cond_false, bI, and_true, true_and, and_false, false_and, or_true, true_or, or_false, false_or, not_true_eq_false, not_false_eq_true, if_true, if_false, Bool.false_eq_true, reduceCtorEq, ite_true, ite_false]), ⟨_, ⟨_, rfl⟩⟩⟩
abbrev r_X5_count : Room := { frames := 3, cells := 0, slots := 0, locals := 66 }
theorem v_X5_count : yX5_count.cls ≠ "java/lang/invoke/MethodHandle" ∧ yX5_count.cls ≠ "java/lang/invoke/VarHandle" ∧ (parseMethodDescriptor yX5_count.desc).map (fun d => d.parameters.length) = some 1 := by decide +kernel
set_option maxRecDepth 100000 in
set_option maxHeartbeats 4000000 in
theorem c_X5_count {l : Launch} {D : va_G} {cI cZ cF : ClassId} {q : Nat → Nat} {qf : Nat → Nat} {g : Gr} {C R : Nat → Int32} {rw len : Nat} {F : Nat → Int32} {sz : Nat} {X : Nat → Int32} {mk : Int32} {x : Int32} (G : Gok g) : cI_ l D cI cZ cF yX5_count wsX5_count r_X5_count [.ref (q 0), .int x] (wC q qf cI cZ cF g C R rw len F sz X mk) (fun r u => ((x = nI 0 → r = nI (gN g)) ∧ (x = nI 1 → r = nI (gK g)) ∧ (x = nI 2 → r = nI (cntT g (gK g))) ∧ (x = nI 3 → r = nI (clO C (gN g) (gN g))) ∧ (x = nI 4 → r = bcnt mk) ∧ ((x.toInt < 0 ∨ 4 < x.toInt) → r = (-1002))) ∧ u = wC q qf cI cZ cF g C R rw len F sz X mk) 0 0 := by
  refine cI_of (cc := cX5_count) (maxL := 2) (rt := .int) (plainFor_of_name (by decide +kernel)) rfl (Nat.le_of_ble_eq_true rfl) ?_
  intro p e s m args below meth c A Q ls S hk hW hl hR
  have hl : lv_has ls 2 [(0, .ref (q 0)), (1, .int x)] := hl
  have hwsX50 : ∀ x ∈ wsX50, x ∈ wsX5_count := fun x h => List.mem_cons_of_mem _ (List.mem_append_left _ (List.mem_append_left _ (List.mem_append_right _ h)))
  have hwsX20 : ∀ x ∈ wsX20, x ∈ wsX5_count := fun x h => List.mem_cons_of_mem _ (List.mem_append_left _ (List.mem_append_right _ h))
  have hwsX40 : ∀ x ∈ wsX40, x ∈ wsX5_count := fun x h => List.mem_cons_of_mem _ (List.mem_append_right _ h)
  have hN := Gok_N G; have hN2 := Gok_N2 G; have hKK := Gok_K G
  refine lv_iload_n S.1 S.2.1 dX5_count_0 rfl (lv_at hl 1 rfl) ?_
  rcases sw5 x with rfl | rfl | rfl | rfl | rfl | hsw
  · refine lv_tableIn (tgt := 36) (off := 35) S.1 S.2.1 dX5_count_1 (by decide) (by decide) (by decide) (by decide) ?_
    refine lv_aload_n S.1 S.2.1 dX5_count_36 rfl (lv_at hl 0 rfl) ?_
    refine gf S hk hW 0 rfl rfl hwsX50 0 (by decide) 1 rfl rfl dX5_count_37 ?_
    refine gfN (host := RX5) S hk hW 1 rfl rfl hwsX20 5 (by decide) 0 rfl rfl dX5_count_40 ?_
    exact hR _ _ _ _ _ _ _ _ dX5_count_43 rfl (Nat.le_of_ble_eq_true rfl) (Nat.le_of_ble_eq_true rfl) hW ⟨⟨fun _ => rfl, fun h => absurd h (by decide), fun h => absurd h (by decide), fun h => absurd h (by decide), fun h => absurd h (by decide), fun h => absurd h (by decide)⟩, rfl⟩
  · refine lv_tableIn (tgt := 44) (off := 43) S.1 S.2.1 dX5_count_1 (by decide) (by decide) (by decide) (by decide) ?_
    refine lv_aload_n S.1 S.2.1 dX5_count_44 rfl (lv_at hl 0 rfl) ?_
    refine gf S hk hW 0 rfl rfl hwsX50 0 (by decide) 1 rfl rfl dX5_count_45 ?_
    refine gfN (host := RX5) S hk hW 1 rfl rfl hwsX20 6 (by decide) 1 rfl rfl dX5_count_48 ?_
    exact hR _ _ _ _ _ _ _ _ dX5_count_51 rfl (Nat.le_of_ble_eq_true rfl) (Nat.le_of_ble_eq_true rfl) hW ⟨⟨fun h => absurd h (by decide), fun _ => rfl, fun h => absurd h (by decide), fun h => absurd h (by decide), fun h => absurd h (by decide), fun h => absurd h (by decide)⟩, rfl⟩
  · refine lv_tableIn (tgt := 52) (off := 51) S.1 S.2.1 dX5_count_1 (by decide) (by decide) (by decide) (by decide) ?_
    refine lv_aload_n S.1 S.2.1 dX5_count_52 rfl (lv_at hl 0 rfl) ?_
    refine gf S hk hW 0 rfl rfl hwsX50 0 (by decide) 1 rfl rfl dX5_count_53 ?_
    refine kVi S (c_X2_countThere (l := l) (D := D) (cI := cI) (cZ := cZ) (cF := cF) G) (cwV 0 S.2.2.2.2 gX5_count_X2_countThere rfl rfl rfl ⟨rfl, v_X2_countThere⟩ ⟨(Nat.le_of_ble_eq_true rfl), (Nat.le_of_ble_eq_true rfl)⟩) hk hW 1 rfl rfl rfl rfl hl rfl (Nat.le_of_ble_eq_true rfl) dX5_count_56 ⟨(Nat.le_of_ble_eq_true rfl), (Nat.le_of_ble_eq_true rfl)⟩ (fun r u H locs hp hW => ?_)
    obtain ⟨rfl, rfl⟩ := hp
    exact hR _ _ _ _ _ _ _ _ dX5_count_59 rfl (Nat.le_of_ble_eq_true rfl) (Nat.le_of_ble_eq_true rfl) hW ⟨⟨fun h => absurd h (by decide), fun h => absurd h (by decide), fun _ => rfl, fun h => absurd h (by decide), fun h => absurd h (by decide), fun h => absurd h (by decide)⟩, rfl⟩
  · refine lv_tableIn (tgt := 60) (off := 59) S.1 S.2.1 dX5_count_1 (by decide) (by decide) (by decide) (by decide) ?_
    refine lv_aload_n S.1 S.2.1 dX5_count_60 rfl (lv_at hl 0 rfl) ?_
    refine gf S hk hW 0 rfl rfl hwsX50 1 (by decide) 2 rfl rfl dX5_count_61 ?_
    refine kVi S (c_X4_countLinked (l := l) (D := D) (cI := cI) (cZ := cZ) (cF := cF) G) (cwV 0 S.2.2.2.2 gX5_count_X4_countLinked rfl rfl rfl ⟨rfl, v_X4_countLinked⟩ ⟨(Nat.le_of_ble_eq_true rfl), (Nat.le_of_ble_eq_true rfl)⟩) hk hW 2 rfl rfl rfl rfl hl rfl (Nat.le_of_ble_eq_true rfl) dX5_count_64 ⟨(Nat.le_of_ble_eq_true rfl), (Nat.le_of_ble_eq_true rfl)⟩ (fun r u H locs hp hW => ?_)
    obtain ⟨rfl, rfl⟩ := hp
    exact hR _ _ _ _ _ _ _ _ dX5_count_67 rfl (Nat.le_of_ble_eq_true rfl) (Nat.le_of_ble_eq_true rfl) hW ⟨⟨fun h => absurd h (by decide), fun h => absurd h (by decide), fun h => absurd h (by decide), fun _ => rfl, fun h => absurd h (by decide), fun h => absurd h (by decide)⟩, rfl⟩
  · refine lv_tableIn (tgt := 68) (off := 67) S.1 S.2.1 dX5_count_1 (by decide) (by decide) (by decide) (by decide) ?_
    refine lv_aload_n S.1 S.2.1 dX5_count_68 rfl (lv_at hl 0 rfl) ?_
    refine gf S hk hW 0 rfl rfl hwsX50 4 (by decide) 3 rfl rfl dX5_count_69 ?_
    refine kSi S (c_J6_bitCount_0f7a4 (l := l) (D := D) (cI := cI) (cZ := cZ) (cF := cF)) (va_cwS 1 S.2.2.2.2 gX5_count_J6_bitCount_0f7a4 rfl rfl rfl v_J6_bitCount_0f7a4 ⟨(Nat.le_of_ble_eq_true rfl), (Nat.le_of_ble_eq_true rfl)⟩) hk hW rfl hl rfl (Nat.le_of_ble_eq_true rfl) dX5_count_72 ⟨(Nat.le_of_ble_eq_true rfl), (Nat.le_of_ble_eq_true rfl)⟩ (fun r u H locs hp hW => ?_)
    obtain ⟨rfl, rfl⟩ := hp
    exact hR _ _ _ _ _ _ _ _ dX5_count_75 rfl (Nat.le_of_ble_eq_true rfl) (Nat.le_of_ble_eq_true rfl) hW ⟨⟨fun h => absurd h (by decide), fun h => absurd h (by decide), fun h => absurd h (by decide), fun h => absurd h (by decide), fun _ => rfl, fun h => absurd h (by decide)⟩, rfl⟩
  · refine lv_tableOut (tgt := 76) S.1 S.2.1 dX5_count_1 hsw (by decide) ?_
    refine lv_sipush (v := (-1002)) S.1 S.2.1 dX5_count_76 (by decide) ?_
    exact hR _ _ _ _ _ _ _ _ dX5_count_79 rfl (Nat.le_of_ble_eq_true rfl) (Nat.le_of_ble_eq_true rfl) hW ⟨⟨fun h => absurd hsw (by rw [h]; decide), fun h => absurd hsw (by rw [h]; decide), fun h => absurd hsw (by rw [h]; decide), fun h => absurd hsw (by rw [h]; decide), fun h => absurd hsw (by rw [h]; decide), fun _ => rfl⟩, rfl⟩
abbrev r_X5_told : Room := { frames := 5, cells := 0, slots := 0, locals := 110 }
theorem v_X5_told : yX5_told.cls ≠ "java/lang/invoke/MethodHandle" ∧ yX5_told.cls ≠ "java/lang/invoke/VarHandle" ∧ (parseMethodDescriptor yX5_told.desc).map (fun d => d.parameters.length) = some 2 := by decide +kernel
set_option maxRecDepth 100000 in
set_option maxHeartbeats 4000000 in
theorem c_X5_told {l : Launch} {D : va_G} {cI cZ cF : ClassId} {q : Nat → Nat} {qf : Nat → Nat} {g : Gr} {C R : Nat → Int32} {rw len : Nat} {F : Nat → Int32} {sz : Nat} {X : Nat → Int32} {mk : Int32} {x y : Int32} (G : Gok g) : cI_ l D cI cZ cF yX5_told wsX5_told r_X5_told [.ref (q 0), .int x, .int y] (wC q qf cI cZ cF g C R rw len F sz X mk) (fun r u => (inb x (gK g) = false → r = (-1001)) ∧ (inb x (gK g) = true → (y = nI 0 → r = nI (e1 g x.toNatClampNeg)) ∧ (y = nI 1 → r = nI (e2 g x.toNatClampNeg)) ∧ (y = nI 2 → r = gP g x.toNatClampNeg) ∧ (y = nI 3 → r = bI (bW g x.toNatClampNeg)) ∧ (y = nI 4 → r = bI (bT g x.toNatClampNeg)) ∧ (y = nI 5 → r = if bT g x.toNatClampNeg = true then lif g C x.toNatClampNeg else (-1000)) ∧ ((y.toInt < 0 ∨ 5 < y.toInt) → r = (-1002))) ∧ u = wC q qf cI cZ cF g C R rw len F sz X mk) 0 0 := by
  refine cI_of (cc := cX5_told) (maxL := 3) (rt := .int) (plainFor_of_name (by decide +kernel)) rfl (Nat.le_of_ble_eq_true rfl) ?_
  intro p e s m args below meth c A Q ls S hk hW hl hR
  have hl : lv_has ls 3 [(0, .ref (q 0)), (1, .int x), (2, .int y)] := hl
  have hwsX50 : ∀ x ∈ wsX50, x ∈ wsX5_told := fun x h => List.mem_cons_of_mem _ (List.mem_append_left _ (List.mem_append_left _ (List.mem_append_right _ h)))
  have hwsX20 : ∀ x ∈ wsX20, x ∈ wsX5_told := fun x h => List.mem_cons_of_mem _ (List.mem_append_left _ (List.mem_append_right _ h))
  have hwsX40 : ∀ x ∈ wsX40, x ∈ wsX5_told := fun x h => List.mem_cons_of_mem _ (List.mem_append_right _ h)
  have hN := Gok_N G; have hN2 := Gok_N2 G; have hKK := Gok_K G
  refine lv_aload_n S.1 S.2.1 dX5_told_0 rfl (lv_at hl 0 rfl) ?_
  refine gf S hk hW 0 rfl rfl hwsX50 0 (by decide) 1 rfl rfl dX5_told_1 ?_
  refine lv_iload_n S.1 S.2.1 dX5_told_4 rfl (lv_at hl 1 rfl) ?_
  refine kVi S (c_X2_hasLine (l := l) (D := D) (cI := cI) (cZ := cZ) (cF := cF)) (cwV 1 S.2.2.2.2 gX5_told_X2_hasLine rfl rfl rfl ⟨rfl, v_X2_hasLine⟩ ⟨(Nat.le_of_ble_eq_true rfl), (Nat.le_of_ble_eq_true rfl)⟩) hk hW 1 rfl rfl rfl rfl hl rfl (Nat.le_of_ble_eq_true rfl) dX5_told_5 ⟨(Nat.le_of_ble_eq_true rfl), (Nat.le_of_ble_eq_true rfl)⟩ (fun r u H locs hp hW => ?_)
  obtain ⟨rfl, rfl⟩ := hp
  refine ifne_b (tgt := 15) S dX5_told_8 (by decide) (fun c_8 => ?_) (fun c_8 => ?_)
  · skip
    obtain ⟨j, hj, rfl⟩ := inb_nat c_8 (by omega)
    have hcj : (nI j).toNatClampNeg = j := nI_clamp (by omega)
    refine lv_iload_n S.1 S.2.1 dX5_told_15 rfl (lv_at hl 2 rfl) ?_
    rcases sw6 y with rfl | rfl | rfl | rfl | rfl | rfl | hsw
    · refine lv_tableIn (tgt := 56) (off := 40) S.1 S.2.1 dX5_told_16 (by decide) (by decide) (by decide) (by decide) ?_
      refine lv_aload_n S.1 S.2.1 dX5_told_56 rfl (lv_at hl 0 rfl) ?_
      refine gf S hk hW 0 rfl rfl hwsX50 0 (by decide) 1 rfl rfl dX5_told_57 ?_
      refine gfN (host := RX5) S hk hW 1 rfl rfl hwsX20 0 (by decide) 5 rfl rfl dX5_told_60 ?_
      refine lv_iload_n S.1 S.2.1 dX5_told_63 rfl (lv_at hl 1 rfl) ?_
      refine ild S hk hW 5 rfl j rfl (by omega) (by omega) dX5_told_64 ?_
      refine top_eq (Gok_B G (j := j) (by omega)) ?_
      have hb64 := Gok_B2 G (j := j) (by omega)
      exact hR _ _ _ _ _ _ _ _ dX5_told_65 rfl (Nat.le_of_ble_eq_true rfl) (Nat.le_of_ble_eq_true rfl) hW ⟨fun h => absurd (c_8.symm.trans h) (by decide), fun _ => ⟨fun _ => (by rw [hcj]), fun h => absurd h (by decide), fun h => absurd h (by decide), fun h => absurd h (by decide), fun h => absurd h (by decide), fun h => absurd h (by decide), fun h => absurd h (by decide)⟩, rfl⟩
    · refine lv_tableIn (tgt := 66) (off := 50) S.1 S.2.1 dX5_told_16 (by decide) (by decide) (by decide) (by decide) ?_
      refine lv_aload_n S.1 S.2.1 dX5_told_66 rfl (lv_at hl 0 rfl) ?_
      refine gf S hk hW 0 rfl rfl hwsX50 0 (by decide) 1 rfl rfl dX5_told_67 ?_
      refine gfN (host := RX5) S hk hW 1 rfl rfl hwsX20 1 (by decide) 6 rfl rfl dX5_told_70 ?_
      refine lv_iload_n S.1 S.2.1 dX5_told_73 rfl (lv_at hl 1 rfl) ?_
      refine ild S hk hW 6 rfl j rfl (by omega) (by omega) dX5_told_74 ?_
      refine top_eq (Gok_E G (j := j) (by omega)) ?_
      have hb74 := Gok_E2 G (j := j) (by omega)
      exact hR _ _ _ _ _ _ _ _ dX5_told_75 rfl (Nat.le_of_ble_eq_true rfl) (Nat.le_of_ble_eq_true rfl) hW ⟨fun h => absurd (c_8.symm.trans h) (by decide), fun _ => ⟨fun h => absurd h (by decide), fun _ => (by rw [hcj]), fun h => absurd h (by decide), fun h => absurd h (by decide), fun h => absurd h (by decide), fun h => absurd h (by decide), fun h => absurd h (by decide)⟩, rfl⟩
    · refine lv_tableIn (tgt := 76) (off := 60) S.1 S.2.1 dX5_told_16 (by decide) (by decide) (by decide) (by decide) ?_
      refine lv_aload_n S.1 S.2.1 dX5_told_76 rfl (lv_at hl 0 rfl) ?_
      refine gf S hk hW 0 rfl rfl hwsX50 0 (by decide) 1 rfl rfl dX5_told_77 ?_
      refine gfN (host := RX5) S hk hW 1 rfl rfl hwsX20 2 (by decide) 3 rfl rfl dX5_told_80 ?_
      refine lv_iload_n S.1 S.2.1 dX5_told_83 rfl (lv_at hl 1 rfl) ?_
      refine ild S hk hW 7 rfl j rfl (by omega) (by omega) dX5_told_84 ?_
      exact hR _ _ _ _ _ _ _ _ dX5_told_85 rfl (Nat.le_of_ble_eq_true rfl) (Nat.le_of_ble_eq_true rfl) hW ⟨fun h => absurd (c_8.symm.trans h) (by decide), fun _ => ⟨fun h => absurd h (by decide), fun h => absurd h (by decide), fun _ => (by rw [hcj]), fun h => absurd h (by decide), fun h => absurd h (by decide), fun h => absurd h (by decide), fun h => absurd h (by decide)⟩, rfl⟩
    · refine lv_tableIn (tgt := 86) (off := 70) S.1 S.2.1 dX5_told_16 (by decide) (by decide) (by decide) (by decide) ?_
      refine lv_aload_n S.1 S.2.1 dX5_told_86 rfl (lv_at hl 0 rfl) ?_
      refine gf S hk hW 0 rfl rfl hwsX50 0 (by decide) 1 rfl rfl dX5_told_87 ?_
      refine gfN (host := RX5) S hk hW 1 rfl rfl hwsX20 3 (by decide) 2 rfl rfl dX5_told_90 ?_
      refine lv_iload_n S.1 S.2.1 dX5_told_93 rfl (lv_at hl 1 rfl) ?_
      refine zld S hk hW 8 rfl j rfl (by omega) (by omega) dX5_told_94 ?_
      refine top_eq (Gok_W G (j := j) (by omega)) ?_
      refine kSi S (c_X5_asNumber (l := l) (D := D) (cI := cI) (cZ := cZ) (cF := cF)) (va_cwS 1 S.2.2.2.2 gX5_told_X5_asNumber rfl rfl rfl v_X5_asNumber ⟨(Nat.le_of_ble_eq_true rfl), (Nat.le_of_ble_eq_true rfl)⟩) hk hW rfl hl rfl (Nat.le_of_ble_eq_true rfl) dX5_told_95 ⟨(Nat.le_of_ble_eq_true rfl), (Nat.le_of_ble_eq_true rfl)⟩ (fun r u H locs hp hW => ?_)
      obtain ⟨rfl, rfl⟩ := hp
      exact hR _ _ _ _ _ _ _ _ dX5_told_98 rfl (Nat.le_of_ble_eq_true rfl) (Nat.le_of_ble_eq_true rfl) hW ⟨fun h => absurd (c_8.symm.trans h) (by decide), fun _ => ⟨fun h => absurd h (by decide), fun h => absurd h (by decide), fun h => absurd h (by decide), fun _ => (by rw [hcj]), fun h => absurd h (by decide), fun h => absurd h (by decide), fun h => absurd h (by decide)⟩, rfl⟩
    · refine lv_tableIn (tgt := 99) (off := 83) S.1 S.2.1 dX5_told_16 (by decide) (by decide) (by decide) (by decide) ?_
      refine lv_aload_n S.1 S.2.1 dX5_told_99 rfl (lv_at hl 0 rfl) ?_
      refine gf S hk hW 0 rfl rfl hwsX50 0 (by decide) 1 rfl rfl dX5_told_100 ?_
      refine gfN (host := RX5) S hk hW 1 rfl rfl hwsX20 4 (by decide) 4 rfl rfl dX5_told_103 ?_
      refine lv_iload_n S.1 S.2.1 dX5_told_106 rfl (lv_at hl 1 rfl) ?_
      refine zld S hk hW 9 rfl j rfl (by omega) (by omega) dX5_told_107 ?_
      refine top_eq (Gok_T G (j := j) (by omega)) ?_
      refine kSi S (c_X5_asNumber (l := l) (D := D) (cI := cI) (cZ := cZ) (cF := cF)) (va_cwS 1 S.2.2.2.2 gX5_told_X5_asNumber rfl rfl rfl v_X5_asNumber ⟨(Nat.le_of_ble_eq_true rfl), (Nat.le_of_ble_eq_true rfl)⟩) hk hW rfl hl rfl (Nat.le_of_ble_eq_true rfl) dX5_told_108 ⟨(Nat.le_of_ble_eq_true rfl), (Nat.le_of_ble_eq_true rfl)⟩ (fun r u H locs hp hW => ?_)
      obtain ⟨rfl, rfl⟩ := hp
      exact hR _ _ _ _ _ _ _ _ dX5_told_111 rfl (Nat.le_of_ble_eq_true rfl) (Nat.le_of_ble_eq_true rfl) hW ⟨fun h => absurd (c_8.symm.trans h) (by decide), fun _ => ⟨fun h => absurd h (by decide), fun h => absurd h (by decide), fun h => absurd h (by decide), fun h => absurd h (by decide), fun _ => (by rw [hcj]), fun h => absurd h (by decide), fun h => absurd h (by decide)⟩, rfl⟩
    · refine lv_tableIn (tgt := 112) (off := 96) S.1 S.2.1 dX5_told_16 (by decide) (by decide) (by decide) (by decide) ?_
      refine lv_aload_n S.1 S.2.1 dX5_told_112 rfl (lv_at hl 0 rfl) ?_
      refine gf S hk hW 0 rfl rfl hwsX50 0 (by decide) 1 rfl rfl dX5_told_113 ?_
      refine gfN (host := RX5) S hk hW 1 rfl rfl hwsX20 4 (by decide) 4 rfl rfl dX5_told_116 ?_
      refine lv_iload_n S.1 S.2.1 dX5_told_119 rfl (lv_at hl 1 rfl) ?_
      refine zld S hk hW 9 rfl j rfl (by omega) (by omega) dX5_told_120 ?_
      refine top_eq (Gok_T G (j := j) (by omega)) ?_
      refine ifeq_b (tgt := 135) S dX5_told_121 (by decide) (fun c_121 => ?_) (fun c_121 => ?_)
      · skip
        refine lv_sipush (v := (-1000)) S.1 S.2.1 dX5_told_135 (by decide) ?_
        exact hR _ _ _ _ _ _ _ _ dX5_told_138 rfl (Nat.le_of_ble_eq_true rfl) (Nat.le_of_ble_eq_true rfl) hW ⟨fun h => absurd (c_8.symm.trans h) (by decide), fun _ => ⟨fun h => absurd h (by decide), fun h => absurd h (by decide), fun h => absurd h (by decide), fun h => absurd h (by decide), fun h => absurd h (by decide), fun _ => (by rw [hcj]; simp only [c_121, eq_self, Nat.add_zero, decide_false, decide_true, Bool.not_true, Bool.not_false, Bool.and_true, Bool.true_and, Bool.and_false, Bool.false_and, Bool.or_true, Bool.true_or, Bool.or_false, Bool.false_or, ↓reduceIte, cond_true, cond_false, bI, and_true, true_and, and_false, false_and, or_true, true_or, or_false, false_or, not_true_eq_false, not_false_eq_true, if_true, if_false, Bool.false_eq_true, reduceCtorEq, ite_true, ite_false]), fun h => absurd h (by decide)⟩, rfl⟩
      · skip
        refine lv_aload_n S.1 S.2.1 dX5_told_124 rfl (lv_at hl 0 rfl) ?_
        refine gf S hk hW 0 rfl rfl hwsX50 1 (by decide) 2 rfl rfl dX5_told_125 ?_
        refine lv_iload_n S.1 S.2.1 dX5_told_128 rfl (lv_at hl 1 rfl) ?_
        refine kVi S (c_X4_lifted (l := l) (D := D) (cI := cI) (cZ := cZ) (cF := cF) G (by first | assumption | omega)) (cwV 1 S.2.2.2.2 gX5_told_X4_lifted rfl rfl rfl ⟨rfl, v_X4_lifted⟩ ⟨(Nat.le_of_ble_eq_true rfl), (Nat.le_of_ble_eq_true rfl)⟩) hk hW 2 rfl rfl rfl rfl hl rfl (Nat.le_of_ble_eq_true rfl) dX5_told_129 ⟨(Nat.le_of_ble_eq_true rfl), (Nat.le_of_ble_eq_true rfl)⟩ (fun r u H locs hp hW => ?_)
        obtain ⟨rfl, rfl⟩ := hp
        refine lv_goto (tgt := 138) S.1 S.2.1 dX5_told_132 (by decide) ?_
        exact hR _ _ _ _ _ _ _ _ dX5_told_138 rfl (Nat.le_of_ble_eq_true rfl) (Nat.le_of_ble_eq_true rfl) hW ⟨fun h => absurd (c_8.symm.trans h) (by decide), fun _ => ⟨fun h => absurd h (by decide), fun h => absurd h (by decide), fun h => absurd h (by decide), fun h => absurd h (by decide), fun h => absurd h (by decide), fun _ => (by rw [hcj]; simp only [c_121, eq_self, Nat.add_zero, decide_false, decide_true, Bool.not_true, Bool.not_false, Bool.and_true, Bool.true_and, Bool.and_false, Bool.false_and, Bool.or_true, Bool.true_or, Bool.or_false, Bool.false_or, ↓reduceIte, cond_true, cond_false, bI, and_true, true_and, and_false, false_and, or_true, true_or, or_false, false_or, not_true_eq_false, not_false_eq_true, if_true, if_false, Bool.false_eq_true, reduceCtorEq, ite_true, ite_false]), fun h => absurd h (by decide)⟩, rfl⟩
    · refine lv_tableOut (tgt := 139) S.1 S.2.1 dX5_told_16 hsw (by decide) ?_
      refine lv_sipush (v := (-1002)) S.1 S.2.1 dX5_told_139 (by decide) ?_
      exact hR _ _ _ _ _ _ _ _ dX5_told_142 rfl (Nat.le_of_ble_eq_true rfl) (Nat.le_of_ble_eq_true rfl) hW ⟨fun h => absurd (c_8.symm.trans h) (by decide), fun _ => ⟨fun h => absurd hsw (by rw [h]; decide), fun h => absurd hsw (by rw [h]; decide), fun h => absurd hsw (by rw [h]; decide), fun h => absurd hsw (by rw [h]; decide), fun h => absurd hsw (by rw [h]; decide), fun h => absurd hsw (by rw [h]; decide), fun _ => rfl⟩, rfl⟩
  · skip
    refine lv_sipush (v := (-1001)) S.1 S.2.1 dX5_told_11 (by decide) ?_
    exact hR _ _ _ _ _ _ _ _ dX5_told_14 rfl (Nat.le_of_ble_eq_true rfl) (Nat.le_of_ble_eq_true rfl) hW ⟨fun _ => rfl, fun h => absurd (c_8.symm.trans h) (by decide), rfl⟩
