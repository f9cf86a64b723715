abbrev r_X2_hasPost : Room := { frames := 0, cells := 0, slots := 0, locals := 0 }
theorem v_X2_hasPost : yX2_hasPost.cls ≠ "java/lang/invoke/MethodHandle" ∧ yX2_hasPost.cls ≠ "java/lang/invoke/VarHandle" ∧ (parseMethodDescriptor yX2_hasPost.desc).map (fun d => d.parameters.length) = some 1 := by decide +kernel
set_option maxRecDepth 100000 in
set_option maxHeartbeats 4000000 in
theorem c_X2_hasPost {l : Launch} {D : va_G} {cI cZ cF : ClassId} {q : Nat → Nat} {qf : Nat → Nat} {g : Gr} {C R : Nat → Int32} {rw len : Nat} {F : Nat → Int32} {sz : Nat} {X : Nat → Int32} {mk : Int32} {x : Int32}  : cI_ l D cI cZ cF yX2_hasPost wsX2_hasPost r_X2_hasPost [.ref (q 1), .int x] (wC q qf cI cZ cF g C R rw len F sz X mk) (fun r u => r = bI (inb x (gN g)) ∧ u = wC q qf cI cZ cF g C R rw len F sz X mk) 0 0 := by
  refine cI_of (cc := cX2_hasPost) (maxL := 2) (rt := .boolean) (plainFor_of_name (by decide +kernel)) rfl (Nat.le_of_ble_eq_true rfl) ?_
  intro p e s m args below meth c A Q ls S hk hW hl hR
  have hl : lv_has ls 2 [(0, .ref (q 1)), (1, .int x)] := hl
  have hwsX20 : ∀ x ∈ wsX20, x ∈ wsX2_hasPost := fun x h => List.mem_cons_of_mem _ (List.mem_append_right _ h)
  refine lv_iload_n S.1 S.2.1 dX2_hasPost_0 rfl (lv_at hl 1 rfl) ?_
  refine lv_if_lt (tgt := 16) S.1 S.2.1 dX2_hasPost_1 (by decide) (fun c_1 => ?_) (fun c_1 => ?_)
  · skip
    refine lv_iconst (v := nI 0) S.1 S.2.1 dX2_hasPost_16 (by decide) ?_
    exact hR _ _ _ _ _ _ _ _ dX2_hasPost_17 rfl (Nat.le_of_ble_eq_true rfl) (Nat.le_of_ble_eq_true rfl) hW ⟨(by simp only [inb, eq_true c_1, eq_self, Nat.add_zero, decide_false, decide_true, Bool.not_true, Bool.not_false, Bool.and_true, Bool.true_and, Bool.and_false, Bool.false_and, Bool.or_true, Bool.true_or, Bool.or_false, Bool.false_or, ↓reduceIte, cond_true, cond_false, bI, and_true, true_and, and_false, false_and, or_true, true_or, or_false, false_or, not_true_eq_false, not_false_eq_true, if_true, if_false, Bool.false_eq_true, reduceCtorEq, ite_true, ite_false]), rfl⟩
  · skip
    refine lv_iload_n S.1 S.2.1 dX2_hasPost_4 rfl (lv_at hl 1 rfl) ?_
    refine lv_aload_n S.1 S.2.1 dX2_hasPost_5 rfl (lv_at hl 0 rfl) ?_
    refine gf S hk hW 1 rfl rfl hwsX20 5 (by decide) 1 rfl rfl dX2_hasPost_6 ?_
    refine lv_icmp_ge (tgt := 16) S.1 S.2.1 dX2_hasPost_9 (by decide) (fun c_9 => ?_) (fun c_9 => ?_)
    · skip
      refine lv_iconst (v := nI 0) S.1 S.2.1 dX2_hasPost_16 (by decide) ?_
      exact hR _ _ _ _ _ _ _ _ dX2_hasPost_17 rfl (Nat.le_of_ble_eq_true rfl) (Nat.le_of_ble_eq_true rfl) hW ⟨(by simp only [inb, eq_false c_1, eq_true c_9, eq_self, Nat.add_zero, decide_false, decide_true, Bool.not_true, Bool.not_false, Bool.and_true, Bool.true_and, Bool.and_false, Bool.false_and, Bool.or_true, Bool.true_or, Bool.or_false, Bool.false_or, ↓reduceIte, cond_true, cond_false, bI, and_true, true_and, and_false, false_and, or_true, true_or, or_false, false_or, not_true_eq_false, not_false_eq_true, if_true, if_false, Bool.false_eq_true, reduceCtorEq, ite_true, ite_false]), rfl⟩
    · skip
      refine lv_iconst (v := nI 1) S.1 S.2.1 dX2_hasPost_12 (by decide) ?_
      refine lv_goto (tgt := 17) S.1 S.2.1 dX2_hasPost_13 (by decide) ?_
      exact hR _ _ _ _ _ _ _ _ dX2_hasPost_17 rfl (Nat.le_of_ble_eq_true rfl) (Nat.le_of_ble_eq_true rfl) hW ⟨(by simp only [inb, eq_false c_1, eq_false c_9, eq_self, Nat.add_zero, decide_false, decide_true, Bool.not_true, Bool.not_false, Bool.and_true, Bool.true_and, Bool.and_false, Bool.false_and, Bool.or_true, Bool.true_or, Bool.or_false, Bool.false_or, ↓reduceIte, cond_true, cond_false, bI, and_true, true_and, and_false, false_and, or_true, true_or, or_false, false_or, not_true_eq_false, not_false_eq_true, if_true, if_false, Bool.false_eq_true, reduceCtorEq, ite_true, ite_false]), rfl⟩
abbrev r_X2_hasPosts : Room := { frames := 1, cells := 0, slots := 0, locals := 21 }
theorem v_X2_hasPosts : yX2_hasPosts.cls ≠ "java/lang/invoke/MethodHandle" ∧ yX2_hasPosts.cls ≠ "java/lang/invoke/VarHandle" ∧ (parseMethodDescriptor yX2_hasPosts.desc).map (fun d => d.parameters.length) = some 2 := by decide +kernel
set_option maxRecDepth 100000 in
set_option maxHeartbeats 4000000 in
theorem c_X2_hasPosts {l : Launch} {D : va_G} {cI cZ cF : ClassId} {q : Nat → Nat} {qf : Nat → Nat} {g : Gr} {C R : Nat → Int32} {rw len : Nat} {F : Nat → Int32} {sz : Nat} {X : Nat → Int32} {mk : Int32} {x y : Int32}  : cI_ l D cI cZ cF yX2_hasPosts wsX2_hasPosts r_X2_hasPosts [.ref (q 1), .int x, .int y] (wC q qf cI cZ cF g C R rw len F sz X mk) (fun r u => r = bI (inb x (gN g) && inb y (gN g)) ∧ u = wC q qf cI cZ cF g C R rw len F sz X mk) 0 0 := by
  refine cI_of (cc := cX2_hasPosts) (maxL := 3) (rt := .boolean) (plainFor_of_name (by decide +kernel)) rfl (Nat.le_of_ble_eq_true rfl) ?_
  intro p e s m args below meth c A Q ls S hk hW hl hR
  have hl : lv_has ls 3 [(0, .ref (q 1)), (1, .int x), (2, .int y)] := hl
  have hwsX20 : ∀ x ∈ wsX20, x ∈ wsX2_hasPosts := fun x h => List.mem_cons_of_mem _ (List.mem_append_right _ h)
  refine lv_aload_n S.1 S.2.1 dX2_hasPosts_0 rfl (lv_at hl 0 rfl) ?_
  refine lv_iload_n S.1 S.2.1 dX2_hasPosts_1 rfl (lv_at hl 1 rfl) ?_
  refine kVi S (c_X2_hasPost (l := l) (D := D) (cI := cI) (cZ := cZ) (cF := cF)) (cwV 1 S.2.2.2.2 gX2_hasPosts_X2_hasPost rfl rfl rfl ⟨rfl, v_X2_hasPost⟩ ⟨(Nat.le_of_ble_eq_true rfl), (Nat.le_of_ble_eq_true rfl)⟩) hk hW 1 rfl rfl rfl rfl hl rfl (Nat.le_of_ble_eq_true rfl) dX2_hasPosts_2 ⟨(Nat.le_of_ble_eq_true rfl), (Nat.le_of_ble_eq_true rfl)⟩ (fun r u H locs hp hW => ?_)
  obtain ⟨rfl, rfl⟩ := hp
  refine ifeq_b (tgt := 20) S dX2_hasPosts_5 (by decide) (fun c_5 => ?_) (fun c_5 => ?_)
  · skip
    refine lv_iconst (v := nI 0) S.1 S.2.1 dX2_hasPosts_20 (by decide) ?_
    exact hR _ _ _ _ _ _ _ _ dX2_hasPosts_21 rfl (Nat.le_of_ble_eq_true rfl) (Nat.le_of_ble_eq_true rfl) hW ⟨(by simp only [c_5, eq_self, Nat.add_zero, decide_false, decide_true, Bool.not_true, Bool.not_false, Bool.and_true, Bool.true_and, Bool.and_false, Bool.false_and, Bool.or_true, Bool.true_or, Bool.or_false, Bool.false_or, ↓reduceIte, cond_true, cond_false, bI, and_true, true_and, and_false, false_and, or_true, true_or, or_false, false_or, not_true_eq_false, not_false_eq_true, if_true, if_false, Bool.false_eq_true, reduceCtorEq, ite_true, ite_false]), rfl⟩
  · skip
    refine lv_aload_n S.1 S.2.1 dX2_hasPosts_8 rfl (lv_at hl 0 rfl) ?_
    refine lv_iload_n S.1 S.2.1 dX2_hasPosts_9 rfl (lv_at hl 2 rfl) ?_
    refine kVi S (c_X2_hasPost (l := l) (D := D) (cI := cI) (cZ := cZ) (cF := cF)) (cwV 1 S.2.2.2.2 gX2_hasPosts_X2_hasPost rfl rfl rfl ⟨rfl, v_X2_hasPost⟩ ⟨(Nat.le_of_ble_eq_true rfl), (Nat.le_of_ble_eq_true rfl)⟩) hk hW 1 rfl rfl rfl rfl hl rfl (Nat.le_of_ble_eq_true rfl) dX2_hasPosts_10 ⟨(Nat.le_of_ble_eq_true rfl), (Nat.le_of_ble_eq_true rfl)⟩ (fun r u H locs hp hW => ?_)
    obtain ⟨rfl, rfl⟩ := hp
    refine ifeq_b (tgt := 20) S dX2_hasPosts_13 (by decide) (fun c_13 => ?_) (fun c_13 => ?_)
    · skip
      refine lv_iconst (v := nI 0) S.1 S.2.1 dX2_hasPosts_20 (by decide) ?_
      exact hR _ _ _ _ _ _ _ _ dX2_hasPosts_21 rfl (Nat.le_of_ble_eq_true rfl) (Nat.le_of_ble_eq_true rfl) hW ⟨(by simp only [c_5, c_13, eq_self, Nat.add_zero, decide_false, decide_true, Bool.not_true, Bool.not_false, Bool.and_true, Bool.true_and, Bool.and_false, Bool.false_and, Bool.or_true, Bool.true_or, Bool.or_false, Bool.false_or, ↓reduceIte, cond_true, cond_false, bI, and_true, true_and, and_false, false_and, or_true, true_or, or_false, false_or, not_true_eq_false, not_false_eq_true, if_true, if_false, Bool.false_eq_true, reduceCtorEq, ite_true, ite_false]), rfl⟩
    · skip
      refine lv_iconst (v := nI 1) S.1 S.2.1 dX2_hasPosts_16 (by decide) ?_
      refine lv_goto (tgt := 21) S.1 S.2.1 dX2_hasPosts_17 (by decide) ?_
      exact hR _ _ _ _ _ _ _ _ dX2_hasPosts_21 rfl (Nat.le_of_ble_eq_true rfl) (Nat.le_of_ble_eq_true rfl) hW ⟨(by simp only [c_5, c_13, eq_self, Nat.add_zero, decide_false, decide_true, Bool.not_true, Bool.not_false, Bool.and_true, Bool.true_and, Bool.and_false, Bool.false_and, Bool.or_true, Bool.true_or, Bool.or_false, Bool.false_or, ↓reduceIte, cond_true, cond_false, bI, and_true, true_and, and_false, false_and, or_true, true_or, or_false, false_or, not_true_eq_false, not_false_eq_true, if_true, if_false, Bool.false_eq_true, reduceCtorEq, ite_true, ite_false]), rfl⟩
abbrev r_X2_hasLine : Room := { frames := 0, cells := 0, slots := 0, locals := 0 }
theorem v_X2_hasLine : yX2_hasLine.cls ≠ "java/lang/invoke/MethodHandle" ∧ yX2_hasLine.cls ≠ "java/lang/invoke/VarHandle" ∧ (parseMethodDescriptor yX2_hasLine.desc).map (fun d => d.parameters.length) = some 1 := by decide +kernel
set_option maxRecDepth 100000 in
set_option maxHeartbeats 4000000 in
theorem c_X2_hasLine {l : Launch} {D : va_G} {cI cZ cF : ClassId} {q : Nat → Nat} {qf : Nat → Nat} {g : Gr} {C R : Nat → Int32} {rw len : Nat} {F : Nat → Int32} {sz : Nat} {X : Nat → Int32} {mk : Int32} {x : Int32}  : cI_ l D cI cZ cF yX2_hasLine wsX2_hasLine r_X2_hasLine [.ref (q 1), .int x] (wC q qf cI cZ cF g C R rw len F sz X mk) (fun r u => r = bI (inb x (gK g)) ∧ u = wC q qf cI cZ cF g C R rw len F sz X mk) 0 0 := by
  refine cI_of (cc := cX2_hasLine) (maxL := 2) (rt := .boolean) (plainFor_of_name (by decide +kernel)) rfl (Nat.le_of_ble_eq_true rfl) ?_
  intro p e s m args below meth c A Q ls S hk hW hl hR
  have hl : lv_has ls 2 [(0, .ref (q 1)), (1, .int x)] := hl
  have hwsX20 : ∀ x ∈ wsX20, x ∈ wsX2_hasLine := fun x h => List.mem_cons_of_mem _ (List.mem_append_right _ h)
  refine lv_iload_n S.1 S.2.1 dX2_hasLine_0 rfl (lv_at hl 1 rfl) ?_
  refine lv_if_lt (tgt := 16) S.1 S.2.1 dX2_hasLine_1 (by decide) (fun c_1 => ?_) (fun c_1 => ?_)
  · skip
    refine lv_iconst (v := nI 0) S.1 S.2.1 dX2_hasLine_16 (by decide) ?_
    exact hR _ _ _ _ _ _ _ _ dX2_hasLine_17 rfl (Nat.le_of_ble_eq_true rfl) (Nat.le_of_ble_eq_true rfl) hW ⟨(by simp only [inb, eq_true c_1, eq_self, Nat.add_zero, decide_false, decide_true, Bool.not_true, Bool.not_false, Bool.and_true, Bool.true_and, Bool.and_false, Bool.false_and, Bool.or_true, Bool.true_or, Bool.or_false, Bool.false_or, ↓reduceIte, cond_true, cond_false, bI, and_true, true_and, and_false, false_and, or_true, true_or, or_false, false_or, not_true_eq_false, not_false_eq_true, if_true, if_false, Bool.false_eq_true, reduceCtorEq, ite_true, ite_false]), rfl⟩
  · skip
    refine lv_iload_n S.1 S.2.1 dX2_hasLine_4 rfl (lv_at hl 1 rfl) ?_
    refine lv_aload_n S.1 S.2.1 dX2_hasLine_5 rfl (lv_at hl 0 rfl) ?_
    refine gf S hk hW 1 rfl rfl hwsX20 6 (by decide) 1 rfl rfl dX2_hasLine_6 ?_
    refine lv_icmp_ge (tgt := 16) S.1 S.2.1 dX2_hasLine_9 (by decide) (fun c_9 => ?_) (fun c_9 => ?_)
    · skip
      refine lv_iconst (v := nI 0) S.1 S.2.1 dX2_hasLine_16 (by decide) ?_
      exact hR _ _ _ _ _ _ _ _ dX2_hasLine_17 rfl (Nat.le_of_ble_eq_true rfl) (Nat.le_of_ble_eq_true rfl) hW ⟨(by simp only [inb, eq_false c_1, eq_true c_9, eq_self, Nat.add_zero, decide_false, decide_true, Bool.not_true, Bool.not_false, Bool.and_true, Bool.true_and, Bool.and_false, Bool.false_and, Bool.or_true, Bool.true_or, Bool.or_false, Bool.false_or, ↓reduceIte, cond_true, cond_false, bI, and_true, true_and, and_false, false_and, or_true, true_or, or_false, false_or, not_true_eq_false, not_false_eq_true, if_true, if_false, Bool.false_eq_true, reduceCtorEq, ite_true, ite_false]), rfl⟩
    · skip
      refine lv_iconst (v := nI 1) S.1 S.2.1 dX2_hasLine_12 (by decide) ?_
      refine lv_goto (tgt := 17) S.1 S.2.1 dX2_hasLine_13 (by decide) ?_
      exact hR _ _ _ _ _ _ _ _ dX2_hasLine_17 rfl (Nat.le_of_ble_eq_true rfl) (Nat.le_of_ble_eq_true rfl) hW ⟨(by simp only [inb, eq_false c_1, eq_false c_9, eq_self, Nat.add_zero, decide_false, decide_true, Bool.not_true, Bool.not_false, Bool.and_true, Bool.true_and, Bool.and_false, Bool.false_and, Bool.or_true, Bool.true_or, Bool.or_false, Bool.false_or, ↓reduceIte, cond_true, cond_false, bI, and_true, true_and, and_false, false_and, or_true, true_or, or_false, false_or, not_true_eq_false, not_false_eq_true, if_true, if_false, Bool.false_eq_true, reduceCtorEq, ite_true, ite_false]), rfl⟩
abbrev r_X2_clear : Room := { frames := 0, cells := 0, slots := 0, locals := 0 }
theorem v_X2_clear : yX2_clear.cls ≠ "java/lang/invoke/MethodHandle" ∧ yX2_clear.cls ≠ "java/lang/invoke/VarHandle" ∧ (parseMethodDescriptor yX2_clear.desc).map (fun d => d.parameters.length) = some 1 := by decide +kernel
set_option maxRecDepth 100000 in
set_option maxHeartbeats 4000000 in
theorem c_X2_clear {l : Launch} {D : va_G} {cI cZ cF : ClassId} {q : Nat → Nat} {qf : Nat → Nat} {g : Gr} {C R : Nat → Int32} {rw len : Nat} {F : Nat → Int32} {sz : Nat} {X : Nat → Int32} {mk : Int32} {n : Nat}  : cV_ l D cI cZ cF yX2_clear wsX2_clear r_X2_clear [.ref (q 1), .int (nI n)] (wC q qf cI cZ cF g C R rw len F sz X mk) (fun u => u = wC q qf cI cZ cF (sK (sN g n) 0) C R rw len F sz X mk) 0 0 := by
  refine cV_of (cc := cX2_clear) (maxL := 2) (plainFor_of_name (by decide +kernel)) rfl (Nat.le_of_ble_eq_true rfl) ?_
  intro p e s m args below meth c A Q ls S hnm hk hW hl hR
  have hl : lv_has ls 2 [(0, .ref (q 1)), (1, .int (nI n))] := hl
  have hwsX20 : ∀ x ∈ wsX20, x ∈ wsX2_clear := fun x h => List.mem_cons_of_mem _ (List.mem_append_right _ h)
  refine lv_aload_n S.1 S.2.1 dX2_clear_0 rfl (lv_at hl 0 rfl) ?_
  refine lv_iload_n S.1 S.2.1 dX2_clear_1 rfl (lv_at hl 1 rfl) ?_
  refine pf (ty := .int) (w' := wC q qf cI cZ cF (sN g n) C R rw len F sz X mk) S hk hW 1 rfl rfl hwsX20 tyX2 tyX2_ok nmX2 5 (by decide) 1 rfl rfl (by decide +kernel) rfl rfl (Nat.le_of_ble_eq_true rfl) dX2_clear_2 rfl (fun H locs hW => ?_)
  refine lv_aload_n S.1 S.2.1 dX2_clear_5 rfl (lv_at hl 0 rfl) ?_
  refine lv_iconst (v := nI 0) S.1 S.2.1 dX2_clear_6 (by decide) ?_
  refine pf (ty := .int) (w' := wC q qf cI cZ cF (sK (sN g n) 0) C R rw len F sz X mk) S hk hW 1 rfl rfl hwsX20 tyX2 tyX2_ok nmX2 6 (by decide) 2 rfl rfl (by decide +kernel) rfl rfl (Nat.le_of_ble_eq_true rfl) dX2_clear_7 rfl (fun H locs hW => ?_)
  exact hR _ _ _ _ _ _ _ dX2_clear_10 (Nat.le_of_ble_eq_true rfl) (Nat.le_of_ble_eq_true rfl) hW rfl
abbrev r_X2_add : Room := { frames := 0, cells := 0, slots := 0, locals := 0 }
theorem v_X2_add : yX2_add.cls ≠ "java/lang/invoke/MethodHandle" ∧ yX2_add.cls ≠ "java/lang/invoke/VarHandle" ∧ (parseMethodDescriptor yX2_add.desc).map (fun d => d.parameters.length) = some 4 := by decide +kernel
set_option maxRecDepth 100000 in
set_option maxHeartbeats 4000000 in
theorem c_X2_add {l : Launch} {D : va_G} {cI cZ cF : ClassId} {q : Nat → Nat} {qf : Nat → Nat} {g : Gr} {C R : Nat → Int32} {rw len : Nat} {F : Nat → Int32} {sz : Nat} {X : Nat → Int32} {mk : Int32} {a b : Nat} {v : Int32} {t : Bool} (hk40 : gK g < 40) : cI_ l D cI cZ cF yX2_add wsX2_add r_X2_add [.ref (q 1), .int (nI a), .int (nI b), .int v, .int (bI t)] (wC q qf cI cZ cF g C R rw len F sz X mk) (fun r u => r = nI (gK g) ∧ u = wC q qf cI cZ cF (addG g a b v t) C R rw len F sz X mk) 0 0 := by
  refine cI_of (cc := cX2_add) (maxL := 6) (rt := .int) (plainFor_of_name (by decide +kernel)) rfl (Nat.le_of_ble_eq_true rfl) ?_
  intro p e s m args below meth c A Q ls S hk hW hl hR
  have hl : lv_has ls 6 [(0, .ref (q 1)), (1, .int (nI a)), (2, .int (nI b)), (3, .int v), (4, .int (bI t))] := hl
  have hwsX20 : ∀ x ∈ wsX20, x ∈ wsX2_add := fun x h => List.mem_cons_of_mem _ (List.mem_append_right _ h)
  refine lv_aload_n S.1 S.2.1 dX2_add_0 rfl (lv_at hl 0 rfl) ?_
  refine gf S hk hW 1 rfl rfl hwsX20 6 (by decide) 1 rfl rfl dX2_add_1 ?_
  refine lv_istore (lv' := [(5, .int (nI (gK g))), (0, .ref (q 1)), (1, .int (nI a)), (2, .int (nI b)), (3, .int v), (4, .int (bI t))]) S.1 S.2.1 dX2_add_4 hl (by decide) rfl (fun ls hl => ?_)
  refine lv_iload S.1 S.2.1 dX2_add_6 (lv_at hl 0 rfl) ?_
  refine lv_bipush (v := nI 40) S.1 S.2.1 dX2_add_8 (by decide) ?_
  refine iclt_n (tgt := 17) S (by omega) (by omega) dX2_add_10 (by decide) (fun c_10 => ?_) (fun c_10 => ?_)
  · skip
    refine lv_aload_n S.1 S.2.1 dX2_add_17 rfl (lv_at hl 1 rfl) ?_
    refine gf S hk hW 1 rfl rfl hwsX20 0 (by decide) 2 rfl rfl dX2_add_18 ?_
    refine lv_iload S.1 S.2.1 dX2_add_21 (lv_at hl 0 rfl) ?_
    refine lv_iload_n S.1 S.2.1 dX2_add_23 rfl (lv_at hl 2 rfl) ?_
    refine ist (w' := wC q qf cI cZ cF (sB g (upd (gB g) (gK g) (nI a))) C R rw len F sz X mk) S hk hW 5 rfl (gK g) rfl (by omega) (by omega) dX2_add_24 rfl (fun H locs hW => ?_)
    refine lv_aload_n S.1 S.2.1 dX2_add_25 rfl (lv_at hl 1 rfl) ?_
    refine gf S hk hW 1 rfl rfl hwsX20 1 (by decide) 3 rfl rfl dX2_add_26 ?_
    refine lv_iload S.1 S.2.1 dX2_add_29 (lv_at hl 0 rfl) ?_
    refine lv_iload_n S.1 S.2.1 dX2_add_31 rfl (lv_at hl 3 rfl) ?_
    refine ist (w' := wC q qf cI cZ cF (sE (sB g (upd (gB g) (gK g) (nI a))) (upd (gE g) (gK g) (nI b))) C R rw len F sz X mk) S hk hW 6 rfl (gK g) rfl (by omega) (by omega) dX2_add_32 rfl (fun H locs hW => ?_)
    refine lv_aload_n S.1 S.2.1 dX2_add_33 rfl (lv_at hl 1 rfl) ?_
    refine gf S hk hW 1 rfl rfl hwsX20 2 (by decide) 4 rfl rfl dX2_add_34 ?_
    refine lv_iload S.1 S.2.1 dX2_add_37 (lv_at hl 0 rfl) ?_
    refine lv_iload_n S.1 S.2.1 dX2_add_39 rfl (lv_at hl 4 rfl) ?_
    refine ist (w' := wC q qf cI cZ cF (sP (sE (sB g (upd (gB g) (gK g) (nI a))) (upd (gE g) (gK g) (nI b))) (upd (gP g) (gK g) v)) C R rw len F sz X mk) S hk hW 7 rfl (gK g) rfl (by omega) (by omega) dX2_add_40 rfl (fun H locs hW => ?_)
    refine lv_aload_n S.1 S.2.1 dX2_add_41 rfl (lv_at hl 1 rfl) ?_
    refine gf S hk hW 1 rfl rfl hwsX20 3 (by decide) 5 rfl rfl dX2_add_42 ?_
    refine lv_iload S.1 S.2.1 dX2_add_45 (lv_at hl 0 rfl) ?_
    refine lv_iload S.1 S.2.1 dX2_add_47 (lv_at hl 5 rfl) ?_
    refine zst (w' := wC q qf cI cZ cF (sW (sP (sE (sB g (upd (gB g) (gK g) (nI a))) (upd (gE g) (gK g) (nI b))) (upd (gP g) (gK g) v)) (upd (gW g) (gK g) (bI t))) C R rw len F sz X mk) S hk hW 8 rfl (gK g) rfl (by omega) (by omega) (bI_01 _) dX2_add_49 rfl (fun H locs hW => ?_)
    refine lv_aload_n S.1 S.2.1 dX2_add_50 rfl (lv_at hl 1 rfl) ?_
    refine gf S hk hW 1 rfl rfl hwsX20 4 (by decide) 6 rfl rfl dX2_add_51 ?_
    refine lv_iload S.1 S.2.1 dX2_add_54 (lv_at hl 0 rfl) ?_
    refine lv_iconst (v := nI 1) S.1 S.2.1 dX2_add_56 (by decide) ?_
    refine zst (w' := wC q qf cI cZ cF (sT (sW (sP (sE (sB g (upd (gB g) (gK g) (nI a))) (upd (gE g) (gK g) (nI b))) (upd (gP g) (gK g) v)) (upd (gW g) (gK g) (bI t))) (upd (gT g) (gK g) (nI 1))) C R rw len F sz X mk) S hk hW 9 rfl (gK g) rfl (by omega) (by omega) (Or.inr rfl) dX2_add_57 rfl (fun H locs hW => ?_)
    refine lv_aload_n S.1 S.2.1 dX2_add_58 rfl (lv_at hl 1 rfl) ?_
    refine lv_dup S.1 S.2.1 dX2_add_59 rfl ?_
    refine gf S hk hW 1 rfl rfl hwsX20 6 (by decide) 1 rfl rfl dX2_add_60 ?_
    refine lv_iconst (v := nI 1) S.1 S.2.1 dX2_add_63 (by decide) ?_
    refine lv_iadd S.1 S.2.1 dX2_add_64 (top_eq (nI_add _ _) ?_)
    refine pf (ty := .int) (w' := wC q qf cI cZ cF (sT (sW (sP (sE (sB (sK g ((gK g) + 1)) (upd (gB g) (gK g) (nI a))) (upd (gE g) (gK g) (nI b))) (upd (gP g) (gK g) v)) (upd (gW g) (gK g) (bI t))) (upd (gT g) (gK g) (nI 1))) C R rw len F sz X mk) S hk hW 1 rfl rfl hwsX20 tyX2 tyX2_ok nmX2 6 (by decide) 1 rfl rfl (by decide +kernel) rfl rfl (Nat.le_of_ble_eq_true rfl) dX2_add_65 rfl (fun H locs hW => ?_)
    refine lv_iload S.1 S.2.1 dX2_add_68 (lv_at hl 0 rfl) ?_
    exact hR _ _ _ _ _ _ _ _ dX2_add_70 rfl (Nat.le_of_ble_eq_true rfl) (Nat.le_of_ble_eq_true rfl) hW ⟨rfl, rfl⟩
  · skip
    omega
abbrev r_X2_countThere : Room := { frames := 0, cells := 0, slots := 0, locals := 0 }
theorem v_X2_countThere : yX2_countThere.cls ≠ "java/lang/invoke/MethodHandle" ∧ yX2_countThere.cls ≠ "java/lang/invoke/VarHandle" ∧ (parseMethodDescriptor yX2_countThere.desc).map (fun d => d.parameters.length) = some 0 := by decide +kernel
set_option maxRecDepth 100000 in
set_option maxHeartbeats 4000000 in
theorem c_X2_countThere {l : Launch} {D : va_G} {cI cZ cF : ClassId} {q : Nat → Nat} {qf : Nat → Nat} {g : Gr} {C R : Nat → Int32} {rw len : Nat} {F : Nat → Int32} {sz : Nat} {X : Nat → Int32} {mk : Int32}  (G : Gok g) : cI_ l D cI cZ cF yX2_countThere wsX2_countThere r_X2_countThere [.ref (q 1)] (wC q qf cI cZ cF g C R rw len F sz X mk) (fun r u => r = nI (cntT g (gK g)) ∧ u = wC q qf cI cZ cF g C R rw len F sz X mk) 0 0 := by
  refine cI_of (cc := cX2_countThere) (maxL := 3) (rt := .int) (plainFor_of_name (by decide +kernel)) rfl (Nat.le_of_ble_eq_true rfl) ?_
  intro p e s m args below meth c A Q ls S hk hW hl hR
  have hl : lv_has ls 3 [(0, .ref (q 1))] := hl
  have hwsX20 : ∀ x ∈ wsX20, x ∈ wsX2_countThere := fun x h => List.mem_cons_of_mem _ (List.mem_append_right _ h)
  have hN := Gok_N G; have hN2 := Gok_N2 G; have hKK := Gok_K G
  refine lv_iconst (v := nI 0) S.1 S.2.1 dX2_countThere_0 (by decide) ?_
  refine lv_istore_n (lv' := [(1, .int (nI 0)), (0, .ref (q 1))]) S.1 S.2.1 dX2_countThere_1 rfl hl (by decide) rfl (fun ls hl => ?_)
  refine lv_iconst (v := nI 0) S.1 S.2.1 dX2_countThere_2 (by decide) ?_
  refine lv_istore_n (lv' := [(2, .int (nI 0)), (1, .int (nI 0)), (0, .ref (q 1))]) S.1 S.2.1 dX2_countThere_3 rfl hl (by decide) rfl (fun ls hl => ?_)
  have L4 : ∀ (dd : Nat), ∀ (n : Nat), ∀ (i : Nat), (n = cntT g i) → (i ≤ gK g) → gK g < i + dd → ∀ (H : Heap) (locs : List Loc) (ls : Array Slot), wd D A s H locs (wC q qf cI cZ cF g C R rw len F sz X mk) → lv_has ls 3 [(0, .ref (q 1)), (1, .int (nI n)), (2, .int (nI i))] → W p l e r_X2_countThere s m args below meth c H locs 0 0 Q (F0 m 4 ls []) := by
    intro dd
    induction dd with
    | zero => intros; omega
    | succ dd ih4 =>
      intro n i hn hi hdd H locs ls hW hl
      refine lv_iload_n S.1 S.2.1 dX2_countThere_4 rfl (lv_at hl 2 rfl) ?_
      refine lv_aload_n S.1 S.2.1 dX2_countThere_5 rfl (lv_at hl 0 rfl) ?_
      refine gf S hk hW 1 rfl rfl hwsX20 6 (by decide) 1 rfl rfl dX2_countThere_6 ?_
      refine icge_n (tgt := 30) S (by omega) (by omega) dX2_countThere_9 (by decide) (fun c_9 => ?_) (fun c_9 => ?_)
      · skip
        refine lv_iload_n S.1 S.2.1 dX2_countThere_30 rfl (lv_at hl 1 rfl) ?_
        exact hR _ _ _ _ _ _ _ _ dX2_countThere_31 rfl (Nat.le_of_ble_eq_true rfl) (Nat.le_of_ble_eq_true rfl) hW ⟨by rw [hn, show i = gK g by omega], rfl⟩
      · skip
        refine lv_aload_n S.1 S.2.1 dX2_countThere_12 rfl (lv_at hl 0 rfl) ?_
        refine gf S hk hW 1 rfl rfl hwsX20 4 (by decide) 2 rfl rfl dX2_countThere_13 ?_
        refine lv_iload_n S.1 S.2.1 dX2_countThere_16 rfl (lv_at hl 2 rfl) ?_
        refine zld S hk hW 9 rfl i rfl (by omega) (by omega) dX2_countThere_17 ?_
        refine top_eq (Gok_T G (j := i) (by omega)) ?_
        refine ifeq_b (tgt := 24) S dX2_countThere_18 (by decide) (fun c_18 => ?_) (fun c_18 => ?_)
        · skip
          refine lv_iinc (v := nI (i + 1)) (lv' := [(2, .int (nI (i + 1))), (0, .ref (q 1)), (1, .int (nI n))]) (k := 2) S.1 S.2.1 dX2_countThere_24 hl rfl (nI_1 _) (by decide) rfl (fun ls hl => ?_)
          refine lv_goto (tgt := 4) S.1 S.2.1 dX2_countThere_27 (by decide) ?_
          exact ih4 n (i + 1) (by simp [cntT, c_18, hn]) (by omega) (by omega) _ _ _ hW (lv_sub hl [1, 2, 0] rfl)
        · skip
          refine lv_iinc (v := nI (n + 1)) (lv' := [(1, .int (nI (n + 1))), (0, .ref (q 1)), (2, .int (nI i))]) (k := 1) S.1 S.2.1 dX2_countThere_21 hl rfl (nI_1 _) (by decide) rfl (fun ls hl => ?_)
          refine lv_iinc (v := nI (i + 1)) (lv' := [(2, .int (nI (i + 1))), (1, .int (nI (n + 1))), (0, .ref (q 1))]) (k := 2) S.1 S.2.1 dX2_countThere_24 hl rfl (nI_1 _) (by decide) rfl (fun ls hl => ?_)
          refine lv_goto (tgt := 4) S.1 S.2.1 dX2_countThere_27 (by decide) ?_
          exact ih4 (n + 1) (i + 1) (by simp [cntT, c_18, hn]) (by omega) (by omega) _ _ _ hW (lv_sub hl [2, 1, 0] rfl)
  exact L4 ((gK g) + 1) 0 0 rfl (by omega) (by omega) _ _ _ hW (lv_sub hl [2, 1, 0] rfl)
abbrev r_X2_target : Room := { frames := 1, cells := 0, slots := 0, locals := 21 }
theorem v_X2_target : yX2_target.cls ≠ "java/lang/invoke/MethodHandle" ∧ yX2_target.cls ≠ "java/lang/invoke/VarHandle" ∧ (parseMethodDescriptor yX2_target.desc).map (fun d => d.parameters.length) = some 2 := by decide +kernel
set_option maxRecDepth 100000 in
set_option maxHeartbeats 4000000 in
theorem c_X2_target {l : Launch} {D : va_G} {cI cZ cF : ClassId} {q : Nat → Nat} {qf : Nat → Nat} {g : Gr} {C R : Nat → Int32} {rw len : Nat} {F : Nat → Int32} {sz : Nat} {X : Nat → Int32} {mk : Int32} {x y : Int32} (G : Gok g) : cI_ l D cI cZ cF yX2_target wsX2_target r_X2_target [.ref (q 1), .int x, .int y] (wC q qf cI cZ cF g C R rw len F sz X mk) (fun r u => r = tgt g x y ∧ u = wC q qf cI cZ cF g C R rw len F sz X mk) 0 0 := by
  refine cI_of (cc := cX2_target) (maxL := 3) (rt := .int) (plainFor_of_name (by decide +kernel)) rfl (Nat.le_of_ble_eq_true rfl) ?_
  intro p e s m args below meth c A Q ls S hk hW hl hR
  have hl : lv_has ls 3 [(0, .ref (q 1)), (1, .int x), (2, .int y)] := hl
  have hwsX20 : ∀ x ∈ wsX20, x ∈ wsX2_target := fun x h => List.mem_cons_of_mem _ (List.mem_append_right _ h)
  have hN := Gok_N G; have hN2 := Gok_N2 G; have hKK := Gok_K G
  refine lv_aload_n S.1 S.2.1 dX2_target_0 rfl (lv_at hl 0 rfl) ?_
  refine lv_iload_n S.1 S.2.1 dX2_target_1 rfl (lv_at hl 1 rfl) ?_
  refine kVi S (c_X2_hasLine (l := l) (D := D) (cI := cI) (cZ := cZ) (cF := cF)) (cwV 1 S.2.2.2.2 gX2_target_X2_hasLine rfl rfl rfl ⟨rfl, v_X2_hasLine⟩ ⟨(Nat.le_of_ble_eq_true rfl), (Nat.le_of_ble_eq_true rfl)⟩) hk hW 1 rfl rfl rfl rfl hl rfl (Nat.le_of_ble_eq_true rfl) dX2_target_2 ⟨(Nat.le_of_ble_eq_true rfl), (Nat.le_of_ble_eq_true rfl)⟩ (fun r u H locs hp hW => ?_)
  obtain ⟨rfl, rfl⟩ := hp
  refine ifeq_b (tgt := 17) S dX2_target_5 (by decide) (fun c_5 => ?_) (fun c_5 => ?_)
  · skip
    refine lv_iconst (v := (-1)) S.1 S.2.1 dX2_target_17 (by decide) ?_
    exact hR _ _ _ _ _ _ _ _ dX2_target_18 rfl (Nat.le_of_ble_eq_true rfl) (Nat.le_of_ble_eq_true rfl) hW ⟨(by simp only [tgt, tgN, c_5, eq_self, Nat.add_zero, decide_false, decide_true, Bool.not_true, Bool.not_false, Bool.and_true, Bool.true_and, Bool.and_false, Bool.false_and, Bool.or_true, Bool.true_or, Bool.or_false, Bool.false_or, ↓reduceIte, cond_true, cond_false, bI, and_true, true_and, and_false, false_and, or_true, true_or, or_false, false_or, not_true_eq_false, not_false_eq_true, if_true, if_false, Bool.false_eq_true, reduceCtorEq, ite_true, ite_false]), rfl⟩
  · skip
    obtain ⟨j, hj, rfl⟩ := inb_nat c_5 (by omega)
    have hcl : (nI j).toNatClampNeg = j := nI_clamp (by omega)
    refine lv_aload_n S.1 S.2.1 dX2_target_8 rfl (lv_at hl 0 rfl) ?_
    refine gf S hk hW 1 rfl rfl hwsX20 4 (by decide) 1 rfl rfl dX2_target_9 ?_
    refine lv_iload_n S.1 S.2.1 dX2_target_12 rfl (lv_at hl 1 rfl) ?_
    refine zld S hk hW 9 rfl j rfl (by omega) (by omega) dX2_target_13 ?_
    refine top_eq (Gok_T G (j := j) (by omega)) ?_
    refine ifne_b (tgt := 19) S dX2_target_14 (by decide) (fun c_14 => ?_) (fun c_14 => ?_)
    · skip
      refine lv_aload_n S.1 S.2.1 dX2_target_19 rfl (lv_at hl 0 rfl) ?_
      refine gf S hk hW 1 rfl rfl hwsX20 0 (by decide) 2 rfl rfl dX2_target_20 ?_
      refine lv_iload_n S.1 S.2.1 dX2_target_23 rfl (lv_at hl 1 rfl) ?_
      refine ild S hk hW 5 rfl j rfl (by omega) (by omega) dX2_target_24 ?_
      refine top_eq (Gok_B G (j := j) (by omega)) ?_
      have hb24 := Gok_B2 G (j := j) (by omega)
      refine lv_iload_n S.1 S.2.1 dX2_target_25 rfl (lv_at hl 2 rfl) ?_
      refine lv_icmp_ne (tgt := 36) S.1 S.2.1 dX2_target_26 (by decide) (fun c_26 => ?_) (fun c_26 => ?_)
      · skip
        refine lv_aload_n S.1 S.2.1 dX2_target_36 rfl (lv_at hl 0 rfl) ?_
        refine gf S hk hW 1 rfl rfl hwsX20 3 (by decide) 4 rfl rfl dX2_target_37 ?_
        refine lv_iload_n S.1 S.2.1 dX2_target_40 rfl (lv_at hl 1 rfl) ?_
        refine zld S hk hW 8 rfl j rfl (by omega) (by omega) dX2_target_41 ?_
        refine top_eq (Gok_W G (j := j) (by omega)) ?_
        refine ifeq_b (tgt := 64) S dX2_target_42 (by decide) (fun c_42 => ?_) (fun c_42 => ?_)
        · skip
          refine lv_iconst (v := (-1)) S.1 S.2.1 dX2_target_64 (by decide) ?_
          exact hR _ _ _ _ _ _ _ _ dX2_target_65 rfl (Nat.le_of_ble_eq_true rfl) (Nat.le_of_ble_eq_true rfl) hW ⟨(by simp only [tgt, tgN, hcl, c_5, c_14, eq_false c_26, c_42, eq_self, Nat.add_zero, decide_false, decide_true, Bool.not_true, Bool.not_false, Bool.and_true, Bool.true_and, Bool.and_false, Bool.false_and, Bool.or_true, Bool.true_or, Bool.or_false, Bool.false_or, ↓reduceIte, cond_true, cond_false, bI, and_true, true_and, and_false, false_and, or_true, true_or, or_false, false_or, not_true_eq_false, not_false_eq_true, if_true, if_false, Bool.false_eq_true, reduceCtorEq, ite_true, ite_false]), rfl⟩
        · skip
          refine lv_aload_n S.1 S.2.1 dX2_target_45 rfl (lv_at hl 0 rfl) ?_
          refine gf S hk hW 1 rfl rfl hwsX20 1 (by decide) 3 rfl rfl dX2_target_46 ?_
          refine lv_iload_n S.1 S.2.1 dX2_target_49 rfl (lv_at hl 1 rfl) ?_
          refine ild S hk hW 6 rfl j rfl (by omega) (by omega) dX2_target_50 ?_
          refine top_eq (Gok_E G (j := j) (by omega)) ?_
          have hb50 := Gok_E2 G (j := j) (by omega)
          refine lv_iload_n S.1 S.2.1 dX2_target_51 rfl (lv_at hl 2 rfl) ?_
          refine lv_icmp_ne (tgt := 64) S.1 S.2.1 dX2_target_52 (by decide) (fun c_52 => ?_) (fun c_52 => ?_)
          · skip
            refine lv_iconst (v := (-1)) S.1 S.2.1 dX2_target_64 (by decide) ?_
            exact hR _ _ _ _ _ _ _ _ dX2_target_65 rfl (Nat.le_of_ble_eq_true rfl) (Nat.le_of_ble_eq_true rfl) hW ⟨(by simp only [tgt, tgN, hcl, c_5, c_14, eq_false c_26, c_42, eq_false c_52, eq_self, Nat.add_zero, decide_false, decide_true, Bool.not_true, Bool.not_false, Bool.and_true, Bool.true_and, Bool.and_false, Bool.false_and, Bool.or_true, Bool.true_or, Bool.or_false, Bool.false_or, ↓reduceIte, cond_true, cond_false, bI, and_true, true_and, and_false, false_and, or_true, true_or, or_false, false_or, not_true_eq_false, not_false_eq_true, if_true, if_false, Bool.false_eq_true, reduceCtorEq, ite_true, ite_false]), rfl⟩
          · skip
            refine lv_aload_n S.1 S.2.1 dX2_target_55 rfl (lv_at hl 0 rfl) ?_
            refine gf S hk hW 1 rfl rfl hwsX20 0 (by decide) 2 rfl rfl dX2_target_56 ?_
            refine lv_iload_n S.1 S.2.1 dX2_target_59 rfl (lv_at hl 1 rfl) ?_
            refine ild S hk hW 5 rfl j rfl (by omega) (by omega) dX2_target_60 ?_
            refine top_eq (Gok_B G (j := j) (by omega)) ?_
            have hb60 := Gok_B2 G (j := j) (by omega)
            refine lv_goto (tgt := 65) S.1 S.2.1 dX2_target_61 (by decide) ?_
            exact hR _ _ _ _ _ _ _ _ dX2_target_65 rfl (Nat.le_of_ble_eq_true rfl) (Nat.le_of_ble_eq_true rfl) hW ⟨(by simp only [tgt, tgN, hcl, c_5, c_14, eq_false c_26, c_42, eq_true c_52, eq_self, Nat.add_zero, decide_false, decide_true, Bool.not_true, Bool.not_false, Bool.and_true, Bool.true_and, Bool.and_false, Bool.false_and, Bool.or_true, Bool.true_or, Bool.or_false, Bool.false_or, ↓reduceIte, cond_true, cond_false, bI, and_true, true_and, and_false, false_and, or_true, true_or, or_false, false_or, not_true_eq_false, not_false_eq_true, if_true, if_false, Bool.false_eq_true, reduceCtorEq, ite_true, ite_false]), rfl⟩
      · skip
        refine lv_aload_n S.1 S.2.1 dX2_target_29 rfl (lv_at hl 0 rfl) ?_
        refine gf S hk hW 1 rfl rfl hwsX20 1 (by decide) 3 rfl rfl dX2_target_30 ?_
        refine lv_iload_n S.1 S.2.1 dX2_target_33 rfl (lv_at hl 1 rfl) ?_
        refine ild S hk hW 6 rfl j rfl (by omega) (by omega) dX2_target_34 ?_
        refine top_eq (Gok_E G (j := j) (by omega)) ?_
        have hb34 := Gok_E2 G (j := j) (by omega)
        exact hR _ _ _ _ _ _ _ _ dX2_target_35 rfl (Nat.le_of_ble_eq_true rfl) (Nat.le_of_ble_eq_true rfl) hW ⟨(by simp only [tgt, tgN, hcl, c_5, c_14, eq_true c_26, eq_self, Nat.add_zero, decide_false, decide_true, Bool.not_true, Bool.not_false, Bool.and_true, Bool.true_and, Bool.and_false, Bool.false_and, Bool.or_true, Bool.true_or, Bool.or_false, Bool.false_or, ↓reduceIte, cond_true, cond_false, bI, and_true, true_and, and_false, false_and, or_true, true_or, or_false, false_or, not_true_eq_false, not_false_eq_true, if_true, if_false, Bool.false_eq_true, reduceCtorEq, ite_true, ite_false]), rfl⟩
    · skip
      refine lv_iconst (v := (-1)) S.1 S.2.1 dX2_target_17 (by decide) ?_
      exact hR _ _ _ _ _ _ _ _ dX2_target_18 rfl (Nat.le_of_ble_eq_true rfl) (Nat.le_of_ble_eq_true rfl) hW ⟨(by simp only [tgt, tgN, hcl, c_5, c_14, eq_self, Nat.add_zero, decide_false, decide_true, Bool.not_true, Bool.not_false, Bool.and_true, Bool.true_and, Bool.and_false, Bool.false_and, Bool.or_true, Bool.true_or, Bool.or_false, Bool.false_or, ↓reduceIte, cond_true, cond_false, bI, and_true, true_and, and_false, false_and, or_true, true_or, or_false, false_or, not_true_eq_false, not_false_eq_true, if_true, if_false, Bool.false_eq_true, reduceCtorEq, ite_true, ite_false]), rfl⟩
abbrev r_X2_touches : Room := { frames := 0, cells := 0, slots := 0, locals := 0 }
theorem v_X2_touches : yX2_touches.cls ≠ "java/lang/invoke/MethodHandle" ∧ yX2_touches.cls ≠ "java/lang/invoke/VarHandle" ∧ (parseMethodDescriptor yX2_touches.desc).map (fun d => d.parameters.length) = some 2 := by decide +kernel
set_option maxRecDepth 100000 in
set_option maxHeartbeats 4000000 in
theorem c_X2_touches {l : Launch} {D : va_G} {cI cZ cF : ClassId} {q : Nat → Nat} {qf : Nat → Nat} {g : Gr} {C R : Nat → Int32} {rw len : Nat} {F : Nat → Int32} {sz : Nat} {X : Nat → Int32} {mk : Int32} {j : Nat} {y : Int32} (G : Gok g) (hj : j < gK g) : cI_ l D cI cZ cF yX2_touches wsX2_touches r_X2_touches [.ref (q 1), .int (nI j), .int y] (wC q qf cI cZ cF g C R rw len F sz X mk) (fun r u => r = bI (tch g j y) ∧ u = wC q qf cI cZ cF g C R rw len F sz X mk) 0 0 := by
  refine cI_of (cc := cX2_touches) (maxL := 3) (rt := .boolean) (plainFor_of_name (by decide +kernel)) rfl (Nat.le_of_ble_eq_true rfl) ?_
  intro p e s m args below meth c A Q ls S hk hW hl hR
  have hl : lv_has ls 3 [(0, .ref (q 1)), (1, .int (nI j)), (2, .int y)] := hl
  have hwsX20 : ∀ x ∈ wsX20, x ∈ wsX2_touches := fun x h => List.mem_cons_of_mem _ (List.mem_append_right _ h)
  have hN := Gok_N G; have hN2 := Gok_N2 G; have hKK := Gok_K G
  refine lv_aload_n S.1 S.2.1 dX2_touches_0 rfl (lv_at hl 0 rfl) ?_
  refine gf S hk hW 1 rfl rfl hwsX20 0 (by decide) 1 rfl rfl dX2_touches_1 ?_
  refine lv_iload_n S.1 S.2.1 dX2_touches_4 rfl (lv_at hl 1 rfl) ?_
  refine ild S hk hW 5 rfl j rfl (by omega) (by omega) dX2_touches_5 ?_
  refine top_eq (Gok_B G (j := j) (by omega)) ?_
  have hb5 := Gok_B2 G (j := j) (by omega)
  refine lv_iload_n S.1 S.2.1 dX2_touches_6 rfl (lv_at hl 2 rfl) ?_
  refine lv_icmp_eq (tgt := 20) S.1 S.2.1 dX2_touches_7 (by decide) (fun c_7 => ?_) (fun c_7 => ?_)
  · skip
    refine lv_iconst (v := nI 1) S.1 S.2.1 dX2_touches_20 (by decide) ?_
    refine lv_goto (tgt := 25) S.1 S.2.1 dX2_touches_21 (by decide) ?_
    exact hR _ _ _ _ _ _ _ _ dX2_touches_25 rfl (Nat.le_of_ble_eq_true rfl) (Nat.le_of_ble_eq_true rfl) hW ⟨(by simp only [tch, eq_true c_7, eq_self, Nat.add_zero, decide_false, decide_true, Bool.not_true, Bool.not_false, Bool.and_true, Bool.true_and, Bool.and_false, Bool.false_and, Bool.or_true, Bool.true_or, Bool.or_false, Bool.false_or, ↓reduceIte, cond_true, cond_false, bI, and_true, true_and, and_false, false_and, or_true, true_or, or_false, false_or, not_true_eq_false, not_false_eq_true, if_true, if_false, Bool.false_eq_true, reduceCtorEq, ite_true, ite_false]), rfl⟩
  · skip
    refine lv_aload_n S.1 S.2.1 dX2_touches_10 rfl (lv_at hl 0 rfl) ?_
    refine gf S hk hW 1 rfl rfl hwsX20 1 (by decide) 2 rfl rfl dX2_touches_11 ?_
    refine lv_iload_n S.1 S.2.1 dX2_touches_14 rfl (lv_at hl 1 rfl) ?_
    refine ild S hk hW 6 rfl j rfl (by omega) (by omega) dX2_touches_15 ?_
    refine top_eq (Gok_E G (j := j) (by omega)) ?_
    have hb15 := Gok_E2 G (j := j) (by omega)
    refine lv_iload_n S.1 S.2.1 dX2_touches_16 rfl (lv_at hl 2 rfl) ?_
    refine lv_icmp_ne (tgt := 24) S.1 S.2.1 dX2_touches_17 (by decide) (fun c_17 => ?_) (fun c_17 => ?_)
    · skip
      refine lv_iconst (v := nI 0) S.1 S.2.1 dX2_touches_24 (by decide) ?_
      exact hR _ _ _ _ _ _ _ _ dX2_touches_25 rfl (Nat.le_of_ble_eq_true rfl) (Nat.le_of_ble_eq_true rfl) hW ⟨(by simp only [tch, eq_false c_7, eq_false c_17, eq_self, Nat.add_zero, decide_false, decide_true, Bool.not_true, Bool.not_false, Bool.and_true, Bool.true_and, Bool.and_false, Bool.false_and, Bool.or_true, Bool.true_or, Bool.or_false, Bool.false_or, ↓reduceIte, cond_true, cond_false, bI, and_true, true_and, and_false, false_and, or_true, true_or, or_false, false_or, not_true_eq_false, not_false_eq_true, if_true, if_false, Bool.false_eq_true, reduceCtorEq, ite_true, ite_false]), rfl⟩
    · skip
      refine lv_iconst (v := nI 1) S.1 S.2.1 dX2_touches_20 (by decide) ?_
      refine lv_goto (tgt := 25) S.1 S.2.1 dX2_touches_21 (by decide) ?_
      exact hR _ _ _ _ _ _ _ _ dX2_touches_25 rfl (Nat.le_of_ble_eq_true rfl) (Nat.le_of_ble_eq_true rfl) hW ⟨(by simp only [tch, eq_false c_7, eq_true c_17, eq_self, Nat.add_zero, decide_false, decide_true, Bool.not_true, Bool.not_false, Bool.and_true, Bool.true_and, Bool.and_false, Bool.false_and, Bool.or_true, Bool.true_or, Bool.or_false, Bool.false_or, ↓reduceIte, cond_true, cond_false, bI, and_true, true_and, and_false, false_and, or_true, true_or, or_false, false_or, not_true_eq_false, not_false_eq_true, if_true, if_false, Bool.false_eq_true, reduceCtorEq, ite_true, ite_false]), rfl⟩
