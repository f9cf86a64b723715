abbrev va_E_row (cI : ClassId) (k : Nat) (f : Nat → Int32) : va_E := .inl (cI, k, .inl f)
abbrev r_X2_clear : Room := { frames := 0, cells := 0, slots := 0, locals := 0 }
theorem v_X2_clear : yX2_clear.cls ≠ "java/lang/invoke/MethodHandle" ∧ yX2_clear.cls ≠ "java/lang/invoke/VarHandle" ∧ (parseMethodDescriptor yX2_clear.desc).map (fun d => d.parameters.length) = some 0 := by decide +kernel
set_option maxRecDepth 100000 in
set_option maxHeartbeats 4000000 in
theorem c_X2_clear {l : Launch} {D : va_G} {cI cZ : ClassId} {q : Nat → Nat} {qf : Nat} {g : Gr} {C R : Nat → Int32} {rw len : Nat} {F : Nat → Int32} {sz : Nat} {X : Nat → Int32} {mk : Int32}   : cV_ l D cI cZ yX2_clear wsX2_clear r_X2_clear [.ref (q 3)] (wC q qf cI cZ g C R rw len F sz X mk) (fun u => u = wC q qf cI cZ g C R 0 len F sz X mk) 0 0 := by
  refine cV_of (cc := cX2_clear) (maxL := 1) (plainFor_of_name (by decide +kernel)) rfl (Nat.le_of_ble_eq_true rfl) ?_
  intro p e s m args below meth c A Q ls S hnm hk hW hl hR
  have hl : lv_has ls 1 [(0, .ref (q 3))] := hl
  have hwsX20 : ∀ x ∈ wsX20, x ∈ wsX2_clear := fun x h => List.mem_cons_of_mem _ (List.mem_append_right _ h)
  refine lv_aload_n S.1 S.2.1 dX2_clear_0 rfl (lv_at hl 0 rfl) ?_
  refine lv_iconst (v := nI 0) S.1 S.2.1 dX2_clear_1 (by decide) ?_
  refine pf (ty := .int) (w' := wC q qf cI cZ g C R 0 len F sz X mk) S hk hW 3 rfl rfl hwsX20 tyX2 tyX2_ok nmX2 1 (by decide) 1 rfl rfl (by decide +kernel) rfl rfl (Nat.le_of_ble_eq_true rfl) dX2_clear_2 rfl (fun H locs hW => ?_)
  exact hR _ _ _ _ _ _ _ dX2_clear_5 (Nat.le_of_ble_eq_true rfl) (Nat.le_of_ble_eq_true rfl) hW rfl
abbrev r_X2_countActs : Room := { frames := 0, cells := 0, slots := 0, locals := 0 }
theorem v_X2_countActs : yX2_countActs.cls ≠ "java/lang/invoke/MethodHandle" ∧ yX2_countActs.cls ≠ "java/lang/invoke/VarHandle" ∧ (parseMethodDescriptor yX2_countActs.desc).map (fun d => d.parameters.length) = some 0 := by decide +kernel
set_option maxRecDepth 100000 in
set_option maxHeartbeats 4000000 in
theorem c_X2_countActs {l : Launch} {D : va_G} {cI cZ : ClassId} {q : Nat → Nat} {qf : Nat} {g : Gr} {C R : Nat → Int32} {rw len : Nat} {F : Nat → Int32} {sz : Nat} {X : Nat → Int32} {mk : Int32}  (h1 : 1 ≤ rw) : cI_ l D cI cZ yX2_countActs wsX2_countActs r_X2_countActs [.ref (q 3)] (wC q qf cI cZ g C R rw len F sz X mk) (fun r u => r = nI (rw - 1) ∧ u = wC q qf cI cZ g C R rw len F sz X mk) 0 0 := by
  refine cI_of (cc := cX2_countActs) (maxL := 1) (rt := .int) (plainFor_of_name (by decide +kernel)) rfl (Nat.le_of_ble_eq_true rfl) ?_
  intro p e s m args below meth c A Q ls S hk hW hl hR
  have hl : lv_has ls 1 [(0, .ref (q 3))] := hl
  have hwsX20 : ∀ x ∈ wsX20, x ∈ wsX2_countActs := fun x h => List.mem_cons_of_mem _ (List.mem_append_right _ h)
  refine lv_aload_n S.1 S.2.1 dX2_countActs_0 rfl (lv_at hl 0 rfl) ?_
  refine gf S hk hW 3 rfl rfl hwsX20 1 (by decide) 1 rfl rfl dX2_countActs_1 ?_
  refine lv_iconst (v := nI 1) S.1 S.2.1 dX2_countActs_4 (by decide) ?_
  refine lv_isub S.1 S.2.1 dX2_countActs_5 (top_eq (pk_sub (by omega)) ?_)
  exact hR _ _ _ _ _ _ _ _ dX2_countActs_6 rfl (Nat.le_of_ble_eq_true rfl) (Nat.le_of_ble_eq_true rfl) hW ⟨rfl, rfl⟩
abbrev r_X2_isFull : Room := { frames := 0, cells := 0, slots := 0, locals := 0 }
theorem v_X2_isFull : yX2_isFull.cls ≠ "java/lang/invoke/MethodHandle" ∧ yX2_isFull.cls ≠ "java/lang/invoke/VarHandle" ∧ (parseMethodDescriptor yX2_isFull.desc).map (fun d => d.parameters.length) = some 0 := by decide +kernel
set_option maxRecDepth 100000 in
set_option maxHeartbeats 4000000 in
theorem c_X2_isFull {l : Launch} {D : va_G} {cI cZ : ClassId} {q : Nat → Nat} {qf : Nat} {g : Gr} {C R : Nat → Int32} {rw len : Nat} {F : Nat → Int32} {sz : Nat} {X : Nat → Int32} {mk : Int32}  (hr : rw ≤ 401) : cI_ l D cI cZ yX2_isFull wsX2_isFull r_X2_isFull [.ref (q 3)] (wC q qf cI cZ g C R rw len F sz X mk) (fun r u => r = bI (!decide (rw < 401)) ∧ u = wC q qf cI cZ g C R rw len F sz X mk) 0 0 := by
  refine cI_of (cc := cX2_isFull) (maxL := 1) (rt := .boolean) (plainFor_of_name (by decide +kernel)) rfl (Nat.le_of_ble_eq_true rfl) ?_
  intro p e s m args below meth c A Q ls S hk hW hl hR
  have hl : lv_has ls 1 [(0, .ref (q 3))] := hl
  have hwsX20 : ∀ x ∈ wsX20, x ∈ wsX2_isFull := fun x h => List.mem_cons_of_mem _ (List.mem_append_right _ h)
  refine lv_aload_n S.1 S.2.1 dX2_isFull_0 rfl (lv_at hl 0 rfl) ?_
  refine gf S hk hW 3 rfl rfl hwsX20 1 (by decide) 1 rfl rfl dX2_isFull_1 ?_
  refine lv_sipush (v := nI 401) S.1 S.2.1 dX2_isFull_4 (by decide) ?_
  refine iclt_n (tgt := 14) S (by omega) (by omega) dX2_isFull_7 (by decide) (fun c_7 => ?_) (fun c_7 => ?_)
  · skip
    refine lv_iconst (v := nI 0) S.1 S.2.1 dX2_isFull_14 (by decide) ?_
    exact hR _ _ _ _ _ _ _ _ dX2_isFull_15 rfl (Nat.le_of_ble_eq_true rfl) (Nat.le_of_ble_eq_true rfl) hW ⟨(by simp only [eq_true c_7, eq_self, Nat.add_zero, decide_false, decide_true, Bool.not_true, Bool.not_false, Bool.and_true, Bool.true_and, Bool.and_false, Bool.false_and, Bool.or_true, Bool.true_or, Bool.or_false, Bool.false_or, ↓reduceIte, cond_true, cond_false, bI, and_true, true_and, and_false, false_and, or_true, true_or, or_false, false_or, not_true_eq_false, not_false_eq_true, if_true, if_false, Bool.false_eq_true, reduceCtorEq, ite_true, ite_false]), rfl⟩
  · skip
    refine lv_iconst (v := nI 1) S.1 S.2.1 dX2_isFull_10 (by decide) ?_
    refine lv_goto (tgt := 15) S.1 S.2.1 dX2_isFull_11 (by decide) ?_
    exact hR _ _ _ _ _ _ _ _ dX2_isFull_15 rfl (Nat.le_of_ble_eq_true rfl) (Nat.le_of_ble_eq_true rfl) hW ⟨(by simp only [eq_false c_7, eq_self, Nat.add_zero, decide_false, decide_true, Bool.not_true, Bool.not_false, Bool.and_true, Bool.true_and, Bool.and_false, Bool.false_and, Bool.or_true, Bool.true_or, Bool.or_false, Bool.false_or, ↓reduceIte, cond_true, cond_false, bI, and_true, true_and, and_false, false_and, or_true, true_or, or_false, false_or, not_true_eq_false, not_false_eq_true, if_true, if_false, Bool.false_eq_true, reduceCtorEq, ite_true, ite_false]), rfl⟩
abbrev r_X2_hasAct : Room := { frames := 0, cells := 0, slots := 0, locals := 0 }
theorem v_X2_hasAct : yX2_hasAct.cls ≠ "java/lang/invoke/MethodHandle" ∧ yX2_hasAct.cls ≠ "java/lang/invoke/VarHandle" ∧ (parseMethodDescriptor yX2_hasAct.desc).map (fun d => d.parameters.length) = some 1 := by decide +kernel
set_option maxRecDepth 100000 in
set_option maxHeartbeats 4000000 in
theorem c_X2_hasAct {l : Launch} {D : va_G} {cI cZ : ClassId} {q : Nat → Nat} {qf : Nat} {g : Gr} {C R : Nat → Int32} {rw len : Nat} {F : Nat → Int32} {sz : Nat} {X : Nat → Int32} {mk : Int32} {x : Int32}  : cI_ l D cI cZ yX2_hasAct wsX2_hasAct r_X2_hasAct [.ref (q 3), .int x] (wC q qf cI cZ g C R rw len F sz X mk) (fun r u => r = bI (hasB x rw) ∧ u = wC q qf cI cZ g C R rw len F sz X mk) 0 0 := by
  refine cI_of (cc := cX2_hasAct) (maxL := 2) (rt := .boolean) (plainFor_of_name (by decide +kernel)) rfl (Nat.le_of_ble_eq_true rfl) ?_
  intro p e s m args below meth c A Q ls S hk hW hl hR
  have hl : lv_has ls 2 [(0, .ref (q 3)), (1, .int x)] := hl
  have hwsX20 : ∀ x ∈ wsX20, x ∈ wsX2_hasAct := fun x h => List.mem_cons_of_mem _ (List.mem_append_right _ h)
  refine lv_iload_n S.1 S.2.1 dX2_hasAct_0 rfl (lv_at hl 1 rfl) ?_
  refine lv_iconst (v := nI 1) S.1 S.2.1 dX2_hasAct_1 (by decide) ?_
  refine lv_icmp_lt (tgt := 17) S.1 S.2.1 dX2_hasAct_2 (by decide) (fun c_2 => ?_) (fun c_2 => ?_)
  · skip
    refine lv_iconst (v := nI 0) S.1 S.2.1 dX2_hasAct_17 (by decide) ?_
    exact hR _ _ _ _ _ _ _ _ dX2_hasAct_18 rfl (Nat.le_of_ble_eq_true rfl) (Nat.le_of_ble_eq_true rfl) hW ⟨(by simp only [hasB, eq_true c_2, eq_self, Nat.add_zero, decide_false, decide_true, Bool.not_true, Bool.not_false, Bool.and_true, Bool.true_and, Bool.and_false, Bool.false_and, Bool.or_true, Bool.true_or, Bool.or_false, Bool.false_or, ↓reduceIte, cond_true, cond_false, bI, and_true, true_and, and_false, false_and, or_true, true_or, or_false, false_or, not_true_eq_false, not_false_eq_true, if_true, if_false, Bool.false_eq_true, reduceCtorEq, ite_true, ite_false]), rfl⟩
  · skip
    refine lv_iload_n S.1 S.2.1 dX2_hasAct_5 rfl (lv_at hl 1 rfl) ?_
    refine lv_aload_n S.1 S.2.1 dX2_hasAct_6 rfl (lv_at hl 0 rfl) ?_
    refine gf S hk hW 3 rfl rfl hwsX20 1 (by decide) 1 rfl rfl dX2_hasAct_7 ?_
    refine lv_icmp_ge (tgt := 17) S.1 S.2.1 dX2_hasAct_10 (by decide) (fun c_10 => ?_) (fun c_10 => ?_)
    · skip
      refine lv_iconst (v := nI 0) S.1 S.2.1 dX2_hasAct_17 (by decide) ?_
      exact hR _ _ _ _ _ _ _ _ dX2_hasAct_18 rfl (Nat.le_of_ble_eq_true rfl) (Nat.le_of_ble_eq_true rfl) hW ⟨(by simp only [hasB, eq_false c_2, eq_true c_10, eq_self, Nat.add_zero, decide_false, decide_true, Bool.not_true, Bool.not_false, Bool.and_true, Bool.true_and, Bool.and_false, Bool.false_and, Bool.or_true, Bool.true_or, Bool.or_false, Bool.false_or, ↓reduceIte, cond_true, cond_false, bI, and_true, true_and, and_false, false_and, or_true, true_or, or_false, false_or, not_true_eq_false, not_false_eq_true, if_true, if_false, Bool.false_eq_true, reduceCtorEq, ite_true, ite_false]), rfl⟩
    · skip
      refine lv_iconst (v := nI 1) S.1 S.2.1 dX2_hasAct_13 (by decide) ?_
      refine lv_goto (tgt := 18) S.1 S.2.1 dX2_hasAct_14 (by decide) ?_
      exact hR _ _ _ _ _ _ _ _ dX2_hasAct_18 rfl (Nat.le_of_ble_eq_true rfl) (Nat.le_of_ble_eq_true rfl) hW ⟨(by simp only [hasB, eq_false c_2, eq_false c_10, eq_self, Nat.add_zero, decide_false, decide_true, Bool.not_true, Bool.not_false, Bool.and_true, Bool.true_and, Bool.and_false, Bool.false_and, Bool.or_true, Bool.true_or, Bool.or_false, Bool.false_or, ↓reduceIte, cond_true, cond_false, bI, and_true, true_and, and_false, false_and, or_true, true_or, or_false, false_or, not_true_eq_false, not_false_eq_true, if_true, if_false, Bool.false_eq_true, reduceCtorEq, ite_true, ite_false]), rfl⟩
abbrev r_X2_leastAsOf : Room := { frames := 0, cells := 0, slots := 0, locals := 0 }
theorem v_X2_leastAsOf : yX2_leastAsOf.cls ≠ "java/lang/invoke/MethodHandle" ∧ yX2_leastAsOf.cls ≠ "java/lang/invoke/VarHandle" ∧ (parseMethodDescriptor yX2_leastAsOf.desc).map (fun d => d.parameters.length) = some 2 := by decide +kernel
set_option maxRecDepth 100000 in
set_option maxHeartbeats 4000000 in
theorem c_X2_leastAsOf {l : Launch} {D : va_G} {cI cZ : ClassId} {q : Nat → Nat} {qf : Nat} {g : Gr} {C R : Nat → Int32} {rw len : Nat} {F : Nat → Int32} {sz : Nat} {X : Nat → Int32} {mk : Int32} {a b : Nat} (hab : a * 100 + b < len) (hlm : len ≤ 40100) : cI_ l D cI cZ yX2_leastAsOf wsX2_leastAsOf r_X2_leastAsOf [.ref (q 3), .int (nI a), .int (nI b)] (wC q qf cI cZ g C R rw len F sz X mk) (fun r u => r = F (a * 100 + b) ∧ u = wC q qf cI cZ g C R rw len F sz X mk) 0 0 := by
  refine cI_of (cc := cX2_leastAsOf) (maxL := 3) (rt := .int) (plainFor_of_name (by decide +kernel)) rfl (Nat.le_of_ble_eq_true rfl) ?_
  intro p e s m args below meth c A Q ls S hk hW hl hR
  have hl : lv_has ls 3 [(0, .ref (q 3)), (1, .int (nI a)), (2, .int (nI b))] := hl
  have hwsX20 : ∀ x ∈ wsX20, x ∈ wsX2_leastAsOf := fun x h => List.mem_cons_of_mem _ (List.mem_append_right _ h)
  refine lv_aload_n S.1 S.2.1 dX2_leastAsOf_0 rfl (lv_at hl 0 rfl) ?_
  refine gf S hk hW 3 rfl rfl hwsX20 0 (by decide) 1 rfl rfl dX2_leastAsOf_1 ?_
  refine lv_iload_n S.1 S.2.1 dX2_leastAsOf_4 rfl (lv_at hl 1 rfl) ?_
  refine lv_bipush (v := nI 100) S.1 S.2.1 dX2_leastAsOf_5 (by decide) ?_
  refine lv_imul S.1 S.2.1 dX2_leastAsOf_7 (top_eq (pk_mul _ _) ?_)
  refine lv_iload_n S.1 S.2.1 dX2_leastAsOf_8 rfl (lv_at hl 2 rfl) ?_
  refine lv_iadd S.1 S.2.1 dX2_leastAsOf_9 (top_eq (nI_add _ _) ?_)
  refine ild S hk hW 12 rfl ((a * 100) + b) rfl (by omega) (by omega) dX2_leastAsOf_10 ?_
  exact hR _ _ _ _ _ _ _ _ dX2_leastAsOf_11 rfl (Nat.le_of_ble_eq_true rfl) (Nat.le_of_ble_eq_true rfl) hW ⟨rfl, rfl⟩
abbrev r_X2_isMoved : Room := { frames := 1, cells := 0, slots := 0, locals := 22 }
theorem v_X2_isMoved : yX2_isMoved.cls ≠ "java/lang/invoke/MethodHandle" ∧ yX2_isMoved.cls ≠ "java/lang/invoke/VarHandle" ∧ (parseMethodDescriptor yX2_isMoved.desc).map (fun d => d.parameters.length) = some 2 := by decide +kernel
set_option maxRecDepth 100000 in
set_option maxHeartbeats 4000000 in
theorem c_X2_isMoved {l : Launch} {D : va_G} {cI cZ : ClassId} {q : Nat → Nat} {qf : Nat} {g : Gr} {C R : Nat → Int32} {rw len : Nat} {F : Nat → Int32} {sz : Nat} {X : Nat → Int32} {mk : Int32} {a b : Nat} (h1a : 1 ≤ a) (hab : a * 100 + b < len) (hlm : len ≤ 40100) : cI_ l D cI cZ yX2_isMoved wsX2_isMoved r_X2_isMoved [.ref (q 3), .int (nI a), .int (nI b)] (wC q qf cI cZ g C R rw len F sz X mk) (fun r u => r = bI (mvB F a b) ∧ u = wC q qf cI cZ g C R rw len F sz X mk) 0 0 := by
  refine cI_of (cc := cX2_isMoved) (maxL := 3) (rt := .boolean) (plainFor_of_name (by decide +kernel)) rfl (Nat.le_of_ble_eq_true rfl) ?_
  intro p e s m args below meth c A Q ls S hk hW hl hR
  have hl : lv_has ls 3 [(0, .ref (q 3)), (1, .int (nI a)), (2, .int (nI b))] := hl
  have hwsX20 : ∀ x ∈ wsX20, x ∈ wsX2_isMoved := fun x h => List.mem_cons_of_mem _ (List.mem_append_right _ h)
  refine lv_aload_n S.1 S.2.1 dX2_isMoved_0 rfl (lv_at hl 0 rfl) ?_
  refine lv_iload_n S.1 S.2.1 dX2_isMoved_1 rfl (lv_at hl 1 rfl) ?_
  refine lv_iload_n S.1 S.2.1 dX2_isMoved_2 rfl (lv_at hl 2 rfl) ?_
  refine kVi S (c_X2_leastAsOf (l := l) (D := D) (cI := cI) (cZ := cZ) (by first | assumption | omega) (by first | assumption | omega)) (cwV 2 S.2.2.2.2 gX2_isMoved_X2_leastAsOf rfl rfl rfl ⟨rfl, v_X2_leastAsOf⟩ ⟨(Nat.le_of_ble_eq_true rfl), (Nat.le_of_ble_eq_true rfl)⟩) hk hW 3 rfl rfl rfl rfl hl rfl (Nat.le_of_ble_eq_true rfl) dX2_isMoved_3 ⟨(Nat.le_of_ble_eq_true rfl), (Nat.le_of_ble_eq_true rfl)⟩ (fun r u H locs hp hW => ?_)
  obtain ⟨rfl, rfl⟩ := hp
  refine lv_aload_n S.1 S.2.1 dX2_isMoved_6 rfl (lv_at hl 0 rfl) ?_
  refine lv_iload_n S.1 S.2.1 dX2_isMoved_7 rfl (lv_at hl 1 rfl) ?_
  refine lv_iconst (v := nI 1) S.1 S.2.1 dX2_isMoved_8 (by decide) ?_
  refine lv_isub S.1 S.2.1 dX2_isMoved_9 (top_eq (pk_sub (by omega)) ?_)
  refine lv_iload_n S.1 S.2.1 dX2_isMoved_10 rfl (lv_at hl 2 rfl) ?_
  refine kVi S (c_X2_leastAsOf (l := l) (D := D) (cI := cI) (cZ := cZ) (by first | assumption | omega) (by first | assumption | omega)) (cwV 2 S.2.2.2.2 gX2_isMoved_X2_leastAsOf rfl rfl rfl ⟨rfl, v_X2_leastAsOf⟩ ⟨(Nat.le_of_ble_eq_true rfl), (Nat.le_of_ble_eq_true rfl)⟩) hk hW 3 rfl rfl rfl rfl hl rfl (Nat.le_of_ble_eq_true rfl) dX2_isMoved_11 ⟨(Nat.le_of_ble_eq_true rfl), (Nat.le_of_ble_eq_true rfl)⟩ (fun r u H locs hp hW => ?_)
  obtain ⟨rfl, rfl⟩ := hp
  refine lv_icmp_eq (tgt := 21) S.1 S.2.1 dX2_isMoved_14 (by decide) (fun c_14 => ?_) (fun c_14 => ?_)
  · skip
    refine lv_iconst (v := nI 0) S.1 S.2.1 dX2_isMoved_21 (by decide) ?_
    exact hR _ _ _ _ _ _ _ _ dX2_isMoved_22 rfl (Nat.le_of_ble_eq_true rfl) (Nat.le_of_ble_eq_true rfl) hW ⟨(by simp only [mvB, eq_true c_14, eq_self, Nat.add_zero, decide_false, decide_true, Bool.not_true, Bool.not_false, Bool.and_true, Bool.true_and, Bool.and_false, Bool.false_and, Bool.or_true, Bool.true_or, Bool.or_false, Bool.false_or, ↓reduceIte, cond_true, cond_false, bI, and_true, true_and, and_false, false_and, or_true, true_or, or_false, false_or, not_true_eq_false, not_false_eq_true, if_true, if_false, Bool.false_eq_true, reduceCtorEq, ite_true, ite_false]), rfl⟩
  · skip
    refine lv_iconst (v := nI 1) S.1 S.2.1 dX2_isMoved_17 (by decide) ?_
    refine lv_goto (tgt := 22) S.1 S.2.1 dX2_isMoved_18 (by decide) ?_
    exact hR _ _ _ _ _ _ _ _ dX2_isMoved_22 rfl (Nat.le_of_ble_eq_true rfl) (Nat.le_of_ble_eq_true rfl) hW ⟨(by simp only [mvB, eq_false c_14, eq_self, Nat.add_zero, decide_false, decide_true, Bool.not_true, Bool.not_false, Bool.and_true, Bool.true_and, Bool.and_false, Bool.false_and, Bool.or_true, Bool.true_or, Bool.or_false, Bool.false_or, ↓reduceIte, cond_true, cond_false, bI, and_true, true_and, and_false, false_and, or_true, true_or, or_false, false_or, not_true_eq_false, not_false_eq_true, if_true, if_false, Bool.false_eq_true, reduceCtorEq, ite_true, ite_false]), rfl⟩
abbrev r_X2_countMoved : Room := { frames := 2, cells := 0, slots := 0, locals := 44 }
theorem v_X2_countMoved : yX2_countMoved.cls ≠ "java/lang/invoke/MethodHandle" ∧ yX2_countMoved.cls ≠ "java/lang/invoke/VarHandle" ∧ (parseMethodDescriptor yX2_countMoved.desc).map (fun d => d.parameters.length) = some 1 := by decide +kernel
set_option maxRecDepth 100000 in
set_option maxHeartbeats 4000000 in
theorem c_X2_countMoved {l : Launch} {D : va_G} {cI cZ : ClassId} {q : Nat → Nat} {qf : Nat} {g : Gr} {C R : Nat → Int32} {rw len : Nat} {F : Nat → Int32} {sz : Nat} {X : Nat → Int32} {mk : Int32} {a : Nat} (h1a : 1 ≤ a) (hab : a * 100 + 100 ≤ len) (hlm : len ≤ 40100) : cI_ l D cI cZ yX2_countMoved wsX2_countMoved r_X2_countMoved [.ref (q 3), .int (nI a)] (wC q qf cI cZ g C R rw len F sz X mk) (fun r u => r = nI (cmv F a 100) ∧ u = wC q qf cI cZ g C R rw len F sz X mk) 0 0 := by
  refine cI_of (cc := cX2_countMoved) (maxL := 4) (rt := .int) (plainFor_of_name (by decide +kernel)) rfl (Nat.le_of_ble_eq_true rfl) ?_
  intro p e s m args below meth c A Q ls S hk hW hl hR
  have hl : lv_has ls 4 [(0, .ref (q 3)), (1, .int (nI a))] := hl
  have hwsX20 : ∀ x ∈ wsX20, x ∈ wsX2_countMoved := fun x h => List.mem_cons_of_mem _ (List.mem_append_right _ h)
  refine lv_iconst (v := nI 0) S.1 S.2.1 dX2_countMoved_0 (by decide) ?_
  refine lv_istore_n (lv' := [(2, .int (nI 0)), (0, .ref (q 3)), (1, .int (nI a))]) S.1 S.2.1 dX2_countMoved_1 rfl hl (by decide) rfl (fun ls hl => ?_)
  refine lv_iconst (v := nI 0) S.1 S.2.1 dX2_countMoved_2 (by decide) ?_
  refine lv_istore_n (lv' := [(3, .int (nI 0)), (2, .int (nI 0)), (0, .ref (q 3)), (1, .int (nI a))]) S.1 S.2.1 dX2_countMoved_3 rfl hl (by decide) rfl (fun ls hl => ?_)
  have L4 : ∀ (dd : Nat), ∀ (n : Nat), ∀ (i : Nat), (n = cmv F a i) → (i ≤ 100) → 100 < i + dd → ∀ (H : Heap) (locs : List Loc) (ls : Array Slot), wd D A s H locs (wC q qf cI cZ g C R rw len F sz X mk) → lv_has ls 4 [(0, .ref (q 3)), (1, .int (nI a)), (2, .int (nI n)), (3, .int (nI i))] → W p l e r_X2_countMoved s m args below meth c H locs 0 0 Q (F0 m 4 ls []) := by
    intro dd
    induction dd with
    | zero => intros; omega
    | succ dd ih4 =>
      intro n i hn hi hdd H locs ls hW hl
      refine lv_iload_n S.1 S.2.1 dX2_countMoved_4 rfl (lv_at hl 3 rfl) ?_
      refine lv_bipush (v := nI 100) S.1 S.2.1 dX2_countMoved_5 (by decide) ?_
      refine icge_n (tgt := 28) S (by omega) (by omega) dX2_countMoved_7 (by decide) (fun c_7 => ?_) (fun c_7 => ?_)
      · skip
        refine lv_iload_n S.1 S.2.1 dX2_countMoved_28 rfl (lv_at hl 2 rfl) ?_
        exact hR _ _ _ _ _ _ _ _ dX2_countMoved_29 rfl (Nat.le_of_ble_eq_true rfl) (Nat.le_of_ble_eq_true rfl) hW ⟨by rw [hn, show i = 100 by omega], rfl⟩
      · skip
        refine lv_aload_n S.1 S.2.1 dX2_countMoved_10 rfl (lv_at hl 0 rfl) ?_
        refine lv_iload_n S.1 S.2.1 dX2_countMoved_11 rfl (lv_at hl 1 rfl) ?_
        refine lv_iload_n S.1 S.2.1 dX2_countMoved_12 rfl (lv_at hl 3 rfl) ?_
        refine kVi S (c_X2_isMoved (l := l) (D := D) (cI := cI) (cZ := cZ) (by first | assumption | omega) (by first | assumption | omega) (by first | assumption | omega)) (cwV 2 S.2.2.2.2 gX2_countMoved_X2_isMoved rfl rfl rfl ⟨rfl, v_X2_isMoved⟩ ⟨(Nat.le_of_ble_eq_true rfl), (Nat.le_of_ble_eq_true rfl)⟩) hk hW 3 rfl rfl rfl rfl hl rfl (Nat.le_of_ble_eq_true rfl) dX2_countMoved_13 ⟨(Nat.le_of_ble_eq_true rfl), (Nat.le_of_ble_eq_true rfl)⟩ (fun r u H locs hp hW => ?_)
        obtain ⟨rfl, rfl⟩ := hp
        refine ifeq_b (tgt := 22) S dX2_countMoved_16 (by decide) (fun c_16 => ?_) (fun c_16 => ?_)
        · skip
          refine lv_iinc (v := nI (i + 1)) (lv' := [(3, .int (nI (i + 1))), (0, .ref (q 3)), (1, .int (nI a)), (2, .int (nI n))]) (k := 3) S.1 S.2.1 dX2_countMoved_22 hl rfl (nI_1 _) (by decide) rfl (fun ls hl => ?_)
          refine lv_goto (tgt := 4) S.1 S.2.1 dX2_countMoved_25 (by decide) ?_
          exact ih4 n (i + 1) (by simp only [cmv, hn, c_16, eq_self, Nat.add_zero, decide_false, decide_true, Bool.not_true, Bool.not_false, Bool.and_true, Bool.true_and, Bool.and_false, Bool.false_and, Bool.or_true, Bool.true_or, Bool.or_false, Bool.false_or, ↓reduceIte, cond_true, cond_false, bI, and_true, true_and, and_false, false_and, or_true, true_or, or_false, false_or, not_true_eq_false, not_false_eq_true, if_true, if_false, Bool.false_eq_true, reduceCtorEq, ite_true, ite_false]) (by omega) (by omega) _ _ _ hW (lv_sub hl [1, 2, 3, 0] rfl)
        · skip
          refine lv_iinc (v := nI (n + 1)) (lv' := [(2, .int (nI (n + 1))), (0, .ref (q 3)), (1, .int (nI a)), (3, .int (nI i))]) (k := 2) S.1 S.2.1 dX2_countMoved_19 hl rfl (nI_1 _) (by decide) rfl (fun ls hl => ?_)
          refine lv_iinc (v := nI (i + 1)) (lv' := [(3, .int (nI (i + 1))), (2, .int (nI (n + 1))), (0, .ref (q 3)), (1, .int (nI a))]) (k := 3) S.1 S.2.1 dX2_countMoved_22 hl rfl (nI_1 _) (by decide) rfl (fun ls hl => ?_)
          refine lv_goto (tgt := 4) S.1 S.2.1 dX2_countMoved_25 (by decide) ?_
          exact ih4 (n + 1) (i + 1) (by simp only [cmv, hn, c_16, eq_self, Nat.add_zero, decide_false, decide_true, Bool.not_true, Bool.not_false, Bool.and_true, Bool.true_and, Bool.and_false, Bool.false_and, Bool.or_true, Bool.true_or, Bool.or_false, Bool.false_or, ↓reduceIte, cond_true, cond_false, bI, and_true, true_and, and_false, false_and, or_true, true_or, or_false, false_or, not_true_eq_false, not_false_eq_true, if_true, if_false, Bool.false_eq_true, reduceCtorEq, ite_true, ite_false]) (by omega) (by omega) _ _ _ hW (lv_sub hl [2, 3, 1, 0] rfl)
  exact L4 (100 + 1) 0 0 rfl (by omega) (by omega) _ _ _ hW (lv_sub hl [2, 3, 1, 0] rfl)
abbrev r_X2_movedPair : Room := { frames := 2, cells := 0, slots := 0, locals := 44 }
theorem v_X2_movedPair : yX2_movedPair.cls ≠ "java/lang/invoke/MethodHandle" ∧ yX2_movedPair.cls ≠ "java/lang/invoke/VarHandle" ∧ (parseMethodDescriptor yX2_movedPair.desc).map (fun d => d.parameters.length) = some 2 := by decide +kernel
set_option maxRecDepth 100000 in
set_option maxHeartbeats 4000000 in
theorem c_X2_movedPair {l : Launch} {D : va_G} {cI cZ : ClassId} {q : Nat → Nat} {qf : Nat} {g : Gr} {C R : Nat → Int32} {rw len : Nat} {F : Nat → Int32} {sz : Nat} {X : Nat → Int32} {mk : Int32} {a : Nat} {x : Int32} (h1a : 1 ≤ a) (hab : a * 100 + 100 ≤ len) (hlm : len ≤ 40100) : cI_ l D cI cZ yX2_movedPair wsX2_movedPair r_X2_movedPair [.ref (q 3), .int (nI a), .int x] (wC q qf cI cZ g C R rw len F sz X mk) (fun r u => r = oI (-1000) (fj (mpP F a x) 100 0) ∧ u = wC q qf cI cZ g C R rw len F sz X mk) 0 0 := by
  refine cI_of (cc := cX2_movedPair) (maxL := 5) (rt := .int) (plainFor_of_name (by decide +kernel)) rfl (Nat.le_of_ble_eq_true rfl) ?_
  intro p e s m args below meth c A Q ls S hk hW hl hR
  have hl : lv_has ls 5 [(0, .ref (q 3)), (1, .int (nI a)), (2, .int x)] := hl
  have hwsX20 : ∀ x ∈ wsX20, x ∈ wsX2_movedPair := fun x h => List.mem_cons_of_mem _ (List.mem_append_right _ h)
  refine lv_iconst (v := nI 0) S.1 S.2.1 dX2_movedPair_0 (by decide) ?_
  refine lv_istore_n (lv' := [(3, .int (nI 0)), (0, .ref (q 3)), (1, .int (nI a)), (2, .int x)]) S.1 S.2.1 dX2_movedPair_1 rfl hl (by decide) rfl (fun ls hl => ?_)
  refine lv_iconst (v := nI 0) S.1 S.2.1 dX2_movedPair_2 (by decide) ?_
  refine lv_istore (lv' := [(4, .int (nI 0)), (3, .int (nI 0)), (0, .ref (q 3)), (1, .int (nI a)), (2, .int x)]) S.1 S.2.1 dX2_movedPair_3 hl (by decide) rfl (fun ls hl => ?_)
  have L5 : ∀ (dd : Nat), ∀ (n : Nat), ∀ (i : Nat), (n = cmv F a i) → (fj (mpP F a x) 100 0 = fj (mpP F a x) (100 - i) i) → (i ≤ 100) → 100 < i + dd → ∀ (H : Heap) (locs : List Loc) (ls : Array Slot), wd D A s H locs (wC q qf cI cZ g C R rw len F sz X mk) → lv_has ls 5 [(0, .ref (q 3)), (1, .int (nI a)), (2, .int x), (3, .int (nI n)), (4, .int (nI i))] → W p l e r_X2_movedPair s m args below meth c H locs 0 0 Q (F0 m 5 ls []) := by
    intro dd
    induction dd with
    | zero => intros; omega
    | succ dd ih5 =>
      intro n i hn hf hi hdd H locs ls hW hl
      refine lv_iload S.1 S.2.1 dX2_movedPair_5 (lv_at hl 4 rfl) ?_
      refine lv_bipush (v := nI 100) S.1 S.2.1 dX2_movedPair_7 (by decide) ?_
      refine icge_n (tgt := 39) S (by omega) (by omega) dX2_movedPair_9 (by decide) (fun c_9 => ?_) (fun c_9 => ?_)
      · skip
        refine lv_sipush (v := (-1000)) S.1 S.2.1 dX2_movedPair_39 (by decide) ?_
        exact hR _ _ _ _ _ _ _ _ dX2_movedPair_42 rfl (Nat.le_of_ble_eq_true rfl) (Nat.le_of_ble_eq_true rfl) hW ⟨by rw [fj_none hf (by omega)]; rfl, rfl⟩
      · skip
        refine lv_aload_n S.1 S.2.1 dX2_movedPair_12 rfl (lv_at hl 0 rfl) ?_
        refine lv_iload_n S.1 S.2.1 dX2_movedPair_13 rfl (lv_at hl 1 rfl) ?_
        refine lv_iload S.1 S.2.1 dX2_movedPair_14 (lv_at hl 4 rfl) ?_
        refine kVi S (c_X2_isMoved (l := l) (D := D) (cI := cI) (cZ := cZ) (by first | assumption | omega) (by first | assumption | omega) (by first | assumption | omega)) (cwV 2 S.2.2.2.2 gX2_movedPair_X2_isMoved rfl rfl rfl ⟨rfl, v_X2_isMoved⟩ ⟨(Nat.le_of_ble_eq_true rfl), (Nat.le_of_ble_eq_true rfl)⟩) hk hW 3 rfl rfl rfl rfl hl rfl (Nat.le_of_ble_eq_true rfl) dX2_movedPair_16 ⟨(Nat.le_of_ble_eq_true rfl), (Nat.le_of_ble_eq_true rfl)⟩ (fun r u H locs hp hW => ?_)
        obtain ⟨rfl, rfl⟩ := hp
        refine ifeq_b (tgt := 33) S dX2_movedPair_19 (by decide) (fun c_19 => ?_) (fun c_19 => ?_)
        · skip
          refine lv_iinc (v := nI (i + 1)) (lv' := [(4, .int (nI (i + 1))), (0, .ref (q 3)), (1, .int (nI a)), (2, .int x), (3, .int (nI n))]) (k := 4) S.1 S.2.1 dX2_movedPair_33 hl rfl (nI_1 _) (by decide) rfl (fun ls hl => ?_)
          refine lv_goto (tgt := 5) S.1 S.2.1 dX2_movedPair_36 (by decide) ?_
          exact ih5 n (i + 1) (by simp only [cmv, hn, c_19, eq_self, Nat.add_zero, decide_false, decide_true, Bool.not_true, Bool.not_false, Bool.and_true, Bool.true_and, Bool.and_false, Bool.false_and, Bool.or_true, Bool.true_or, Bool.or_false, Bool.false_or, ↓reduceIte, cond_true, cond_false, bI, and_true, true_and, and_false, false_and, or_true, true_or, or_false, false_or, not_true_eq_false, not_false_eq_true, if_true, if_false, Bool.false_eq_true, reduceCtorEq, ite_true, ite_false]) (fj_step hf (by omega) (by simp only [mpP, ← hn, c_19, eq_self, Nat.add_zero, decide_false, decide_true, Bool.not_true, Bool.not_false, Bool.and_true, Bool.true_and, Bool.and_false, Bool.false_and, Bool.or_true, Bool.true_or, Bool.or_false, Bool.false_or, ↓reduceIte, cond_true, cond_false, bI, and_true, true_and, and_false, false_and, or_true, true_or, or_false, false_or, not_true_eq_false, not_false_eq_true, if_true, if_false, Bool.false_eq_true, reduceCtorEq, ite_true, ite_false])) (by omega) (by omega) _ _ _ hW (lv_sub hl [1, 2, 3, 4, 0] rfl)
        · skip
          refine lv_iload_n S.1 S.2.1 dX2_movedPair_22 rfl (lv_at hl 3 rfl) ?_
          refine lv_iload_n S.1 S.2.1 dX2_movedPair_23 rfl (lv_at hl 2 rfl) ?_
          refine lv_icmp_ne (tgt := 30) S.1 S.2.1 dX2_movedPair_24 (by decide) (fun c_24 => ?_) (fun c_24 => ?_)
          · skip
            refine lv_iinc (v := nI (n + 1)) (lv' := [(3, .int (nI (n + 1))), (0, .ref (q 3)), (1, .int (nI a)), (2, .int x), (4, .int (nI i))]) (k := 3) S.1 S.2.1 dX2_movedPair_30 hl rfl (nI_1 _) (by decide) rfl (fun ls hl => ?_)
            refine lv_iinc (v := nI (i + 1)) (lv' := [(4, .int (nI (i + 1))), (3, .int (nI (n + 1))), (0, .ref (q 3)), (1, .int (nI a)), (2, .int x)]) (k := 4) S.1 S.2.1 dX2_movedPair_33 hl rfl (nI_1 _) (by decide) rfl (fun ls hl => ?_)
            refine lv_goto (tgt := 5) S.1 S.2.1 dX2_movedPair_36 (by decide) ?_
            exact ih5 (n + 1) (i + 1) (by simp only [cmv, hn, c_19, eq_self, Nat.add_zero, decide_false, decide_true, Bool.not_true, Bool.not_false, Bool.and_true, Bool.true_and, Bool.and_false, Bool.false_and, Bool.or_true, Bool.true_or, Bool.or_false, Bool.false_or, ↓reduceIte, cond_true, cond_false, bI, and_true, true_and, and_false, false_and, or_true, true_or, or_false, false_or, not_true_eq_false, not_false_eq_true, if_true, if_false, Bool.false_eq_true, reduceCtorEq, ite_true, ite_false]) (fj_step hf (by omega) (by simp only [mpP, ← hn, c_19, c_24, eq_self, Nat.add_zero, decide_false, decide_true, Bool.not_true, Bool.not_false, Bool.and_true, Bool.true_and, Bool.and_false, Bool.false_and, Bool.or_true, Bool.true_or, Bool.or_false, Bool.false_or, ↓reduceIte, cond_true, cond_false, bI, and_true, true_and, and_false, false_and, or_true, true_or, or_false, false_or, not_true_eq_false, not_false_eq_true, if_true, if_false, Bool.false_eq_true, reduceCtorEq, ite_true, ite_false])) (by omega) (by omega) _ _ _ hW (lv_sub hl [2, 3, 4, 1, 0] rfl)
          · skip
            refine lv_iload S.1 S.2.1 dX2_movedPair_27 (lv_at hl 4 rfl) ?_
            exact hR _ _ _ _ _ _ _ _ dX2_movedPair_29 rfl (Nat.le_of_ble_eq_true rfl) (Nat.le_of_ble_eq_true rfl) hW ⟨by rw [fj_found hf (by omega) (by simp only [mpP, ← hn, c_19, c_24, eq_self, Nat.add_zero, decide_false, decide_true, Bool.not_true, Bool.not_false, Bool.and_true, Bool.true_and, Bool.and_false, Bool.false_and, Bool.or_true, Bool.true_or, Bool.or_false, Bool.false_or, ↓reduceIte, cond_true, cond_false, bI, and_true, true_and, and_false, false_and, or_true, true_or, or_false, false_or, not_true_eq_false, not_false_eq_true, if_true, if_false, Bool.false_eq_true, reduceCtorEq, ite_true, ite_false])]; rfl, rfl⟩
  exact L5 (100 + 1) 0 0 rfl rfl (by omega) (by omega) _ _ _ hW (lv_sub hl [2, 3, 4, 1, 0] rfl)
abbrev r_X2_firstWithin : Room := { frames := 1, cells := 0, slots := 0, locals := 22 }
theorem v_X2_firstWithin : yX2_firstWithin.cls ≠ "java/lang/invoke/MethodHandle" ∧ yX2_firstWithin.cls ≠ "java/lang/invoke/VarHandle" ∧ (parseMethodDescriptor yX2_firstWithin.desc).map (fun d => d.parameters.length) = some 3 := by decide +kernel
set_option maxRecDepth 100000 in
set_option maxHeartbeats 4000000 in
theorem c_X2_firstWithin {l : Launch} {D : va_G} {cI cZ : ClassId} {q : Nat → Nat} {qf : Nat} {g : Gr} {C R : Nat → Int32} {rw len : Nat} {F : Nat → Int32} {sz : Nat} {X : Nat → Int32} {mk : Int32} {a b : Nat} {v : Int32} (hrl : rw * 100 ≤ len) (hlm : len ≤ 40100) (har : a ≤ rw) (hb : b < 100) : cI_ l D cI cZ yX2_firstWithin wsX2_firstWithin r_X2_firstWithin [.ref (q 3), .int (nI a), .int (nI b), .int v] (wC q qf cI cZ g C R rw len F sz X mk) (fun r u => r = oI (-1000) (fj (fwP F b v) (rw - a) a) ∧ u = wC q qf cI cZ g C R rw len F sz X mk) 0 0 := by
  refine cI_of (cc := cX2_firstWithin) (maxL := 6) (rt := .int) (plainFor_of_name (by decide +kernel)) rfl (Nat.le_of_ble_eq_true rfl) ?_
  intro p e s m args below meth c A Q ls S hk hW hl hR
  have hl : lv_has ls 6 [(0, .ref (q 3)), (1, .int (nI a)), (2, .int (nI b)), (3, .int v)] := hl
  have hwsX20 : ∀ x ∈ wsX20, x ∈ wsX2_firstWithin := fun x h => List.mem_cons_of_mem _ (List.mem_append_right _ h)
  refine lv_iload_n S.1 S.2.1 dX2_firstWithin_0 rfl (lv_at hl 1 rfl) ?_
  refine lv_istore (lv' := [(4, .int (nI a)), (0, .ref (q 3)), (1, .int (nI a)), (2, .int (nI b)), (3, .int v)]) S.1 S.2.1 dX2_firstWithin_1 hl (by decide) rfl (fun ls hl => ?_)
  have L3 : ∀ (dd : Nat), ∀ (t : Nat), (fj (fwP F b v) (rw - a) a = fj (fwP F b v) (rw - t) t) → (t ≤ rw) → rw < t + dd → ∀ (H : Heap) (locs : List Loc) (ls : Array Slot), wd D A s H locs (wC q qf cI cZ g C R rw len F sz X mk) → lv_has ls 6 [(0, .ref (q 3)), (1, .int (nI a)), (2, .int (nI b)), (3, .int v), (4, .int (nI t))] → W p l e r_X2_firstWithin s m args below meth c H locs 0 0 Q (F0 m 3 ls []) := by
    intro dd
    induction dd with
    | zero => intros; omega
    | succ dd ih3 =>
      intro t hf ht hdd H locs ls hW hl
      refine lv_iload S.1 S.2.1 dX2_firstWithin_3 (lv_at hl 4 rfl) ?_
      refine lv_aload_n S.1 S.2.1 dX2_firstWithin_5 rfl (lv_at hl 0 rfl) ?_
      refine gf S hk hW 3 rfl rfl hwsX20 1 (by decide) 1 rfl rfl dX2_firstWithin_6 ?_
      refine icge_n (tgt := 44) S (by omega) (by omega) dX2_firstWithin_9 (by decide) (fun c_9 => ?_) (fun c_9 => ?_)
      · skip
        refine lv_sipush (v := (-1000)) S.1 S.2.1 dX2_firstWithin_44 (by decide) ?_
        exact hR _ _ _ _ _ _ _ _ dX2_firstWithin_47 rfl (Nat.le_of_ble_eq_true rfl) (Nat.le_of_ble_eq_true rfl) hW ⟨by rw [fj_none hf (by omega)]; rfl, rfl⟩
      · skip
        refine lv_aload_n S.1 S.2.1 dX2_firstWithin_12 rfl (lv_at hl 0 rfl) ?_
        refine lv_iload S.1 S.2.1 dX2_firstWithin_13 (lv_at hl 4 rfl) ?_
        refine lv_iload_n S.1 S.2.1 dX2_firstWithin_15 rfl (lv_at hl 2 rfl) ?_
        refine kVi S (c_X2_leastAsOf (l := l) (D := D) (cI := cI) (cZ := cZ) (by first | assumption | omega) (by first | assumption | omega)) (cwV 2 S.2.2.2.2 gX2_firstWithin_X2_leastAsOf rfl rfl rfl ⟨rfl, v_X2_leastAsOf⟩ ⟨(Nat.le_of_ble_eq_true rfl), (Nat.le_of_ble_eq_true rfl)⟩) hk hW 3 rfl rfl rfl rfl hl rfl (Nat.le_of_ble_eq_true rfl) dX2_firstWithin_16 ⟨(Nat.le_of_ble_eq_true rfl), (Nat.le_of_ble_eq_true rfl)⟩ (fun r u H locs hp hW => ?_)
        obtain ⟨rfl, rfl⟩ := hp
        refine lv_istore (lv' := [(5, .int (F (t * 100 + b))), (0, .ref (q 3)), (1, .int (nI a)), (2, .int (nI b)), (3, .int v), (4, .int (nI t))]) S.1 S.2.1 dX2_firstWithin_19 hl (by decide) rfl (fun ls hl => ?_)
        refine lv_iload S.1 S.2.1 dX2_firstWithin_21 (lv_at hl 0 rfl) ?_
        refine lv_sipush (v := (-1000)) S.1 S.2.1 dX2_firstWithin_23 (by decide) ?_
        refine lv_icmp_eq (tgt := 38) S.1 S.2.1 dX2_firstWithin_26 (by decide) (fun c_26 => ?_) (fun c_26 => ?_)
        · skip
          refine lv_iinc (v := nI (t + 1)) (lv' := [(4, .int (nI (t + 1))), (5, .int (F (t * 100 + b))), (0, .ref (q 3)), (1, .int (nI a)), (2, .int (nI b)), (3, .int v)]) (k := 5) S.1 S.2.1 dX2_firstWithin_38 hl rfl (nI_1 _) (by decide) rfl (fun ls hl => ?_)
          refine lv_goto (tgt := 3) S.1 S.2.1 dX2_firstWithin_41 (by decide) ?_
          exact ih3 (t + 1) (fj_step hf (by omega) (by simp only [fwP, c_26, eq_self, Nat.add_zero, decide_false, decide_true, Bool.not_true, Bool.not_false, Bool.and_true, Bool.true_and, Bool.and_false, Bool.false_and, Bool.or_true, Bool.true_or, Bool.or_false, Bool.false_or, ↓reduceIte, cond_true, cond_false, bI, and_true, true_and, and_false, false_and, or_true, true_or, or_false, false_or, not_true_eq_false, not_false_eq_true, if_true, if_false, Bool.false_eq_true, reduceCtorEq, ite_true, ite_false])) (by omega) (by omega) _ _ _ hW (lv_sub hl [2, 3, 4, 5, 0] rfl)
        · skip
          refine lv_iload S.1 S.2.1 dX2_firstWithin_29 (lv_at hl 0 rfl) ?_
          refine lv_iload_n S.1 S.2.1 dX2_firstWithin_31 rfl (lv_at hl 4 rfl) ?_
          refine lv_icmp_gt (tgt := 38) S.1 S.2.1 dX2_firstWithin_32 (by decide) (fun c_32 => ?_) (fun c_32 => ?_)
          · skip
            refine lv_iinc (v := nI (t + 1)) (lv' := [(4, .int (nI (t + 1))), (5, .int (F (t * 100 + b))), (0, .ref (q 3)), (1, .int (nI a)), (2, .int (nI b)), (3, .int v)]) (k := 5) S.1 S.2.1 dX2_firstWithin_38 hl rfl (nI_1 _) (by decide) rfl (fun ls hl => ?_)
            refine lv_goto (tgt := 3) S.1 S.2.1 dX2_firstWithin_41 (by decide) ?_
            exact ih3 (t + 1) (fj_step hf (by omega) (by simp only [fwP, c_26, c_32, eq_self, Nat.add_zero, decide_false, decide_true, Bool.not_true, Bool.not_false, Bool.and_true, Bool.true_and, Bool.and_false, Bool.false_and, Bool.or_true, Bool.true_or, Bool.or_false, Bool.false_or, ↓reduceIte, cond_true, cond_false, bI, and_true, true_and, and_false, false_and, or_true, true_or, or_false, false_or, not_true_eq_false, not_false_eq_true, if_true, if_false, Bool.false_eq_true, reduceCtorEq, ite_true, ite_false])) (by omega) (by omega) _ _ _ hW (lv_sub hl [2, 3, 4, 5, 0] rfl)
          · skip
            refine lv_iload S.1 S.2.1 dX2_firstWithin_35 (lv_at hl 5 rfl) ?_
            exact hR _ _ _ _ _ _ _ _ dX2_firstWithin_37 rfl (Nat.le_of_ble_eq_true rfl) (Nat.le_of_ble_eq_true rfl) hW ⟨by rw [fj_found hf (by omega) (by simp only [fwP, c_26, c_32, eq_self, Nat.add_zero, decide_false, decide_true, Bool.not_true, Bool.not_false, Bool.and_true, Bool.true_and, Bool.and_false, Bool.false_and, Bool.or_true, Bool.true_or, Bool.or_false, Bool.false_or, ↓reduceIte, cond_true, cond_false, bI, and_true, true_and, and_false, false_and, or_true, true_or, or_false, false_or, not_true_eq_false, not_false_eq_true, if_true, if_false, Bool.false_eq_true, reduceCtorEq, ite_true, ite_false])]; rfl, rfl⟩
  exact L3 (rw + 1) a rfl (by omega) (by omega) _ _ _ hW (lv_sub hl [1, 2, 3, 4, 0] rfl)

abbrev r_J7_copyOf_59c91 (ms : Nat) : Room := { frames := 1, cells := 1, slots := ms, locals := 40 }
theorem v_J7_copyOf_59c91 : yJ7_copyOf_59c91.cls ≠ "java/lang/invoke/MethodHandle" ∧ yJ7_copyOf_59c91.cls ≠ "java/lang/invoke/VarHandle" ∧ (parseMethodDescriptor yJ7_copyOf_59c91.desc).map (fun d => d.parameters.length) = some 2 := by decide +kernel
set_option maxRecDepth 100000 in
set_option maxHeartbeats 4000000 in
/-- Arrays.copyOf(row, k), k above the row's length: a new row -/
theorem c_J7_copyOf_59c91 {l : Launch} {D : va_G} {cI cZ : ClassId} {w : va_W} {q0 x n k : Nat} {f : Nat → Int32} (ha : w[q0]? = some (x, .inl (cI, n, .inl f))) (hnk : n < k) (hk6 : k < 65536) : cR_ l D cI cZ yJ7_copyOf_59c91 wsJ7_copyOf_59c91 (r_J7_copyOf_59c91 k) [.ref x, .int (nI k)] w (fun a u => ∃ f', (∀ j, j < n → f' j = f j) ∧ u = w ++ [(a, .inl (cI, k, .inl f'))]) 1 k := by
  refine cR_of (cc := cJ7_copyOf_59c91) (maxL := 3) (rt := .array .int) (Or.inr ⟨_, rfl⟩) (plainFor_of_name (by decide +kernel)) rfl (Nat.le_of_ble_eq_true rfl) ?_
  intro p e s m args below meth c A Q ls S hk hW hl hR
  have hl : lv_has ls 3 [(0, .ref x), (1, .int (nI k))] := hl
  have hq : q0 < w.length := (List.getElem?_eq_some_iff.mp ha).1
  refine lv_iload_n S.1 S.2.1 dJ7_copyOf_59c91_0 rfl (lv_at hl 1 rfl) ?_
  refine lv_aload_n S.1 S.2.1 dJ7_copyOf_59c91_1 rfl (lv_at hl 0 rfl) ?_
  refine alen S hk hW q0 ha dJ7_copyOf_59c91_2 ?_
  refine icne_n (tgt := 14) S (by omega) (by omega) dJ7_copyOf_59c91_3 (by decide) (fun c_3 => ?_) (fun c_3 => ?_)
  · refine lv_iload_n S.1 S.2.1 dJ7_copyOf_59c91_14 rfl (lv_at hl 1 rfl) ?_
    refine newI S hk hW 7 rfl hk6 (Nat.le_of_ble_eq_true rfl) (Nat.le_of_eq (Nat.zero_add _)) dJ7_copyOf_59c91_15 (fun y H hW => ?_)
    have ha1 : (w ++ [(y, va_E_row cI k (fun _ => 0))])[q0]? = some (x, .inl (cI, n, .inl f)) := by rw [List.getElem?_append_left hq]; exact ha
    have ha2 : (w ++ [(y, va_E_row cI k (fun _ => 0))])[w.length]? = some (y, .inl (cI, k, .inl (fun _ => 0))) := by rw [List.getElem?_append_right (Nat.le_refl _), Nat.sub_self]; rfl
    refine lv_astore_n (lv' := [(2, .ref y), (0, .ref x), (1, .int (nI k))]) S.1 S.2.1 dJ7_copyOf_59c91_17 rfl hl (by decide) rfl (fun ls hl => ?_)
    refine lv_aload_n S.1 S.2.1 dJ7_copyOf_59c91_18 rfl (lv_at hl 1 rfl) ?_
    refine lv_iconst (v := nI 0) S.1 S.2.1 dJ7_copyOf_59c91_19 (by decide) ?_
    refine lv_aload_n S.1 S.2.1 dJ7_copyOf_59c91_20 rfl (lv_at hl 0 rfl) ?_
    refine lv_iconst (v := nI 0) S.1 S.2.1 dJ7_copyOf_59c91_21 (by decide) ?_
    refine lv_aload_n S.1 S.2.1 dJ7_copyOf_59c91_22 rfl (lv_at hl 1 rfl) ?_
    refine alen S hk hW q0 ha1 dJ7_copyOf_59c91_23 ?_
    refine lv_iload_n S.1 S.2.1 dJ7_copyOf_59c91_24 rfl (lv_at hl 2 rfl) ?_
    refine va_mmin S.1 S.2.1 (S.2.2.1.trans hl.1.symm) S.2.2.2.1 (S.2.2.2.2 _ (List.mem_of_getElem? (i := 8) rfl)) (S.2.2.2.2 _ (List.mem_of_getElem? (i := 9) rfl)) (S.2.2.2.2 _ (List.mem_of_getElem? (i := 10) rfl)) (S.2.2.2.2 _ (List.mem_of_getElem? (i := 11) rfl)) (Nat.le_of_ble_eq_true rfl) (Nat.le_of_ble_eq_true rfl) (Nat.le_of_ble_eq_true rfl) (Nat.le_of_eq (Nat.zero_add _)) dJ7_copyOf_59c91_25 ?_
    refine top_eq (y := nI n) (by rw [if_neg]; exact fun q => absurd ((nI_ltI (by omega) (by omega)).mp q) (by omega)) ?_
    refine acpy (w' := (w ++ [(y, va_E_row cI k (fun _ => 0))]).set w.length (y, .inl (cI, k, .inl (va_cpy f (fun _ => 0) 0 0 n)))) S hk hW (S.2.2.1.trans hl.1.symm) 12 13 14 15 q0 w.length rfl rfl rfl rfl ha1 ha2 (sp := 0) (dp := 0) (nn := n) (by omega) (by omega) (by omega) (by omega) (by omega) (Nat.le_of_ble_eq_true rfl) (Nat.le_of_ble_eq_true rfl) dJ7_copyOf_59c91_28 rfl (fun H locs hW => ?_)
    have e1 : (w ++ [(y, va_E_row cI k (fun _ => 0))]).set w.length (y, .inl (cI, k, .inl (va_cpy f (fun _ => 0) 0 0 n))) = w ++ [(y, .inl (cI, k, .inl (va_cpy f (fun _ => 0) 0 0 n)))] := by
      rw [List.set_append_right _ _ (Nat.le_refl _), Nat.sub_self]
      rfl
    rw [e1] at hW
    refine lv_aload_n S.1 S.2.1 dJ7_copyOf_59c91_31 rfl (lv_at hl 0 rfl) ?_
    exact hR _ _ _ _ _ _ _ _ dJ7_copyOf_59c91_32 (Nat.le_of_ble_eq_true rfl) (Nat.le_of_eq (Nat.zero_add _)) hW ⟨_, fun j hj => pk_cpy_in (by omega) (by omega) |>.trans (by simp), rfl⟩
  · exact absurd c_3 (by omega)

abbrev r_X2_makeRoom (mc ms : Nat) : Room := { frames := 2, cells := mc, slots := ms, locals := 62 }
theorem v_X2_makeRoom : yX2_makeRoom.cls ≠ "java/lang/invoke/MethodHandle" ∧ yX2_makeRoom.cls ≠ "java/lang/invoke/VarHandle" ∧ (parseMethodDescriptor yX2_makeRoom.desc).map (fun d => d.parameters.length) = some 0 := by decide +kernel
set_option maxRecDepth 100000 in
set_option maxHeartbeats 4000000 in
/-- Past.makeRoom(): room for one more row; a new row of ints where there was none -/
theorem c_X2_makeRoom {l : Launch} {D : va_G} {cI cZ : ClassId} {q : Nat → Nat} {qf : Nat} {g : Gr} {C R : Nat → Int32} {rw len : Nat} {F : Nat → Int32} {sz : Nat} {X : Nat → Int32} {mk : Int32} (hr : rw ≤ 400) (hrl : rw * 100 ≤ len) (h16 : 1600 ≤ len) (hlm : len ≤ 40100) : cV_ l D cI cZ yX2_makeRoom wsX2_makeRoom (r_X2_makeRoom (gC rw len) (gS rw len)) [.ref (q 3)] (wC q qf cI cZ g C R rw len F sz X mk) (fun u => ∃ qf' F', (∀ j, j < len → F' j = F j) ∧ u = wC q qf' cI cZ g C R rw (gL rw len) F' sz X mk) (gC rw len) (gS rw len) := by
  refine cV_of (cc := cX2_makeRoom) (maxL := 1) (plainFor_of_name (by decide +kernel)) rfl (Nat.le_of_ble_eq_true rfl) ?_
  intro p e s m args below meth c A Q ls S hnm hk hW hl hR
  have hl : lv_has ls 1 [(0, .ref (q 3))] := hl
  have hwsX20 : ∀ x ∈ wsX20, x ∈ wsX2_makeRoom := fun x h => List.mem_cons_of_mem _ (List.mem_append_right _ h)
  refine lv_aload_n S.1 S.2.1 dX2_makeRoom_0 rfl (lv_at hl 0 rfl) ?_
  refine gf S hk hW 3 rfl rfl hwsX20 1 (by decide) 1 rfl rfl dX2_makeRoom_1 ?_
  refine lv_iconst (v := nI 1) S.1 S.2.1 dX2_makeRoom_4 (by decide) ?_
  refine lv_iadd S.1 S.2.1 dX2_makeRoom_5 (top_eq (nI_add _ _) ?_)
  refine lv_bipush (v := nI 100) S.1 S.2.1 dX2_makeRoom_6 (by decide) ?_
  refine lv_imul S.1 S.2.1 dX2_makeRoom_8 (top_eq (pk_mul _ _) ?_)
  refine lv_aload_n S.1 S.2.1 dX2_makeRoom_9 rfl (lv_at hl 0 rfl) ?_
  refine gf S hk hW 3 rfl rfl hwsX20 0 (by decide) 2 rfl rfl dX2_makeRoom_10 ?_
  refine alen S hk hW 12 rfl dX2_makeRoom_13 ?_
  refine icle_n (tgt := 40) S (by omega) (by show len < _; omega) dX2_makeRoom_14 (by decide) (fun c_14 => ?_) (fun c_14 => ?_)
  · have e1 : gL rw len = len := if_pos c_14
    refine hR _ _ _ _ _ _ _ dX2_makeRoom_40 (Nat.zero_le _) (Nat.zero_le _) hW ⟨qf, F, fun _ _ => rfl, by rw [e1]⟩
  · have c14 : ¬ (rw + 1) * 100 ≤ len := c_14
    have e1 : gC rw len = 1 := if_neg c14
    have e2 : gS rw len = gL rw len := if_neg c14
    have e3 : gL rw len = if 40100 < 2 * len then 40100 else 2 * len := if_neg c14
    refine lv_aload_n S.1 S.2.1 dX2_makeRoom_17 rfl (lv_at hl 0 rfl) ?_
    refine lv_aload_n S.1 S.2.1 dX2_makeRoom_18 rfl (lv_at hl 0 rfl) ?_
    refine gf S hk hW 3 rfl rfl hwsX20 0 (by decide) 2 rfl rfl dX2_makeRoom_19 ?_
    refine lv_iconst (v := nI 2) S.1 S.2.1 dX2_makeRoom_22 (by decide) ?_
    refine lv_aload_n S.1 S.2.1 dX2_makeRoom_23 rfl (lv_at hl 0 rfl) ?_
    refine gf S hk hW 3 rfl rfl hwsX20 0 (by decide) 2 rfl rfl dX2_makeRoom_24 ?_
    refine alen S hk hW 12 rfl dX2_makeRoom_27 ?_
    refine lv_imul S.1 S.2.1 dX2_makeRoom_28 (top_eq (pk_mul _ _) ?_)
    refine lv_ldc (v := nI 40100) S.1 S.2.1 S.2.2.2.1 (S.2.2.2.2 _ (List.mem_of_getElem? (i := 3) rfl)) dX2_makeRoom_29 ?_
    refine va_mmin S.1 S.2.1 (S.2.2.1.trans hl.1.symm) S.2.2.2.1 (S.2.2.2.2 _ (List.mem_of_getElem? (i := 4) rfl)) (S.2.2.2.2 _ (List.mem_of_getElem? (i := 5) rfl)) (S.2.2.2.2 _ (List.mem_of_getElem? (i := 6) rfl)) (S.2.2.2.2 _ (List.mem_of_getElem? (i := 7) rfl)) (Nat.le_of_ble_eq_true rfl) (Nat.le_of_ble_eq_true rfl) (Nat.zero_le _) (Nat.zero_le _) dX2_makeRoom_31 ?_
    refine top_eq (y := nI (gL rw len)) (by
      rw [e3]
      by_cases h : 40100 < 2 * len
      · rw [if_pos h, if_pos ((nI_ltI (by omega) (by omega)).mpr h)]
      · rw [if_neg h, if_neg (fun z => h ((nI_ltI (by omega) (by omega)).mp z))]) ?_
    have hg1 := gL_ge hr hrl h16
    have hg2 := gL_le (rw := rw) hlm
    refine kSr S (c_J7_copyOf_59c91 (l := l) (D := D) (cI := cI) (cZ := cZ) (q0 := 12) rfl (by omega) (by omega)) (va_cwS 2 S.2.2.2.2 gX2_makeRoom_J7_copyOf_59c91 rfl rfl rfl v_J7_copyOf_59c91 ⟨(Nat.le_of_ble_eq_true rfl), (Nat.le_of_ble_eq_true rfl)⟩) hk hW rfl hl rfl (Nat.le_of_ble_eq_true rfl) dX2_makeRoom_34 ⟨by rw [e1]; exact Nat.le_refl _, by rw [e2]; exact Nat.le_of_eq (Nat.zero_add _)⟩ (fun y u H locs hp hW => ?_)
    obtain ⟨F', hF', rfl⟩ := hp
    refine pf (ty := .array .int) (w' := (wC q qf cI cZ g C R rw len F sz X mk ++ [(y, va_E_row cI (gL rw len) F')]).set 3 (q 3, .inr (2, [.ref y, .int (nI rw)]))) S hk hW 3 rfl rfl hwsX20 tyX2 tyX2_ok nmX2 0 (by decide) 2 rfl rfl (by decide +kernel) rfl rfl (Nat.le_of_ble_eq_true rfl) dX2_makeRoom_37 rfl (fun H locs hW => ?_)
    have hW2 : wd D A s H locs (wC q y cI cZ g C R rw (gL rw len) F' sz X mk) := ⟨hW.1.sub [0, 1, 2, 3, 4, 5, 6, 7, 8, 9, 10, 11, 14, 13] rfl, hW.2.1.sub [0, 1, 2, 3, 4, 5, 6, 7, 8, 9, 10, 11, 14, 13] (by decide) rfl, hW.2.2⟩
    refine hR _ _ _ _ _ _ _ dX2_makeRoom_40 (by rw [e1]; exact Nat.le_refl _) (by rw [e2]; omega) hW2 ⟨y, F', hF', rfl⟩
abbrev r_X2_keep (mc ms : Nat) : Room := { frames := 3, cells := mc, slots := ms, locals := 82 }
theorem v_X2_keep : yX2_keep.cls ≠ "java/lang/invoke/MethodHandle" ∧ yX2_keep.cls ≠ "java/lang/invoke/VarHandle" ∧ (parseMethodDescriptor yX2_keep.desc).map (fun d => d.parameters.length) = some 1 := by decide +kernel
set_option maxRecDepth 100000 in
set_option maxHeartbeats 4000000 in
theorem c_X2_keep {l : Launch} {D : va_G} {cI cZ : ClassId} {q : Nat → Nat} {qf : Nat} {g : Gr} {C R : Nat → Int32} {rw len : Nat} {F : Nat → Int32} {sz : Nat} {X : Nat → Int32} {mk : Int32}  (hr : rw ≤ 400) (hrl : rw * 100 ≤ len) (h16 : 1600 ≤ len) (hlm : len ≤ 40100) : cV_ l D cI cZ yX2_keep wsX2_keep (r_X2_keep (gC rw len) (gS rw len)) [.ref (q 3), .ref (q 2)] (wC q qf cI cZ g C R rw len F sz X mk) (fun u => ∃ qf' F', (∀ p, p < rw * 100 → F' p = F p) ∧ (∀ p, p < 100 → F' (rw * 100 + p) = prI (C p)) ∧ u = wC q qf' cI cZ g C R (rw + 1) (gL rw len) F' sz X mk) (gC rw len) (gS rw len) := by
  refine cV_of (cc := cX2_keep) (maxL := 3) (plainFor_of_name (by decide +kernel)) rfl (Nat.le_of_ble_eq_true rfl) ?_
  intro p e s m args below meth c A Q ls S hnm hk hW hl hR
  have hl : lv_has ls 3 [(0, .ref (q 3)), (1, .ref (q 2))] := hl
  have hwsX20 : ∀ x ∈ wsX20, x ∈ wsX2_keep := fun x h => List.mem_cons_of_mem _ (List.mem_append_left _ (List.mem_append_right _ h))
  have hwsX30 : ∀ x ∈ wsX30, x ∈ wsX2_keep := fun x h => List.mem_cons_of_mem _ (List.mem_append_right _ h)
  have hg1 := gL_ge hr hrl h16
  have hg2 := gL_le (rw := rw) hlm
  refine lv_aload_n S.1 S.2.1 dX2_keep_0 rfl (lv_at hl 0 rfl) ?_
  refine kVi S (c_X2_isFull (l := l) (D := D) (cI := cI) (cZ := cZ) (by first | assumption | omega)) (cwV 0 S.2.2.2.2 gX2_keep_X2_isFull rfl rfl rfl ⟨rfl, v_X2_isFull⟩ ⟨(Nat.le_of_ble_eq_true rfl), (Nat.le_of_ble_eq_true rfl)⟩) hk hW 3 rfl rfl rfl rfl hl rfl (Nat.le_of_ble_eq_true rfl) dX2_keep_1 ⟨Nat.zero_le _, Nat.zero_le _⟩ (fun r u H locs hp hW => ?_)
  obtain ⟨rfl, rfl⟩ := hp
  refine ifeq_b (tgt := 8) S dX2_keep_4 (by decide) (fun c_4 => ?_) (fun c_4 => ?_)
  · skip
    refine lv_aload_n S.1 S.2.1 dX2_keep_8 rfl (lv_at hl 0 rfl) ?_
    refine kVv S (c_X2_makeRoom (l := l) (D := D) (cI := cI) (cZ := cZ) (by first | assumption | omega) (by first | assumption | omega) (by first | assumption | omega) (by first | assumption | omega)) (cwV 0 S.2.2.2.2 gX2_keep_X2_makeRoom rfl rfl rfl ⟨rfl, v_X2_makeRoom⟩ ⟨(Nat.le_of_ble_eq_true rfl), (Nat.le_of_ble_eq_true rfl)⟩) hk hW 3 rfl rfl rfl rfl hl rfl (Nat.le_of_ble_eq_true rfl) dX2_keep_9 ⟨Nat.le_of_eq (Nat.zero_add _), Nat.le_of_eq (Nat.zero_add _)⟩ (fun u H locs hp hW => ?_)
    obtain ⟨qf'_1, F'_2, hFk, rfl⟩ := hp
    refine lv_iconst (v := nI 0) S.1 S.2.1 dX2_keep_12 (by decide) ?_
    refine lv_istore_n (lv' := [(2, .int (nI 0)), (0, .ref (q 3)), (1, .ref (q 2))]) S.1 S.2.1 dX2_keep_13 rfl hl (by decide) rfl (fun ls hl => ?_)
    have L14 : ∀ (dd : Nat), ∀ (i : Nat), ∀ (F1 : Nat → Int32), ((∀ p, p < rw * 100 → F1 p = F p) ∧ ∀ p, p < i → F1 (rw * 100 + p) = prI (C p)) → (i ≤ 100) → 100 < i + dd → ∀ (H : Heap) (locs : List Loc) (ls : Array Slot), wd D A s H locs (wC q qf'_1 cI cZ g C R rw (gL rw len) F1 sz X mk) → lv_has ls 3 [(0, .ref (q 3)), (1, .ref (q 2)), (2, .int (nI i))] → W p l e (r_X2_keep (gC rw len) (gS rw len)) s m args below meth c H locs (0 + (gC rw len)) (0 + (gS rw len)) Q (F0 m 14 ls []) := by
      intro dd
      induction dd with
      | zero => intros; omega
      | succ dd ih14 =>
        intro i F1 hF hi hdd H locs ls hW hl
        refine lv_iload_n S.1 S.2.1 dX2_keep_14 rfl (lv_at hl 2 rfl) ?_
        refine lv_bipush (v := nI 100) S.1 S.2.1 dX2_keep_15 (by decide) ?_
        refine icge_n (tgt := 52) S (by omega) (by omega) dX2_keep_17 (by decide) (fun c_17 => ?_) (fun c_17 => ?_)
        · skip
          refine lv_aload_n S.1 S.2.1 dX2_keep_52 rfl (lv_at hl 0 rfl) ?_
          refine lv_dup S.1 S.2.1 dX2_keep_53 rfl ?_
          refine gf S hk hW 3 rfl rfl hwsX20 1 (by decide) 2 rfl rfl dX2_keep_54 ?_
          refine lv_iconst (v := nI 1) S.1 S.2.1 dX2_keep_57 (by decide) ?_
          refine lv_iadd S.1 S.2.1 dX2_keep_58 (top_eq (nI_add _ _) ?_)
          refine pf (ty := .int) (w' := wC q qf'_1 cI cZ g C R (rw + 1) (gL rw len) F1 sz X mk) S hk hW 3 rfl rfl hwsX20 tyX2 tyX2_ok nmX2 1 (by decide) 2 rfl rfl (by decide +kernel) rfl rfl (Nat.le_of_ble_eq_true rfl) dX2_keep_59 rfl (fun H locs hW => ?_)
          exact hR _ _ _ _ _ _ _ dX2_keep_62 (by omega) (by omega) hW ⟨_, F1, hF.1, (by have e : i = 100 := (by omega); subst e; exact hF.2), rfl⟩
        · skip
          refine lv_aload_n S.1 S.2.1 dX2_keep_20 rfl (lv_at hl 0 rfl) ?_
          refine gf S hk hW 3 rfl rfl hwsX20 0 (by decide) 1 rfl rfl dX2_keep_21 ?_
          refine lv_aload_n S.1 S.2.1 dX2_keep_24 rfl (lv_at hl 0 rfl) ?_
          refine gf S hk hW 3 rfl rfl hwsX20 1 (by decide) 2 rfl rfl dX2_keep_25 ?_
          refine lv_bipush (v := nI 100) S.1 S.2.1 dX2_keep_28 (by decide) ?_
          refine lv_imul S.1 S.2.1 dX2_keep_30 (top_eq (pk_mul _ _) ?_)
          refine lv_iload_n S.1 S.2.1 dX2_keep_31 rfl (lv_at hl 2 rfl) ?_
          refine lv_iadd S.1 S.2.1 dX2_keep_32 (top_eq (nI_add _ _) ?_)
          refine lv_aload_n S.1 S.2.1 dX2_keep_33 rfl (lv_at hl 1 rfl) ?_
          refine lv_iload_n S.1 S.2.1 dX2_keep_34 rfl (lv_at hl 2 rfl) ?_
          refine lv_bipush (v := nI 10) S.1 S.2.1 dX2_keep_35 (by decide) ?_
          refine lv_idiv S.1 S.2.1 dX2_keep_37 (by decide) (top_eq (pk_div (by omega) (by omega) (by omega)) ?_)
          refine lv_iload_n S.1 S.2.1 dX2_keep_38 rfl (lv_at hl 2 rfl) ?_
          refine lv_bipush (v := nI 10) S.1 S.2.1 dX2_keep_39 (by decide) ?_
          refine lv_irem S.1 S.2.1 dX2_keep_41 (by decide) (top_eq (pk_rem (by omega) (by omega) (by omega)) ?_)
          refine kVi S (c_X3_leastPrice (l := l) (D := D) (cI := cI) (cZ := cZ) (by first | assumption | omega) (by first | assumption | omega)) (cwV 2 S.2.2.2.2 gX2_keep_X3_leastPrice rfl rfl rfl ⟨rfl, v_X3_leastPrice⟩ ⟨(Nat.le_of_ble_eq_true rfl), (Nat.le_of_ble_eq_true rfl)⟩) hk hW 2 rfl rfl rfl rfl hl rfl (Nat.le_of_ble_eq_true rfl) dX2_keep_42 ⟨Nat.le_of_eq (Nat.add_zero _ |>.trans (Nat.zero_add _)), Nat.le_of_eq (Nat.add_zero _ |>.trans (Nat.zero_add _))⟩ (fun r u H locs hp hW => ?_)
          obtain ⟨rfl, rfl⟩ := hp
          refine ist (w' := wC q qf'_1 cI cZ g C R rw (gL rw len) (upd F1 ((rw * 100) + i) (prI (C ((i / 10) * 10 + (i % 10))))) sz X mk) S hk hW 12 rfl ((rw * 100) + i) rfl (by omega) (by omega) dX2_keep_45 rfl (fun H locs hW => ?_)
          refine lv_iinc (v := nI (i + 1)) (lv' := [(2, .int (nI (i + 1))), (0, .ref (q 3)), (1, .ref (q 2))]) (k := 2) S.1 S.2.1 dX2_keep_46 hl rfl (nI_1 _) (by decide) rfl (fun ls hl => ?_)
          refine lv_goto (tgt := 14) S.1 S.2.1 dX2_keep_49 (by decide) ?_
          exact ih14 (i + 1) (upd F1 ((rw * 100) + i) (prI (C ((i / 10) * 10 + (i % 10))))) (keepF_step hF (by omega)) (by omega) (by omega) _ _ _ hW (lv_sub hl [1, 2, 0] rfl)
    exact L14 (100 + 1) 0 F'_2 ⟨fun p hp => hFk p (by omega), fun p hp => absurd hp (Nat.not_lt_zero p)⟩ (by omega) (by omega) _ _ _ hW (lv_sub hl [1, 2, 0] rfl)
  · skip
    exact absurd c_4 (by simp only [Bool.not_eq_true', decide_eq_false_iff_not]; omega)
