abbrev r_X5_pairOf : Room := { frames := 0, cells := 0, slots := 0, locals := 0 }
theorem v_X5_pairOf : yX5_pairOf.cls ≠ "java/lang/invoke/MethodHandle" ∧ yX5_pairOf.cls ≠ "java/lang/invoke/VarHandle" ∧ (parseMethodDescriptor yX5_pairOf.desc).map (fun d => d.parameters.length) = some 2 := by decide +kernel
set_option maxRecDepth 100000 in
set_option maxHeartbeats 4000000 in
theorem c_X5_pairOf {l : Launch} {D : va_G} {cI cZ cF : ClassId} {w : va_W} {a b : Nat}  : cI_ l D cI cZ cF yX5_pairOf wsX5_pairOf r_X5_pairOf [.int (nI a), .int (nI b)] (w) (fun r u => r = nI (a * 10 + b) ∧ u = w) 0 0 := by
  refine cI_of (cc := cX5_pairOf) (maxL := 2) (rt := .int) (plainFor_of_name (by decide +kernel)) rfl (Nat.le_of_ble_eq_true rfl) ?_
  intro p e s m args below meth c A Q ls S hk hW hl hR
  have hl : lv_has ls 2 [(0, .int (nI a)), (1, .int (nI b))] := hl
  refine lv_iload_n S.1 S.2.1 dX5_pairOf_0 rfl (lv_at hl 0 rfl) ?_
  refine lv_bipush (v := nI 10) S.1 S.2.1 dX5_pairOf_1 (by decide) ?_
  refine lv_imul S.1 S.2.1 dX5_pairOf_3 (top_eq (pk_mul _ _) ?_)
  refine lv_iload_n S.1 S.2.1 dX5_pairOf_4 rfl (lv_at hl 1 rfl) ?_
  refine lv_iadd S.1 S.2.1 dX5_pairOf_5 (top_eq (nI_add _ _) ?_)
  exact hR _ _ _ _ _ _ _ _ dX5_pairOf_6 rfl (Nat.le_of_ble_eq_true rfl) (Nat.le_of_ble_eq_true rfl) hW ⟨rfl, rfl⟩
abbrev r_X4_priceIn : Room := { frames := 1, cells := 0, slots := 0, locals := 22 }
theorem v_X4_priceIn : yX4_priceIn.cls ≠ "java/lang/invoke/MethodHandle" ∧ yX4_priceIn.cls ≠ "java/lang/invoke/VarHandle" ∧ (parseMethodDescriptor yX4_priceIn.desc).map (fun d => d.parameters.length) = some 1 := by decide +kernel
set_option maxRecDepth 100000 in
set_option maxHeartbeats 4000000 in
theorem c_X4_priceIn {l : Launch} {D : va_G} {cI cZ cF : ClassId} {w : va_W} {z : Int32}  : cI_ l D cI cZ cF yX4_priceIn wsX4_priceIn r_X4_priceIn [.int z] (w) (fun r u => r = prI z ∧ u = w) 0 0 := by
  refine cI_of (cc := cX4_priceIn) (maxL := 1) (rt := .int) (plainFor_of_name (by decide +kernel)) rfl (Nat.le_of_ble_eq_true rfl) ?_
  intro p e s m args below meth c A Q ls S hk hW hl hR
  have hl : lv_has ls 1 [(0, .int z)] := hl
  refine lv_iload_n S.1 S.2.1 dX4_priceIn_0 rfl (lv_at hl 0 rfl) ?_
  refine lv_ldc (v := 1073741824) S.1 S.2.1 S.2.2.2.1 (S.2.2.2.2 _ (List.mem_of_getElem? (i := 1) rfl)) dX4_priceIn_1 ?_
  refine lv_icmp_ne (tgt := 12) S.1 S.2.1 dX4_priceIn_3 (by decide) (fun c_3 => ?_) (fun c_3 => ?_)
  · skip
    refine lv_iload_n S.1 S.2.1 dX4_priceIn_12 rfl (lv_at hl 0 rfl) ?_
    refine lv_bipush (v := nI 64) S.1 S.2.1 dX4_priceIn_13 (by decide) ?_
    refine kSi S (c_J9_floorDiv_7cf53 (l := l) (D := D) (cI := cI) (cZ := cZ) (cF := cF) (by decide)) (va_cwS 2 S.2.2.2.2 gX4_priceIn_J9_floorDiv_7cf53 rfl rfl rfl v_J9_floorDiv_7cf53 ⟨(Nat.le_of_ble_eq_true rfl), (Nat.le_of_ble_eq_true rfl)⟩) hk hW rfl hl rfl (Nat.le_of_ble_eq_true rfl) dX4_priceIn_15 ⟨(Nat.le_of_ble_eq_true rfl), (Nat.le_of_ble_eq_true rfl)⟩ (fun r u H locs hp hW => ?_)
    obtain ⟨rfl, hu⟩ := hp
    rw [hu] at hW
    exact hR _ _ _ _ _ _ _ _ dX4_priceIn_18 rfl (Nat.le_of_ble_eq_true rfl) (Nat.le_of_ble_eq_true rfl) hW ⟨(by simp only [prI, eq_false c_3, eq_self, Nat.add_zero, decide_false, decide_true, Bool.not_true, Bool.not_false, Bool.and_true, Bool.true_and, Bool.and_false, Bool.false_and, Bool.or_true, Bool.true_or, Bool.or_false, Bool.false_or, ↓reduceIte, cond_true, cond_false, bI, and_true, true_and, and_false, false_and, or_true, true_or, or_false, false_or, not_true_eq_false, not_false_eq_true, if_true, if_false, Bool.false_eq_true, reduceCtorEq, ite_true, ite_false]), rfl⟩
  · skip
    refine lv_sipush (v := (-1000)) S.1 S.2.1 dX4_priceIn_6 (by decide) ?_
    refine lv_goto (tgt := 18) S.1 S.2.1 dX4_priceIn_9 (by decide) ?_
    exact hR _ _ _ _ _ _ _ _ dX4_priceIn_18 rfl (Nat.le_of_ble_eq_true rfl) (Nat.le_of_ble_eq_true rfl) hW ⟨(by simp only [prI, eq_true c_3, eq_self, Nat.add_zero, decide_false, decide_true, Bool.not_true, Bool.not_false, Bool.and_true, Bool.true_and, Bool.and_false, Bool.false_and, Bool.or_true, Bool.true_or, Bool.or_false, Bool.false_or, ↓reduceIte, cond_true, cond_false, bI, and_true, true_and, and_false, false_and, or_true, true_or, or_false, false_or, not_true_eq_false, not_false_eq_true, if_true, if_false, Bool.false_eq_true, reduceCtorEq, ite_true, ite_false]), rfl⟩
abbrev r_X4_closesBelow : Room := { frames := 0, cells := 0, slots := 0, locals := 0 }
theorem v_X4_closesBelow : yX4_closesBelow.cls ≠ "java/lang/invoke/MethodHandle" ∧ yX4_closesBelow.cls ≠ "java/lang/invoke/VarHandle" ∧ (parseMethodDescriptor yX4_closesBelow.desc).map (fun d => d.parameters.length) = some 2 := by decide +kernel
set_option maxRecDepth 100000 in
set_option maxHeartbeats 4000000 in
theorem c_X4_closesBelow {l : Launch} {D : va_G} {cI cZ cF : ClassId} {w : va_W} {v z : Int32}  : cI_ l D cI cZ cF yX4_closesBelow wsX4_closesBelow r_X4_closesBelow [.int v, .int z] (w) (fun r u => r = bI (clB v z) ∧ u = w) 0 0 := by
  refine cI_of (cc := cX4_closesBelow) (maxL := 2) (rt := .boolean) (plainFor_of_name (by decide +kernel)) rfl (Nat.le_of_ble_eq_true rfl) ?_
  intro p e s m args below meth c A Q ls S hk hW hl hR
  have hl : lv_has ls 2 [(0, .int v), (1, .int z)] := hl
  refine lv_iload_n S.1 S.2.1 dX4_closesBelow_0 rfl (lv_at hl 1 rfl) ?_
  refine lv_sipush (v := (-1000)) S.1 S.2.1 dX4_closesBelow_1 (by decide) ?_
  refine lv_icmp_eq (tgt := 17) S.1 S.2.1 dX4_closesBelow_4 (by decide) (fun c_4 => ?_) (fun c_4 => ?_)
  · skip
    refine lv_iconst (v := nI 0) S.1 S.2.1 dX4_closesBelow_17 (by decide) ?_
    exact hR _ _ _ _ _ _ _ _ dX4_closesBelow_18 rfl (Nat.le_of_ble_eq_true rfl) (Nat.le_of_ble_eq_true rfl) hW ⟨(by simp only [clB, eq_true c_4, eq_self, Nat.add_zero, decide_false, decide_true, Bool.not_true, Bool.not_false, Bool.and_true, Bool.true_and, Bool.and_false, Bool.false_and, Bool.or_true, Bool.true_or, Bool.or_false, Bool.false_or, ↓reduceIte, cond_true, cond_false, bI, and_true, true_and, and_false, false_and, or_true, true_or, or_false, false_or, not_true_eq_false, not_false_eq_true, if_true, if_false, Bool.false_eq_true, reduceCtorEq, ite_true, ite_false]), rfl⟩
  · skip
    refine lv_iload_n S.1 S.2.1 dX4_closesBelow_7 rfl (lv_at hl 0 rfl) ?_
    refine lv_iload_n S.1 S.2.1 dX4_closesBelow_8 rfl (lv_at hl 1 rfl) ?_
    refine lv_iadd S.1 S.2.1 dX4_closesBelow_9 ?_
    refine lv_if_ge (tgt := 17) S.1 S.2.1 dX4_closesBelow_10 (by decide) (fun c_10 => ?_) (fun c_10 => ?_)
    · skip
      refine lv_iconst (v := nI 0) S.1 S.2.1 dX4_closesBelow_17 (by decide) ?_
      exact hR _ _ _ _ _ _ _ _ dX4_closesBelow_18 rfl (Nat.le_of_ble_eq_true rfl) (Nat.le_of_ble_eq_true rfl) hW ⟨(by simp only [clB, eq_false c_4, eq_true c_10, eq_self, Nat.add_zero, decide_false, decide_true, Bool.not_true, Bool.not_false, Bool.and_true, Bool.true_and, Bool.and_false, Bool.false_and, Bool.or_true, Bool.true_or, Bool.or_false, Bool.false_or, ↓reduceIte, cond_true, cond_false, bI, and_true, true_and, and_false, false_and, or_true, true_or, or_false, false_or, not_true_eq_false, not_false_eq_true, if_true, if_false, Bool.false_eq_true, reduceCtorEq, ite_true, ite_false]), rfl⟩
    · skip
      refine lv_iconst (v := nI 1) S.1 S.2.1 dX4_closesBelow_13 (by decide) ?_
      refine lv_goto (tgt := 18) S.1 S.2.1 dX4_closesBelow_14 (by decide) ?_
      exact hR _ _ _ _ _ _ _ _ dX4_closesBelow_18 rfl (Nat.le_of_ble_eq_true rfl) (Nat.le_of_ble_eq_true rfl) hW ⟨(by simp only [clB, eq_false c_4, eq_false c_10, eq_self, Nat.add_zero, decide_false, decide_true, Bool.not_true, Bool.not_false, Bool.and_true, Bool.true_and, Bool.and_false, Bool.false_and, Bool.or_true, Bool.true_or, Bool.or_false, Bool.false_or, ↓reduceIte, cond_true, cond_false, bI, and_true, true_and, and_false, false_and, or_true, true_or, or_false, false_or, not_true_eq_false, not_false_eq_true, if_true, if_false, Bool.false_eq_true, reduceCtorEq, ite_true, ite_false]), rfl⟩
abbrev r_X4_leads : Room := { frames := 1, cells := 0, slots := 0, locals := 21 }
theorem v_X4_leads : yX4_leads.cls ≠ "java/lang/invoke/MethodHandle" ∧ yX4_leads.cls ≠ "java/lang/invoke/VarHandle" ∧ (parseMethodDescriptor yX4_leads.desc).map (fun d => d.parameters.length) = some 2 := by decide +kernel
set_option maxRecDepth 100000 in
set_option maxHeartbeats 4000000 in
theorem c_X4_leads {l : Launch} {D : va_G} {cI cZ cF : ClassId} {q : Nat → Nat} {qf : Nat → Nat} {g : Gr} {C R : Nat → Int32} {rw len : Nat} {F : Nat → Int32} {sz : Nat} {X : Nat → Int32} {mk : Int32} {a b : Nat} (ha : a < 10) (hb : b < 10) : cI_ l D cI cZ cF yX4_leads wsX4_leads r_X4_leads [.ref (q 2), .int (nI a), .int (nI b)] (wC q qf cI cZ cF g C R rw len F sz X mk) (fun r u => r = bI (ldB C a b) ∧ u = wC q qf cI cZ cF g C R rw len F sz X mk) 0 0 := by
  refine cI_of (cc := cX4_leads) (maxL := 3) (rt := .boolean) (plainFor_of_name (by decide +kernel)) rfl (Nat.le_of_ble_eq_true rfl) ?_
  intro p e s m args below meth c A Q ls S hk hW hl hR
  have hl : lv_has ls 3 [(0, .ref (q 2)), (1, .int (nI a)), (2, .int (nI b))] := hl
  have hwsX40 : ∀ x ∈ wsX40, x ∈ wsX4_leads := fun x h => List.mem_cons_of_mem _ (List.mem_append_right _ h)
  refine lv_aload_n S.1 S.2.1 dX4_leads_0 rfl (lv_at hl 0 rfl) ?_
  refine gf S hk hW 2 rfl rfl hwsX40 1 (by decide) 1 rfl rfl dX4_leads_1 ?_
  refine lv_iload_n S.1 S.2.1 dX4_leads_4 rfl (lv_at hl 1 rfl) ?_
  refine lv_iload_n S.1 S.2.1 dX4_leads_5 rfl (lv_at hl 2 rfl) ?_
  refine kNi S (c_X5_pairOf (l := l) (D := D) (cI := cI) (cZ := cZ) (cF := cF)) ⟨va_cnB (host := RX5) 2 S.2.2.2.2 gX4_leads_X5_pairOf_n39 rfl rfl rfl (hk.2.1.1 _ (List.mem_of_getElem? (i := 14) rfl)) (S.2.2.2.2 _ (List.mem_of_getElem? (i := 4) rfl)) v_X5_pairOf ⟨(Nat.le_of_ble_eq_true rfl), (Nat.le_of_ble_eq_true rfl)⟩, S.2.2.2.2 _ (List.mem_of_getElem? (i := 3) rfl), trivial⟩ hk hW rfl hl rfl (Nat.le_of_ble_eq_true rfl) dX4_leads_6 ⟨(Nat.le_of_ble_eq_true rfl), (Nat.le_of_ble_eq_true rfl)⟩ (fun r u H locs hp hW => ?_)
  obtain ⟨rfl, rfl⟩ := hp
  refine ild S hk hW 10 rfl (a * 10 + b) rfl (by omega) (by omega) dX4_leads_9 ?_
  refine lv_ldc (v := 1073741824) S.1 S.2.1 S.2.2.2.1 (S.2.2.2.2 _ (List.mem_of_getElem? (i := 2) rfl)) dX4_leads_10 ?_
  refine lv_icmp_eq (tgt := 19) S.1 S.2.1 dX4_leads_12 (by decide) (fun c_12 => ?_) (fun c_12 => ?_)
  · skip
    refine lv_iconst (v := nI 0) S.1 S.2.1 dX4_leads_19 (by decide) ?_
    exact hR _ _ _ _ _ _ _ _ dX4_leads_20 rfl (Nat.le_of_ble_eq_true rfl) (Nat.le_of_ble_eq_true rfl) hW ⟨(by simp only [ldB, eq_true c_12, eq_self, Nat.add_zero, decide_false, decide_true, Bool.not_true, Bool.not_false, Bool.and_true, Bool.true_and, Bool.and_false, Bool.false_and, Bool.or_true, Bool.true_or, Bool.or_false, Bool.false_or, ↓reduceIte, cond_true, cond_false, bI, and_true, true_and, and_false, false_and, or_true, true_or, or_false, false_or, not_true_eq_false, not_false_eq_true, if_true, if_false, Bool.false_eq_true, reduceCtorEq, ite_true, ite_false]), rfl⟩
  · skip
    refine lv_iconst (v := nI 1) S.1 S.2.1 dX4_leads_15 (by decide) ?_
    refine lv_goto (tgt := 20) S.1 S.2.1 dX4_leads_16 (by decide) ?_
    exact hR _ _ _ _ _ _ _ _ dX4_leads_20 rfl (Nat.le_of_ble_eq_true rfl) (Nat.le_of_ble_eq_true rfl) hW ⟨(by simp only [ldB, eq_false c_12, eq_self, Nat.add_zero, decide_false, decide_true, Bool.not_true, Bool.not_false, Bool.and_true, Bool.true_and, Bool.and_false, Bool.false_and, Bool.or_true, Bool.true_or, Bool.or_false, Bool.false_or, ↓reduceIte, cond_true, cond_false, bI, and_true, true_and, and_false, false_and, or_true, true_or, or_false, false_or, not_true_eq_false, not_false_eq_true, if_true, if_false, Bool.false_eq_true, reduceCtorEq, ite_true, ite_false]), rfl⟩
abbrev r_X4_leastPrice : Room := { frames := 2, cells := 0, slots := 0, locals := 42 }
theorem v_X4_leastPrice : yX4_leastPrice.cls ≠ "java/lang/invoke/MethodHandle" ∧ yX4_leastPrice.cls ≠ "java/lang/invoke/VarHandle" ∧ (parseMethodDescriptor yX4_leastPrice.desc).map (fun d => d.parameters.length) = some 2 := by decide +kernel
set_option maxRecDepth 100000 in
set_option maxHeartbeats 4000000 in
theorem c_X4_leastPrice {l : Launch} {D : va_G} {cI cZ cF : ClassId} {q : Nat → Nat} {qf : Nat → Nat} {g : Gr} {C R : Nat → Int32} {rw len : Nat} {F : Nat → Int32} {sz : Nat} {X : Nat → Int32} {mk : Int32} {a b : Nat} (ha : a < 10) (hb : b < 10) : cI_ l D cI cZ cF yX4_leastPrice wsX4_leastPrice r_X4_leastPrice [.ref (q 2), .int (nI a), .int (nI b)] (wC q qf cI cZ cF g C R rw len F sz X mk) (fun r u => r = prI (C (a * 10 + b)) ∧ u = wC q qf cI cZ cF g C R rw len F sz X mk) 0 0 := by
  refine cI_of (cc := cX4_leastPrice) (maxL := 3) (rt := .int) (plainFor_of_name (by decide +kernel)) rfl (Nat.le_of_ble_eq_true rfl) ?_
  intro p e s m args below meth c A Q ls S hk hW hl hR
  have hl : lv_has ls 3 [(0, .ref (q 2)), (1, .int (nI a)), (2, .int (nI b))] := hl
  have hwsX40 : ∀ x ∈ wsX40, x ∈ wsX4_leastPrice := fun x h => List.mem_cons_of_mem _ (List.mem_append_right _ h)
  refine lv_aload_n S.1 S.2.1 dX4_leastPrice_0 rfl (lv_at hl 0 rfl) ?_
  refine gf S hk hW 2 rfl rfl hwsX40 1 (by decide) 1 rfl rfl dX4_leastPrice_1 ?_
  refine lv_iload_n S.1 S.2.1 dX4_leastPrice_4 rfl (lv_at hl 1 rfl) ?_
  refine lv_iload_n S.1 S.2.1 dX4_leastPrice_5 rfl (lv_at hl 2 rfl) ?_
  refine kNi S (c_X5_pairOf (l := l) (D := D) (cI := cI) (cZ := cZ) (cF := cF)) ⟨va_cnB (host := RX5) 2 S.2.2.2.2 gX4_leastPrice_X5_pairOf_n39 rfl rfl rfl (hk.2.1.1 _ (List.mem_of_getElem? (i := 14) rfl)) (S.2.2.2.2 _ (List.mem_of_getElem? (i := 3) rfl)) v_X5_pairOf ⟨(Nat.le_of_ble_eq_true rfl), (Nat.le_of_ble_eq_true rfl)⟩, S.2.2.2.2 _ (List.mem_of_getElem? (i := 2) rfl), trivial⟩ hk hW rfl hl rfl (Nat.le_of_ble_eq_true rfl) dX4_leastPrice_6 ⟨(Nat.le_of_ble_eq_true rfl), (Nat.le_of_ble_eq_true rfl)⟩ (fun r u H locs hp hW => ?_)
  obtain ⟨rfl, rfl⟩ := hp
  refine ild S hk hW 10 rfl (a * 10 + b) rfl (by omega) (by omega) dX4_leastPrice_9 ?_
  refine kSi S (c_X4_priceIn (l := l) (D := D) (cI := cI) (cZ := cZ) (cF := cF)) (va_cwS 1 S.2.2.2.2 gX4_leastPrice_X4_priceIn rfl rfl rfl v_X4_priceIn ⟨(Nat.le_of_ble_eq_true rfl), (Nat.le_of_ble_eq_true rfl)⟩) hk hW rfl hl rfl (Nat.le_of_ble_eq_true rfl) dX4_leastPrice_10 ⟨(Nat.le_of_ble_eq_true rfl), (Nat.le_of_ble_eq_true rfl)⟩ (fun r u H locs hp hW => ?_)
  obtain ⟨rfl, rfl⟩ := hp
  exact hR _ _ _ _ _ _ _ _ dX4_leastPrice_13 rfl (Nat.le_of_ble_eq_true rfl) (Nat.le_of_ble_eq_true rfl) hW ⟨rfl, rfl⟩
abbrev r_X4_length : Room := { frames := 1, cells := 0, slots := 0, locals := 22 }
theorem v_X4_length : yX4_length.cls ≠ "java/lang/invoke/MethodHandle" ∧ yX4_length.cls ≠ "java/lang/invoke/VarHandle" ∧ (parseMethodDescriptor yX4_length.desc).map (fun d => d.parameters.length) = some 2 := by decide +kernel
set_option maxRecDepth 100000 in
set_option maxHeartbeats 4000000 in
theorem c_X4_length {l : Launch} {D : va_G} {cI cZ cF : ClassId} {q : Nat → Nat} {qf : Nat → Nat} {g : Gr} {C R : Nat → Int32} {rw len : Nat} {F : Nat → Int32} {sz : Nat} {X : Nat → Int32} {mk : Int32} {a b : Nat} (ha : a < 10) (hb : b < 10) : cI_ l D cI cZ cF yX4_length wsX4_length r_X4_length [.ref (q 2), .int (nI a), .int (nI b)] (wC q qf cI cZ cF g C R rw len F sz X mk) (fun r u => r = lnI (C (a * 10 + b)) ∧ u = wC q qf cI cZ cF g C R rw len F sz X mk) 0 0 := by
  refine cI_of (cc := cX4_length) (maxL := 4) (rt := .int) (plainFor_of_name (by decide +kernel)) rfl (Nat.le_of_ble_eq_true rfl) ?_
  intro p e s m args below meth c A Q ls S hk hW hl hR
  have hl : lv_has ls 4 [(0, .ref (q 2)), (1, .int (nI a)), (2, .int (nI b))] := hl
  have hwsX40 : ∀ x ∈ wsX40, x ∈ wsX4_length := fun x h => List.mem_cons_of_mem _ (List.mem_append_right _ h)
  refine lv_aload_n S.1 S.2.1 dX4_length_0 rfl (lv_at hl 0 rfl) ?_
  refine gf S hk hW 2 rfl rfl hwsX40 1 (by decide) 1 rfl rfl dX4_length_1 ?_
  refine lv_iload_n S.1 S.2.1 dX4_length_4 rfl (lv_at hl 1 rfl) ?_
  refine lv_iload_n S.1 S.2.1 dX4_length_5 rfl (lv_at hl 2 rfl) ?_
  refine kNi S (c_X5_pairOf (l := l) (D := D) (cI := cI) (cZ := cZ) (cF := cF)) ⟨va_cnB (host := RX5) 2 S.2.2.2.2 gX4_length_X5_pairOf_n39 rfl rfl rfl (hk.2.1.1 _ (List.mem_of_getElem? (i := 14) rfl)) (S.2.2.2.2 _ (List.mem_of_getElem? (i := 4) rfl)) v_X5_pairOf ⟨(Nat.le_of_ble_eq_true rfl), (Nat.le_of_ble_eq_true rfl)⟩, S.2.2.2.2 _ (List.mem_of_getElem? (i := 3) rfl), trivial⟩ hk hW rfl hl rfl (Nat.le_of_ble_eq_true rfl) dX4_length_6 ⟨(Nat.le_of_ble_eq_true rfl), (Nat.le_of_ble_eq_true rfl)⟩ (fun r u H locs hp hW => ?_)
  obtain ⟨rfl, rfl⟩ := hp
  refine ild S hk hW 10 rfl (a * 10 + b) rfl (by omega) (by omega) dX4_length_9 ?_
  refine lv_istore_n (lv' := [(3, .int (C (a * 10 + b))), (0, .ref (q 2)), (1, .int (nI a)), (2, .int (nI b))]) S.1 S.2.1 dX4_length_10 rfl hl (by decide) rfl (fun ls hl => ?_)
  refine lv_iload_n S.1 S.2.1 dX4_length_11 rfl (lv_at hl 0 rfl) ?_
  refine lv_ldc (v := 1073741824) S.1 S.2.1 S.2.2.2.1 (S.2.2.2.2 _ (List.mem_of_getElem? (i := 2) rfl)) dX4_length_12 ?_
  refine lv_icmp_ne (tgt := 23) S.1 S.2.1 dX4_length_14 (by decide) (fun c_14 => ?_) (fun c_14 => ?_)
  · skip
    refine lv_iload_n S.1 S.2.1 dX4_length_23 rfl (lv_at hl 0 rfl) ?_
    refine lv_bipush (v := nI 64) S.1 S.2.1 dX4_length_24 (by decide) ?_
    refine kSi S (c_J9_floorMod_7cf53 (l := l) (D := D) (cI := cI) (cZ := cZ) (cF := cF) (by decide)) (va_cwS 2 S.2.2.2.2 gX4_length_J9_floorMod_7cf53 rfl rfl rfl v_J9_floorMod_7cf53 ⟨(Nat.le_of_ble_eq_true rfl), (Nat.le_of_ble_eq_true rfl)⟩) hk hW rfl hl rfl (Nat.le_of_ble_eq_true rfl) dX4_length_26 ⟨(Nat.le_of_ble_eq_true rfl), (Nat.le_of_ble_eq_true rfl)⟩ (fun r u H locs hp hW => ?_)
    obtain ⟨rfl, rfl⟩ := hp
    exact hR _ _ _ _ _ _ _ _ dX4_length_29 rfl (Nat.le_of_ble_eq_true rfl) (Nat.le_of_ble_eq_true rfl) hW ⟨(by simp only [lnI, eq_false c_14, eq_self, Nat.add_zero, decide_false, decide_true, Bool.not_true, Bool.not_false, Bool.and_true, Bool.true_and, Bool.and_false, Bool.false_and, Bool.or_true, Bool.true_or, Bool.or_false, Bool.false_or, ↓reduceIte, cond_true, cond_false, bI, and_true, true_and, and_false, false_and, or_true, true_or, or_false, false_or, not_true_eq_false, not_false_eq_true, if_true, if_false, Bool.false_eq_true, reduceCtorEq, ite_true, ite_false]), rfl⟩
  · skip
    refine lv_sipush (v := (-1000)) S.1 S.2.1 dX4_length_17 (by decide) ?_
    refine lv_goto (tgt := 29) S.1 S.2.1 dX4_length_20 (by decide) ?_
    exact hR _ _ _ _ _ _ _ _ dX4_length_29 rfl (Nat.le_of_ble_eq_true rfl) (Nat.le_of_ble_eq_true rfl) hW ⟨(by simp only [lnI, eq_true c_14, eq_self, Nat.add_zero, decide_false, decide_true, Bool.not_true, Bool.not_false, Bool.and_true, Bool.true_and, Bool.and_false, Bool.false_and, Bool.or_true, Bool.true_or, Bool.or_false, Bool.false_or, ↓reduceIte, cond_true, cond_false, bI, and_true, true_and, and_false, false_and, or_true, true_or, or_false, false_or, not_true_eq_false, not_false_eq_true, if_true, if_false, Bool.false_eq_true, reduceCtorEq, ite_true, ite_false]), rfl⟩
abbrev r_X4_costOf : Room := { frames := 0, cells := 0, slots := 0, locals := 0 }
theorem v_X4_costOf : yX4_costOf.cls ≠ "java/lang/invoke/MethodHandle" ∧ yX4_costOf.cls ≠ "java/lang/invoke/VarHandle" ∧ (parseMethodDescriptor yX4_costOf.desc).map (fun d => d.parameters.length) = some 1 := by decide +kernel
set_option maxRecDepth 100000 in
set_option maxHeartbeats 4000000 in
theorem c_X4_costOf {l : Launch} {D : va_G} {cI cZ cF : ClassId} {q : Nat → Nat} {qf : Nat → Nat} {g : Gr} {C R : Nat → Int32} {rw len : Nat} {F : Nat → Int32} {sz : Nat} {X : Nat → Int32} {mk : Int32} {j : Nat} (hj : j < 40) : cI_ l D cI cZ cF yX4_costOf wsX4_costOf r_X4_costOf [.ref (q 2), .int (nI j)] (wC q qf cI cZ cF g C R rw len F sz X mk) (fun r u => r = cw g j ∧ u = wC q qf cI cZ cF g C R rw len F sz X mk) 0 0 := by
  refine cI_of (cc := cX4_costOf) (maxL := 2) (rt := .int) (plainFor_of_name (by decide +kernel)) rfl (Nat.le_of_ble_eq_true rfl) ?_
  intro p e s m args below meth c A Q ls S hk hW hl hR
  have hl : lv_has ls 2 [(0, .ref (q 2)), (1, .int (nI j))] := hl
  have hwsX40 : ∀ x ∈ wsX40, x ∈ wsX4_costOf := fun x h => List.mem_cons_of_mem _ (List.mem_append_left _ (List.mem_append_right _ h))
  have hwsX20 : ∀ x ∈ wsX20, x ∈ wsX4_costOf := fun x h => List.mem_cons_of_mem _ (List.mem_append_right _ h)
  refine lv_aload_n S.1 S.2.1 dX4_costOf_0 rfl (lv_at hl 0 rfl) ?_
  refine gf S hk hW 2 rfl rfl hwsX40 0 (by decide) 1 rfl rfl dX4_costOf_1 ?_
  refine gfN (host := RX5) S hk hW 1 rfl rfl hwsX20 2 (by decide) 9 rfl rfl dX4_costOf_4 ?_
  refine lv_iload_n S.1 S.2.1 dX4_costOf_7 rfl (lv_at hl 1 rfl) ?_
  refine ild S hk hW 7 rfl j rfl (by omega) (by omega) dX4_costOf_8 ?_
  refine lv_bipush (v := nI 64) S.1 S.2.1 dX4_costOf_9 (by decide) ?_
  refine lv_imul S.1 S.2.1 dX4_costOf_11 ?_
  refine lv_iconst (v := nI 1) S.1 S.2.1 dX4_costOf_12 (by decide) ?_
  refine lv_iadd S.1 S.2.1 dX4_costOf_13 ?_
  exact hR _ _ _ _ _ _ _ _ dX4_costOf_14 rfl (Nat.le_of_ble_eq_true rfl) (Nat.le_of_ble_eq_true rfl) hW ⟨rfl, rfl⟩
abbrev r_X4_lineToward : Room := { frames := 2, cells := 0, slots := 0, locals := 43 }
theorem v_X4_lineToward : yX4_lineToward.cls ≠ "java/lang/invoke/MethodHandle" ∧ yX4_lineToward.cls ≠ "java/lang/invoke/VarHandle" ∧ (parseMethodDescriptor yX4_lineToward.desc).map (fun d => d.parameters.length) = some 2 := by decide +kernel
set_option maxRecDepth 100000 in
set_option maxHeartbeats 4000000 in
theorem c_X4_lineToward {l : Launch} {D : va_G} {cI cZ cF : ClassId} {q : Nat → Nat} {qf : Nat → Nat} {g : Gr} {C R : Nat → Int32} {rw len : Nat} {F : Nat → Int32} {sz : Nat} {X : Nat → Int32} {mk : Int32} {x : Int32} {b : Nat} (G : Gok g) (hb : b < gN g) : cI_ l D cI cZ cF yX4_lineToward wsX4_lineToward r_X4_lineToward [.ref (q 2), .int x, .int (nI b)] (wC q qf cI cZ cF g C R rw len F sz X mk) (fun r u => r = nx g C x b ∧ u = wC q qf cI cZ cF g C R rw len F sz X mk) 0 0 := by
  refine cI_of (cc := cX4_lineToward) (maxL := 6) (rt := .int) (plainFor_of_name (by decide +kernel)) rfl (Nat.le_of_ble_eq_true rfl) ?_
  intro p e s m args below meth c A Q ls S hk hW hl hR
  have hl : lv_has ls 6 [(0, .ref (q 2)), (1, .int x), (2, .int (nI b))] := hl
  have hwsX40 : ∀ x ∈ wsX40, x ∈ wsX4_lineToward := fun x h => List.mem_cons_of_mem _ (List.mem_append_left _ (List.mem_append_right _ h))
  have hwsX20 : ∀ x ∈ wsX20, x ∈ wsX4_lineToward := fun x h => List.mem_cons_of_mem _ (List.mem_append_right _ h)
  have hN := Gok_N G; have hN2 := Gok_N2 G; have hKK := Gok_K G
  refine lv_aload_n S.1 S.2.1 dX4_lineToward_0 rfl (lv_at hl 0 rfl) ?_
  refine gf S hk hW 2 rfl rfl hwsX40 0 (by decide) 1 rfl rfl dX4_lineToward_1 ?_
  refine lv_iload_n S.1 S.2.1 dX4_lineToward_4 rfl (lv_at hl 1 rfl) ?_
  refine kVi S (c_X2_hasPost (l := l) (D := D) (cI := cI) (cZ := cZ) (cF := cF)) (cwV 1 S.2.2.2.2 gX4_lineToward_X2_hasPost rfl rfl rfl ⟨rfl, v_X2_hasPost⟩ ⟨(Nat.le_of_ble_eq_true rfl), (Nat.le_of_ble_eq_true rfl)⟩) hk hW 1 rfl rfl rfl rfl hl rfl (Nat.le_of_ble_eq_true rfl) dX4_lineToward_5 ⟨(Nat.le_of_ble_eq_true rfl), (Nat.le_of_ble_eq_true rfl)⟩ (fun r u H locs hp hW => ?_)
  obtain ⟨rfl, rfl⟩ := hp
  refine ifeq_b (tgt := 20) S dX4_lineToward_8 (by decide) (fun c_8 => ?_) (fun c_8 => ?_)
  · skip
    refine lv_iconst (v := (-1)) S.1 S.2.1 dX4_lineToward_20 (by decide) ?_
    exact hR _ _ _ _ _ _ _ _ dX4_lineToward_21 rfl (Nat.le_of_ble_eq_true rfl) (Nat.le_of_ble_eq_true rfl) hW ⟨(by simp only [nx, c_8, eq_self, Nat.add_zero, decide_false, decide_true, Bool.not_true, Bool.not_false, Bool.and_true, Bool.true_and, Bool.and_false, Bool.false_and, Bool.or_true, Bool.true_or, Bool.or_false, Bool.false_or, ↓reduceIte, cond_true, cond_false, bI, and_true, true_and, and_false, false_and, or_true, true_or, or_false, false_or, not_true_eq_false, not_false_eq_true, if_true, if_false, Bool.false_eq_true, reduceCtorEq, ite_true, ite_false]), rfl⟩
  · skip
    obtain ⟨a, ha, rfl⟩ := inb_nat c_8 (by omega)
    have hca : (nI a).toNatClampNeg = a := nI_clamp (by omega)
    refine lv_aload_n S.1 S.2.1 dX4_lineToward_11 rfl (lv_at hl 0 rfl) ?_
    refine lv_iload_n S.1 S.2.1 dX4_lineToward_12 rfl (lv_at hl 1 rfl) ?_
    refine lv_iload_n S.1 S.2.1 dX4_lineToward_13 rfl (lv_at hl 2 rfl) ?_
    refine kVi S (c_X4_leads (l := l) (D := D) (cI := cI) (cZ := cZ) (cF := cF) (by first | assumption | omega) (by first | assumption | omega)) (cwV 2 S.2.2.2.2 gX4_lineToward_X4_leads rfl rfl rfl ⟨rfl, v_X4_leads⟩ ⟨(Nat.le_of_ble_eq_true rfl), (Nat.le_of_ble_eq_true rfl)⟩) hk hW 2 rfl rfl rfl rfl hl rfl (Nat.le_of_ble_eq_true rfl) dX4_lineToward_14 ⟨(Nat.le_of_ble_eq_true rfl), (Nat.le_of_ble_eq_true rfl)⟩ (fun r u H locs hp hW => ?_)
    obtain ⟨rfl, rfl⟩ := hp
    refine ifne_b (tgt := 22) S dX4_lineToward_17 (by decide) (fun c_17 => ?_) (fun c_17 => ?_)
    · skip
      refine lv_aload_n S.1 S.2.1 dX4_lineToward_22 rfl (lv_at hl 0 rfl) ?_
      refine gf S hk hW 2 rfl rfl hwsX40 1 (by decide) 2 rfl rfl dX4_lineToward_23 ?_
      refine lv_iload_n S.1 S.2.1 dX4_lineToward_26 rfl (lv_at hl 1 rfl) ?_
      refine lv_iload_n S.1 S.2.1 dX4_lineToward_27 rfl (lv_at hl 2 rfl) ?_
      refine kNi S (c_X5_pairOf (l := l) (D := D) (cI := cI) (cZ := cZ) (cF := cF)) ⟨va_cnB (host := RX5) 2 S.2.2.2.2 gX4_lineToward_X5_pairOf_n39 rfl rfl rfl (hk.2.1.1 _ (List.mem_of_getElem? (i := 14) rfl)) (S.2.2.2.2 _ (List.mem_of_getElem? (i := 16) rfl)) v_X5_pairOf ⟨(Nat.le_of_ble_eq_true rfl), (Nat.le_of_ble_eq_true rfl)⟩, S.2.2.2.2 _ (List.mem_of_getElem? (i := 15) rfl), trivial⟩ hk hW rfl hl rfl (Nat.le_of_ble_eq_true rfl) dX4_lineToward_28 ⟨(Nat.le_of_ble_eq_true rfl), (Nat.le_of_ble_eq_true rfl)⟩ (fun r u H locs hp hW => ?_)
      obtain ⟨rfl, rfl⟩ := hp
      refine ild S hk hW 10 rfl (a * 10 + b) rfl (by omega) (by omega) dX4_lineToward_31 ?_
      refine lv_istore_n (lv' := [(3, .int (C (a * 10 + b))), (0, .ref (q 2)), (1, .int (nI a)), (2, .int (nI b))]) S.1 S.2.1 dX4_lineToward_32 rfl hl (by decide) rfl (fun ls hl => ?_)
      refine lv_iconst (v := nI 0) S.1 S.2.1 dX4_lineToward_33 (by decide) ?_
      refine lv_istore (lv' := [(4, .int (nI 0)), (3, .int (C (a * 10 + b))), (0, .ref (q 2)), (1, .int (nI a)), (2, .int (nI b))]) S.1 S.2.1 dX4_lineToward_34 hl (by decide) rfl (fun ls hl => ?_)
      have L36 : ∀ (dd : Nat), ∀ (i : Nat), (fj (nxP g C a b) (gK g) 0 = fj (nxP g C a b) (gK g - i) i) → (i ≤ gK g) → gK g < i + dd → ∀ (H : Heap) (locs : List Loc) (ls : Array Slot), wd D A s H locs (wC q qf cI cZ cF g C R rw len F sz X mk) → lv_has ls 6 [(0, .ref (q 2)), (1, .int (nI a)), (2, .int (nI b)), (3, .int (C (a * 10 + b))), (4, .int (nI i))] → W p l e r_X4_lineToward s m args below meth c H locs 0 0 Q (F0 m 36 ls []) := by
        intro dd
        induction dd with
        | zero => intros; omega
        | succ dd ih36 =>
          intro i hf hi hdd H locs ls hW hl
          refine lv_iload S.1 S.2.1 dX4_lineToward_36 (lv_at hl 4 rfl) ?_
          refine lv_aload_n S.1 S.2.1 dX4_lineToward_38 rfl (lv_at hl 0 rfl) ?_
          refine gf S hk hW 2 rfl rfl hwsX40 0 (by decide) 1 rfl rfl dX4_lineToward_39 ?_
          refine gfN (host := RX5) S hk hW 1 rfl rfl hwsX20 6 (by decide) 8 rfl rfl dX4_lineToward_42 ?_
          refine icge_n (tgt := 107) S (by omega) (by omega) dX4_lineToward_45 (by decide) (fun c_45 => ?_) (fun c_45 => ?_)
          · skip
            refine lv_iconst (v := (-1)) S.1 S.2.1 dX4_lineToward_107 (by decide) ?_
            exact hR _ _ _ _ _ _ _ _ dX4_lineToward_108 rfl (Nat.le_of_ble_eq_true rfl) (Nat.le_of_ble_eq_true rfl) hW ⟨(by simp only [nx, c_8, hca, c_17, if_true]; rw [fj_none hf (by omega)]; rfl), rfl⟩
          · skip
            refine lv_aload_n S.1 S.2.1 dX4_lineToward_48 rfl (lv_at hl 0 rfl) ?_
            refine gf S hk hW 2 rfl rfl hwsX40 0 (by decide) 1 rfl rfl dX4_lineToward_49 ?_
            refine lv_iload S.1 S.2.1 dX4_lineToward_52 (lv_at hl 4 rfl) ?_
            refine lv_iload_n S.1 S.2.1 dX4_lineToward_54 rfl (lv_at hl 1 rfl) ?_
            refine kVi S (c_X2_target (l := l) (D := D) (cI := cI) (cZ := cZ) (cF := cF) G) (cwV 2 S.2.2.2.2 gX4_lineToward_X2_target rfl rfl rfl ⟨rfl, v_X2_target⟩ ⟨(Nat.le_of_ble_eq_true rfl), (Nat.le_of_ble_eq_true rfl)⟩) hk hW 1 rfl rfl rfl rfl hl rfl (Nat.le_of_ble_eq_true rfl) dX4_lineToward_55 ⟨(Nat.le_of_ble_eq_true rfl), (Nat.le_of_ble_eq_true rfl)⟩ (fun r u H locs hp hW => ?_)
            obtain ⟨rfl, rfl⟩ := hp
            refine lv_istore (lv' := [(5, .int (tgt g (nI i) (nI a))), (0, .ref (q 2)), (1, .int (nI a)), (2, .int (nI b)), (3, .int (C (a * 10 + b))), (4, .int (nI i))]) S.1 S.2.1 dX4_lineToward_58 hl (by decide) rfl (fun ls hl => ?_)
            refine lv_iload S.1 S.2.1 dX4_lineToward_60 (lv_at hl 0 rfl) ?_
            refine lv_iconst (v := (-1)) S.1 S.2.1 dX4_lineToward_62 (by decide) ?_
            refine lv_icmp_eq (tgt := 101) S.1 S.2.1 dX4_lineToward_63 (by decide) (fun c_63 => ?_) (fun c_63 => ?_)
            · skip
              refine lv_iinc (v := nI (i + 1)) (lv' := [(4, .int (nI (i + 1))), (5, .int (tgt g (nI i) (nI a))), (0, .ref (q 2)), (1, .int (nI a)), (2, .int (nI b)), (3, .int (C (a * 10 + b)))]) (k := 5) S.1 S.2.1 dX4_lineToward_101 hl rfl (nI_1 _) (by decide) rfl (fun ls hl => ?_)
              refine lv_goto (tgt := 36) S.1 S.2.1 dX4_lineToward_104 (by decide) ?_
              exact ih36 (i + 1) (fj_step hf (by omega) (by simp only [nxP, c_8, c_17, eq_false c_45, eq_true c_63, eq_self, Nat.add_zero, decide_false, decide_true, Bool.not_true, Bool.not_false, Bool.and_true, Bool.true_and, Bool.and_false, Bool.false_and, Bool.or_true, Bool.true_or, Bool.or_false, Bool.false_or, ↓reduceIte, cond_true, cond_false, bI, and_true, true_and, and_false, false_and, or_true, true_or, or_false, false_or, not_true_eq_false, not_false_eq_true, if_true, if_false, Bool.false_eq_true, reduceCtorEq, ite_true, ite_false])) (by omega) (by omega) _ _ _ hW (lv_sub hl [2, 3, 4, 5, 0] rfl)
            · skip
              obtain ⟨t, ht, et⟩ := tgt_nat G c_63
              rw [et] at hl c_63
              have hct : (nI t).toNatClampNeg = t := nI_clamp (by omega)
              refine lv_aload_n S.1 S.2.1 dX4_lineToward_66 rfl (lv_at hl 1 rfl) ?_
              refine lv_iload S.1 S.2.1 dX4_lineToward_67 (lv_at hl 0 rfl) ?_
              refine lv_iload_n S.1 S.2.1 dX4_lineToward_69 rfl (lv_at hl 3 rfl) ?_
              refine kVi S (c_X4_leads (l := l) (D := D) (cI := cI) (cZ := cZ) (cF := cF) (by first | assumption | omega) (by first | assumption | omega)) (cwV 2 S.2.2.2.2 gX4_lineToward_X4_leads rfl rfl rfl ⟨rfl, v_X4_leads⟩ ⟨(Nat.le_of_ble_eq_true rfl), (Nat.le_of_ble_eq_true rfl)⟩) hk hW 2 rfl rfl rfl rfl hl rfl (Nat.le_of_ble_eq_true rfl) dX4_lineToward_70 ⟨(Nat.le_of_ble_eq_true rfl), (Nat.le_of_ble_eq_true rfl)⟩ (fun r u H locs hp hW => ?_)
              obtain ⟨rfl, rfl⟩ := hp
              refine ifeq_b (tgt := 101) S dX4_lineToward_73 (by decide) (fun c_73 => ?_) (fun c_73 => ?_)
              · skip
                refine lv_iinc (v := nI (i + 1)) (lv' := [(4, .int (nI (i + 1))), (5, .int (nI t)), (0, .ref (q 2)), (1, .int (nI a)), (2, .int (nI b)), (3, .int (C (a * 10 + b)))]) (k := 5) S.1 S.2.1 dX4_lineToward_101 hl rfl (nI_1 _) (by decide) rfl (fun ls hl => ?_)
                refine lv_goto (tgt := 36) S.1 S.2.1 dX4_lineToward_104 (by decide) ?_
                exact ih36 (i + 1) (fj_step hf (by omega) (by simp only [nxP, et, hct, c_8, c_17, eq_false c_45, eq_false c_63, c_73, eq_self, Nat.add_zero, decide_false, decide_true, Bool.not_true, Bool.not_false, Bool.and_true, Bool.true_and, Bool.and_false, Bool.false_and, Bool.or_true, Bool.true_or, Bool.or_false, Bool.false_or, ↓reduceIte, cond_true, cond_false, bI, and_true, true_and, and_false, false_and, or_true, true_or, or_false, false_or, not_true_eq_false, not_false_eq_true, if_true, if_false, Bool.false_eq_true, reduceCtorEq, ite_true, ite_false])) (by omega) (by omega) _ _ _ hW (lv_sub hl [2, 3, 4, 5, 0] rfl)
              · skip
                refine lv_aload_n S.1 S.2.1 dX4_lineToward_76 rfl (lv_at hl 1 rfl) ?_
                refine lv_iload S.1 S.2.1 dX4_lineToward_77 (lv_at hl 5 rfl) ?_
                refine kVi S (c_X4_costOf (l := l) (D := D) (cI := cI) (cZ := cZ) (cF := cF) (by first | assumption | omega)) (cwV 1 S.2.2.2.2 gX4_lineToward_X4_costOf rfl rfl rfl ⟨rfl, v_X4_costOf⟩ ⟨(Nat.le_of_ble_eq_true rfl), (Nat.le_of_ble_eq_true rfl)⟩) hk hW 2 rfl rfl rfl rfl hl rfl (Nat.le_of_ble_eq_true rfl) dX4_lineToward_79 ⟨(Nat.le_of_ble_eq_true rfl), (Nat.le_of_ble_eq_true rfl)⟩ (fun r u H locs hp hW => ?_)
                obtain ⟨rfl, rfl⟩ := hp
                refine lv_aload_n S.1 S.2.1 dX4_lineToward_82 rfl (lv_at hl 1 rfl) ?_
                refine gf S hk hW 2 rfl rfl hwsX40 1 (by decide) 2 rfl rfl dX4_lineToward_83 ?_
                refine lv_iload S.1 S.2.1 dX4_lineToward_86 (lv_at hl 0 rfl) ?_
                refine lv_iload_n S.1 S.2.1 dX4_lineToward_88 rfl (lv_at hl 3 rfl) ?_
                refine kNi S (c_X5_pairOf (l := l) (D := D) (cI := cI) (cZ := cZ) (cF := cF)) ⟨va_cnB (host := RX5) 2 S.2.2.2.2 gX4_lineToward_X5_pairOf_n39 rfl rfl rfl (hk.2.1.1 _ (List.mem_of_getElem? (i := 14) rfl)) (S.2.2.2.2 _ (List.mem_of_getElem? (i := 16) rfl)) v_X5_pairOf ⟨(Nat.le_of_ble_eq_true rfl), (Nat.le_of_ble_eq_true rfl)⟩, S.2.2.2.2 _ (List.mem_of_getElem? (i := 15) rfl), trivial⟩ hk hW rfl hl rfl (Nat.le_of_ble_eq_true rfl) dX4_lineToward_89 ⟨(Nat.le_of_ble_eq_true rfl), (Nat.le_of_ble_eq_true rfl)⟩ (fun r u H locs hp hW => ?_)
                obtain ⟨rfl, rfl⟩ := hp
                refine ild S hk hW 10 rfl (t * 10 + b) rfl (by omega) (by omega) dX4_lineToward_92 ?_
                refine lv_iadd S.1 S.2.1 dX4_lineToward_93 ?_
                refine lv_iload_n S.1 S.2.1 dX4_lineToward_94 rfl (lv_at hl 4 rfl) ?_
                refine lv_icmp_ne (tgt := 101) S.1 S.2.1 dX4_lineToward_95 (by decide) (fun c_95 => ?_) (fun c_95 => ?_)
                · skip
                  refine lv_iinc (v := nI (i + 1)) (lv' := [(4, .int (nI (i + 1))), (5, .int (nI t)), (0, .ref (q 2)), (1, .int (nI a)), (2, .int (nI b)), (3, .int (C (a * 10 + b)))]) (k := 5) S.1 S.2.1 dX4_lineToward_101 hl rfl (nI_1 _) (by decide) rfl (fun ls hl => ?_)
                  refine lv_goto (tgt := 36) S.1 S.2.1 dX4_lineToward_104 (by decide) ?_
                  exact ih36 (i + 1) (fj_step hf (by omega) (by simp only [nxP, et, hct, c_8, c_17, eq_false c_45, eq_false c_63, c_73, eq_false c_95, eq_self, Nat.add_zero, decide_false, decide_true, Bool.not_true, Bool.not_false, Bool.and_true, Bool.true_and, Bool.and_false, Bool.false_and, Bool.or_true, Bool.true_or, Bool.or_false, Bool.false_or, ↓reduceIte, cond_true, cond_false, bI, and_true, true_and, and_false, false_and, or_true, true_or, or_false, false_or, not_true_eq_false, not_false_eq_true, if_true, if_false, Bool.false_eq_true, reduceCtorEq, ite_true, ite_false])) (by omega) (by omega) _ _ _ hW (lv_sub hl [2, 3, 4, 5, 0] rfl)
                · skip
                  refine lv_iload S.1 S.2.1 dX4_lineToward_98 (lv_at hl 5 rfl) ?_
                  exact hR _ _ _ _ _ _ _ _ dX4_lineToward_100 rfl (Nat.le_of_ble_eq_true rfl) (Nat.le_of_ble_eq_true rfl) hW ⟨(by simp only [nx, c_8, hca, c_17, if_true]; rw [fj_found hf (by omega) (by simp only [nxP, et, hct, c_8, c_17, eq_false c_45, eq_false c_63, c_73, eq_true c_95, eq_self, Nat.add_zero, decide_false, decide_true, Bool.not_true, Bool.not_false, Bool.and_true, Bool.true_and, Bool.and_false, Bool.false_and, Bool.or_true, Bool.true_or, Bool.or_false, Bool.false_or, ↓reduceIte, cond_true, cond_false, bI, and_true, true_and, and_false, false_and, or_true, true_or, or_false, false_or, not_true_eq_false, not_false_eq_true, if_true, if_false, Bool.false_eq_true, reduceCtorEq, ite_true, ite_false])]; rfl), rfl⟩
      exact L36 ((gK g) + 1) 0 rfl (by omega) (by omega) _ _ _ hW (lv_sub hl [2, 3, 4, 1, 0] rfl)
    · skip
      refine lv_iconst (v := (-1)) S.1 S.2.1 dX4_lineToward_20 (by decide) ?_
      exact hR _ _ _ _ _ _ _ _ dX4_lineToward_21 rfl (Nat.le_of_ble_eq_true rfl) (Nat.le_of_ble_eq_true rfl) hW ⟨(by simp only [nx, hca, c_8, c_17, eq_self, Nat.add_zero, decide_false, decide_true, Bool.not_true, Bool.not_false, Bool.and_true, Bool.true_and, Bool.and_false, Bool.false_and, Bool.or_true, Bool.true_or, Bool.or_false, Bool.false_or, ↓reduceIte, cond_true, cond_false, bI, and_true, true_and, and_false, false_and, or_true, true_or, or_false, false_or, not_true_eq_false, not_false_eq_true, if_true, if_false, Bool.false_eq_true, reduceCtorEq, ite_true, ite_false]), rfl⟩
abbrev r_X4_lineAt : Room := { frames := 3, cells := 0, slots := 0, locals := 68 }
theorem v_X4_lineAt : yX4_lineAt.cls ≠ "java/lang/invoke/MethodHandle" ∧ yX4_lineAt.cls ≠ "java/lang/invoke/VarHandle" ∧ (parseMethodDescriptor yX4_lineAt.desc).map (fun d => d.parameters.length) = some 3 := by decide +kernel
set_option maxRecDepth 100000 in
set_option maxHeartbeats 4000000 in
theorem c_X4_lineAt {l : Launch} {D : va_G} {cI cZ cF : ClassId} {q : Nat → Nat} {qf : Nat → Nat} {g : Gr} {C R : Nat → Int32} {rw len : Nat} {F : Nat → Int32} {sz : Nat} {X : Nat → Int32} {mk : Int32} {a b : Nat} {x : Int32} (G : Gok g) (ha : a < gN g) (hb : b < gN g) : cI_ l D cI cZ cF yX4_lineAt wsX4_lineAt r_X4_lineAt [.ref (q 2), .int (nI a), .int (nI b), .int x] (wC q qf cI cZ cF g C R rw len F sz X mk) (fun r u => r = lnAt g C a b x ∧ u = wC q qf cI cZ cF g C R rw len F sz X mk) 0 0 := by
  refine cI_of (cc := cX4_lineAt) (maxL := 6) (rt := .int) (plainFor_of_name (by decide +kernel)) rfl (Nat.le_of_ble_eq_true rfl) ?_
  intro p e s m args below meth c A Q ls S hk hW hl hR
  have hl : lv_has ls 6 [(0, .ref (q 2)), (1, .int (nI a)), (2, .int (nI b)), (3, .int x)] := hl
  have hwsX40 : ∀ x ∈ wsX40, x ∈ wsX4_lineAt := fun x h => List.mem_cons_of_mem _ (List.mem_append_left _ (List.mem_append_right _ h))
  have hwsX20 : ∀ x ∈ wsX20, x ∈ wsX4_lineAt := fun x h => List.mem_cons_of_mem _ (List.mem_append_right _ h)
  have hN := Gok_N G; have hN2 := Gok_N2 G; have hKK := Gok_K G
  refine lv_iload_n S.1 S.2.1 dX4_lineAt_0 rfl (lv_at hl 3 rfl) ?_
  refine lv_if_lt (tgt := 14) S.1 S.2.1 dX4_lineAt_1 (by decide) (fun c_1 => ?_) (fun c_1 => ?_)
  · skip
    refine lv_sipush (v := (-1000)) S.1 S.2.1 dX4_lineAt_14 (by decide) ?_
    exact hR _ _ _ _ _ _ _ _ dX4_lineAt_17 rfl (Nat.le_of_ble_eq_true rfl) (Nat.le_of_ble_eq_true rfl) hW ⟨(by simp only [lnAt, eq_true c_1, eq_self, Nat.add_zero, decide_false, decide_true, Bool.not_true, Bool.not_false, Bool.and_true, Bool.true_and, Bool.and_false, Bool.false_and, Bool.or_true, Bool.true_or, Bool.or_false, Bool.false_or, ↓reduceIte, cond_true, cond_false, bI, and_true, true_and, and_false, false_and, or_true, true_or, or_false, false_or, not_true_eq_false, not_false_eq_true, if_true, if_false, Bool.false_eq_true, reduceCtorEq, ite_true, ite_false]), rfl⟩
  · skip
    obtain ⟨k, hkk, rfl⟩ := nI_of c_1
    have hck : (nI k).toNatClampNeg = k := nI_clamp (by omega)
    refine lv_iload_n S.1 S.2.1 dX4_lineAt_4 rfl (lv_at hl 3 rfl) ?_
    refine lv_aload_n S.1 S.2.1 dX4_lineAt_5 rfl (lv_at hl 0 rfl) ?_
    refine lv_iload_n S.1 S.2.1 dX4_lineAt_6 rfl (lv_at hl 1 rfl) ?_
    refine lv_iload_n S.1 S.2.1 dX4_lineAt_7 rfl (lv_at hl 2 rfl) ?_
    refine kVi S (c_X4_length (l := l) (D := D) (cI := cI) (cZ := cZ) (cF := cF) (by first | assumption | omega) (by first | assumption | omega)) (cwV 2 S.2.2.2.2 gX4_lineAt_X4_length rfl rfl rfl ⟨rfl, v_X4_length⟩ ⟨(Nat.le_of_ble_eq_true rfl), (Nat.le_of_ble_eq_true rfl)⟩) hk hW 2 rfl rfl rfl rfl hl rfl (Nat.le_of_ble_eq_true rfl) dX4_lineAt_8 ⟨(Nat.le_of_ble_eq_true rfl), (Nat.le_of_ble_eq_true rfl)⟩ (fun r u H locs hp hW => ?_)
    obtain ⟨rfl, rfl⟩ := hp
    refine lv_icmp_lt (tgt := 18) S.1 S.2.1 dX4_lineAt_11 (by decide) (fun c_11 => ?_) (fun c_11 => ?_)
    · skip
      refine lv_iload_n S.1 S.2.1 dX4_lineAt_18 rfl (lv_at hl 1 rfl) ?_
      refine lv_istore (lv' := [(4, .int (nI a)), (0, .ref (q 2)), (1, .int (nI a)), (2, .int (nI b)), (3, .int (nI k))]) S.1 S.2.1 dX4_lineAt_19 hl (by decide) rfl (fun ls hl => ?_)
      refine lv_iconst (v := nI 0) S.1 S.2.1 dX4_lineAt_21 (by decide) ?_
      refine lv_istore (lv' := [(5, .int (nI 0)), (4, .int (nI a)), (0, .ref (q 2)), (1, .int (nI a)), (2, .int (nI b)), (3, .int (nI k))]) S.1 S.2.1 dX4_lineAt_22 hl (by decide) rfl (fun ls hl => ?_)
      have L24 : ∀ (dd : Nat), ∀ (z : Int32), ∀ (t : Nat), (z = ps g C a b t) → (t ≤ k) → k < t + dd → ∀ (H : Heap) (locs : List Loc) (ls : Array Slot), wd D A s H locs (wC q qf cI cZ cF g C R rw len F sz X mk) → lv_has ls 6 [(0, .ref (q 2)), (1, .int (nI a)), (2, .int (nI b)), (3, .int (nI k)), (4, .int z), (5, .int (nI t))] → W p l e r_X4_lineAt s m args below meth c H locs 0 0 Q (F0 m 24 ls []) := by
        intro dd
        induction dd with
        | zero => intros; omega
        | succ dd ih24 =>
          intro z t hz ht hdd H locs ls hW hl
          refine lv_iload S.1 S.2.1 dX4_lineAt_24 (lv_at hl 5 rfl) ?_
          refine lv_iload_n S.1 S.2.1 dX4_lineAt_26 rfl (lv_at hl 3 rfl) ?_
          refine icge_n (tgt := 54) S (by omega) (by omega) dX4_lineAt_27 (by decide) (fun c_27 => ?_) (fun c_27 => ?_)
          · skip
            refine lv_aload_n S.1 S.2.1 dX4_lineAt_54 rfl (lv_at hl 0 rfl) ?_
            refine lv_iload S.1 S.2.1 dX4_lineAt_55 (lv_at hl 4 rfl) ?_
            refine lv_iload_n S.1 S.2.1 dX4_lineAt_57 rfl (lv_at hl 2 rfl) ?_
            refine kVi S (c_X4_lineToward (l := l) (D := D) (cI := cI) (cZ := cZ) (cF := cF) G (by first | assumption | omega)) (cwV 2 S.2.2.2.2 gX4_lineAt_X4_lineToward rfl rfl rfl ⟨rfl, v_X4_lineToward⟩ ⟨(Nat.le_of_ble_eq_true rfl), (Nat.le_of_ble_eq_true rfl)⟩) hk hW 2 rfl rfl rfl rfl hl rfl (Nat.le_of_ble_eq_true rfl) dX4_lineAt_58 ⟨(Nat.le_of_ble_eq_true rfl), (Nat.le_of_ble_eq_true rfl)⟩ (fun r u H locs hp hW => ?_)
            obtain ⟨rfl, rfl⟩ := hp
            exact hR _ _ _ _ _ _ _ _ dX4_lineAt_61 rfl (Nat.le_of_ble_eq_true rfl) (Nat.le_of_ble_eq_true rfl) hW ⟨(by
                have e : t = k := by omega
                subst e
                rw [hz]
                simp only [lnAt, hck, eq_false c_1, eq_true c_11, eq_true c_27, eq_self, Nat.add_zero, decide_false, decide_true, Bool.not_true, Bool.not_false, Bool.and_true, Bool.true_and, Bool.and_false, Bool.false_and, Bool.or_true, Bool.true_or, Bool.or_false, Bool.false_or, ↓reduceIte, cond_true, cond_false, bI, and_true, true_and, and_false, false_and, or_true, true_or, or_false, false_or, not_true_eq_false, not_false_eq_true, if_true, if_false, Bool.false_eq_true, reduceCtorEq, ite_true, ite_false]), rfl⟩
          · skip
            refine lv_aload_n S.1 S.2.1 dX4_lineAt_30 rfl (lv_at hl 0 rfl) ?_
            refine gf S hk hW 2 rfl rfl hwsX40 0 (by decide) 1 rfl rfl dX4_lineAt_31 ?_
            refine lv_aload_n S.1 S.2.1 dX4_lineAt_34 rfl (lv_at hl 0 rfl) ?_
            refine lv_iload S.1 S.2.1 dX4_lineAt_35 (lv_at hl 4 rfl) ?_
            refine lv_iload_n S.1 S.2.1 dX4_lineAt_37 rfl (lv_at hl 2 rfl) ?_
            refine kVi S (c_X4_lineToward (l := l) (D := D) (cI := cI) (cZ := cZ) (cF := cF) G (by first | assumption | omega)) (cwV 2 S.2.2.2.2 gX4_lineAt_X4_lineToward rfl rfl rfl ⟨rfl, v_X4_lineToward⟩ ⟨(Nat.le_of_ble_eq_true rfl), (Nat.le_of_ble_eq_true rfl)⟩) hk hW 2 rfl rfl rfl rfl hl rfl (Nat.le_of_ble_eq_true rfl) dX4_lineAt_38 ⟨(Nat.le_of_ble_eq_true rfl), (Nat.le_of_ble_eq_true rfl)⟩ (fun r u H locs hp hW => ?_)
            obtain ⟨rfl, rfl⟩ := hp
            refine lv_iload S.1 S.2.1 dX4_lineAt_41 (lv_at hl 4 rfl) ?_
            refine kVi S (c_X2_target (l := l) (D := D) (cI := cI) (cZ := cZ) (cF := cF) G) (cwV 2 S.2.2.2.2 gX4_lineAt_X2_target rfl rfl rfl ⟨rfl, v_X2_target⟩ ⟨(Nat.le_of_ble_eq_true rfl), (Nat.le_of_ble_eq_true rfl)⟩) hk hW 1 rfl rfl rfl rfl hl rfl (Nat.le_of_ble_eq_true rfl) dX4_lineAt_43 ⟨(Nat.le_of_ble_eq_true rfl), (Nat.le_of_ble_eq_true rfl)⟩ (fun r u H locs hp hW => ?_)
            obtain ⟨rfl, rfl⟩ := hp
            refine lv_istore (lv' := [(4, .int (tgt g (nx g C z b) z)), (0, .ref (q 2)), (1, .int (nI a)), (2, .int (nI b)), (3, .int (nI k)), (5, .int (nI t))]) S.1 S.2.1 dX4_lineAt_46 hl (by decide) rfl (fun ls hl => ?_)
            refine lv_iinc (v := nI (t + 1)) (lv' := [(5, .int (nI (t + 1))), (4, .int (tgt g (nx g C z b) z)), (0, .ref (q 2)), (1, .int (nI a)), (2, .int (nI b)), (3, .int (nI k))]) (k := 5) S.1 S.2.1 dX4_lineAt_48 hl rfl (nI_1 _) (by decide) rfl (fun ls hl => ?_)
            refine lv_goto (tgt := 24) S.1 S.2.1 dX4_lineAt_51 (by decide) ?_
            exact ih24 (tgt g (nx g C z b) z) (t + 1) (by rw [hz]; rfl) (by omega) (by omega) _ _ _ hW (lv_sub hl [2, 3, 4, 5, 1, 0] rfl)
      exact L24 (k + 1) (nI a) 0 rfl (by omega) (by omega) _ _ _ hW (lv_sub hl [2, 3, 4, 5, 1, 0] rfl)
    · skip
      refine lv_sipush (v := (-1000)) S.1 S.2.1 dX4_lineAt_14 (by decide) ?_
      exact hR _ _ _ _ _ _ _ _ dX4_lineAt_17 rfl (Nat.le_of_ble_eq_true rfl) (Nat.le_of_ble_eq_true rfl) hW ⟨(by simp only [lnAt, eq_false c_1, eq_false c_11, eq_self, Nat.add_zero, decide_false, decide_true, Bool.not_true, Bool.not_false, Bool.and_true, Bool.true_and, Bool.and_false, Bool.false_and, Bool.or_true, Bool.true_or, Bool.or_false, Bool.false_or, ↓reduceIte, cond_true, cond_false, bI, and_true, true_and, and_false, false_and, or_true, true_or, or_false, false_or, not_true_eq_false, not_false_eq_true, if_true, if_false, Bool.false_eq_true, reduceCtorEq, ite_true, ite_false]), rfl⟩
abbrev r_X4_between : Room := { frames := 3, cells := 0, slots := 0, locals := 68 }
theorem v_X4_between : yX4_between.cls ≠ "java/lang/invoke/MethodHandle" ∧ yX4_between.cls ≠ "java/lang/invoke/VarHandle" ∧ (parseMethodDescriptor yX4_between.desc).map (fun d => d.parameters.length) = some 2 := by decide +kernel
set_option maxRecDepth 100000 in
set_option maxHeartbeats 4000000 in
theorem c_X4_between {l : Launch} {D : va_G} {cI cZ cF : ClassId} {q : Nat → Nat} {qf : Nat → Nat} {g : Gr} {C R : Nat → Int32} {rw len : Nat} {F : Nat → Int32} {sz : Nat} {X : Nat → Int32} {mk : Int32} {a b : Nat} (G : Gok g) (ha : a < gN g) (hb : b < gN g) : cI_ l D cI cZ cF yX4_between wsX4_between r_X4_between [.ref (q 2), .int (nI a), .int (nI b)] (wC q qf cI cZ cF g C R rw len F sz X mk) (fun r u => r = btS g C a b ((lnI (C (a * 10 + b))).toNatClampNeg - 1) ∧ u = wC q qf cI cZ cF g C R rw len F sz X mk) 0 0 := by
  refine cI_of (cc := cX4_between) (maxL := 6) (rt := .int) (plainFor_of_name (by decide +kernel)) rfl (Nat.le_of_ble_eq_true rfl) ?_
  intro p e s m args below meth c A Q ls S hk hW hl hR
  have hl : lv_has ls 6 [(0, .ref (q 2)), (1, .int (nI a)), (2, .int (nI b))] := hl
  have hwsX40 : ∀ x ∈ wsX40, x ∈ wsX4_between := fun x h => List.mem_cons_of_mem _ (List.mem_append_left _ (List.mem_append_right _ h))
  have hwsX20 : ∀ x ∈ wsX20, x ∈ wsX4_between := fun x h => List.mem_cons_of_mem _ (List.mem_append_right _ h)
  have hN := Gok_N G; have hN2 := Gok_N2 G; have hKK := Gok_K G
  obtain ⟨L, hL⟩ : ∃ L, L = (lnI (C (a * 10 + b))).toNatClampNeg := ⟨_, rfl⟩
  have hLb : L < 2 ^ 31 := by rw [hL]; exact clamp_lt _
  refine lv_iconst (v := nI 0) S.1 S.2.1 dX4_between_0 (by decide) ?_
  refine lv_istore_n (lv' := [(3, .int (nI 0)), (0, .ref (q 2)), (1, .int (nI a)), (2, .int (nI b))]) S.1 S.2.1 dX4_between_1 rfl hl (by decide) rfl (fun ls hl => ?_)
  refine lv_iload_n S.1 S.2.1 dX4_between_2 rfl (lv_at hl 2 rfl) ?_
  refine lv_istore (lv' := [(4, .int (nI a)), (3, .int (nI 0)), (0, .ref (q 2)), (1, .int (nI a)), (2, .int (nI b))]) S.1 S.2.1 dX4_between_3 hl (by decide) rfl (fun ls hl => ?_)
  refine lv_iconst (v := nI 1) S.1 S.2.1 dX4_between_5 (by decide) ?_
  refine lv_istore (lv' := [(5, .int (nI 1)), (4, .int (nI a)), (3, .int (nI 0)), (0, .ref (q 2)), (1, .int (nI a)), (2, .int (nI b))]) S.1 S.2.1 dX4_between_6 hl (by decide) rfl (fun ls hl => ?_)
  have L8 : ∀ (dd : Nat), ∀ (z3 : Int32), ∀ (z : Int32), ∀ (k : Nat), (z3 = btS g C a b k) → (z = ps g C a b k) → (k ≤ L - 1) → L - 1 < k + dd → ∀ (H : Heap) (locs : List Loc) (ls : Array Slot), wd D A s H locs (wC q qf cI cZ cF g C R rw len F sz X mk) → lv_has ls 6 [(0, .ref (q 2)), (1, .int (nI a)), (2, .int (nI b)), (3, .int z3), (4, .int z), (5, .int (nI (k + 1)))] → W p l e r_X4_between s m args below meth c H locs 0 0 Q (F0 m 8 ls []) := by
    intro dd
    induction dd with
    | zero => intros; omega
    | succ dd ih8 =>
      intro z3 z k h3 hz hk1 hdd H locs ls hW hl
      refine lv_iload S.1 S.2.1 dX4_between_8 (lv_at hl 5 rfl) ?_
      refine lv_aload_n S.1 S.2.1 dX4_between_10 rfl (lv_at hl 0 rfl) ?_
      refine lv_iload_n S.1 S.2.1 dX4_between_11 rfl (lv_at hl 1 rfl) ?_
      refine lv_iload_n S.1 S.2.1 dX4_between_12 rfl (lv_at hl 2 rfl) ?_
      refine kVi S (c_X4_length (l := l) (D := D) (cI := cI) (cZ := cZ) (cF := cF) (by first | assumption | omega) (by first | assumption | omega)) (cwV 2 S.2.2.2.2 gX4_between_X4_length rfl rfl rfl ⟨rfl, v_X4_length⟩ ⟨(Nat.le_of_ble_eq_true rfl), (Nat.le_of_ble_eq_true rfl)⟩) hk hW 2 rfl rfl rfl rfl hl rfl (Nat.le_of_ble_eq_true rfl) dX4_between_13 ⟨(Nat.le_of_ble_eq_true rfl), (Nat.le_of_ble_eq_true rfl)⟩ (fun r u H locs hp hW => ?_)
      obtain ⟨rfl, rfl⟩ := hp
      refine lv_icmp_ge (tgt := 56) S.1 S.2.1 dX4_between_16 (by decide) (fun c_16 => ?_) (fun c_16 => ?_)
      · skip
        have c16 := (le_nI_iff (by omega)).mp c_16
        rw [← hL] at c16
        refine lv_iload_n S.1 S.2.1 dX4_between_56 rfl (lv_at hl 3 rfl) ?_
        exact hR _ _ _ _ _ _ _ _ dX4_between_57 rfl (Nat.le_of_ble_eq_true rfl) (Nat.le_of_ble_eq_true rfl) hW ⟨by rw [h3, ← hL, show k = L - 1 by omega], rfl⟩
      · skip
        have c16 : ¬ L ≤ k + 1 := fun q => c_16 ((le_nI_iff (by omega)).mpr (by rw [← hL]; exact q))
        refine lv_aload_n S.1 S.2.1 dX4_between_19 rfl (lv_at hl 0 rfl) ?_
        refine gf S hk hW 2 rfl rfl hwsX40 0 (by decide) 1 rfl rfl dX4_between_20 ?_
        refine lv_aload_n S.1 S.2.1 dX4_between_23 rfl (lv_at hl 0 rfl) ?_
        refine lv_iload S.1 S.2.1 dX4_between_24 (lv_at hl 4 rfl) ?_
        refine lv_iload_n S.1 S.2.1 dX4_between_26 rfl (lv_at hl 2 rfl) ?_
        refine kVi S (c_X4_lineToward (l := l) (D := D) (cI := cI) (cZ := cZ) (cF := cF) G (by first | assumption | omega)) (cwV 2 S.2.2.2.2 gX4_between_X4_lineToward rfl rfl rfl ⟨rfl, v_X4_lineToward⟩ ⟨(Nat.le_of_ble_eq_true rfl), (Nat.le_of_ble_eq_true rfl)⟩) hk hW 2 rfl rfl rfl rfl hl rfl (Nat.le_of_ble_eq_true rfl) dX4_between_27 ⟨(Nat.le_of_ble_eq_true rfl), (Nat.le_of_ble_eq_true rfl)⟩ (fun r u H locs hp hW => ?_)
        obtain ⟨rfl, rfl⟩ := hp
        refine lv_iload S.1 S.2.1 dX4_between_30 (lv_at hl 4 rfl) ?_
        refine kVi S (c_X2_target (l := l) (D := D) (cI := cI) (cZ := cZ) (cF := cF) G) (cwV 2 S.2.2.2.2 gX4_between_X2_target rfl rfl rfl ⟨rfl, v_X2_target⟩ ⟨(Nat.le_of_ble_eq_true rfl), (Nat.le_of_ble_eq_true rfl)⟩) hk hW 1 rfl rfl rfl rfl hl rfl (Nat.le_of_ble_eq_true rfl) dX4_between_32 ⟨(Nat.le_of_ble_eq_true rfl), (Nat.le_of_ble_eq_true rfl)⟩ (fun r u H locs hp hW => ?_)
        obtain ⟨rfl, rfl⟩ := hp
        refine lv_istore (lv' := [(4, .int (tgt g (nx g C z b) z)), (0, .ref (q 2)), (1, .int (nI a)), (2, .int (nI b)), (3, .int z3), (5, .int (nI (k + 1)))]) S.1 S.2.1 dX4_between_35 hl (by decide) rfl (fun ls hl => ?_)
        refine lv_iload S.1 S.2.1 dX4_between_37 (lv_at hl 0 rfl) ?_
        refine lv_iconst (v := (-1)) S.1 S.2.1 dX4_between_39 (by decide) ?_
        refine lv_icmp_eq (tgt := 50) S.1 S.2.1 dX4_between_40 (by decide) (fun c_40 => ?_) (fun c_40 => ?_)
        · skip
          refine lv_iinc (v := nI (k + 1 + 1)) (lv' := [(5, .int (nI (k + 1 + 1))), (4, .int (tgt g (nx g C z b) z)), (0, .ref (q 2)), (1, .int (nI a)), (2, .int (nI b)), (3, .int z3)]) (k := 5) S.1 S.2.1 dX4_between_50 hl rfl (nI_1 _) (by decide) rfl (fun ls hl => ?_)
          refine lv_goto (tgt := 8) S.1 S.2.1 dX4_between_53 (by decide) ?_
          exact ih8 z3 (tgt g (nx g C z b) z) (k + 1) (by have hz1 : tgt g (nx g C z b) z = ps g C a b (k + 1) := (by rw [hz]; rfl); rw [hz1] at c_40; simp only [btS, c_40, if_true, if_false, ← h3, hz1]) (by rw [hz]; rfl) (by omega) (by omega) _ _ _ hW (lv_sub hl [2, 3, 4, 5, 1, 0] rfl)
        · skip
          refine lv_iload_n S.1 S.2.1 dX4_between_43 rfl (lv_at hl 4 rfl) ?_
          refine lv_iconst (v := nI 1) S.1 S.2.1 dX4_between_44 (by decide) ?_
          refine lv_iload S.1 S.2.1 dX4_between_45 (lv_at hl 0 rfl) ?_
          refine lv_ishl S.1 S.2.1 dX4_between_47 ?_
          refine lv_ior S.1 S.2.1 dX4_between_48 ?_
          refine lv_istore_n (lv' := [(3, .int (z3 ||| ((nI 1) <<< ((tgt g (nx g C z b) z) &&& 31)))), (4, .int (tgt g (nx g C z b) z)), (0, .ref (q 2)), (1, .int (nI a)), (2, .int (nI b)), (5, .int (nI (k + 1)))]) S.1 S.2.1 dX4_between_49 rfl hl (by decide) rfl (fun ls hl => ?_)
          refine lv_iinc (v := nI (k + 1 + 1)) (lv' := [(5, .int (nI (k + 1 + 1))), (3, .int (z3 ||| ((nI 1) <<< ((tgt g (nx g C z b) z) &&& 31)))), (4, .int (tgt g (nx g C z b) z)), (0, .ref (q 2)), (1, .int (nI a)), (2, .int (nI b))]) (k := 5) S.1 S.2.1 dX4_between_50 hl rfl (nI_1 _) (by decide) rfl (fun ls hl => ?_)
          refine lv_goto (tgt := 8) S.1 S.2.1 dX4_between_53 (by decide) ?_
          exact ih8 (z3 ||| ((nI 1) <<< ((tgt g (nx g C z b) z) &&& 31))) (tgt g (nx g C z b) z) (k + 1) (by have hz1 : tgt g (nx g C z b) z = ps g C a b (k + 1) := (by rw [hz]; rfl); rw [hz1] at c_40; simp only [btS, c_40, if_true, if_false, ← h3, hz1]) (by rw [hz]; rfl) (by omega) (by omega) _ _ _ hW (lv_sub hl [3, 4, 5, 1, 2, 0] rfl)
  exact L8 ((L - 1) + 1) (nI 0) (nI a) 0 rfl rfl (by omega) (by omega) _ _ _ hW (lv_sub hl [3, 4, 5, 2, 1, 0] rfl)
