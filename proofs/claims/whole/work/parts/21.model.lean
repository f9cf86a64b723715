abbrev r_X6_in : Room := { frames := 0, cells := 0, slots := 0, locals := 0 }
theorem v_X6_in : yX6_in.cls ≠ "java/lang/invoke/MethodHandle" ∧ yX6_in.cls ≠ "java/lang/invoke/VarHandle" ∧ (parseMethodDescriptor yX6_in.desc).map (fun d => d.parameters.length) = some 3 := by decide +kernel
set_option maxRecDepth 100000 in
set_option maxHeartbeats 4000000 in
theorem c_X6_in {l : Launch} {D : va_G} {cI cZ cF : ClassId} {w : va_W} {x lo hi : Int64}  : cI_ l D cI cZ cF yX6_in wsX6_in r_X6_in [.long x, .long lo, .long hi] (w) (fun r u => r = bI (inL x lo hi) ∧ u = w) 0 0 := by
  refine cI_of (cc := cX6_in) (maxL := 6) (rt := .boolean) (plainFor_of_name (by decide +kernel)) rfl (Nat.le_of_ble_eq_true rfl) ?_
  intro p e s m args below meth c A Q ls S hk hW hl hR
  have hl : lv_has ls 6 [(0, .long x), (2, .long lo), (4, .long hi)] := hl
  refine lv_lload_n S.1 S.2.1 dX6_in_0 rfl (lv_at hl 0 rfl) ?_
  refine lv_lload_n S.1 S.2.1 dX6_in_1 rfl (lv_at hl 1 rfl) ?_
  refine W.lcmp S.1 S.2.1 dX6_in_2 ?_
  refine lv_if_lt (tgt := 17) S.1 S.2.1 dX6_in_3 (by decide) (fun c_3 => ?_) (fun c_3 => ?_)
  · skip
    refine lv_iconst (v := nI 0) S.1 S.2.1 dX6_in_17 (by decide) ?_
    exact hR _ _ _ _ _ _ _ _ dX6_in_18 rfl (Nat.le_of_ble_eq_true rfl) (Nat.le_of_ble_eq_true rfl) hW ⟨(by simp only [inL, eq_true c_3, eq_self, Nat.add_zero, decide_false, decide_true, Bool.not_true, Bool.not_false, Bool.and_true, Bool.true_and, Bool.and_false, Bool.false_and, Bool.or_true, Bool.true_or, Bool.or_false, Bool.false_or, ↓reduceIte, cond_true, cond_false, bI, and_true, true_and, and_false, false_and, or_true, true_or, or_false, false_or, not_true_eq_false, not_false_eq_true, if_true, if_false, Bool.false_eq_true, reduceCtorEq, ite_true, ite_false]), rfl⟩
  · skip
    refine lv_lload_n S.1 S.2.1 dX6_in_6 rfl (lv_at hl 0 rfl) ?_
    refine lv_lload S.1 S.2.1 dX6_in_7 (lv_at hl 2 rfl) ?_
    refine W.lcmp S.1 S.2.1 dX6_in_9 ?_
    refine lv_if_gt (tgt := 17) S.1 S.2.1 dX6_in_10 (by decide) (fun c_10 => ?_) (fun c_10 => ?_)
    · skip
      refine lv_iconst (v := nI 0) S.1 S.2.1 dX6_in_17 (by decide) ?_
      exact hR _ _ _ _ _ _ _ _ dX6_in_18 rfl (Nat.le_of_ble_eq_true rfl) (Nat.le_of_ble_eq_true rfl) hW ⟨(by simp only [inL, eq_false c_3, eq_true c_10, eq_self, Nat.add_zero, decide_false, decide_true, Bool.not_true, Bool.not_false, Bool.and_true, Bool.true_and, Bool.and_false, Bool.false_and, Bool.or_true, Bool.true_or, Bool.or_false, Bool.false_or, ↓reduceIte, cond_true, cond_false, bI, and_true, true_and, and_false, false_and, or_true, true_or, or_false, false_or, not_true_eq_false, not_false_eq_true, if_true, if_false, Bool.false_eq_true, reduceCtorEq, ite_true, ite_false]), rfl⟩
    · skip
      refine lv_iconst (v := nI 1) S.1 S.2.1 dX6_in_13 (by decide) ?_
      refine lv_goto (tgt := 18) S.1 S.2.1 dX6_in_14 (by decide) ?_
      exact hR _ _ _ _ _ _ _ _ dX6_in_18 rfl (Nat.le_of_ble_eq_true rfl) (Nat.le_of_ble_eq_true rfl) hW ⟨(by simp only [inL, eq_false c_3, eq_false c_10, eq_self, Nat.add_zero, decide_false, decide_true, Bool.not_true, Bool.not_false, Bool.and_true, Bool.true_and, Bool.and_false, Bool.false_and, Bool.or_true, Bool.true_or, Bool.or_false, Bool.false_or, ↓reduceIte, cond_true, cond_false, bI, and_true, true_and, and_false, false_and, or_true, true_or, or_false, false_or, not_true_eq_false, not_false_eq_true, if_true, if_false, Bool.false_eq_true, reduceCtorEq, ite_true, ite_false]), rfl⟩
abbrev r_X6_noPost : Room := { frames := 1, cells := 0, slots := 0, locals := 25 }
theorem v_X6_noPost : yX6_noPost.cls ≠ "java/lang/invoke/MethodHandle" ∧ yX6_noPost.cls ≠ "java/lang/invoke/VarHandle" ∧ (parseMethodDescriptor yX6_noPost.desc).map (fun d => d.parameters.length) = some 1 := by decide +kernel
set_option maxRecDepth 100000 in
set_option maxHeartbeats 4000000 in
theorem c_X6_noPost {l : Launch} {D : va_G} {cI cZ cF : ClassId} {q : Nat → Nat} {g : Gr} {fi ke : Nat → Int32} {ac : Nat} {mk : Int32} {iv : Nat → Int32} {x : Int32} (G : Gok g) : cI_ l D cI cZ cF yX6_noPost wsX6_noPost r_X6_noPost [.ref (q 0), .int x] (wM q cI cZ cF g fi ke ac mk iv) (fun r u => r = bI (!inb x (gN g)) ∧ u = wM q cI cZ cF g fi ke ac mk iv) 0 0 := by
  refine cI_of (cc := cX6_noPost) (maxL := 2) (rt := .boolean) (plainFor_of_name (by decide +kernel)) rfl (Nat.le_of_ble_eq_true rfl) ?_
  intro p e s m args below meth c A Q ls S hk hW hl hR
  have hl : lv_has ls 2 [(0, .ref (q 0)), (1, .int x)] := hl
  have hwsX60 : ∀ x ∈ wsX60, x ∈ wsX6_noPost := fun x h => List.mem_cons_of_mem _ (List.mem_append_right _ h)
  have hN := Gok_N G; have hN2 := Gok_N2 G; have hKK := Gok_K G
  refine lv_iload_n S.1 S.2.1 dX6_noPost_0 rfl (lv_at hl 1 rfl) ?_
  refine lv_i2l S.1 S.2.1 dX6_noPost_1 rfl ?_
  refine lv_lconst (v := 0) S.1 S.2.1 dX6_noPost_2 (by decide) ?_
  refine lv_aload_n S.1 S.2.1 dX6_noPost_3 rfl (lv_at hl 0 rfl) ?_
  refine gf S hk hW 0 rfl rfl hwsX60 1 (by decide) 1 rfl rfl dX6_noPost_4 ?_
  refine lv_iconst (v := nI 1) S.1 S.2.1 dX6_noPost_7 (by decide) ?_
  refine lv_isub S.1 S.2.1 dX6_noPost_8 ?_
  refine lv_i2l S.1 S.2.1 dX6_noPost_9 rfl ?_
  refine kSi S (c_X6_in (l := l) (D := D) (cI := cI) (cZ := cZ) (cF := cF)) (va_cwS 3 S.2.2.2.2 gX6_noPost_X6_in rfl rfl rfl v_X6_in ⟨(Nat.le_of_ble_eq_true rfl), (Nat.le_of_ble_eq_true rfl)⟩) hk hW rfl hl rfl (Nat.le_of_ble_eq_true rfl) dX6_noPost_10 ⟨(Nat.le_of_ble_eq_true rfl), (Nat.le_of_ble_eq_true rfl)⟩ (fun r u H locs hp hW => ?_)
  obtain ⟨rfl, rfl⟩ := hp
  refine ifne_b (tgt := 20) S dX6_noPost_13 (by decide) (fun c_13 => ?_) (fun c_13 => ?_)
  · skip
    rw [inL_inb (by omega)] at c_13
    refine lv_iconst (v := nI 0) S.1 S.2.1 dX6_noPost_20 (by decide) ?_
    exact hR _ _ _ _ _ _ _ _ dX6_noPost_21 rfl (Nat.le_of_ble_eq_true rfl) (Nat.le_of_ble_eq_true rfl) hW ⟨(by simp only [c_13, eq_self, Nat.add_zero, decide_false, decide_true, Bool.not_true, Bool.not_false, Bool.and_true, Bool.true_and, Bool.and_false, Bool.false_and, Bool.or_true, Bool.true_or, Bool.or_false, Bool.false_or, ↓reduceIte, cond_true, cond_false, bI, and_true, true_and, and_false, false_and, or_true, true_or, or_false, false_or, not_true_eq_false, not_false_eq_true, if_true, if_false, Bool.false_eq_true, reduceCtorEq, ite_true, ite_false]), rfl⟩
  · skip
    rw [inL_inb (by omega)] at c_13
    refine lv_iconst (v := nI 1) S.1 S.2.1 dX6_noPost_16 (by decide) ?_
    refine lv_goto (tgt := 21) S.1 S.2.1 dX6_noPost_17 (by decide) ?_
    exact hR _ _ _ _ _ _ _ _ dX6_noPost_21 rfl (Nat.le_of_ble_eq_true rfl) (Nat.le_of_ble_eq_true rfl) hW ⟨(by simp only [c_13, eq_self, Nat.add_zero, decide_false, decide_true, Bool.not_true, Bool.not_false, Bool.and_true, Bool.true_and, Bool.and_false, Bool.false_and, Bool.or_true, Bool.true_or, Bool.or_false, Bool.false_or, ↓reduceIte, cond_true, cond_false, bI, and_true, true_and, and_false, false_and, or_true, true_or, or_false, false_or, not_true_eq_false, not_false_eq_true, if_true, if_false, Bool.false_eq_true, reduceCtorEq, ite_true, ite_false]), rfl⟩
abbrev r_X6_noLine : Room := { frames := 1, cells := 0, slots := 0, locals := 25 }
theorem v_X6_noLine : yX6_noLine.cls ≠ "java/lang/invoke/MethodHandle" ∧ yX6_noLine.cls ≠ "java/lang/invoke/VarHandle" ∧ (parseMethodDescriptor yX6_noLine.desc).map (fun d => d.parameters.length) = some 1 := by decide +kernel
set_option maxRecDepth 100000 in
set_option maxHeartbeats 4000000 in
theorem c_X6_noLine {l : Launch} {D : va_G} {cI cZ cF : ClassId} {q : Nat → Nat} {g : Gr} {fi ke : Nat → Int32} {ac : Nat} {mk : Int32} {iv : Nat → Int32} {x : Int32} (G : Gok g) : cI_ l D cI cZ cF yX6_noLine wsX6_noLine r_X6_noLine [.ref (q 0), .int x] (wM q cI cZ cF g fi ke ac mk iv) (fun r u => r = bI (!inb x (gK g)) ∧ u = wM q cI cZ cF g fi ke ac mk iv) 0 0 := by
  refine cI_of (cc := cX6_noLine) (maxL := 2) (rt := .boolean) (plainFor_of_name (by decide +kernel)) rfl (Nat.le_of_ble_eq_true rfl) ?_
  intro p e s m args below meth c A Q ls S hk hW hl hR
  have hl : lv_has ls 2 [(0, .ref (q 0)), (1, .int x)] := hl
  have hwsX60 : ∀ x ∈ wsX60, x ∈ wsX6_noLine := fun x h => List.mem_cons_of_mem _ (List.mem_append_right _ h)
  have hN := Gok_N G; have hN2 := Gok_N2 G; have hKK := Gok_K G
  refine lv_iload_n S.1 S.2.1 dX6_noLine_0 rfl (lv_at hl 1 rfl) ?_
  refine lv_i2l S.1 S.2.1 dX6_noLine_1 rfl ?_
  refine lv_lconst (v := 0) S.1 S.2.1 dX6_noLine_2 (by decide) ?_
  refine lv_aload_n S.1 S.2.1 dX6_noLine_3 rfl (lv_at hl 0 rfl) ?_
  refine gf S hk hW 0 rfl rfl hwsX60 2 (by decide) 1 rfl rfl dX6_noLine_4 ?_
  refine lv_iconst (v := nI 1) S.1 S.2.1 dX6_noLine_7 (by decide) ?_
  refine lv_isub S.1 S.2.1 dX6_noLine_8 ?_
  refine lv_i2l S.1 S.2.1 dX6_noLine_9 rfl ?_
  refine kSi S (c_X6_in (l := l) (D := D) (cI := cI) (cZ := cZ) (cF := cF)) (va_cwS 3 S.2.2.2.2 gX6_noLine_X6_in rfl rfl rfl v_X6_in ⟨(Nat.le_of_ble_eq_true rfl), (Nat.le_of_ble_eq_true rfl)⟩) hk hW rfl hl rfl (Nat.le_of_ble_eq_true rfl) dX6_noLine_10 ⟨(Nat.le_of_ble_eq_true rfl), (Nat.le_of_ble_eq_true rfl)⟩ (fun r u H locs hp hW => ?_)
  obtain ⟨rfl, rfl⟩ := hp
  refine ifne_b (tgt := 20) S dX6_noLine_13 (by decide) (fun c_13 => ?_) (fun c_13 => ?_)
  · skip
    rw [inL_inb (by omega)] at c_13
    refine lv_iconst (v := nI 0) S.1 S.2.1 dX6_noLine_20 (by decide) ?_
    exact hR _ _ _ _ _ _ _ _ dX6_noLine_21 rfl (Nat.le_of_ble_eq_true rfl) (Nat.le_of_ble_eq_true rfl) hW ⟨(by simp only [c_13, eq_self, Nat.add_zero, decide_false, decide_true, Bool.not_true, Bool.not_false, Bool.and_true, Bool.true_and, Bool.and_false, Bool.false_and, Bool.or_true, Bool.true_or, Bool.or_false, Bool.false_or, ↓reduceIte, cond_true, cond_false, bI, and_true, true_and, and_false, false_and, or_true, true_or, or_false, false_or, not_true_eq_false, not_false_eq_true, if_true, if_false, Bool.false_eq_true, reduceCtorEq, ite_true, ite_false]), rfl⟩
  · skip
    rw [inL_inb (by omega)] at c_13
    refine lv_iconst (v := nI 1) S.1 S.2.1 dX6_noLine_16 (by decide) ?_
    refine lv_goto (tgt := 21) S.1 S.2.1 dX6_noLine_17 (by decide) ?_
    exact hR _ _ _ _ _ _ _ _ dX6_noLine_21 rfl (Nat.le_of_ble_eq_true rfl) (Nat.le_of_ble_eq_true rfl) hW ⟨(by simp only [c_13, eq_self, Nat.add_zero, decide_false, decide_true, Bool.not_true, Bool.not_false, Bool.and_true, Bool.true_and, Bool.and_false, Bool.false_and, Bool.or_true, Bool.true_or, Bool.or_false, Bool.false_or, ↓reduceIte, cond_true, cond_false, bI, and_true, true_and, and_false, false_and, or_true, true_or, or_false, false_or, not_true_eq_false, not_false_eq_true, if_true, if_false, Bool.false_eq_true, reduceCtorEq, ite_true, ite_false]), rfl⟩
abbrev r_X6_coarse : Room := { frames := 0, cells := 0, slots := 0, locals := 0 }
theorem v_X6_coarse : yX6_coarse.cls ≠ "java/lang/invoke/MethodHandle" ∧ yX6_coarse.cls ≠ "java/lang/invoke/VarHandle" ∧ (parseMethodDescriptor yX6_coarse.desc).map (fun d => d.parameters.length) = some 1 := by decide +kernel
set_option maxRecDepth 100000 in
set_option maxHeartbeats 4000000 in
theorem c_X6_coarse {l : Launch} {D : va_G} {cI cZ cF : ClassId} {w : va_W} {v : Int32}  : cI_ l D cI cZ cF yX6_coarse wsX6_coarse r_X6_coarse [.int v] (w) (fun r u => r = crs v ∧ u = w) 0 0 := by
  refine cI_of (cc := cX6_coarse) (maxL := 2) (rt := .int) (plainFor_of_name (by decide +kernel)) rfl (Nat.le_of_ble_eq_true rfl) ?_
  intro p e s m args below meth c A Q ls S hk hW hl hR
  have hl : lv_has ls 2 [(0, .int v)] := hl
  refine lv_iload_n S.1 S.2.1 dX6_coarse_0 rfl (lv_at hl 0 rfl) ?_
  refine lv_ldc (v := nI 10000000) S.1 S.2.1 S.2.2.2.1 (S.2.2.2.2 _ (List.mem_of_getElem? (i := 1) rfl)) dX6_coarse_1 ?_
  refine lv_icmp_lt (tgt := 10) S.1 S.2.1 dX6_coarse_3 (by decide) (fun c_3 => ?_) (fun c_3 => ?_)
  · skip
    refine lv_iload_n S.1 S.2.1 dX6_coarse_10 rfl (lv_at hl 0 rfl) ?_
    refine lv_bipush (v := nI 64) S.1 S.2.1 dX6_coarse_11 (by decide) ?_
    refine lv_irem S.1 S.2.1 dX6_coarse_13 (by decide) ?_
    refine lv_istore_n (lv' := [(1, .int (v - v / (nI 64) * (nI 64))), (0, .int v)]) S.1 S.2.1 dX6_coarse_14 rfl hl (by decide) rfl (fun ls hl => ?_)
    refine lv_iload_n S.1 S.2.1 dX6_coarse_15 rfl (lv_at hl 1 rfl) ?_
    refine lv_iload_n S.1 S.2.1 dX6_coarse_16 rfl (lv_at hl 0 rfl) ?_
    refine lv_if_ge (tgt := 27) S.1 S.2.1 dX6_coarse_17 (by decide) (fun c_17 => ?_) (fun c_17 => ?_)
    · skip
      refine lv_iload_n S.1 S.2.1 dX6_coarse_27 rfl (lv_at hl 0 rfl) ?_
      refine lv_isub S.1 S.2.1 dX6_coarse_28 ?_
      refine lv_bipush (v := nI 64) S.1 S.2.1 dX6_coarse_29 (by decide) ?_
      refine lv_idiv S.1 S.2.1 dX6_coarse_31 (by decide) ?_
      exact hR _ _ _ _ _ _ _ _ dX6_coarse_32 rfl (Nat.le_of_ble_eq_true rfl) (Nat.le_of_ble_eq_true rfl) hW ⟨(by simp only [crs, eq_true c_3, eq_true c_17, eq_self, Nat.add_zero, decide_false, decide_true, Bool.not_true, Bool.not_false, Bool.and_true, Bool.true_and, Bool.and_false, Bool.false_and, Bool.or_true, Bool.true_or, Bool.or_false, Bool.false_or, ↓reduceIte, cond_true, cond_false, bI, and_true, true_and, and_false, false_and, or_true, true_or, or_false, false_or, not_true_eq_false, not_false_eq_true, if_true, if_false, Bool.false_eq_true, reduceCtorEq, ite_true, ite_false]), rfl⟩
    · skip
      refine lv_iload_n S.1 S.2.1 dX6_coarse_20 rfl (lv_at hl 0 rfl) ?_
      refine lv_bipush (v := nI 64) S.1 S.2.1 dX6_coarse_21 (by decide) ?_
      refine lv_iadd S.1 S.2.1 dX6_coarse_23 ?_
      refine lv_goto (tgt := 28) S.1 S.2.1 dX6_coarse_24 (by decide) ?_
      refine lv_isub S.1 S.2.1 dX6_coarse_28 ?_
      refine lv_bipush (v := nI 64) S.1 S.2.1 dX6_coarse_29 (by decide) ?_
      refine lv_idiv S.1 S.2.1 dX6_coarse_31 (by decide) ?_
      exact hR _ _ _ _ _ _ _ _ dX6_coarse_32 rfl (Nat.le_of_ble_eq_true rfl) (Nat.le_of_ble_eq_true rfl) hW ⟨(by simp only [crs, eq_true c_3, eq_false c_17, eq_self, Nat.add_zero, decide_false, decide_true, Bool.not_true, Bool.not_false, Bool.and_true, Bool.true_and, Bool.and_false, Bool.false_and, Bool.or_true, Bool.true_or, Bool.or_false, Bool.false_or, ↓reduceIte, cond_true, cond_false, bI, and_true, true_and, and_false, false_and, or_true, true_or, or_false, false_or, not_true_eq_false, not_false_eq_true, if_true, if_false, Bool.false_eq_true, reduceCtorEq, ite_true, ite_false]), rfl⟩
  · skip
    refine lv_sipush (v := (-1000)) S.1 S.2.1 dX6_coarse_6 (by decide) ?_
    exact hR _ _ _ _ _ _ _ _ dX6_coarse_9 rfl (Nat.le_of_ble_eq_true rfl) (Nat.le_of_ble_eq_true rfl) hW ⟨(by simp only [crs, eq_false c_3, eq_self, Nat.add_zero, decide_false, decide_true, Bool.not_true, Bool.not_false, Bool.and_true, Bool.true_and, Bool.and_false, Bool.false_and, Bool.or_true, Bool.true_or, Bool.or_false, Bool.false_or, ↓reduceIte, cond_true, cond_false, bI, and_true, true_and, and_false, false_and, or_true, true_or, or_false, false_or, not_true_eq_false, not_false_eq_true, if_true, if_false, Bool.false_eq_true, reduceCtorEq, ite_true, ite_false]), rfl⟩
abbrev r_X6_farOf : Room := { frames := 1, cells := 0, slots := 0, locals := 21 }
theorem v_X6_farOf : yX6_farOf.cls ≠ "java/lang/invoke/MethodHandle" ∧ yX6_farOf.cls ≠ "java/lang/invoke/VarHandle" ∧ (parseMethodDescriptor yX6_farOf.desc).map (fun d => d.parameters.length) = some 2 := by decide +kernel
set_option maxRecDepth 100000 in
set_option maxHeartbeats 4000000 in
theorem c_X6_farOf {l : Launch} {D : va_G} {cI cZ cF : ClassId} {q : Nat → Nat} {g : Gr} {fi ke : Nat → Int32} {ac : Nat} {mk : Int32} {iv : Nat → Int32} {a b : Nat} (ha : a < 10) (hb : b < 10) : cI_ l D cI cZ cF yX6_farOf wsX6_farOf r_X6_farOf [.ref (q 0), .int (nI a), .int (nI b)] (wM q cI cZ cF g fi ke ac mk iv) (fun r u => r = cfr fi a b ∧ u = wM q cI cZ cF g fi ke ac mk iv) 0 0 := by
  refine cI_of (cc := cX6_farOf) (maxL := 3) (rt := .int) (plainFor_of_name (by decide +kernel)) rfl (Nat.le_of_ble_eq_true rfl) ?_
  intro p e s m args below meth c A Q ls S hk hW hl hR
  have hl : lv_has ls 3 [(0, .ref (q 0)), (1, .int (nI a)), (2, .int (nI b))] := hl
  have hwsX60 : ∀ x ∈ wsX60, x ∈ wsX6_farOf := fun x h => List.mem_cons_of_mem _ (List.mem_append_right _ h)
  refine lv_aload_n S.1 S.2.1 dX6_farOf_0 rfl (lv_at hl 0 rfl) ?_
  refine gf S hk hW 0 rfl rfl hwsX60 8 (by decide) 1 rfl rfl dX6_farOf_1 ?_
  refine lv_bipush (v := nI 10) S.1 S.2.1 dX6_farOf_4 (by decide) ?_
  refine lv_iload_n S.1 S.2.1 dX6_farOf_6 rfl (lv_at hl 1 rfl) ?_
  refine lv_imul S.1 S.2.1 dX6_farOf_7 (top_eq (pk_mul _ _) ?_)
  refine lv_iload_n S.1 S.2.1 dX6_farOf_8 rfl (lv_at hl 2 rfl) ?_
  refine lv_iadd S.1 S.2.1 dX6_farOf_9 (top_eq (nI_add _ _) ?_)
  refine ild S hk hW 6 rfl ((10 * a) + b) rfl (by omega) (by omega) dX6_farOf_10 ?_
  refine kSi S (c_X6_coarse (l := l) (D := D) (cI := cI) (cZ := cZ) (cF := cF)) (va_cwS 1 S.2.2.2.2 gX6_farOf_X6_coarse rfl rfl rfl v_X6_coarse ⟨(Nat.le_of_ble_eq_true rfl), (Nat.le_of_ble_eq_true rfl)⟩) hk hW rfl hl rfl (Nat.le_of_ble_eq_true rfl) dX6_farOf_11 ⟨(Nat.le_of_ble_eq_true rfl), (Nat.le_of_ble_eq_true rfl)⟩ (fun r u H locs hp hW => ?_)
  obtain ⟨rfl, rfl⟩ := hp
  exact hR _ _ _ _ _ _ _ _ dX6_farOf_14 rfl (Nat.le_of_ble_eq_true rfl) (Nat.le_of_ble_eq_true rfl) hW ⟨rfl, rfl⟩
