def gz : Gr := (0, 0, fun _ => 0, fun _ => 0, fun _ => 0, fun _ => 0, fun _ => 0)
abbrev r_X2_init : Room := { frames := 1, cells := 5, slots := 200, locals := 16 }
theorem v_X2_init : yX2_init.cls ≠ "java/lang/invoke/MethodHandle" ∧ yX2_init.cls ≠ "java/lang/invoke/VarHandle" ∧ (parseMethodDescriptor yX2_init.desc).map (fun d => d.parameters.length) = some 0 := by decide +kernel
set_option maxRecDepth 100000 in
set_option maxHeartbeats 4000000 in
theorem c_X2_init {l : Launch} {D : va_G} {cI cZ cF : ClassId}  {e0 : Nat × va_E} {x : Nat}  : cV_ l D cI cZ cF yX2_init wsX2_init r_X2_init [.ref x] ([e0, (x, .inr (2, [.null, .null, .null, .null, .null, .int (nI 0), .int (nI 0)]))]) (fun u => ∃ b1' b2' b3' b4' b5' : Nat, u = [e0, (x, .inr (2, [.ref b1', .ref b2', .ref b3', .ref b4', .ref b5', .int (nI 0), .int (nI 0)])), (b1', va_E_row cI 40 (fun _ => 0)), (b2', va_E_row cI 40 (fun _ => 0)), (b3', va_E_row cI 40 (fun _ => 0)), (b4', va_E_row cZ 40 (fun _ => 0)), (b5', va_E_row cZ 40 (fun _ => 0))]) 5 200 := by
  refine cV_of (cc := cX2_init) (maxL := 1) (plainFor_of_name (by decide +kernel)) rfl (Nat.le_of_ble_eq_true rfl) ?_
  intro p e s m args below meth c A Q ls S hnm hk hW hl hR
  have hl : lv_has ls 1 [(0, .ref x)] := hl
  have hwsX20 : ∀ x ∈ wsX20, x ∈ wsX2_init := fun x h => List.mem_cons_of_mem _ (List.mem_append_right _ h)
  refine lv_aload_n S.1 S.2.1 dX2_init_0 rfl (lv_at hl 0 rfl) ?_
  refine W.objInit S.1 S.2.1 S.2.2.2.1 (S.2.2.2.2 _ (List.mem_of_getElem? (i := 1) rfl)) (S.2.2.2.2 _ (List.mem_of_getElem? (i := 2) rfl)) (S.2.2.2.2 _ (List.mem_of_getElem? (i := 3) rfl)) rfl (hl.1.trans S.2.2.1.symm) rfl dX2_init_1 (Nat.le_of_ble_eq_true rfl) (Nat.le_of_ble_eq_true rfl) ?_
  refine W.eq (g2 := F0 m 4 ls []) rfl ?_
  refine lv_aload_n S.1 S.2.1 dX2_init_4 rfl (lv_at hl 0 rfl) ?_
  refine lv_bipush (v := nI 40) S.1 S.2.1 dX2_init_5 (by decide) ?_
  refine newI S hk hW 4 rfl (by omega) (Nat.le_of_ble_eq_true rfl) (Nat.le_of_ble_eq_true rfl) dX2_init_7 (fun y1 H hW => ?_)
  have hW : wd D A s H _ ([e0, (x, .inr (2, [.null, .null, .null, .null, .null, .int (nI 0), .int (nI 0)])), (y1, va_E_row cI 40 (fun _ => 0))]) := hW
  refine pfF (ty := .array .int) (w' := [e0, (x, .inr (2, [.ref y1, .null, .null, .null, .null, .int (nI 0), .int (nI 0)])), (y1, va_E_row cI 40 (fun _ => 0))]) S hk hW 1 rfl rfl hwsX20 tyX2 tyX2_ok nmX2 0 (by decide) 5 rfl rfl hnm rfl (by decide +kernel) rfl rfl (Nat.le_of_ble_eq_true rfl) dX2_init_9 rfl (fun H locs hW => ?_)
  refine lv_aload_n S.1 S.2.1 dX2_init_12 rfl (lv_at hl 0 rfl) ?_
  refine lv_bipush (v := nI 40) S.1 S.2.1 dX2_init_13 (by decide) ?_
  refine newI S hk hW 4 rfl (by omega) (Nat.le_of_ble_eq_true rfl) (Nat.le_of_ble_eq_true rfl) dX2_init_15 (fun y2 H hW => ?_)
  have hW : wd D A s H _ ([e0, (x, .inr (2, [.ref y1, .null, .null, .null, .null, .int (nI 0), .int (nI 0)])), (y1, va_E_row cI 40 (fun _ => 0)), (y2, va_E_row cI 40 (fun _ => 0))]) := hW
  refine pfF (ty := .array .int) (w' := [e0, (x, .inr (2, [.ref y1, .ref y2, .null, .null, .null, .int (nI 0), .int (nI 0)])), (y1, va_E_row cI 40 (fun _ => 0)), (y2, va_E_row cI 40 (fun _ => 0))]) S hk hW 1 rfl rfl hwsX20 tyX2 tyX2_ok nmX2 1 (by decide) 6 rfl rfl hnm rfl (by decide +kernel) rfl rfl (Nat.le_of_ble_eq_true rfl) dX2_init_17 rfl (fun H locs hW => ?_)
  refine lv_aload_n S.1 S.2.1 dX2_init_20 rfl (lv_at hl 0 rfl) ?_
  refine lv_bipush (v := nI 40) S.1 S.2.1 dX2_init_21 (by decide) ?_
  refine newI S hk hW 4 rfl (by omega) (Nat.le_of_ble_eq_true rfl) (Nat.le_of_ble_eq_true rfl) dX2_init_23 (fun y3 H hW => ?_)
  have hW : wd D A s H _ ([e0, (x, .inr (2, [.ref y1, .ref y2, .null, .null, .null, .int (nI 0), .int (nI 0)])), (y1, va_E_row cI 40 (fun _ => 0)), (y2, va_E_row cI 40 (fun _ => 0)), (y3, va_E_row cI 40 (fun _ => 0))]) := hW
  refine pfF (ty := .array .int) (w' := [e0, (x, .inr (2, [.ref y1, .ref y2, .ref y3, .null, .null, .int (nI 0), .int (nI 0)])), (y1, va_E_row cI 40 (fun _ => 0)), (y2, va_E_row cI 40 (fun _ => 0)), (y3, va_E_row cI 40 (fun _ => 0))]) S hk hW 1 rfl rfl hwsX20 tyX2 tyX2_ok nmX2 2 (by decide) 7 rfl rfl hnm rfl (by decide +kernel) rfl rfl (Nat.le_of_ble_eq_true rfl) dX2_init_25 rfl (fun H locs hW => ?_)
  refine lv_aload_n S.1 S.2.1 dX2_init_28 rfl (lv_at hl 0 rfl) ?_
  refine lv_bipush (v := nI 40) S.1 S.2.1 dX2_init_29 (by decide) ?_
  refine newZ S hk hW 8 rfl (by omega) (Nat.le_of_ble_eq_true rfl) (Nat.le_of_ble_eq_true rfl) dX2_init_31 (fun y4 H hW => ?_)
  have hW : wd D A s H _ ([e0, (x, .inr (2, [.ref y1, .ref y2, .ref y3, .null, .null, .int (nI 0), .int (nI 0)])), (y1, va_E_row cI 40 (fun _ => 0)), (y2, va_E_row cI 40 (fun _ => 0)), (y3, va_E_row cI 40 (fun _ => 0)), (y4, va_E_row cZ 40 (fun _ => 0))]) := hW
  refine pfF (ty := .array .boolean) (w' := [e0, (x, .inr (2, [.ref y1, .ref y2, .ref y3, .ref y4, .null, .int (nI 0), .int (nI 0)])), (y1, va_E_row cI 40 (fun _ => 0)), (y2, va_E_row cI 40 (fun _ => 0)), (y3, va_E_row cI 40 (fun _ => 0)), (y4, va_E_row cZ 40 (fun _ => 0))]) S hk hW 1 rfl rfl hwsX20 tyX2 tyX2_ok nmX2 3 (by decide) 9 rfl rfl hnm rfl (by decide +kernel) rfl rfl (Nat.le_of_ble_eq_true rfl) dX2_init_33 rfl (fun H locs hW => ?_)
  refine lv_aload_n S.1 S.2.1 dX2_init_36 rfl (lv_at hl 0 rfl) ?_
  refine lv_bipush (v := nI 40) S.1 S.2.1 dX2_init_37 (by decide) ?_
  refine newZ S hk hW 8 rfl (by omega) (Nat.le_of_ble_eq_true rfl) (Nat.le_of_ble_eq_true rfl) dX2_init_39 (fun y5 H hW => ?_)
  have hW : wd D A s H _ ([e0, (x, .inr (2, [.ref y1, .ref y2, .ref y3, .ref y4, .null, .int (nI 0), .int (nI 0)])), (y1, va_E_row cI 40 (fun _ => 0)), (y2, va_E_row cI 40 (fun _ => 0)), (y3, va_E_row cI 40 (fun _ => 0)), (y4, va_E_row cZ 40 (fun _ => 0)), (y5, va_E_row cZ 40 (fun _ => 0))]) := hW
  refine pfF (ty := .array .boolean) (w' := [e0, (x, .inr (2, [.ref y1, .ref y2, .ref y3, .ref y4, .ref y5, .int (nI 0), .int (nI 0)])), (y1, va_E_row cI 40 (fun _ => 0)), (y2, va_E_row cI 40 (fun _ => 0)), (y3, va_E_row cI 40 (fun _ => 0)), (y4, va_E_row cZ 40 (fun _ => 0)), (y5, va_E_row cZ 40 (fun _ => 0))]) S hk hW 1 rfl rfl hwsX20 tyX2 tyX2_ok nmX2 4 (by decide) 10 rfl rfl hnm rfl (by decide +kernel) rfl rfl (Nat.le_of_ble_eq_true rfl) dX2_init_41 rfl (fun H locs hW => ?_)
  exact hR _ _ _ _ _ _ _ dX2_init_44 (Nat.le_of_ble_eq_true rfl) (Nat.le_of_ble_eq_true rfl) hW ⟨_, _, _, _, _, rfl⟩
abbrev r_X4_init : Room := { frames := 1, cells := 2, slots := 110, locals := 16 }
theorem v_X4_init : yX4_init.cls ≠ "java/lang/invoke/MethodHandle" ∧ yX4_init.cls ≠ "java/lang/invoke/VarHandle" ∧ (parseMethodDescriptor yX4_init.desc).map (fun d => d.parameters.length) = some 1 := by decide +kernel
set_option maxRecDepth 100000 in
set_option maxHeartbeats 4000000 in
theorem c_X4_init {l : Launch} {D : va_G} {cI cZ cF : ClassId}  {e0 e1 e2 e3 e4 e5 e6 : Nat × va_E} {x n : Nat}  : cV_ l D cI cZ cF yX4_init wsX4_init r_X4_init [.ref x, .ref n] ([e0, e1, e2, e3, e4, e5, e6, (x, .inr (4, [.null, .null, .null]))]) (fun u => ∃ b1' b2' : Nat, u = [e0, e1, e2, e3, e4, e5, e6, (x, .inr (4, [.ref n, .ref b1', .ref b2'])), (b1', va_E_row cI 100 (fun _ => 0)), (b2', va_E_row cI 10 (fun _ => 0))]) 2 110 := by
  refine cV_of (cc := cX4_init) (maxL := 2) (plainFor_of_name (by decide +kernel)) rfl (Nat.le_of_ble_eq_true rfl) ?_
  intro p e s m args below meth c A Q ls S hnm hk hW hl hR
  have hl : lv_has ls 2 [(0, .ref x), (1, .ref n)] := hl
  have hwsX40 : ∀ x ∈ wsX40, x ∈ wsX4_init := fun x h => List.mem_cons_of_mem _ (List.mem_append_right _ h)
  refine lv_aload_n S.1 S.2.1 dX4_init_0 rfl (lv_at hl 0 rfl) ?_
  refine W.objInit S.1 S.2.1 S.2.2.2.1 (S.2.2.2.2 _ (List.mem_of_getElem? (i := 1) rfl)) (S.2.2.2.2 _ (List.mem_of_getElem? (i := 2) rfl)) (S.2.2.2.2 _ (List.mem_of_getElem? (i := 3) rfl)) rfl (hl.1.trans S.2.2.1.symm) rfl dX4_init_1 (Nat.le_of_ble_eq_true rfl) (Nat.le_of_ble_eq_true rfl) ?_
  refine W.eq (g2 := F0 m 4 ls []) rfl ?_
  refine lv_aload_n S.1 S.2.1 dX4_init_4 rfl (lv_at hl 0 rfl) ?_
  refine lv_bipush (v := nI 100) S.1 S.2.1 dX4_init_5 (by decide) ?_
  refine newI S hk hW 4 rfl (by omega) (Nat.le_of_ble_eq_true rfl) (Nat.le_of_ble_eq_true rfl) dX4_init_7 (fun y1 H hW => ?_)
  have hW : wd D A s H _ ([e0, e1, e2, e3, e4, e5, e6, (x, .inr (4, [.null, .null, .null])), (y1, va_E_row cI 100 (fun _ => 0))]) := hW
  refine pfF (ty := .array .int) (w' := [e0, e1, e2, e3, e4, e5, e6, (x, .inr (4, [.null, .ref y1, .null])), (y1, va_E_row cI 100 (fun _ => 0))]) S hk hW 7 rfl rfl hwsX40 tyX4 tyX4_ok nmX4 1 (by decide) 5 rfl rfl hnm rfl (by decide +kernel) rfl rfl (Nat.le_of_ble_eq_true rfl) dX4_init_9 rfl (fun H locs hW => ?_)
  refine lv_aload_n S.1 S.2.1 dX4_init_12 rfl (lv_at hl 0 rfl) ?_
  refine lv_bipush (v := nI 10) S.1 S.2.1 dX4_init_13 (by decide) ?_
  refine newI S hk hW 4 rfl (by omega) (Nat.le_of_ble_eq_true rfl) (Nat.le_of_ble_eq_true rfl) dX4_init_15 (fun y2 H hW => ?_)
  have hW : wd D A s H _ ([e0, e1, e2, e3, e4, e5, e6, (x, .inr (4, [.null, .ref y1, .null])), (y1, va_E_row cI 100 (fun _ => 0)), (y2, va_E_row cI 10 (fun _ => 0))]) := hW
  refine pfF (ty := .array .int) (w' := [e0, e1, e2, e3, e4, e5, e6, (x, .inr (4, [.null, .ref y1, .ref y2])), (y1, va_E_row cI 100 (fun _ => 0)), (y2, va_E_row cI 10 (fun _ => 0))]) S hk hW 7 rfl rfl hwsX40 tyX4 tyX4_ok nmX4 2 (by decide) 6 rfl rfl hnm rfl (by decide +kernel) rfl rfl (Nat.le_of_ble_eq_true rfl) dX4_init_17 rfl (fun H locs hW => ?_)
  refine lv_aload_n S.1 S.2.1 dX4_init_20 rfl (lv_at hl 0 rfl) ?_
  refine lv_aload_n S.1 S.2.1 dX4_init_21 rfl (lv_at hl 1 rfl) ?_
  refine pfF (ty := .object "WaysKept$Net") (w' := [e0, e1, e2, e3, e4, e5, e6, (x, .inr (4, [.ref n, .ref y1, .ref y2])), (y1, va_E_row cI 100 (fun _ => 0)), (y2, va_E_row cI 10 (fun _ => 0))]) S hk hW 7 rfl rfl hwsX40 tyX4 tyX4_ok nmX4 0 (by decide) 7 rfl rfl hnm rfl (by decide +kernel) rfl rfl (Nat.le_of_ble_eq_true rfl) dX4_init_22 rfl (fun H locs hW => ?_)
  exact hR _ _ _ _ _ _ _ dX4_init_25 (Nat.le_of_ble_eq_true rfl) (Nat.le_of_ble_eq_true rfl) hW ⟨_, _, rfl⟩
abbrev r_X3_init : Room := { frames := 1, cells := 1, slots := 401, locals := 16 }
theorem v_X3_init : yX3_init.cls ≠ "java/lang/invoke/MethodHandle" ∧ yX3_init.cls ≠ "java/lang/invoke/VarHandle" ∧ (parseMethodDescriptor yX3_init.desc).map (fun d => d.parameters.length) = some 0 := by decide +kernel
set_option maxRecDepth 100000 in
set_option maxHeartbeats 4000000 in
theorem c_X3_init {l : Launch} {D : va_G} {cI cZ cF : ClassId}  {e0 e1 e2 e3 e4 e5 e6 e7 e8 e9 : Nat × va_E} {x : Nat}  : cV_ l D cI cZ cF yX3_init wsX3_init r_X3_init [.ref x] ([e0, e1, e2, e3, e4, e5, e6, e7, e8, e9, (x, .inr (3, [.null, .int (nI 0)]))]) (fun u => ∃ b1' : Nat, u = [e0, e1, e2, e3, e4, e5, e6, e7, e8, e9, (x, .inr (3, [.ref b1', .int (nI 0)])), (b1', .inl (cF, 401, .inr (.inr (.inr (.inr (fun _ => none))))))]) 1 401 := by
  refine cV_of (cc := cX3_init) (maxL := 1) (plainFor_of_name (by decide +kernel)) rfl (Nat.le_of_ble_eq_true rfl) ?_
  intro p e s m args below meth c A Q ls S hnm hk hW hl hR
  have hl : lv_has ls 1 [(0, .ref x)] := hl
  have hwsX30 : ∀ x ∈ wsX30, x ∈ wsX3_init := fun x h => List.mem_cons_of_mem _ (List.mem_append_right _ h)
  refine lv_aload_n S.1 S.2.1 dX3_init_0 rfl (lv_at hl 0 rfl) ?_
  refine W.objInit S.1 S.2.1 S.2.2.2.1 (S.2.2.2.2 _ (List.mem_of_getElem? (i := 1) rfl)) (S.2.2.2.2 _ (List.mem_of_getElem? (i := 2) rfl)) (S.2.2.2.2 _ (List.mem_of_getElem? (i := 3) rfl)) rfl (hl.1.trans S.2.2.1.symm) rfl dX3_init_1 (Nat.le_of_ble_eq_true rfl) (Nat.le_of_ble_eq_true rfl) ?_
  refine W.eq (g2 := F0 m 4 ls []) rfl ?_
  refine lv_aload_n S.1 S.2.1 dX3_init_4 rfl (lv_at hl 0 rfl) ?_
  refine lv_sipush (v := nI 401) S.1 S.2.1 dX3_init_5 (by decide) ?_
  refine newQ S hk hW 4 rfl (by omega) (Nat.le_of_ble_eq_true rfl) (Nat.le_of_ble_eq_true rfl) dX3_init_8 (fun y1 H hW => ?_)
  have hW : wd D A s H _ ([e0, e1, e2, e3, e4, e5, e6, e7, e8, e9, (x, .inr (3, [.null, .int (nI 0)])), (y1, .inl (cF, 401, .inr (.inr (.inr (.inr (fun _ => none))))))]) := hW
  refine pfF (ty := .array (.object "WaysKept$Fars")) (w' := [e0, e1, e2, e3, e4, e5, e6, e7, e8, e9, (x, .inr (3, [.ref y1, .int (nI 0)])), (y1, .inl (cF, 401, .inr (.inr (.inr (.inr (fun _ => none))))))]) S hk hW 10 rfl rfl hwsX30 tyX3 tyX3_ok nmX3 0 (by decide) 5 rfl rfl hnm rfl (by decide +kernel) rfl rfl (Nat.le_of_ble_eq_true rfl) dX3_init_11 rfl (fun H locs hW => ?_)
  exact hR _ _ _ _ _ _ _ dX3_init_14 (Nat.le_of_ble_eq_true rfl) (Nat.le_of_ble_eq_true rfl) hW ⟨_, rfl⟩
abbrev r_X1_init : Room := { frames := 1, cells := 1, slots := 100, locals := 16 }
theorem v_X1_init : yX1_init.cls ≠ "java/lang/invoke/MethodHandle" ∧ yX1_init.cls ≠ "java/lang/invoke/VarHandle" ∧ (parseMethodDescriptor yX1_init.desc).map (fun d => d.parameters.length) = some 0 := by decide +kernel
set_option maxRecDepth 100000 in
set_option maxHeartbeats 4000000 in
theorem c_X1_init {l : Launch} {D : va_G} {cI cZ cF : ClassId}  {e0 e1 e2 e3 e4 e5 e6 e7 e8 e9 e10 e11 : Nat × va_E} {x : Nat}  : cV_ l D cI cZ cF yX1_init wsX1_init r_X1_init [.ref x] ([e0, e1, e2, e3, e4, e5, e6, e7, e8, e9, e10, e11, (x, .inr (1, [.null, .int (nI 0)]))]) (fun u => ∃ b1' : Nat, u = [e0, e1, e2, e3, e4, e5, e6, e7, e8, e9, e10, e11, (x, .inr (1, [.ref b1', .int (nI 0)])), (b1', va_E_row cI 100 (fun _ => 0))]) 1 100 := by
  refine cV_of (cc := cX1_init) (maxL := 1) (plainFor_of_name (by decide +kernel)) rfl (Nat.le_of_ble_eq_true rfl) ?_
  intro p e s m args below meth c A Q ls S hnm hk hW hl hR
  have hl : lv_has ls 1 [(0, .ref x)] := hl
  have hwsX10 : ∀ x ∈ wsX10, x ∈ wsX1_init := fun x h => List.mem_cons_of_mem _ (List.mem_append_right _ h)
  refine lv_aload_n S.1 S.2.1 dX1_init_0 rfl (lv_at hl 0 rfl) ?_
  refine W.objInit S.1 S.2.1 S.2.2.2.1 (S.2.2.2.2 _ (List.mem_of_getElem? (i := 1) rfl)) (S.2.2.2.2 _ (List.mem_of_getElem? (i := 2) rfl)) (S.2.2.2.2 _ (List.mem_of_getElem? (i := 3) rfl)) rfl (hl.1.trans S.2.2.1.symm) rfl dX1_init_1 (Nat.le_of_ble_eq_true rfl) (Nat.le_of_ble_eq_true rfl) ?_
  refine W.eq (g2 := F0 m 4 ls []) rfl ?_
  refine lv_aload_n S.1 S.2.1 dX1_init_4 rfl (lv_at hl 0 rfl) ?_
  refine lv_bipush (v := nI 100) S.1 S.2.1 dX1_init_5 (by decide) ?_
  refine newI S hk hW 4 rfl (by omega) (Nat.le_of_ble_eq_true rfl) (Nat.le_of_ble_eq_true rfl) dX1_init_7 (fun y1 H hW => ?_)
  have hW : wd D A s H _ ([e0, e1, e2, e3, e4, e5, e6, e7, e8, e9, e10, e11, (x, .inr (1, [.null, .int (nI 0)])), (y1, va_E_row cI 100 (fun _ => 0))]) := hW
  refine pfF (ty := .array .int) (w' := [e0, e1, e2, e3, e4, e5, e6, e7, e8, e9, e10, e11, (x, .inr (1, [.ref y1, .int (nI 0)])), (y1, va_E_row cI 100 (fun _ => 0))]) S hk hW 12 rfl rfl hwsX10 tyX1 tyX1_ok nmX1 0 (by decide) 5 rfl rfl hnm rfl (by decide +kernel) rfl rfl (Nat.le_of_ble_eq_true rfl) dX1_init_9 rfl (fun H locs hW => ?_)
  exact hR _ _ _ _ _ _ _ dX1_init_12 (Nat.le_of_ble_eq_true rfl) (Nat.le_of_ble_eq_true rfl) hW ⟨_, rfl⟩
abbrev r_X5_init : Room := { frames := 7, cells := 15, slots := 926, locals := 149 }
theorem v_X5_init : yX5_init.cls ≠ "java/lang/invoke/MethodHandle" ∧ yX5_init.cls ≠ "java/lang/invoke/VarHandle" ∧ (parseMethodDescriptor yX5_init.desc).map (fun d => d.parameters.length) = some 0 := by decide +kernel
set_option maxRecDepth 100000 in
set_option maxHeartbeats 4000000 in
theorem c_X5_init {l : Launch} {D : va_G} {cI cZ cF : ClassId}  {h : Nat}  : cV_ l D cI cZ cF yX5_init wsX5_init r_X5_init [.ref h] ([(h, .inr (5, [.null, .null, .null, .null, .int (nI 0)]))]) (fun u => ∃ q : Nat → Nat, q 0 = h ∧ actP q cI cZ cF (sK (sN gz 2) 0) 0 0 (fun _ => 0) 0 (fun _ => 0) (nI 0) u) 15 926 := by
  refine cV_of (cc := cX5_init) (maxL := 1) (plainFor_of_name (by decide +kernel)) rfl (Nat.le_of_ble_eq_true rfl) ?_
  intro p e s m args below meth c A Q ls S hnm hk hW hl hR
  have hl : lv_has ls 1 [(0, .ref h)] := hl
  have hwsX20 : ∀ x ∈ wsX20, x ∈ wsX5_init := fun x h => List.mem_cons_of_mem _ (List.mem_append_left _ (List.mem_append_left _ (List.mem_append_left _ (List.mem_append_left _ (List.mem_append_left _ (List.mem_append_right _ h))))))
  have hwsX50 : ∀ x ∈ wsX50, x ∈ wsX5_init := fun x h => List.mem_cons_of_mem _ (List.mem_append_left _ (List.mem_append_left _ (List.mem_append_left _ (List.mem_append_left _ (List.mem_append_right _ h)))))
  have hwsX40 : ∀ x ∈ wsX40, x ∈ wsX5_init := fun x h => List.mem_cons_of_mem _ (List.mem_append_left _ (List.mem_append_left _ (List.mem_append_left _ (List.mem_append_right _ h))))
  have hwsX30 : ∀ x ∈ wsX30, x ∈ wsX5_init := fun x h => List.mem_cons_of_mem _ (List.mem_append_left _ (List.mem_append_left _ (List.mem_append_right _ h)))
  have hwsX10 : ∀ x ∈ wsX10, x ∈ wsX5_init := fun x h => List.mem_cons_of_mem _ (List.mem_append_left _ (List.mem_append_right _ h))
  have hwsX00 : ∀ x ∈ wsX00, x ∈ wsX5_init := fun x h => List.mem_cons_of_mem _ (List.mem_append_right _ h)
  have hg0 : gC 0 0 = 2 := by decide
  have hg1 : gS 0 0 = 101 := by decide
  refine lv_aload_n S.1 S.2.1 dX5_init_0 rfl (lv_at hl 0 rfl) ?_
  refine W.objInit S.1 S.2.1 S.2.2.2.1 (S.2.2.2.2 _ (List.mem_of_getElem? (i := 1) rfl)) (S.2.2.2.2 _ (List.mem_of_getElem? (i := 2) rfl)) (S.2.2.2.2 _ (List.mem_of_getElem? (i := 3) rfl)) rfl (hl.1.trans S.2.2.1.symm) rfl dX5_init_1 (Nat.le_of_ble_eq_true rfl) (Nat.le_of_ble_eq_true rfl) ?_
  refine W.eq (g2 := F0 m 4 ls []) rfl ?_
  refine lv_aload_n S.1 S.2.1 dX5_init_4 rfl (lv_at hl 0 rfl) ?_
  refine newO (ci := 2) (fs := [.null, .null, .null, .null, .null, .int (nI 0), .int (nI 0)]) S hk hW hwsX20 tyX2 tyX2_ok 4 5 6 rfl rfl rfl rfl (fun j hj => by rcases (show j = 0 ∨ j = 1 ∨ j = 2 ∨ j = 3 ∨ j = 4 ∨ j = 5 ∨ j = 6 by omega) with rfl | rfl | rfl | rfl | rfl | rfl | rfl <;> rfl) (Nat.le_of_ble_eq_true rfl) (Nat.le_of_ble_eq_true rfl) dX5_init_5 (fun y1 H hW => ?_)
  have hW : wd D A s H _ ([(h, .inr (5, [.null, .null, .null, .null, .int (nI 0)])), (y1, .inr (2, [.null, .null, .null, .null, .null, .int (nI 0), .int (nI 0)]))]) := hW
  refine lv_dup S.1 S.2.1 dX5_init_8 rfl ?_
  refine kNIv (As := []) S (c_X2_init (l := l) (D := D) (cI := cI) (cZ := cZ) (cF := cF)) ⟨va_cnB (host := RX5) 0 S.2.2.2.2 gX5_init_X2_init_n11 rfl rfl rfl (hk.2.1.1 _ (List.mem_of_getElem? (i := 15) rfl)) (S.2.2.2.2 _ (List.mem_of_getElem? (i := 6) rfl)) v_X2_init ⟨(Nat.le_of_ble_eq_true rfl), (Nat.le_of_ble_eq_true rfl)⟩, rfl, S.2.2.2.2 _ (List.mem_of_getElem? (i := 20) rfl)⟩ hk hW rfl hl rfl (Nat.le_of_ble_eq_true rfl) dX5_init_9 ⟨(Nat.le_of_ble_eq_true rfl), (Nat.le_of_ble_eq_true rfl)⟩ (fun u H locs hp hW => ?_)
  obtain ⟨y2, y3, y4, y5, y6, rfl⟩ := hp
  refine pfF (ty := .object "WaysKept$Net") (w' := [(h, .inr (5, [.ref y1, .null, .null, .null, .int (nI 0)])), (y1, .inr (2, [.ref y2, .ref y3, .ref y4, .ref y5, .ref y6, .int (nI 0), .int (nI 0)])), (y2, va_E_row cI 40 (fun _ => 0)), (y3, va_E_row cI 40 (fun _ => 0)), (y4, va_E_row cI 40 (fun _ => 0)), (y5, va_E_row cZ 40 (fun _ => 0)), (y6, va_E_row cZ 40 (fun _ => 0))]) S hk hW 0 rfl rfl hwsX50 tyX5 tyX5_ok nmX5 0 (by decide) 7 rfl rfl hnm rfl (by decide +kernel) rfl rfl (Nat.le_of_ble_eq_true rfl) dX5_init_12 rfl (fun H locs hW => ?_)
  refine lv_aload_n S.1 S.2.1 dX5_init_15 rfl (lv_at hl 0 rfl) ?_
  refine newO (ci := 4) (fs := [.null, .null, .null]) S hk hW hwsX40 tyX4 tyX4_ok 8 9 10 rfl rfl rfl rfl (fun j hj => by rcases (show j = 0 ∨ j = 1 ∨ j = 2 by omega) with rfl | rfl | rfl <;> rfl) (Nat.le_of_ble_eq_true rfl) (Nat.le_of_ble_eq_true rfl) dX5_init_16 (fun y7 H hW => ?_)
  have hW : wd D A s H _ ([(h, .inr (5, [.ref y1, .null, .null, .null, .int (nI 0)])), (y1, .inr (2, [.ref y2, .ref y3, .ref y4, .ref y5, .ref y6, .int (nI 0), .int (nI 0)])), (y2, va_E_row cI 40 (fun _ => 0)), (y3, va_E_row cI 40 (fun _ => 0)), (y4, va_E_row cI 40 (fun _ => 0)), (y5, va_E_row cZ 40 (fun _ => 0)), (y6, va_E_row cZ 40 (fun _ => 0)), (y7, .inr (4, [.null, .null, .null]))]) := hW
  refine lv_dup S.1 S.2.1 dX5_init_19 rfl ?_
  refine lv_aload_n S.1 S.2.1 dX5_init_20 rfl (lv_at hl 0 rfl) ?_
  refine gf S hk hW 0 rfl rfl hwsX50 0 (by decide) 7 rfl rfl dX5_init_21 ?_
  refine kIv (As := [.ref y1]) S (c_X4_init (l := l) (D := D) (cI := cI) (cZ := cZ) (cF := cF)) (cwI 1 S.2.2.2.2 gX5_init_X4_init rfl rfl rfl (S.2.2.2.2 _ (List.mem_of_getElem? (i := 10) rfl)) (S.2.2.2.2 _ (List.mem_of_getElem? (i := 30) rfl)) (S.2.2.2.2 _ (List.mem_of_getElem? (i := 31) rfl)) rfl v_X4_init ⟨(Nat.le_of_ble_eq_true rfl), (Nat.le_of_ble_eq_true rfl)⟩) hk hW rfl hl rfl (Nat.le_of_ble_eq_true rfl) dX5_init_24 ⟨(Nat.le_of_ble_eq_true rfl), (Nat.le_of_ble_eq_true rfl)⟩ (fun u H locs hp hW => ?_)
  obtain ⟨y8, y9, rfl⟩ := hp
  refine pfF (ty := .object "WaysKept$Ways") (w' := [(h, .inr (5, [.ref y1, .ref y7, .null, .null, .int (nI 0)])), (y1, .inr (2, [.ref y2, .ref y3, .ref y4, .ref y5, .ref y6, .int (nI 0), .int (nI 0)])), (y2, va_E_row cI 40 (fun _ => 0)), (y3, va_E_row cI 40 (fun _ => 0)), (y4, va_E_row cI 40 (fun _ => 0)), (y5, va_E_row cZ 40 (fun _ => 0)), (y6, va_E_row cZ 40 (fun _ => 0)), (y7, .inr (4, [.ref y1, .ref y8, .ref y9])), (y8, va_E_row cI 100 (fun _ => 0)), (y9, va_E_row cI 10 (fun _ => 0))]) S hk hW 0 rfl rfl hwsX50 tyX5 tyX5_ok nmX5 1 (by decide) 11 rfl rfl hnm rfl (by decide +kernel) rfl rfl (Nat.le_of_ble_eq_true rfl) dX5_init_27 rfl (fun H locs hW => ?_)
  refine lv_aload_n S.1 S.2.1 dX5_init_30 rfl (lv_at hl 0 rfl) ?_
  refine newO (ci := 3) (fs := [.null, .int (nI 0)]) S hk hW hwsX30 tyX3 tyX3_ok 12 13 14 rfl rfl rfl rfl (fun j hj => by rcases (show j = 0 ∨ j = 1 by omega) with rfl | rfl <;> rfl) (Nat.le_of_ble_eq_true rfl) (Nat.le_of_ble_eq_true rfl) dX5_init_31 (fun y10 H hW => ?_)
  have hW : wd D A s H _ ([(h, .inr (5, [.ref y1, .ref y7, .null, .null, .int (nI 0)])), (y1, .inr (2, [.ref y2, .ref y3, .ref y4, .ref y5, .ref y6, .int (nI 0), .int (nI 0)])), (y2, va_E_row cI 40 (fun _ => 0)), (y3, va_E_row cI 40 (fun _ => 0)), (y4, va_E_row cI 40 (fun _ => 0)), (y5, va_E_row cZ 40 (fun _ => 0)), (y6, va_E_row cZ 40 (fun _ => 0)), (y7, .inr (4, [.ref y1, .ref y8, .ref y9])), (y8, va_E_row cI 100 (fun _ => 0)), (y9, va_E_row cI 10 (fun _ => 0)), (y10, .inr (3, [.null, .int (nI 0)]))]) := hW
  refine lv_dup S.1 S.2.1 dX5_init_34 rfl ?_
  refine kNIv (As := []) S (c_X3_init (l := l) (D := D) (cI := cI) (cZ := cZ) (cF := cF)) ⟨va_cnB (host := RX5) 0 S.2.2.2.2 gX5_init_X3_init_n27 rfl rfl rfl (hk.2.1.1 _ (List.mem_of_getElem? (i := 16) rfl)) (S.2.2.2.2 _ (List.mem_of_getElem? (i := 14) rfl)) v_X3_init ⟨(Nat.le_of_ble_eq_true rfl), (Nat.le_of_ble_eq_true rfl)⟩, rfl, S.2.2.2.2 _ (List.mem_of_getElem? (i := 37) rfl)⟩ hk hW rfl hl rfl (Nat.le_of_ble_eq_true rfl) dX5_init_35 ⟨(Nat.le_of_ble_eq_true rfl), (Nat.le_of_ble_eq_true rfl)⟩ (fun u H locs hp hW => ?_)
  obtain ⟨y11, rfl⟩ := hp
  refine pfF (ty := .object "WaysKept$Past") (w' := [(h, .inr (5, [.ref y1, .ref y7, .ref y10, .null, .int (nI 0)])), (y1, .inr (2, [.ref y2, .ref y3, .ref y4, .ref y5, .ref y6, .int (nI 0), .int (nI 0)])), (y2, va_E_row cI 40 (fun _ => 0)), (y3, va_E_row cI 40 (fun _ => 0)), (y4, va_E_row cI 40 (fun _ => 0)), (y5, va_E_row cZ 40 (fun _ => 0)), (y6, va_E_row cZ 40 (fun _ => 0)), (y7, .inr (4, [.ref y1, .ref y8, .ref y9])), (y8, va_E_row cI 100 (fun _ => 0)), (y9, va_E_row cI 10 (fun _ => 0)), (y10, .inr (3, [.ref y11, .int (nI 0)])), (y11, .inl (cF, 401, .inr (.inr (.inr (.inr (fun _ => none))))))]) S hk hW 0 rfl rfl hwsX50 tyX5 tyX5_ok nmX5 2 (by decide) 15 rfl rfl hnm rfl (by decide +kernel) rfl rfl (Nat.le_of_ble_eq_true rfl) dX5_init_38 rfl (fun H locs hW => ?_)
  refine lv_aload_n S.1 S.2.1 dX5_init_41 rfl (lv_at hl 0 rfl) ?_
  refine newO (ci := 1) (fs := [.null, .int (nI 0)]) S hk hW hwsX10 tyX1 tyX1_ok 16 17 18 rfl rfl rfl rfl (fun j hj => by rcases (show j = 0 ∨ j = 1 by omega) with rfl | rfl <;> rfl) (Nat.le_of_ble_eq_true rfl) (Nat.le_of_ble_eq_true rfl) dX5_init_42 (fun y12 H hW => ?_)
  have hW : wd D A s H _ ([(h, .inr (5, [.ref y1, .ref y7, .ref y10, .null, .int (nI 0)])), (y1, .inr (2, [.ref y2, .ref y3, .ref y4, .ref y5, .ref y6, .int (nI 0), .int (nI 0)])), (y2, va_E_row cI 40 (fun _ => 0)), (y3, va_E_row cI 40 (fun _ => 0)), (y4, va_E_row cI 40 (fun _ => 0)), (y5, va_E_row cZ 40 (fun _ => 0)), (y6, va_E_row cZ 40 (fun _ => 0)), (y7, .inr (4, [.ref y1, .ref y8, .ref y9])), (y8, va_E_row cI 100 (fun _ => 0)), (y9, va_E_row cI 10 (fun _ => 0)), (y10, .inr (3, [.ref y11, .int (nI 0)])), (y11, .inl (cF, 401, .inr (.inr (.inr (.inr (fun _ => none)))))), (y12, .inr (1, [.null, .int (nI 0)]))]) := hW
  refine lv_dup S.1 S.2.1 dX5_init_45 rfl ?_
  refine kNIv (As := []) S (c_X1_init (l := l) (D := D) (cI := cI) (cZ := cZ) (cF := cF)) ⟨va_cnB (host := RX5) 0 S.2.2.2.2 gX5_init_X1_init_n34 rfl rfl rfl (hk.2.1.1 _ (List.mem_of_getElem? (i := 17) rfl)) (S.2.2.2.2 _ (List.mem_of_getElem? (i := 18) rfl)) v_X1_init ⟨(Nat.le_of_ble_eq_true rfl), (Nat.le_of_ble_eq_true rfl)⟩, rfl, S.2.2.2.2 _ (List.mem_of_getElem? (i := 42) rfl)⟩ hk hW rfl hl rfl (Nat.le_of_ble_eq_true rfl) dX5_init_46 ⟨(Nat.le_of_ble_eq_true rfl), (Nat.le_of_ble_eq_true rfl)⟩ (fun u H locs hp hW => ?_)
  obtain ⟨y13, rfl⟩ := hp
  refine pfF (ty := .object "WaysKept$Hitting") (w' := [(h, .inr (5, [.ref y1, .ref y7, .ref y10, .ref y12, .int (nI 0)])), (y1, .inr (2, [.ref y2, .ref y3, .ref y4, .ref y5, .ref y6, .int (nI 0), .int (nI 0)])), (y2, va_E_row cI 40 (fun _ => 0)), (y3, va_E_row cI 40 (fun _ => 0)), (y4, va_E_row cI 40 (fun _ => 0)), (y5, va_E_row cZ 40 (fun _ => 0)), (y6, va_E_row cZ 40 (fun _ => 0)), (y7, .inr (4, [.ref y1, .ref y8, .ref y9])), (y8, va_E_row cI 100 (fun _ => 0)), (y9, va_E_row cI 10 (fun _ => 0)), (y10, .inr (3, [.ref y11, .int (nI 0)])), (y11, .inl (cF, 401, .inr (.inr (.inr (.inr (fun _ => none)))))), (y12, .inr (1, [.ref y13, .int (nI 0)])), (y13, va_E_row cI 100 (fun _ => 0))]) S hk hW 0 rfl rfl hwsX50 tyX5 tyX5_ok nmX5 3 (by decide) 19 rfl rfl hnm rfl (by decide +kernel) rfl rfl (Nat.le_of_ble_eq_true rfl) dX5_init_49 rfl (fun H locs hW => ?_)
  have hW : wd D A s H locs (wC (fun j => [h, y1, y7, y10, y12, y2, y3, y4, y5, y6, y8, y9, y11, y13].getD j 0) (fun _ => 0) cI cZ cF gz (fun _ => 0) (fun _ => 0) 0 0 (fun _ => 0) 0 (fun _ => 0) (nI 0)) := ⟨hW.1.sub [0, 1, 7, 10, 12, 2, 3, 4, 5, 6, 8, 9, 11, 13] rfl, hW.2.1.sub [0, 1, 7, 10, 12, 2, 3, 4, 5, 6, 8, 9, 11, 13] (by decide) rfl, hW.2.2⟩
  generalize hq : (fun j => [h, y1, y7, y10, y12, y2, y3, y4, y5, y6, y8, y9, y11, y13].getD j 0) = q at hW
  have hq0 : q 0 = h := by rw [← hq]; rfl
  rw [← hq0] at hl
  refine lv_aload_n S.1 S.2.1 dX5_init_52 rfl (lv_at hl 0 rfl) ?_
  refine lv_iconst (v := nI 2) S.1 S.2.1 dX5_init_53 (by decide) ?_
  refine kVv S (c_X5_restart (l := l) (D := D) (cI := cI) (cZ := cZ) (cF := cF) (by omega) (by omega) (by omega) (by omega)) (cwV 1 S.2.2.2.2 gX5_init_X5_restart rfl rfl rfl ⟨rfl, v_X5_restart⟩ ⟨(Nat.le_of_ble_eq_true rfl), (Nat.le_of_ble_eq_true rfl)⟩) hk hW 0 rfl rfl rfl rfl hl rfl (Nat.le_of_ble_eq_true rfl) dX5_init_54 ⟨Nat.le_of_ble_eq_true rfl, Nat.le_of_ble_eq_true rfl⟩ (fun u H locs hp hW => ?_)
  obtain ⟨qf'_14, C'_15, R'_16, F'_17, hCa, hFo, hFn, rfl⟩ := hp
  exact hR _ _ _ _ _ _ _ dX5_init_57 (by omega) (by omega) hW ⟨q, hq0, _, _, _, _, hCa, hFo, hFn, rfl⟩
abbrev r_X6_init : Room := { frames := 2, cells := 8, slots := 40500, locals := 42 }
theorem v_X6_init : yX6_init.cls ≠ "java/lang/invoke/MethodHandle" ∧ yX6_init.cls ≠ "java/lang/invoke/VarHandle" ∧ (parseMethodDescriptor yX6_init.desc).map (fun d => d.parameters.length) = some 0 := by decide +kernel
set_option maxRecDepth 100000 in
set_option maxHeartbeats 4000000 in
theorem c_X6_init {l : Launch} {D : va_G} {cI cZ cF : ClassId}  {h : Nat}  : cV_ l D cI cZ cF yX6_init wsX6_init r_X6_init [.ref h] ([(h, .inr (6, [.int (nI 0), .int (nI 0), .int (nI 0), .null, .null, .null, .null, .null, .null, .null, .int (nI 0), .int (nI 0), .null]))]) (fun u => ∃ q : Nat → Nat, q 0 = h ∧ actM q cI cZ cF (sN gz 2) 0 (fun _ => 0) (nI 0) (fun _ => 0) u) 8 40500 := by
  refine cV_of (cc := cX6_init) (maxL := 1) (plainFor_of_name (by decide +kernel)) rfl (Nat.le_of_ble_eq_true rfl) ?_
  intro p e s m args below meth c A Q ls S hnm hk hW hl hR
  have hl : lv_has ls 1 [(0, .ref h)] := hl
  have hwsX60 : ∀ x ∈ wsX60, x ∈ wsX6_init := fun x h => List.mem_cons_of_mem _ (List.mem_append_right _ h)
  refine lv_aload_n S.1 S.2.1 dX6_init_0 rfl (lv_at hl 0 rfl) ?_
  refine W.objInit S.1 S.2.1 S.2.2.2.1 (S.2.2.2.2 _ (List.mem_of_getElem? (i := 1) rfl)) (S.2.2.2.2 _ (List.mem_of_getElem? (i := 2) rfl)) (S.2.2.2.2 _ (List.mem_of_getElem? (i := 3) rfl)) rfl (hl.1.trans S.2.2.1.symm) rfl dX6_init_1 (Nat.le_of_ble_eq_true rfl) (Nat.le_of_ble_eq_true rfl) ?_
  refine W.eq (g2 := F0 m 4 ls []) rfl ?_
  refine lv_aload_n S.1 S.2.1 dX6_init_4 rfl (lv_at hl 0 rfl) ?_
  refine lv_iconst (v := nI 2) S.1 S.2.1 dX6_init_5 (by decide) ?_
  refine pf (ty := .int) (w' := [(h, .inr (6, [.int (nI 0), .int (nI 2), .int (nI 0), .null, .null, .null, .null, .null, .null, .null, .int (nI 0), .int (nI 0), .null]))]) S hk hW 0 rfl rfl hwsX60 tyX6 tyX6_ok nmX6 1 (by decide) 4 rfl rfl (by decide +kernel) rfl rfl (Nat.le_of_ble_eq_true rfl) dX6_init_6 rfl (fun H locs hW => ?_)
  refine lv_aload_n S.1 S.2.1 dX6_init_9 rfl (lv_at hl 0 rfl) ?_
  refine lv_bipush (v := nI 40) S.1 S.2.1 dX6_init_10 (by decide) ?_
  refine newI S hk hW 5 rfl (by omega) (Nat.le_of_ble_eq_true rfl) (Nat.le_of_ble_eq_true rfl) dX6_init_12 (fun y1 H hW => ?_)
  have hW : wd D A s H _ ([(h, .inr (6, [.int (nI 0), .int (nI 2), .int (nI 0), .null, .null, .null, .null, .null, .null, .null, .int (nI 0), .int (nI 0), .null])), (y1, va_E_row cI 40 (fun _ => 0))]) := hW
  refine pfF (ty := .array .int) (w' := [(h, .inr (6, [.int (nI 0), .int (nI 2), .int (nI 0), .ref y1, .null, .null, .null, .null, .null, .null, .int (nI 0), .int (nI 0), .null])), (y1, va_E_row cI 40 (fun _ => 0))]) S hk hW 0 rfl rfl hwsX60 tyX6 tyX6_ok nmX6 3 (by decide) 6 rfl rfl hnm rfl (by decide +kernel) rfl rfl (Nat.le_of_ble_eq_true rfl) dX6_init_14 rfl (fun H locs hW => ?_)
  refine lv_aload_n S.1 S.2.1 dX6_init_17 rfl (lv_at hl 0 rfl) ?_
  refine lv_bipush (v := nI 40) S.1 S.2.1 dX6_init_18 (by decide) ?_
  refine newI S hk hW 5 rfl (by omega) (Nat.le_of_ble_eq_true rfl) (Nat.le_of_ble_eq_true rfl) dX6_init_20 (fun y2 H hW => ?_)
  have hW : wd D A s H _ ([(h, .inr (6, [.int (nI 0), .int (nI 2), .int (nI 0), .ref y1, .null, .null, .null, .null, .null, .null, .int (nI 0), .int (nI 0), .null])), (y1, va_E_row cI 40 (fun _ => 0)), (y2, va_E_row cI 40 (fun _ => 0))]) := hW
  refine pfF (ty := .array .int) (w' := [(h, .inr (6, [.int (nI 0), .int (nI 2), .int (nI 0), .ref y1, .ref y2, .null, .null, .null, .null, .null, .int (nI 0), .int (nI 0), .null])), (y1, va_E_row cI 40 (fun _ => 0)), (y2, va_E_row cI 40 (fun _ => 0))]) S hk hW 0 rfl rfl hwsX60 tyX6 tyX6_ok nmX6 4 (by decide) 7 rfl rfl hnm rfl (by decide +kernel) rfl rfl (Nat.le_of_ble_eq_true rfl) dX6_init_22 rfl (fun H locs hW => ?_)
  refine lv_aload_n S.1 S.2.1 dX6_init_25 rfl (lv_at hl 0 rfl) ?_
  refine lv_bipush (v := nI 40) S.1 S.2.1 dX6_init_26 (by decide) ?_
  refine newI S hk hW 5 rfl (by omega) (Nat.le_of_ble_eq_true rfl) (Nat.le_of_ble_eq_true rfl) dX6_init_28 (fun y3 H hW => ?_)
  have hW : wd D A s H _ ([(h, .inr (6, [.int (nI 0), .int (nI 2), .int (nI 0), .ref y1, .ref y2, .null, .null, .null, .null, .null, .int (nI 0), .int (nI 0), .null])), (y1, va_E_row cI 40 (fun _ => 0)), (y2, va_E_row cI 40 (fun _ => 0)), (y3, va_E_row cI 40 (fun _ => 0))]) := hW
  refine pfF (ty := .array .int) (w' := [(h, .inr (6, [.int (nI 0), .int (nI 2), .int (nI 0), .ref y1, .ref y2, .ref y3, .null, .null, .null, .null, .int (nI 0), .int (nI 0), .null])), (y1, va_E_row cI 40 (fun _ => 0)), (y2, va_E_row cI 40 (fun _ => 0)), (y3, va_E_row cI 40 (fun _ => 0))]) S hk hW 0 rfl rfl hwsX60 tyX6 tyX6_ok nmX6 5 (by decide) 8 rfl rfl hnm rfl (by decide +kernel) rfl rfl (Nat.le_of_ble_eq_true rfl) dX6_init_30 rfl (fun H locs hW => ?_)
  refine lv_aload_n S.1 S.2.1 dX6_init_33 rfl (lv_at hl 0 rfl) ?_
  refine lv_bipush (v := nI 40) S.1 S.2.1 dX6_init_34 (by decide) ?_
  refine newZ S hk hW 9 rfl (by omega) (Nat.le_of_ble_eq_true rfl) (Nat.le_of_ble_eq_true rfl) dX6_init_36 (fun y4 H hW => ?_)
  have hW : wd D A s H _ ([(h, .inr (6, [.int (nI 0), .int (nI 2), .int (nI 0), .ref y1, .ref y2, .ref y3, .null, .null, .null, .null, .int (nI 0), .int (nI 0), .null])), (y1, va_E_row cI 40 (fun _ => 0)), (y2, va_E_row cI 40 (fun _ => 0)), (y3, va_E_row cI 40 (fun _ => 0)), (y4, va_E_row cZ 40 (fun _ => 0))]) := hW
  refine pfF (ty := .array .boolean) (w' := [(h, .inr (6, [.int (nI 0), .int (nI 2), .int (nI 0), .ref y1, .ref y2, .ref y3, .ref y4, .null, .null, .null, .int (nI 0), .int (nI 0), .null])), (y1, va_E_row cI 40 (fun _ => 0)), (y2, va_E_row cI 40 (fun _ => 0)), (y3, va_E_row cI 40 (fun _ => 0)), (y4, va_E_row cZ 40 (fun _ => 0))]) S hk hW 0 rfl rfl hwsX60 tyX6 tyX6_ok nmX6 6 (by decide) 10 rfl rfl hnm rfl (by decide +kernel) rfl rfl (Nat.le_of_ble_eq_true rfl) dX6_init_38 rfl (fun H locs hW => ?_)
  refine lv_aload_n S.1 S.2.1 dX6_init_41 rfl (lv_at hl 0 rfl) ?_
  refine lv_bipush (v := nI 40) S.1 S.2.1 dX6_init_42 (by decide) ?_
  refine newZ S hk hW 9 rfl (by omega) (Nat.le_of_ble_eq_true rfl) (Nat.le_of_ble_eq_true rfl) dX6_init_44 (fun y5 H hW => ?_)
  have hW : wd D A s H _ ([(h, .inr (6, [.int (nI 0), .int (nI 2), .int (nI 0), .ref y1, .ref y2, .ref y3, .ref y4, .null, .null, .null, .int (nI 0), .int (nI 0), .null])), (y1, va_E_row cI 40 (fun _ => 0)), (y2, va_E_row cI 40 (fun _ => 0)), (y3, va_E_row cI 40 (fun _ => 0)), (y4, va_E_row cZ 40 (fun _ => 0)), (y5, va_E_row cZ 40 (fun _ => 0))]) := hW
  refine pfF (ty := .array .boolean) (w' := [(h, .inr (6, [.int (nI 0), .int (nI 2), .int (nI 0), .ref y1, .ref y2, .ref y3, .ref y4, .ref y5, .null, .null, .int (nI 0), .int (nI 0), .null])), (y1, va_E_row cI 40 (fun _ => 0)), (y2, va_E_row cI 40 (fun _ => 0)), (y3, va_E_row cI 40 (fun _ => 0)), (y4, va_E_row cZ 40 (fun _ => 0)), (y5, va_E_row cZ 40 (fun _ => 0))]) S hk hW 0 rfl rfl hwsX60 tyX6 tyX6_ok nmX6 7 (by decide) 11 rfl rfl hnm rfl (by decide +kernel) rfl rfl (Nat.le_of_ble_eq_true rfl) dX6_init_46 rfl (fun H locs hW => ?_)
  refine lv_aload_n S.1 S.2.1 dX6_init_49 rfl (lv_at hl 0 rfl) ?_
  refine lv_bipush (v := nI 100) S.1 S.2.1 dX6_init_50 (by decide) ?_
  refine newI S hk hW 5 rfl (by omega) (Nat.le_of_ble_eq_true rfl) (Nat.le_of_ble_eq_true rfl) dX6_init_52 (fun y6 H hW => ?_)
  have hW : wd D A s H _ ([(h, .inr (6, [.int (nI 0), .int (nI 2), .int (nI 0), .ref y1, .ref y2, .ref y3, .ref y4, .ref y5, .null, .null, .int (nI 0), .int (nI 0), .null])), (y1, va_E_row cI 40 (fun _ => 0)), (y2, va_E_row cI 40 (fun _ => 0)), (y3, va_E_row cI 40 (fun _ => 0)), (y4, va_E_row cZ 40 (fun _ => 0)), (y5, va_E_row cZ 40 (fun _ => 0)), (y6, va_E_row cI 100 (fun _ => 0))]) := hW
  refine pfF (ty := .array .int) (w' := [(h, .inr (6, [.int (nI 0), .int (nI 2), .int (nI 0), .ref y1, .ref y2, .ref y3, .ref y4, .ref y5, .ref y6, .null, .int (nI 0), .int (nI 0), .null])), (y1, va_E_row cI 40 (fun _ => 0)), (y2, va_E_row cI 40 (fun _ => 0)), (y3, va_E_row cI 40 (fun _ => 0)), (y4, va_E_row cZ 40 (fun _ => 0)), (y5, va_E_row cZ 40 (fun _ => 0)), (y6, va_E_row cI 100 (fun _ => 0))]) S hk hW 0 rfl rfl hwsX60 tyX6 tyX6_ok nmX6 8 (by decide) 12 rfl rfl hnm rfl (by decide +kernel) rfl rfl (Nat.le_of_ble_eq_true rfl) dX6_init_54 rfl (fun H locs hW => ?_)
  refine lv_aload_n S.1 S.2.1 dX6_init_57 rfl (lv_at hl 0 rfl) ?_
  refine lv_ldc (v := nI 40100) S.1 S.2.1 S.2.2.2.1 (S.2.2.2.2 _ (List.mem_of_getElem? (i := 13) rfl)) dX6_init_58 ?_
  refine newI S hk hW 5 rfl (by omega) (Nat.le_of_ble_eq_true rfl) (Nat.le_of_ble_eq_true rfl) dX6_init_60 (fun y7 H hW => ?_)
  have hW : wd D A s H _ ([(h, .inr (6, [.int (nI 0), .int (nI 2), .int (nI 0), .ref y1, .ref y2, .ref y3, .ref y4, .ref y5, .ref y6, .null, .int (nI 0), .int (nI 0), .null])), (y1, va_E_row cI 40 (fun _ => 0)), (y2, va_E_row cI 40 (fun _ => 0)), (y3, va_E_row cI 40 (fun _ => 0)), (y4, va_E_row cZ 40 (fun _ => 0)), (y5, va_E_row cZ 40 (fun _ => 0)), (y6, va_E_row cI 100 (fun _ => 0)), (y7, va_E_row cI 40100 (fun _ => 0))]) := hW
  refine pfF (ty := .array .int) (w' := [(h, .inr (6, [.int (nI 0), .int (nI 2), .int (nI 0), .ref y1, .ref y2, .ref y3, .ref y4, .ref y5, .ref y6, .ref y7, .int (nI 0), .int (nI 0), .null])), (y1, va_E_row cI 40 (fun _ => 0)), (y2, va_E_row cI 40 (fun _ => 0)), (y3, va_E_row cI 40 (fun _ => 0)), (y4, va_E_row cZ 40 (fun _ => 0)), (y5, va_E_row cZ 40 (fun _ => 0)), (y6, va_E_row cI 100 (fun _ => 0)), (y7, va_E_row cI 40100 (fun _ => 0))]) S hk hW 0 rfl rfl hwsX60 tyX6 tyX6_ok nmX6 9 (by decide) 14 rfl rfl hnm rfl (by decide +kernel) rfl rfl (Nat.le_of_ble_eq_true rfl) dX6_init_62 rfl (fun H locs hW => ?_)
  refine lv_aload_n S.1 S.2.1 dX6_init_65 rfl (lv_at hl 0 rfl) ?_
  refine lv_bipush (v := nI 100) S.1 S.2.1 dX6_init_66 (by decide) ?_
  refine newI S hk hW 5 rfl (by omega) (Nat.le_of_ble_eq_true rfl) (Nat.le_of_ble_eq_true rfl) dX6_init_68 (fun y8 H hW => ?_)
  have hW : wd D A s H _ ([(h, .inr (6, [.int (nI 0), .int (nI 2), .int (nI 0), .ref y1, .ref y2, .ref y3, .ref y4, .ref y5, .ref y6, .ref y7, .int (nI 0), .int (nI 0), .null])), (y1, va_E_row cI 40 (fun _ => 0)), (y2, va_E_row cI 40 (fun _ => 0)), (y3, va_E_row cI 40 (fun _ => 0)), (y4, va_E_row cZ 40 (fun _ => 0)), (y5, va_E_row cZ 40 (fun _ => 0)), (y6, va_E_row cI 100 (fun _ => 0)), (y7, va_E_row cI 40100 (fun _ => 0)), (y8, va_E_row cI 100 (fun _ => 0))]) := hW
  refine pfF (ty := .array .int) (w' := [(h, .inr (6, [.int (nI 0), .int (nI 2), .int (nI 0), .ref y1, .ref y2, .ref y3, .ref y4, .ref y5, .ref y6, .ref y7, .int (nI 0), .int (nI 0), .ref y8])), (y1, va_E_row cI 40 (fun _ => 0)), (y2, va_E_row cI 40 (fun _ => 0)), (y3, va_E_row cI 40 (fun _ => 0)), (y4, va_E_row cZ 40 (fun _ => 0)), (y5, va_E_row cZ 40 (fun _ => 0)), (y6, va_E_row cI 100 (fun _ => 0)), (y7, va_E_row cI 40100 (fun _ => 0)), (y8, va_E_row cI 100 (fun _ => 0))]) S hk hW 0 rfl rfl hwsX60 tyX6 tyX6_ok nmX6 12 (by decide) 15 rfl rfl hnm rfl (by decide +kernel) rfl rfl (Nat.le_of_ble_eq_true rfl) dX6_init_70 rfl (fun H locs hW => ?_)
  have hW : wd D A s H locs (wM (fun j => [h, y1, y2, y3, y4, y5, y6, y7, y8].getD j 0) cI cZ cF (sN gz 2) (fun _ => 0) (fun _ => 0) 0 (nI 0) (fun _ => 0)) := hW
  generalize hq : (fun j => [h, y1, y2, y3, y4, y5, y6, y7, y8].getD j 0) = q at hW
  have hq0 : q 0 = h := by rw [← hq]; rfl
  rw [← hq0] at hl
  have G0 : Gok (sN gz 2) := Gok_new (g := gz) (n := 2) (by omega) (by omega)
  refine lv_aload_n S.1 S.2.1 dX6_init_73 rfl (lv_at hl 0 rfl) ?_
  refine lv_sipush (v := (-1000)) S.1 S.2.1 dX6_init_74 (by decide) ?_
  refine lv_sipush (v := (-1000)) S.1 S.2.1 dX6_init_77 (by decide) ?_
  refine kVi S (c_X6_learn (l := l) (D := D) (cI := cI) (cZ := cZ) (cF := cF) G0) (cwV 2 S.2.2.2.2 gX6_init_X6_learn rfl rfl rfl ⟨rfl, v_X6_learn⟩ ⟨(Nat.le_of_ble_eq_true rfl), (Nat.le_of_ble_eq_true rfl)⟩) hk hW 0 rfl rfl rfl rfl hl rfl (Nat.le_of_ble_eq_true rfl) dX6_init_80 ⟨(Nat.le_of_ble_eq_true rfl), (Nat.le_of_ble_eq_true rfl)⟩ (fun r u H locs hp hW => ?_)
  obtain ⟨rfl, rfl⟩ := hp
  refine lv_pop S.1 S.2.1 dX6_init_83 rfl ?_
  refine lv_aload_n S.1 S.2.1 dX6_init_84 rfl (lv_at hl 0 rfl) ?_
  refine kVv S (c_X6_keep (l := l) (D := D) (cI := cI) (cZ := cZ) (cF := cF) G0 (by omega)) (cwV 0 S.2.2.2.2 gX6_init_X6_keep rfl rfl rfl ⟨rfl, v_X6_keep⟩ ⟨(Nat.le_of_ble_eq_true rfl), (Nat.le_of_ble_eq_true rfl)⟩) hk hW 0 rfl rfl rfl rfl hl rfl (Nat.le_of_ble_eq_true rfl) dX6_init_85 ⟨(Nat.le_of_ble_eq_true rfl), (Nat.le_of_ble_eq_true rfl)⟩ (fun u H locs hp hW => ?_)
  obtain ⟨ke'_9, hKo, hKn, rfl⟩ := hp
  exact hR _ _ _ _ _ _ _ dX6_init_88 (Nat.le_of_ble_eq_true rfl) (Nat.le_of_ble_eq_true rfl) hW ⟨q, hq0, _, by exact hKo, hKn, rfl⟩
