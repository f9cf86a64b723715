abbrev r_X1_askFor : Room := { frames := 4, cells := 0, slots := 0, locals := 93 }
theorem v_X1_askFor : yX1_askFor.cls ≠ "java/lang/invoke/MethodHandle" ∧ yX1_askFor.cls ≠ "java/lang/invoke/VarHandle" ∧ (parseMethodDescriptor yX1_askFor.desc).map (fun d => d.parameters.length) = some 3 := by decide +kernel
set_option maxRecDepth 100000 in
set_option maxHeartbeats 4000000 in
theorem c_X1_askFor {l : Launch} {D : va_G} {cI cZ cF : ClassId} {q : Nat → Nat} {qf : Nat → Nat} {g : Gr} {C R : Nat → Int32} {rw len : Nat} {F : Nat → Int32} {sz : Nat} {X : Nat → Int32} {mk : Int32} {n : Nat} {x : Int32} (G : Gok g) (hng : n ≤ gN g) : cV_ l D cI cZ cF yX1_askFor wsX1_askFor r_X1_askFor [.ref (q 4), .ref (q 2), .int (nI n), .int x] (wC q qf cI cZ cF g C R rw len F sz X mk) (fun u => u = wC q qf cI cZ cF g C R rw len F ((akO g C n x X n).1) ((akO g C n x X n).2) mk) 0 0 := by
  refine cV_of (cc := cX1_askFor) (maxL := 6) (plainFor_of_name (by decide +kernel)) rfl (Nat.le_of_ble_eq_true rfl) ?_
  intro p e s m args below meth c A Q ls S hnm hk hW hl hR
  have hl : lv_has ls 6 [(0, .ref (q 4)), (1, .ref (q 2)), (2, .int (nI n)), (3, .int x)] := hl
  have hwsX10 : ∀ x ∈ wsX10, x ∈ wsX1_askFor := fun x h => List.mem_cons_of_mem _ (List.mem_append_left _ (List.mem_append_left _ (List.mem_append_right _ h)))
  have hwsX40 : ∀ x ∈ wsX40, x ∈ wsX1_askFor := fun x h => List.mem_cons_of_mem _ (List.mem_append_left _ (List.mem_append_right _ h))
  have hwsX20 : ∀ x ∈ wsX20, x ∈ wsX1_askFor := fun x h => List.mem_cons_of_mem _ (List.mem_append_right _ h)
  have hN := Gok_N G; have hN2 := Gok_N2 G; have hKK := Gok_K G
  refine lv_aload_n S.1 S.2.1 dX1_askFor_0 rfl (lv_at hl 0 rfl) ?_
  refine lv_iconst (v := nI 0) S.1 S.2.1 dX1_askFor_1 (by decide) ?_
  refine pf (ty := .int) (w' := wC q qf cI cZ cF g C R rw len F 0 X mk) S hk hW 4 rfl rfl hwsX10 tyX1 tyX1_ok nmX1 1 (by decide) 1 rfl rfl (by decide +kernel) rfl rfl (Nat.le_of_ble_eq_true rfl) dX1_askFor_2 rfl (fun H locs hW => ?_)
  refine lv_iconst (v := nI 0) S.1 S.2.1 dX1_askFor_5 (by decide) ?_
  refine lv_istore (lv' := [(4, .int (nI 0)), (0, .ref (q 4)), (1, .ref (q 2)), (2, .int (nI n)), (3, .int x)]) S.1 S.2.1 dX1_askFor_6 hl (by decide) rfl (fun ls hl => ?_)
  have L8 : ∀ (dd : Nat), ∀ (a : Nat), ∀ (sz1 : Nat), ∀ (X2 : Nat → Int32), (sz1 = (akO g C n x X a).1) → (X2 = (akO g C n x X a).2) → (sz1 ≤ a * 10) → (a ≤ n) → n < a + dd → ∀ (H : Heap) (locs : List Loc) (ls : Array Slot), wd D A s H locs (wC q qf cI cZ cF g C R rw len F sz1 X2 mk) → lv_has ls 6 [(0, .ref (q 4)), (1, .ref (q 2)), (2, .int (nI n)), (3, .int x), (4, .int (nI a))] → W p l e r_X1_askFor s m args below meth c H locs 0 0 Q (F0 m 8 ls []) := by
    intro dd
    induction dd with
    | zero => intros; omega
    | succ dd ih8 =>
      intro a sz1 X2 hs1 hs2 hz1 ha hdd H locs ls hW hl
      refine lv_iload S.1 S.2.1 dX1_askFor_8 (lv_at hl 4 rfl) ?_
      refine lv_iload_n S.1 S.2.1 dX1_askFor_10 rfl (lv_at hl 2 rfl) ?_
      refine icge_n (tgt := 81) S (by omega) (by omega) dX1_askFor_11 (by decide) (fun c_11 => ?_) (fun c_11 => ?_)
      · skip
        have ea : a = n := by omega
        subst ea
        rw [hs1, hs2] at hW
        exact hR _ _ _ _ _ _ _ dX1_askFor_81 (Nat.le_of_ble_eq_true rfl) (Nat.le_of_ble_eq_true rfl) hW rfl
      · skip
        refine lv_iconst (v := nI 0) S.1 S.2.1 dX1_askFor_14 (by decide) ?_
        refine lv_istore (lv' := [(5, .int (nI 0)), (0, .ref (q 4)), (1, .ref (q 2)), (2, .int (nI n)), (3, .int x), (4, .int (nI a))]) S.1 S.2.1 dX1_askFor_15 hl (by decide) rfl (fun ls hl => ?_)
        have L17 : ∀ (dd : Nat), ∀ (b : Nat), ∀ (sz2 : Nat), ∀ (X3 : Nat → Int32), (sz2 = (akI g C a x (akO g C n x X a) b).1) → (X3 = (akI g C a x (akO g C n x X a) b).2) → (sz2 ≤ a * 10 + b) → (b ≤ n) → n < b + dd → ∀ (H : Heap) (locs : List Loc) (ls : Array Slot), wd D A s H locs (wC q qf cI cZ cF g C R rw len F sz2 X3 mk) → lv_has ls 6 [(0, .ref (q 4)), (1, .ref (q 2)), (2, .int (nI n)), (3, .int x), (4, .int (nI a)), (5, .int (nI b))] → W p l e r_X1_askFor s m args below meth c H locs 0 0 Q (F0 m 17 ls []) := by
          intro dd
          induction dd with
          | zero => intros; omega
          | succ dd ih17 =>
            intro b sz2 X3 hs3 hs4 hz2 hb hdd H locs ls hW hl
            refine lv_iload S.1 S.2.1 dX1_askFor_17 (lv_at hl 5 rfl) ?_
            refine lv_iload_n S.1 S.2.1 dX1_askFor_19 rfl (lv_at hl 2 rfl) ?_
            refine icge_n (tgt := 75) S (by omega) (by omega) dX1_askFor_20 (by decide) (fun c_20 => ?_) (fun c_20 => ?_)
            · skip
              refine lv_iinc (v := nI (a + 1)) (lv' := [(4, .int (nI (a + 1))), (0, .ref (q 4)), (1, .ref (q 2)), (2, .int (nI n)), (3, .int x), (5, .int (nI b))]) (k := 4) S.1 S.2.1 dX1_askFor_75 hl rfl (nI_1 _) (by decide) rfl (fun ls hl => ?_)
              refine lv_goto (tgt := 8) S.1 S.2.1 dX1_askFor_78 (by decide) ?_
              exact ih8 (a + 1) sz2 X3 (by rw [hs3, show b = n by omega]; rfl) (by rw [hs4, show b = n by omega]; rfl) (by omega) (by omega) (by omega) _ _ _ hW (lv_sub hl [1, 2, 3, 4, 0] rfl)
            · skip
              refine lv_iload S.1 S.2.1 dX1_askFor_23 (lv_at hl 4 rfl) ?_
              refine lv_iload S.1 S.2.1 dX1_askFor_25 (lv_at hl 5 rfl) ?_
              refine iceq_n (tgt := 69) S (by omega) (by omega) dX1_askFor_27 (by decide) (fun c_27 => ?_) (fun c_27 => ?_)
              · skip
                refine lv_iinc (v := nI (b + 1)) (lv' := [(5, .int (nI (b + 1))), (0, .ref (q 4)), (1, .ref (q 2)), (2, .int (nI n)), (3, .int x), (4, .int (nI a))]) (k := 5) S.1 S.2.1 dX1_askFor_69 hl rfl (nI_1 _) (by decide) rfl (fun ls hl => ?_)
                refine lv_goto (tgt := 17) S.1 S.2.1 dX1_askFor_72 (by decide) ?_
                exact ih17 (b + 1) sz2 X3 (by simp only [akI, if_pos c_27, ← hs3, ← hs4]) (by simp only [akI, if_pos c_27, ← hs3, ← hs4]) (by omega) (by omega) (by omega) _ _ _ hW (lv_sub hl [1, 2, 3, 4, 5, 0] rfl)
              · skip
                refine lv_aload_n S.1 S.2.1 dX1_askFor_30 rfl (lv_at hl 1 rfl) ?_
                refine lv_iload S.1 S.2.1 dX1_askFor_31 (lv_at hl 4 rfl) ?_
                refine lv_iload S.1 S.2.1 dX1_askFor_33 (lv_at hl 5 rfl) ?_
                refine kVi S (c_X4_length (l := l) (D := D) (cI := cI) (cZ := cZ) (cF := cF) (by first | assumption | omega) (by first | assumption | omega)) (cwV 2 S.2.2.2.2 gX1_askFor_X4_length rfl rfl rfl ⟨rfl, v_X4_length⟩ ⟨(Nat.le_of_ble_eq_true rfl), (Nat.le_of_ble_eq_true rfl)⟩) hk hW 2 rfl rfl rfl rfl hl rfl (Nat.le_of_ble_eq_true rfl) dX1_askFor_35 ⟨(Nat.le_of_ble_eq_true rfl), (Nat.le_of_ble_eq_true rfl)⟩ (fun r u H locs hp hW => ?_)
                obtain ⟨rfl, rfl⟩ := hp
                refine lv_iload_n S.1 S.2.1 dX1_askFor_38 rfl (lv_at hl 3 rfl) ?_
                refine lv_icmp_lt (tgt := 69) S.1 S.2.1 dX1_askFor_39 (by decide) (fun c_39 => ?_) (fun c_39 => ?_)
                · skip
                  have c38t := trivial
                  refine lv_iinc (v := nI (b + 1)) (lv' := [(5, .int (nI (b + 1))), (0, .ref (q 4)), (1, .ref (q 2)), (2, .int (nI n)), (3, .int x), (4, .int (nI a))]) (k := 5) S.1 S.2.1 dX1_askFor_69 hl rfl (nI_1 _) (by decide) rfl (fun ls hl => ?_)
                  refine lv_goto (tgt := 17) S.1 S.2.1 dX1_askFor_72 (by decide) ?_
                  exact ih17 (b + 1) sz2 X3 (by simp only [akI, if_neg c_27, if_pos c_39, ← hs3, ← hs4]) (by simp only [akI, if_neg c_27, if_pos c_39, ← hs3, ← hs4]) (by omega) (by omega) (by omega) _ _ _ hW (lv_sub hl [1, 2, 3, 4, 5, 0] rfl)
                · skip
                  refine lv_aload_n S.1 S.2.1 dX1_askFor_42 rfl (lv_at hl 0 rfl) ?_
                  refine gf S hk hW 4 rfl rfl hwsX10 0 (by decide) 2 rfl rfl dX1_askFor_43 ?_
                  refine lv_aload_n S.1 S.2.1 dX1_askFor_46 rfl (lv_at hl 0 rfl) ?_
                  refine gf S hk hW 4 rfl rfl hwsX10 1 (by decide) 1 rfl rfl dX1_askFor_47 ?_
                  refine lv_aload_n S.1 S.2.1 dX1_askFor_50 rfl (lv_at hl 1 rfl) ?_
                  refine lv_iload S.1 S.2.1 dX1_askFor_51 (lv_at hl 4 rfl) ?_
                  refine lv_iload S.1 S.2.1 dX1_askFor_53 (lv_at hl 5 rfl) ?_
                  refine kVi S (c_X4_between (l := l) (D := D) (cI := cI) (cZ := cZ) (cF := cF) G (by first | assumption | omega) (by first | assumption | omega)) (cwV 2 S.2.2.2.2 gX1_askFor_X4_between rfl rfl rfl ⟨rfl, v_X4_between⟩ ⟨(Nat.le_of_ble_eq_true rfl), (Nat.le_of_ble_eq_true rfl)⟩) hk hW 2 rfl rfl rfl rfl hl rfl (Nat.le_of_ble_eq_true rfl) dX1_askFor_55 ⟨(Nat.le_of_ble_eq_true rfl), (Nat.le_of_ble_eq_true rfl)⟩ (fun r u H locs hp hW => ?_)
                  obtain ⟨rfl, rfl⟩ := hp
                  refine ist (w' := wC q qf cI cZ cF g C R rw len F sz2 (upd X3 sz2 (btS g C a b ((lnI (C (a * 10 + b))).toNatClampNeg - 1))) mk) S hk hW 13 rfl sz2 rfl (by omega) (by omega) dX1_askFor_58 rfl (fun H locs hW => ?_)
                  refine lv_aload_n S.1 S.2.1 dX1_askFor_59 rfl (lv_at hl 0 rfl) ?_
                  refine lv_dup S.1 S.2.1 dX1_askFor_60 rfl ?_
                  refine gf S hk hW 4 rfl rfl hwsX10 1 (by decide) 1 rfl rfl dX1_askFor_61 ?_
                  refine lv_iconst (v := nI 1) S.1 S.2.1 dX1_askFor_64 (by decide) ?_
                  refine lv_iadd S.1 S.2.1 dX1_askFor_65 (top_eq (nI_add _ _) ?_)
                  refine pf (ty := .int) (w' := wC q qf cI cZ cF g C R rw len F (sz2 + 1) (upd X3 sz2 (btS g C a b ((lnI (C (a * 10 + b))).toNatClampNeg - 1))) mk) S hk hW 4 rfl rfl hwsX10 tyX1 tyX1_ok nmX1 1 (by decide) 1 rfl rfl (by decide +kernel) rfl rfl (Nat.le_of_ble_eq_true rfl) dX1_askFor_66 rfl (fun H locs hW => ?_)
                  refine lv_iinc (v := nI (b + 1)) (lv' := [(5, .int (nI (b + 1))), (0, .ref (q 4)), (1, .ref (q 2)), (2, .int (nI n)), (3, .int x), (4, .int (nI a))]) (k := 5) S.1 S.2.1 dX1_askFor_69 hl rfl (nI_1 _) (by decide) rfl (fun ls hl => ?_)
                  refine lv_goto (tgt := 17) S.1 S.2.1 dX1_askFor_72 (by decide) ?_
                  exact ih17 (b + 1) (sz2 + 1) (upd X3 sz2 (btS g C a b ((lnI (C (a * 10 + b))).toNatClampNeg - 1))) (by simp only [akI, if_neg c_27, if_neg c_39, ← hs3, ← hs4]) (by simp only [akI, if_neg c_27, if_neg c_39, ← hs3, ← hs4]) (by omega) (by omega) (by omega) _ _ _ hW (lv_sub hl [1, 2, 3, 4, 5, 0] rfl)
        exact L17 (n + 1) 0 sz1 X2 hs1 hs2 (by omega) (by omega) (by omega) _ _ _ hW (lv_sub hl [1, 2, 3, 4, 5, 0] rfl)
  exact L8 (n + 1) 0 0 X rfl rfl (by omega) (by omega) (by omega) _ _ _ hW (lv_sub hl [1, 2, 3, 4, 0] rfl)
abbrev r_X1_meetsAll : Room := { frames := 0, cells := 0, slots := 0, locals := 0 }
theorem v_X1_meetsAll : yX1_meetsAll.cls ≠ "java/lang/invoke/MethodHandle" ∧ yX1_meetsAll.cls ≠ "java/lang/invoke/VarHandle" ∧ (parseMethodDescriptor yX1_meetsAll.desc).map (fun d => d.parameters.length) = some 1 := by decide +kernel
set_option maxRecDepth 100000 in
set_option maxHeartbeats 4000000 in
theorem c_X1_meetsAll {l : Launch} {D : va_G} {cI cZ cF : ClassId} {q : Nat → Nat} {qf : Nat → Nat} {g : Gr} {C R : Nat → Int32} {rw len : Nat} {F : Nat → Int32} {sz : Nat} {X : Nat → Int32} {mk : Int32} {x : Int32} (hsz : sz ≤ 100) : cI_ l D cI cZ cF yX1_meetsAll wsX1_meetsAll r_X1_meetsAll [.ref (q 4), .int x] (wC q qf cI cZ cF g C R rw len F sz X mk) (fun r u => r = bI (mtB X x sz) ∧ u = wC q qf cI cZ cF g C R rw len F sz X mk) 0 0 := by
  refine cI_of (cc := cX1_meetsAll) (maxL := 3) (rt := .boolean) (plainFor_of_name (by decide +kernel)) rfl (Nat.le_of_ble_eq_true rfl) ?_
  intro p e s m args below meth c A Q ls S hk hW hl hR
  have hl : lv_has ls 3 [(0, .ref (q 4)), (1, .int x)] := hl
  have hwsX10 : ∀ x ∈ wsX10, x ∈ wsX1_meetsAll := fun x h => List.mem_cons_of_mem _ (List.mem_append_right _ h)
  refine lv_iconst (v := nI 0) S.1 S.2.1 dX1_meetsAll_0 (by decide) ?_
  refine lv_istore_n (lv' := [(2, .int (nI 0)), (0, .ref (q 4)), (1, .int x)]) S.1 S.2.1 dX1_meetsAll_1 rfl hl (by decide) rfl (fun ls hl => ?_)
  have L2 : ∀ (dd : Nat), ∀ (i : Nat), (allN (fun i => !decide (X i &&& x = 0)) i = true) → (i ≤ sz) → sz < i + dd → ∀ (H : Heap) (locs : List Loc) (ls : Array Slot), wd D A s H locs (wC q qf cI cZ cF g C R rw len F sz X mk) → lv_has ls 3 [(0, .ref (q 4)), (1, .int x), (2, .int (nI i))] → W p l e r_X1_meetsAll s m args below meth c H locs 0 0 Q (F0 m 2 ls []) := by
    intro dd
    induction dd with
    | zero => intros; omega
    | succ dd ih2 =>
      intro i hf hi hdd H locs ls hW hl
      refine lv_iload_n S.1 S.2.1 dX1_meetsAll_2 rfl (lv_at hl 2 rfl) ?_
      refine lv_aload_n S.1 S.2.1 dX1_meetsAll_3 rfl (lv_at hl 0 rfl) ?_
      refine gf S hk hW 4 rfl rfl hwsX10 1 (by decide) 1 rfl rfl dX1_meetsAll_4 ?_
      refine icge_n (tgt := 29) S (by omega) (by omega) dX1_meetsAll_7 (by decide) (fun c_7 => ?_) (fun c_7 => ?_)
      · skip
        refine lv_iconst (v := nI 1) S.1 S.2.1 dX1_meetsAll_29 (by decide) ?_
        exact hR _ _ _ _ _ _ _ _ dX1_meetsAll_30 rfl (Nat.le_of_ble_eq_true rfl) (Nat.le_of_ble_eq_true rfl) hW ⟨by rw [show mtB X x sz = true from (by rw [mtB, show sz = i by omega]; exact hf)]; rfl, rfl⟩
      · skip
        refine lv_aload_n S.1 S.2.1 dX1_meetsAll_10 rfl (lv_at hl 0 rfl) ?_
        refine gf S hk hW 4 rfl rfl hwsX10 0 (by decide) 2 rfl rfl dX1_meetsAll_11 ?_
        refine lv_iload_n S.1 S.2.1 dX1_meetsAll_14 rfl (lv_at hl 2 rfl) ?_
        refine ild S hk hW 13 rfl i rfl (by omega) (by omega) dX1_meetsAll_15 ?_
        refine lv_iload_n S.1 S.2.1 dX1_meetsAll_16 rfl (lv_at hl 1 rfl) ?_
        refine lv_iand S.1 S.2.1 dX1_meetsAll_17 ?_
        refine lv_if_ne (tgt := 23) S.1 S.2.1 dX1_meetsAll_18 (by decide) (fun c_18 => ?_) (fun c_18 => ?_)
        · skip
          refine lv_iinc (v := nI (i + 1)) (lv' := [(2, .int (nI (i + 1))), (0, .ref (q 4)), (1, .int x)]) (k := 2) S.1 S.2.1 dX1_meetsAll_23 hl rfl (nI_1 _) (by decide) rfl (fun ls hl => ?_)
          refine lv_goto (tgt := 2) S.1 S.2.1 dX1_meetsAll_26 (by decide) ?_
          exact ih2 (i + 1) (by simp only [allN, hf, c_18, decide_false, Bool.not_false, Bool.and_self]) (by omega) (by omega) _ _ _ hW (lv_sub hl [1, 2, 0] rfl)
        · skip
          refine lv_iconst (v := nI 0) S.1 S.2.1 dX1_meetsAll_21 (by decide) ?_
          exact hR _ _ _ _ _ _ _ _ dX1_meetsAll_22 rfl (Nat.le_of_ble_eq_true rfl) (Nat.le_of_ble_eq_true rfl) hW ⟨by rw [show mtB X x sz = false from allN_false (i := i) (by omega) (by simp only [c_18, decide_true, Bool.not_true])]; rfl, rfl⟩
  exact L2 (sz + 1) 0 rfl (by omega) (by omega) _ _ _ hW (lv_sub hl [1, 2, 0] rfl)
abbrev r_X1_fewest : Room := { frames := 1, cells := 0, slots := 0, locals := 22 }
theorem v_X1_fewest : yX1_fewest.cls ≠ "java/lang/invoke/MethodHandle" ∧ yX1_fewest.cls ≠ "java/lang/invoke/VarHandle" ∧ (parseMethodDescriptor yX1_fewest.desc).map (fun d => d.parameters.length) = some 1 := by decide +kernel
set_option maxRecDepth 100000 in
set_option maxHeartbeats 4000000 in
theorem c_X1_fewest {l : Launch} {D : va_G} {cI cZ cF : ClassId} {q : Nat → Nat} {qf : Nat → Nat} {g : Gr} {C R : Nat → Int32} {rw len : Nat} {F : Nat → Int32} {sz : Nat} {X : Nat → Int32} {mk : Int32} {n : Nat} (hn : n ≤ 10) (hsz : sz ≤ 100) : cI_ l D cI cZ cF yX1_fewest wsX1_fewest r_X1_fewest [.ref (q 4), .int (nI n)] (wC q qf cI cZ cF g C R rw len F sz X mk) (fun r u => r = (fwS X sz n (2 ^ n)).1 ∧ u = wC q qf cI cZ cF g C R rw len F sz X mk) 0 0 := by
  refine cI_of (cc := cX1_fewest) (maxL := 6) (rt := .int) (plainFor_of_name (by decide +kernel)) rfl (Nat.le_of_ble_eq_true rfl) ?_
  intro p e s m args below meth c A Q ls S hk hW hl hR
  have hl : lv_has ls 6 [(0, .ref (q 4)), (1, .int (nI n))] := hl
  have hwsX10 : ∀ x ∈ wsX10, x ∈ wsX1_fewest := fun x h => List.mem_cons_of_mem _ (List.mem_append_right _ h)
  obtain ⟨M, hM, hM2⟩ : ∃ M, M = 2 ^ n ∧ M ≤ 1024 := ⟨_, rfl, Nat.pow_le_pow_right (by decide) hn⟩
  refine lv_sipush (v := (-1000)) S.1 S.2.1 dX1_fewest_0 (by decide) ?_
  refine lv_istore_n (lv' := [(2, .int (-1000)), (0, .ref (q 4)), (1, .int (nI n))]) S.1 S.2.1 dX1_fewest_3 rfl hl (by decide) rfl (fun ls hl => ?_)
  refine lv_iload_n S.1 S.2.1 dX1_fewest_4 rfl (lv_at hl 2 rfl) ?_
  refine lv_iconst (v := nI 1) S.1 S.2.1 dX1_fewest_5 (by decide) ?_
  refine lv_iadd S.1 S.2.1 dX1_fewest_6 (top_eq (nI_add _ _) ?_)
  refine lv_istore_n (lv' := [(3, .int (nI (n + 1))), (2, .int (-1000)), (0, .ref (q 4)), (1, .int (nI n))]) S.1 S.2.1 dX1_fewest_7 rfl hl (by decide) rfl (fun ls hl => ?_)
  refine lv_iconst (v := nI 0) S.1 S.2.1 dX1_fewest_8 (by decide) ?_
  refine lv_istore (lv' := [(4, .int (nI 0)), (3, .int (nI (n + 1))), (2, .int (-1000)), (0, .ref (q 4)), (1, .int (nI n))]) S.1 S.2.1 dX1_fewest_9 hl (by decide) rfl (fun ls hl => ?_)
  have L11 : ∀ (dd : Nat), ∀ (z : Int32), ∀ (m1 : Int32), ∀ (i : Nat), (z = (fwS X sz n i).1) → (m1 = (fwS X sz n i).2) → (i ≤ M) → M < i + dd → ∀ (H : Heap) (locs : List Loc) (ls : Array Slot), wd D A s H locs (wC q qf cI cZ cF g C R rw len F sz X mk) → lv_has ls 6 [(0, .ref (q 4)), (1, .int (nI n)), (2, .int z), (3, .int m1), (4, .int (nI i))] → W p l e r_X1_fewest s m args below meth c H locs 0 0 Q (F0 m 11 ls []) := by
    intro dd
    induction dd with
    | zero => intros; omega
    | succ dd ih11 =>
      intro z m1 i hz hm hi hdd H locs ls hW hl
      refine lv_iload S.1 S.2.1 dX1_fewest_11 (lv_at hl 4 rfl) ?_
      refine lv_iconst (v := nI 1) S.1 S.2.1 dX1_fewest_13 (by decide) ?_
      refine lv_iload_n S.1 S.2.1 dX1_fewest_14 rfl (lv_at hl 1 rfl) ?_
      refine lv_ishl S.1 S.2.1 dX1_fewest_15 ?_
      refine top_eq ((shl1 hn).trans (congrArg nI hM.symm)) ?_
      refine icge_n (tgt := 53) S (by omega) (by omega) dX1_fewest_16 (by decide) (fun c_16 => ?_) (fun c_16 => ?_)
      · skip
        refine lv_iload_n S.1 S.2.1 dX1_fewest_53 rfl (lv_at hl 2 rfl) ?_
        exact hR _ _ _ _ _ _ _ _ dX1_fewest_54 rfl (Nat.le_of_ble_eq_true rfl) (Nat.le_of_ble_eq_true rfl) hW ⟨by rw [hz, ← hM, show i = M by omega], rfl⟩
      · skip
        refine lv_iload S.1 S.2.1 dX1_fewest_19 (lv_at hl 4 rfl) ?_
        refine kSi S (c_J6_bitCount_0f7a4 (l := l) (D := D) (cI := cI) (cZ := cZ) (cF := cF)) (va_cwS 1 S.2.2.2.2 gX1_fewest_J6_bitCount_0f7a4 rfl rfl rfl v_J6_bitCount_0f7a4 ⟨(Nat.le_of_ble_eq_true rfl), (Nat.le_of_ble_eq_true rfl)⟩) hk hW rfl hl rfl (Nat.le_of_ble_eq_true rfl) dX1_fewest_21 ⟨(Nat.le_of_ble_eq_true rfl), (Nat.le_of_ble_eq_true rfl)⟩ (fun r u H locs hp hW => ?_)
        obtain ⟨rfl, rfl⟩ := hp
        refine lv_istore (lv' := [(5, .int (bcnt (nI i))), (0, .ref (q 4)), (1, .int (nI n)), (2, .int z), (3, .int m1), (4, .int (nI i))]) S.1 S.2.1 dX1_fewest_24 hl (by decide) rfl (fun ls hl => ?_)
        refine lv_iload S.1 S.2.1 dX1_fewest_26 (lv_at hl 0 rfl) ?_
        refine lv_iload_n S.1 S.2.1 dX1_fewest_28 rfl (lv_at hl 4 rfl) ?_
        refine lv_icmp_ge (tgt := 47) S.1 S.2.1 dX1_fewest_29 (by decide) (fun c_29 => ?_) (fun c_29 => ?_)
        · skip
          refine lv_iinc (v := nI (i + 1)) (lv' := [(4, .int (nI (i + 1))), (5, .int (bcnt (nI i))), (0, .ref (q 4)), (1, .int (nI n)), (2, .int z), (3, .int m1)]) (k := 5) S.1 S.2.1 dX1_fewest_47 hl rfl (nI_1 _) (by decide) rfl (fun ls hl => ?_)
          refine lv_goto (tgt := 11) S.1 S.2.1 dX1_fewest_50 (by decide) ?_
          exact ih11 z m1 (i + 1) (by simp only [fwS, ← hm, ← hz, c_29, eq_self, Nat.add_zero, decide_false, decide_true, Bool.not_true, Bool.not_false, Bool.and_true, Bool.true_and, Bool.and_false, Bool.false_and, Bool.or_true, Bool.true_or, Bool.or_false, Bool.false_or, ↓reduceIte, cond_true, cond_false, bI, and_true, true_and, and_false, false_and, or_true, true_or, or_false, false_or, not_true_eq_false, not_false_eq_true, if_true, if_false, Bool.false_eq_true, reduceCtorEq, ite_true, ite_false]) (by simp only [fwS, ← hm, ← hz, c_29, eq_self, Nat.add_zero, decide_false, decide_true, Bool.not_true, Bool.not_false, Bool.and_true, Bool.true_and, Bool.and_false, Bool.false_and, Bool.or_true, Bool.true_or, Bool.or_false, Bool.false_or, ↓reduceIte, cond_true, cond_false, bI, and_true, true_and, and_false, false_and, or_true, true_or, or_false, false_or, not_true_eq_false, not_false_eq_true, if_true, if_false, Bool.false_eq_true, reduceCtorEq, ite_true, ite_false]) (by omega) (by omega) _ _ _ hW (lv_sub hl [2, 3, 4, 5, 0] rfl)
        · skip
          refine lv_aload_n S.1 S.2.1 dX1_fewest_32 rfl (lv_at hl 1 rfl) ?_
          refine lv_iload S.1 S.2.1 dX1_fewest_33 (lv_at hl 5 rfl) ?_
          refine kVi S (c_X1_meetsAll (l := l) (D := D) (cI := cI) (cZ := cZ) (cF := cF) (by first | assumption | omega)) (cwV 1 S.2.2.2.2 gX1_fewest_X1_meetsAll rfl rfl rfl ⟨rfl, v_X1_meetsAll⟩ ⟨(Nat.le_of_ble_eq_true rfl), (Nat.le_of_ble_eq_true rfl)⟩) hk hW 4 rfl rfl rfl rfl hl rfl (Nat.le_of_ble_eq_true rfl) dX1_fewest_35 ⟨(Nat.le_of_ble_eq_true rfl), (Nat.le_of_ble_eq_true rfl)⟩ (fun r u H locs hp hW => ?_)
          obtain ⟨rfl, rfl⟩ := hp
          refine ifeq_b (tgt := 47) S dX1_fewest_38 (by decide) (fun c_38 => ?_) (fun c_38 => ?_)
          · skip
            refine lv_iinc (v := nI (i + 1)) (lv' := [(4, .int (nI (i + 1))), (5, .int (bcnt (nI i))), (0, .ref (q 4)), (1, .int (nI n)), (2, .int z), (3, .int m1)]) (k := 5) S.1 S.2.1 dX1_fewest_47 hl rfl (nI_1 _) (by decide) rfl (fun ls hl => ?_)
            refine lv_goto (tgt := 11) S.1 S.2.1 dX1_fewest_50 (by decide) ?_
            exact ih11 z m1 (i + 1) (by simp only [fwS, ← hm, ← hz, c_29, c_38, eq_self, Nat.add_zero, decide_false, decide_true, Bool.not_true, Bool.not_false, Bool.and_true, Bool.true_and, Bool.and_false, Bool.false_and, Bool.or_true, Bool.true_or, Bool.or_false, Bool.false_or, ↓reduceIte, cond_true, cond_false, bI, and_true, true_and, and_false, false_and, or_true, true_or, or_false, false_or, not_true_eq_false, not_false_eq_true, if_true, if_false, Bool.false_eq_true, reduceCtorEq, ite_true, ite_false]) (by simp only [fwS, ← hm, ← hz, c_29, c_38, eq_self, Nat.add_zero, decide_false, decide_true, Bool.not_true, Bool.not_false, Bool.and_true, Bool.true_and, Bool.and_false, Bool.false_and, Bool.or_true, Bool.true_or, Bool.or_false, Bool.false_or, ↓reduceIte, cond_true, cond_false, bI, and_true, true_and, and_false, false_and, or_true, true_or, or_false, false_or, not_true_eq_false, not_false_eq_true, if_true, if_false, Bool.false_eq_true, reduceCtorEq, ite_true, ite_false]) (by omega) (by omega) _ _ _ hW (lv_sub hl [2, 3, 4, 5, 0] rfl)
          · skip
            refine lv_iload S.1 S.2.1 dX1_fewest_41 (lv_at hl 5 rfl) ?_
            refine lv_istore_n (lv' := [(2, .int (nI i)), (5, .int (bcnt (nI i))), (0, .ref (q 4)), (1, .int (nI n)), (3, .int m1), (4, .int (nI i))]) S.1 S.2.1 dX1_fewest_43 rfl hl (by decide) rfl (fun ls hl => ?_)
            refine lv_iload S.1 S.2.1 dX1_fewest_44 (lv_at hl 1 rfl) ?_
            refine lv_istore_n (lv' := [(3, .int (bcnt (nI i))), (2, .int (nI i)), (5, .int (bcnt (nI i))), (0, .ref (q 4)), (1, .int (nI n)), (4, .int (nI i))]) S.1 S.2.1 dX1_fewest_46 rfl hl (by decide) rfl (fun ls hl => ?_)
            refine lv_iinc (v := nI (i + 1)) (lv' := [(4, .int (nI (i + 1))), (3, .int (bcnt (nI i))), (2, .int (nI i)), (5, .int (bcnt (nI i))), (0, .ref (q 4)), (1, .int (nI n))]) (k := 5) S.1 S.2.1 dX1_fewest_47 hl rfl (nI_1 _) (by decide) rfl (fun ls hl => ?_)
            refine lv_goto (tgt := 11) S.1 S.2.1 dX1_fewest_50 (by decide) ?_
            exact ih11 (nI i) (bcnt (nI i)) (i + 1) (by simp only [fwS, ← hm, ← hz, c_29, c_38, eq_self, Nat.add_zero, decide_false, decide_true, Bool.not_true, Bool.not_false, Bool.and_true, Bool.true_and, Bool.and_false, Bool.false_and, Bool.or_true, Bool.true_or, Bool.or_false, Bool.false_or, ↓reduceIte, cond_true, cond_false, bI, and_true, true_and, and_false, false_and, or_true, true_or, or_false, false_or, not_true_eq_false, not_false_eq_true, if_true, if_false, Bool.false_eq_true, reduceCtorEq, ite_true, ite_false]) (by simp only [fwS, ← hm, ← hz, c_29, c_38, eq_self, Nat.add_zero, decide_false, decide_true, Bool.not_true, Bool.not_false, Bool.and_true, Bool.true_and, Bool.and_false, Bool.false_and, Bool.or_true, Bool.true_or, Bool.or_false, Bool.false_or, ↓reduceIte, cond_true, cond_false, bI, and_true, true_and, and_false, false_and, or_true, true_or, or_false, false_or, not_true_eq_false, not_false_eq_true, if_true, if_false, Bool.false_eq_true, reduceCtorEq, ite_true, ite_false]) (by omega) (by omega) _ _ _ hW (lv_sub hl [4, 5, 2, 1, 0] rfl)
  exact L11 (M + 1) (-1000) (nI (n + 1)) 0 rfl rfl (by omega) (by omega) _ _ _ hW (lv_sub hl [3, 4, 2, 1, 0] rfl)
