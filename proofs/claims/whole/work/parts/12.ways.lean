abbrev r_X3_lower : Room := { frames := 0, cells := 0, slots := 0, locals := 0 }
theorem v_X3_lower : yX3_lower.cls ≠ "java/lang/invoke/MethodHandle" ∧ yX3_lower.cls ≠ "java/lang/invoke/VarHandle" ∧ (parseMethodDescriptor yX3_lower.desc).map (fun d => d.parameters.length) = some 3 := by decide +kernel
set_option maxRecDepth 100000 in
set_option maxHeartbeats 4000000 in
theorem c_X3_lower {l : Launch} {D : va_G} {cI cZ : ClassId} {q : Nat → Nat} {qf : Nat} {g : Gr} {C R : Nat → Int32} {rw len : Nat} {F : Nat → Int32} {sz : Nat} {X : Nat → Int32} {mk : Int32} {a b : Nat} {v : Int32} (ha : a < 10) (hb : b < 10) : cI_ l D cI cZ yX3_lower wsX3_lower r_X3_lower [.ref (q 2), .int (nI a), .int (nI b), .int v] (wC q qf cI cZ g C R rw len F sz X mk) (fun r u => r = bI (lowB R a b v) ∧ u = wC q qf cI cZ g C (low R a b v) rw len F sz X mk) 0 0 := by
  refine cI_of (cc := cX3_lower) (maxL := 4) (rt := .boolean) (plainFor_of_name (by decide +kernel)) rfl (Nat.le_of_ble_eq_true rfl) ?_
  intro p e s m args below meth c A Q ls S hk hW hl hR
  have hl : lv_has ls 4 [(0, .ref (q 2)), (1, .int (nI a)), (2, .int (nI b)), (3, .int v)] := hl
  have hwsX30 : ∀ x ∈ wsX30, x ∈ wsX3_lower := fun x h => List.mem_cons_of_mem _ (List.mem_append_right _ h)
  refine lv_aload_n S.1 S.2.1 dX3_lower_0 rfl (lv_at hl 0 rfl) ?_
  refine gf S hk hW 2 rfl rfl hwsX30 2 (by decide) 1 rfl rfl dX3_lower_1 ?_
  refine lv_iload_n S.1 S.2.1 dX3_lower_4 rfl (lv_at hl 1 rfl) ?_
  refine ild S hk hW 11 rfl a rfl (by omega) (by omega) dX3_lower_5 ?_
  refine lv_ldc (v := 1073741824) S.1 S.2.1 S.2.2.2.1 (S.2.2.2.2 _ (List.mem_of_getElem? (i := 2) rfl)) dX3_lower_6 ?_
  refine lv_icmp_eq (tgt := 28) S.1 S.2.1 dX3_lower_8 (by decide) (fun c_8 => ?_) (fun c_8 => ?_)
  · skip
    refine lv_iconst (v := nI 0) S.1 S.2.1 dX3_lower_28 (by decide) ?_
    have hlow : low R a b v = R := by simp only [low, eq_true c_8, eq_self, Nat.add_zero, decide_false, decide_true, Bool.not_true, Bool.not_false, Bool.and_true, Bool.true_and, Bool.and_false, Bool.false_and, Bool.or_true, Bool.true_or, Bool.or_false, Bool.false_or, ↓reduceIte, cond_true, cond_false, bI, and_true, true_and, and_false, false_and, or_true, true_or, or_false, false_or, not_true_eq_false, not_false_eq_true, if_true, if_false, Bool.false_eq_true, reduceCtorEq, ite_true, ite_false]
    rw [← hlow] at hW
    exact hR _ _ _ _ _ _ _ _ dX3_lower_29 rfl (Nat.le_of_ble_eq_true rfl) (Nat.le_of_ble_eq_true rfl) hW ⟨(by simp only [lowB, eq_true c_8, eq_self, Nat.add_zero, decide_false, decide_true, Bool.not_true, Bool.not_false, Bool.and_true, Bool.true_and, Bool.and_false, Bool.false_and, Bool.or_true, Bool.true_or, Bool.or_false, Bool.false_or, ↓reduceIte, cond_true, cond_false, bI, and_true, true_and, and_false, false_and, or_true, true_or, or_false, false_or, not_true_eq_false, not_false_eq_true, if_true, if_false, Bool.false_eq_true, reduceCtorEq, ite_true, ite_false]), rfl⟩
  · skip
    refine lv_aload_n S.1 S.2.1 dX3_lower_11 rfl (lv_at hl 0 rfl) ?_
    refine gf S hk hW 2 rfl rfl hwsX30 2 (by decide) 1 rfl rfl dX3_lower_12 ?_
    refine lv_iload_n S.1 S.2.1 dX3_lower_15 rfl (lv_at hl 1 rfl) ?_
    refine ild S hk hW 11 rfl a rfl (by omega) (by omega) dX3_lower_16 ?_
    refine lv_iload_n S.1 S.2.1 dX3_lower_17 rfl (lv_at hl 3 rfl) ?_
    refine lv_iadd S.1 S.2.1 dX3_lower_18 ?_
    refine lv_aload_n S.1 S.2.1 dX3_lower_19 rfl (lv_at hl 0 rfl) ?_
    refine gf S hk hW 2 rfl rfl hwsX30 2 (by decide) 1 rfl rfl dX3_lower_20 ?_
    refine lv_iload_n S.1 S.2.1 dX3_lower_23 rfl (lv_at hl 2 rfl) ?_
    refine ild S hk hW 11 rfl b rfl (by omega) (by omega) dX3_lower_24 ?_
    refine lv_icmp_lt (tgt := 30) S.1 S.2.1 dX3_lower_25 (by decide) (fun c_25 => ?_) (fun c_25 => ?_)
    · skip
      refine lv_aload_n S.1 S.2.1 dX3_lower_30 rfl (lv_at hl 0 rfl) ?_
      refine gf S hk hW 2 rfl rfl hwsX30 2 (by decide) 1 rfl rfl dX3_lower_31 ?_
      refine lv_iload_n S.1 S.2.1 dX3_lower_34 rfl (lv_at hl 2 rfl) ?_
      refine lv_aload_n S.1 S.2.1 dX3_lower_35 rfl (lv_at hl 0 rfl) ?_
      refine gf S hk hW 2 rfl rfl hwsX30 2 (by decide) 1 rfl rfl dX3_lower_36 ?_
      refine lv_iload_n S.1 S.2.1 dX3_lower_39 rfl (lv_at hl 1 rfl) ?_
      refine ild S hk hW 11 rfl a rfl (by omega) (by omega) dX3_lower_40 ?_
      refine lv_iload_n S.1 S.2.1 dX3_lower_41 rfl (lv_at hl 3 rfl) ?_
      refine lv_iadd S.1 S.2.1 dX3_lower_42 ?_
      refine ist (w' := wC q qf cI cZ g C (upd R b ((R a) + v)) rw len F sz X mk) S hk hW 11 rfl b rfl (by omega) (by omega) dX3_lower_43 rfl (fun H locs hW => ?_)
      refine lv_iconst (v := nI 1) S.1 S.2.1 dX3_lower_44 (by decide) ?_
      have hlow : low R a b v = upd R b (R a + v) := by simp only [low, eq_false c_8, eq_true c_25, eq_self, Nat.add_zero, decide_false, decide_true, Bool.not_true, Bool.not_false, Bool.and_true, Bool.true_and, Bool.and_false, Bool.false_and, Bool.or_true, Bool.true_or, Bool.or_false, Bool.false_or, ↓reduceIte, cond_true, cond_false, bI, and_true, true_and, and_false, false_and, or_true, true_or, or_false, false_or, not_true_eq_false, not_false_eq_true, if_true, if_false, Bool.false_eq_true, reduceCtorEq, ite_true, ite_false]
      rw [← hlow] at hW
      exact hR _ _ _ _ _ _ _ _ dX3_lower_45 rfl (Nat.le_of_ble_eq_true rfl) (Nat.le_of_ble_eq_true rfl) hW ⟨(by simp only [lowB, eq_false c_8, eq_true c_25, eq_self, Nat.add_zero, decide_false, decide_true, Bool.not_true, Bool.not_false, Bool.and_true, Bool.true_and, Bool.and_false, Bool.false_and, Bool.or_true, Bool.true_or, Bool.or_false, Bool.false_or, ↓reduceIte, cond_true, cond_false, bI, and_true, true_and, and_false, false_and, or_true, true_or, or_false, false_or, not_true_eq_false, not_false_eq_true, if_true, if_false, Bool.false_eq_true, reduceCtorEq, ite_true, ite_false]), rfl⟩
    · skip
      refine lv_iconst (v := nI 0) S.1 S.2.1 dX3_lower_28 (by decide) ?_
      have hlow : low R a b v = R := by simp only [low, eq_false c_8, eq_false c_25, eq_self, Nat.add_zero, decide_false, decide_true, Bool.not_true, Bool.not_false, Bool.and_true, Bool.true_and, Bool.and_false, Bool.false_and, Bool.or_true, Bool.true_or, Bool.or_false, Bool.false_or, ↓reduceIte, cond_true, cond_false, bI, and_true, true_and, and_false, false_and, or_true, true_or, or_false, false_or, not_true_eq_false, not_false_eq_true, if_true, if_false, Bool.false_eq_true, reduceCtorEq, ite_true, ite_false]
      rw [← hlow] at hW
      exact hR _ _ _ _ _ _ _ _ dX3_lower_29 rfl (Nat.le_of_ble_eq_true rfl) (Nat.le_of_ble_eq_true rfl) hW ⟨(by simp only [lowB, eq_false c_8, eq_false c_25, eq_self, Nat.add_zero, decide_false, decide_true, Bool.not_true, Bool.not_false, Bool.and_true, Bool.true_and, Bool.and_false, Bool.false_and, Bool.or_true, Bool.true_or, Bool.or_false, Bool.false_or, ↓reduceIte, cond_true, cond_false, bI, and_true, true_and, and_false, false_and, or_true, true_or, or_false, false_or, not_true_eq_false, not_false_eq_true, if_true, if_false, Bool.false_eq_true, reduceCtorEq, ite_true, ite_false]), rfl⟩
abbrev r_X3_relax : Room := { frames := 1, cells := 0, slots := 0, locals := 23 }
theorem v_X3_relax : yX3_relax.cls ≠ "java/lang/invoke/MethodHandle" ∧ yX3_relax.cls ≠ "java/lang/invoke/VarHandle" ∧ (parseMethodDescriptor yX3_relax.desc).map (fun d => d.parameters.length) = some 1 := by decide +kernel
set_option maxRecDepth 100000 in
set_option maxHeartbeats 4000000 in
theorem c_X3_relax {l : Launch} {D : va_G} {cI cZ : ClassId} {q : Nat → Nat} {qf : Nat} {g : Gr} {C R : Nat → Int32} {rw len : Nat} {F : Nat → Int32} {sz : Nat} {X : Nat → Int32} {mk : Int32} {j : Nat} (G : Gok g) (hj : j < gK g) : cI_ l D cI cZ yX3_relax wsX3_relax r_X3_relax [.ref (q 2), .int (nI j)] (wC q qf cI cZ g C R rw len F sz X mk) (fun r u => r = bI (rlxB g R j) ∧ u = wC q qf cI cZ g C (rlx g R j) rw len F sz X mk) 0 0 := by
  refine cI_of (cc := cX3_relax) (maxL := 6) (rt := .boolean) (plainFor_of_name (by decide +kernel)) rfl (Nat.le_of_ble_eq_true rfl) ?_
  intro p e s m args below meth c A Q ls S hk hW hl hR
  have hl : lv_has ls 6 [(0, .ref (q 2)), (1, .int (nI j))] := hl
  have hwsX30 : ∀ x ∈ wsX30, x ∈ wsX3_relax := fun x h => List.mem_cons_of_mem _ (List.mem_append_left _ (List.mem_append_right _ h))
  have hwsX10 : ∀ x ∈ wsX10, x ∈ wsX3_relax := fun x h => List.mem_cons_of_mem _ (List.mem_append_right _ h)
  have hN := Gok_N G; have hN2 := Gok_N2 G; have hKK := Gok_K G
  refine lv_aload_n S.1 S.2.1 dX3_relax_0 rfl (lv_at hl 0 rfl) ?_
  refine lv_iload_n S.1 S.2.1 dX3_relax_1 rfl (lv_at hl 1 rfl) ?_
  refine kVi S (c_X3_costOf (l := l) (D := D) (cI := cI) (cZ := cZ) (by first | assumption | omega)) (cwV 1 S.2.2.2.2 gX3_relax_X3_costOf rfl rfl rfl ⟨rfl, v_X3_costOf⟩ ⟨(Nat.le_of_ble_eq_true rfl), (Nat.le_of_ble_eq_true rfl)⟩) hk hW 2 rfl rfl rfl rfl hl rfl (Nat.le_of_ble_eq_true rfl) dX3_relax_2 ⟨(Nat.le_of_ble_eq_true rfl), (Nat.le_of_ble_eq_true rfl)⟩ (fun r u H locs hp hW => ?_)
  obtain ⟨rfl, rfl⟩ := hp
  refine lv_istore_n (lv' := [(2, .int (cw g j)), (0, .ref (q 2)), (1, .int (nI j))]) S.1 S.2.1 dX3_relax_5 rfl hl (by decide) rfl (fun ls hl => ?_)
  refine lv_aload_n S.1 S.2.1 dX3_relax_6 rfl (lv_at hl 1 rfl) ?_
  refine gf S hk hW 2 rfl rfl hwsX30 0 (by decide) 1 rfl rfl dX3_relax_7 ?_
  refine gfN (host := RX4) S hk hW 1 rfl rfl hwsX10 0 (by decide) 10 rfl rfl dX3_relax_10 ?_
  refine lv_iload_n S.1 S.2.1 dX3_relax_13 rfl (lv_at hl 2 rfl) ?_
  refine ild S hk hW 5 rfl j rfl (by omega) (by omega) dX3_relax_14 ?_
  refine top_eq (Gok_B G (j := j) (by omega)) ?_
  have hb14 := Gok_B2 G (j := j) (by omega)
  refine lv_istore_n (lv' := [(3, .int (nI (e1 g j))), (2, .int (cw g j)), (0, .ref (q 2)), (1, .int (nI j))]) S.1 S.2.1 dX3_relax_15 rfl hl (by decide) rfl (fun ls hl => ?_)
  refine lv_aload_n S.1 S.2.1 dX3_relax_16 rfl (lv_at hl 2 rfl) ?_
  refine gf S hk hW 2 rfl rfl hwsX30 0 (by decide) 1 rfl rfl dX3_relax_17 ?_
  refine gfN (host := RX4) S hk hW 1 rfl rfl hwsX10 1 (by decide) 11 rfl rfl dX3_relax_20 ?_
  refine lv_iload_n S.1 S.2.1 dX3_relax_23 rfl (lv_at hl 3 rfl) ?_
  refine ild S hk hW 6 rfl j rfl (by omega) (by omega) dX3_relax_24 ?_
  refine top_eq (Gok_E G (j := j) (by omega)) ?_
  have hb24 := Gok_E2 G (j := j) (by omega)
  refine lv_istore (lv' := [(4, .int (nI (e2 g j))), (3, .int (nI (e1 g j))), (2, .int (cw g j)), (0, .ref (q 2)), (1, .int (nI j))]) S.1 S.2.1 dX3_relax_25 hl (by decide) rfl (fun ls hl => ?_)
  refine lv_aload_n S.1 S.2.1 dX3_relax_27 rfl (lv_at hl 3 rfl) ?_
  refine lv_iload_n S.1 S.2.1 dX3_relax_28 rfl (lv_at hl 1 rfl) ?_
  refine lv_iload S.1 S.2.1 dX3_relax_29 (lv_at hl 0 rfl) ?_
  refine lv_iload_n S.1 S.2.1 dX3_relax_31 rfl (lv_at hl 2 rfl) ?_
  refine kVi S (c_X3_lower (l := l) (D := D) (cI := cI) (cZ := cZ) (by first | assumption | omega) (by first | assumption | omega)) (cwV 3 S.2.2.2.2 gX3_relax_X3_lower rfl rfl rfl ⟨rfl, v_X3_lower⟩ ⟨(Nat.le_of_ble_eq_true rfl), (Nat.le_of_ble_eq_true rfl)⟩) hk hW 2 rfl rfl rfl rfl hl rfl (Nat.le_of_ble_eq_true rfl) dX3_relax_32 ⟨(Nat.le_of_ble_eq_true rfl), (Nat.le_of_ble_eq_true rfl)⟩ (fun r u H locs hp hW => ?_)
  obtain ⟨rfl, rfl⟩ := hp
  refine lv_istore (lv' := [(5, .int (bI (lowB R (e1 g j) (e2 g j) (cw g j)))), (4, .int (nI (e2 g j))), (3, .int (nI (e1 g j))), (2, .int (cw g j)), (0, .ref (q 2)), (1, .int (nI j))]) S.1 S.2.1 dX3_relax_35 hl (by decide) rfl (fun ls hl => ?_)
  refine lv_aload_n S.1 S.2.1 dX3_relax_37 rfl (lv_at hl 4 rfl) ?_
  refine gf S hk hW 2 rfl rfl hwsX30 0 (by decide) 1 rfl rfl dX3_relax_38 ?_
  refine gfN (host := RX4) S hk hW 1 rfl rfl hwsX10 3 (by decide) 12 rfl rfl dX3_relax_41 ?_
  refine lv_iload_n S.1 S.2.1 dX3_relax_44 rfl (lv_at hl 5 rfl) ?_
  refine zld S hk hW 8 rfl j rfl (by omega) (by omega) dX3_relax_45 ?_
  refine top_eq (Gok_W G (j := j) (by omega)) ?_
  refine ifeq_b (tgt := 60) S dX3_relax_46 (by decide) (fun c_46 => ?_) (fun c_46 => ?_)
  · skip
    refine lv_iload S.1 S.2.1 dX3_relax_60 (lv_at hl 0 rfl) ?_
    refine ifeq_b (tgt := 69) S dX3_relax_62 (by decide) (fun c_62 => ?_) (fun c_62 => ?_)
    · skip
      refine lv_iconst (v := nI 0) S.1 S.2.1 dX3_relax_69 (by decide) ?_
      have hrlx : rlx g R j = (low R (e1 g j) (e2 g j) (cw g j)) := by simp only [rlx, c_46, c_62, eq_self, Nat.add_zero, decide_false, decide_true, Bool.not_true, Bool.not_false, Bool.and_true, Bool.true_and, Bool.and_false, Bool.false_and, Bool.or_true, Bool.true_or, Bool.or_false, Bool.false_or, ↓reduceIte, cond_true, cond_false, bI, and_true, true_and, and_false, false_and, or_true, true_or, or_false, false_or, not_true_eq_false, not_false_eq_true, if_true, if_false, Bool.false_eq_true, reduceCtorEq, ite_true, ite_false]
      rw [← hrlx] at hW
      exact hR _ _ _ _ _ _ _ _ dX3_relax_70 rfl (Nat.le_of_ble_eq_true rfl) (Nat.le_of_ble_eq_true rfl) hW ⟨(by simp only [rlxB, c_46, c_62, eq_self, Nat.add_zero, decide_false, decide_true, Bool.not_true, Bool.not_false, Bool.and_true, Bool.true_and, Bool.and_false, Bool.false_and, Bool.or_true, Bool.true_or, Bool.or_false, Bool.false_or, ↓reduceIte, cond_true, cond_false, bI, and_true, true_and, and_false, false_and, or_true, true_or, or_false, false_or, not_true_eq_false, not_false_eq_true, if_true, if_false, Bool.false_eq_true, reduceCtorEq, ite_true, ite_false]), rfl⟩
    · skip
      refine lv_iconst (v := nI 1) S.1 S.2.1 dX3_relax_65 (by decide) ?_
      refine lv_goto (tgt := 70) S.1 S.2.1 dX3_relax_66 (by decide) ?_
      have hrlx : rlx g R j = (low R (e1 g j) (e2 g j) (cw g j)) := by simp only [rlx, c_46, c_62, eq_self, Nat.add_zero, decide_false, decide_true, Bool.not_true, Bool.not_false, Bool.and_true, Bool.true_and, Bool.and_false, Bool.false_and, Bool.or_true, Bool.true_or, Bool.or_false, Bool.false_or, ↓reduceIte, cond_true, cond_false, bI, and_true, true_and, and_false, false_and, or_true, true_or, or_false, false_or, not_true_eq_false, not_false_eq_true, if_true, if_false, Bool.false_eq_true, reduceCtorEq, ite_true, ite_false]
      rw [← hrlx] at hW
      exact hR _ _ _ _ _ _ _ _ dX3_relax_70 rfl (Nat.le_of_ble_eq_true rfl) (Nat.le_of_ble_eq_true rfl) hW ⟨(by simp only [rlxB, c_46, c_62, eq_self, Nat.add_zero, decide_false, decide_true, Bool.not_true, Bool.not_false, Bool.and_true, Bool.true_and, Bool.and_false, Bool.false_and, Bool.or_true, Bool.true_or, Bool.or_false, Bool.false_or, ↓reduceIte, cond_true, cond_false, bI, and_true, true_and, and_false, false_and, or_true, true_or, or_false, false_or, not_true_eq_false, not_false_eq_true, if_true, if_false, Bool.false_eq_true, reduceCtorEq, ite_true, ite_false]), rfl⟩
  · skip
    refine lv_aload_n S.1 S.2.1 dX3_relax_49 rfl (lv_at hl 4 rfl) ?_
    refine lv_iload S.1 S.2.1 dX3_relax_50 (lv_at hl 1 rfl) ?_
    refine lv_iload_n S.1 S.2.1 dX3_relax_52 rfl (lv_at hl 2 rfl) ?_
    refine lv_iload_n S.1 S.2.1 dX3_relax_53 rfl (lv_at hl 3 rfl) ?_
    refine kVi S (c_X3_lower (l := l) (D := D) (cI := cI) (cZ := cZ) (by first | assumption | omega) (by first | assumption | omega)) (cwV 3 S.2.2.2.2 gX3_relax_X3_lower rfl rfl rfl ⟨rfl, v_X3_lower⟩ ⟨(Nat.le_of_ble_eq_true rfl), (Nat.le_of_ble_eq_true rfl)⟩) hk hW 2 rfl rfl rfl rfl hl rfl (Nat.le_of_ble_eq_true rfl) dX3_relax_54 ⟨(Nat.le_of_ble_eq_true rfl), (Nat.le_of_ble_eq_true rfl)⟩ (fun r u H locs hp hW => ?_)
    obtain ⟨rfl, rfl⟩ := hp
    refine ifne_b (tgt := 65) S dX3_relax_57 (by decide) (fun c_57 => ?_) (fun c_57 => ?_)
    · skip
      refine lv_iconst (v := nI 1) S.1 S.2.1 dX3_relax_65 (by decide) ?_
      refine lv_goto (tgt := 70) S.1 S.2.1 dX3_relax_66 (by decide) ?_
      have hrlx : rlx g R j = (low (low R (e1 g j) (e2 g j) (cw g j)) (e2 g j) (e1 g j) (cw g j)) := by simp only [rlx, c_46, c_57, eq_self, Nat.add_zero, decide_false, decide_true, Bool.not_true, Bool.not_false, Bool.and_true, Bool.true_and, Bool.and_false, Bool.false_and, Bool.or_true, Bool.true_or, Bool.or_false, Bool.false_or, ↓reduceIte, cond_true, cond_false, bI, and_true, true_and, and_false, false_and, or_true, true_or, or_false, false_or, not_true_eq_false, not_false_eq_true, if_true, if_false, Bool.false_eq_true, reduceCtorEq, ite_true, ite_false]
      rw [← hrlx] at hW
      exact hR _ _ _ _ _ _ _ _ dX3_relax_70 rfl (Nat.le_of_ble_eq_true rfl) (Nat.le_of_ble_eq_true rfl) hW ⟨(by simp only [rlxB, c_46, c_57, eq_self, Nat.add_zero, decide_false, decide_true, Bool.not_true, Bool.not_false, Bool.and_true, Bool.true_and, Bool.and_false, Bool.false_and, Bool.or_true, Bool.true_or, Bool.or_false, Bool.false_or, ↓reduceIte, cond_true, cond_false, bI, and_true, true_and, and_false, false_and, or_true, true_or, or_false, false_or, not_true_eq_false, not_false_eq_true, if_true, if_false, Bool.false_eq_true, reduceCtorEq, ite_true, ite_false]), rfl⟩
    · skip
      refine lv_iload S.1 S.2.1 dX3_relax_60 (lv_at hl 0 rfl) ?_
      refine ifeq_b (tgt := 69) S dX3_relax_62 (by decide) (fun c_62 => ?_) (fun c_62 => ?_)
      · skip
        refine lv_iconst (v := nI 0) S.1 S.2.1 dX3_relax_69 (by decide) ?_
        have hrlx : rlx g R j = (low (low R (e1 g j) (e2 g j) (cw g j)) (e2 g j) (e1 g j) (cw g j)) := by simp only [rlx, c_46, c_57, c_62, eq_self, Nat.add_zero, decide_false, decide_true, Bool.not_true, Bool.not_false, Bool.and_true, Bool.true_and, Bool.and_false, Bool.false_and, Bool.or_true, Bool.true_or, Bool.or_false, Bool.false_or, ↓reduceIte, cond_true, cond_false, bI, and_true, true_and, and_false, false_and, or_true, true_or, or_false, false_or, not_true_eq_false, not_false_eq_true, if_true, if_false, Bool.false_eq_true, reduceCtorEq, ite_true, ite_false]
        rw [← hrlx] at hW
        exact hR _ _ _ _ _ _ _ _ dX3_relax_70 rfl (Nat.le_of_ble_eq_true rfl) (Nat.le_of_ble_eq_true rfl) hW ⟨(by simp only [rlxB, c_46, c_57, c_62, eq_self, Nat.add_zero, decide_false, decide_true, Bool.not_true, Bool.not_false, Bool.and_true, Bool.true_and, Bool.and_false, Bool.false_and, Bool.or_true, Bool.true_or, Bool.or_false, Bool.false_or, ↓reduceIte, cond_true, cond_false, bI, and_true, true_and, and_false, false_and, or_true, true_or, or_false, false_or, not_true_eq_false, not_false_eq_true, if_true, if_false, Bool.false_eq_true, reduceCtorEq, ite_true, ite_false]), rfl⟩
      · skip
        refine lv_iconst (v := nI 1) S.1 S.2.1 dX3_relax_65 (by decide) ?_
        refine lv_goto (tgt := 70) S.1 S.2.1 dX3_relax_66 (by decide) ?_
        have hrlx : rlx g R j = (low (low R (e1 g j) (e2 g j) (cw g j)) (e2 g j) (e1 g j) (cw g j)) := by simp only [rlx, c_46, c_57, c_62, eq_self, Nat.add_zero, decide_false, decide_true, Bool.not_true, Bool.not_false, Bool.and_true, Bool.true_and, Bool.and_false, Bool.false_and, Bool.or_true, Bool.true_or, Bool.or_false, Bool.false_or, ↓reduceIte, cond_true, cond_false, bI, and_true, true_and, and_false, false_and, or_true, true_or, or_false, false_or, not_true_eq_false, not_false_eq_true, if_true, if_false, Bool.false_eq_true, reduceCtorEq, ite_true, ite_false]
        rw [← hrlx] at hW
        exact hR _ _ _ _ _ _ _ _ dX3_relax_70 rfl (Nat.le_of_ble_eq_true rfl) (Nat.le_of_ble_eq_true rfl) hW ⟨(by simp only [rlxB, c_46, c_57, c_62, eq_self, Nat.add_zero, decide_false, decide_true, Bool.not_true, Bool.not_false, Bool.and_true, Bool.true_and, Bool.and_false, Bool.false_and, Bool.or_true, Bool.true_or, Bool.or_false, Bool.false_or, ↓reduceIte, cond_true, cond_false, bI, and_true, true_and, and_false, false_and, or_true, true_or, or_false, false_or, not_true_eq_false, not_false_eq_true, if_true, if_false, Bool.false_eq_true, reduceCtorEq, ite_true, ite_false]), rfl⟩
abbrev r_X3_spread : Room := { frames := 2, cells := 0, slots := 0, locals := 48 }
theorem v_X3_spread : yX3_spread.cls ≠ "java/lang/invoke/MethodHandle" ∧ yX3_spread.cls ≠ "java/lang/invoke/VarHandle" ∧ (parseMethodDescriptor yX3_spread.desc).map (fun d => d.parameters.length) = some 3 := by decide +kernel
set_option maxRecDepth 100000 in
set_option maxHeartbeats 4000000 in
theorem c_X3_spread {l : Launch} {D : va_G} {cI cZ : ClassId} {q : Nat → Nat} {qf : Nat} {g : Gr} {C R : Nat → Int32} {rw len : Nat} {F : Nat → Int32} {sz : Nat} {X : Nat → Int32} {mk : Int32} {a : Nat} {x y : Int32} (G : Gok g) (ha : a < 10) : cV_ l D cI cZ yX3_spread wsX3_spread r_X3_spread [.ref (q 2), .int (nI a), .int x, .int y] (wC q qf cI cZ g C R rw len F sz X mk) (fun u => u = wC q qf cI cZ g C (spr g x y a) rw len F sz X mk) 0 0 := by
  refine cV_of (cc := cX3_spread) (maxL := 7) (plainFor_of_name (by decide +kernel)) rfl (Nat.le_of_ble_eq_true rfl) ?_
  intro p e s m args below meth c A Q ls S hnm hk hW hl hR
  have hl : lv_has ls 7 [(0, .ref (q 2)), (1, .int (nI a)), (2, .int x), (3, .int y)] := hl
  have hwsX30 : ∀ x ∈ wsX30, x ∈ wsX3_spread := fun x h => List.mem_cons_of_mem _ (List.mem_append_left _ (List.mem_append_right _ h))
  have hwsX10 : ∀ x ∈ wsX10, x ∈ wsX3_spread := fun x h => List.mem_cons_of_mem _ (List.mem_append_right _ h)
  have hN := Gok_N G; have hN2 := Gok_N2 G; have hKK := Gok_K G
  refine lv_aload_n S.1 S.2.1 dX3_spread_0 rfl (lv_at hl 0 rfl) ?_
  refine gf S hk hW 2 rfl rfl hwsX30 2 (by decide) 1 rfl rfl dX3_spread_1 ?_
  refine lv_ldc (v := 1073741824) S.1 S.2.1 S.2.2.2.1 (S.2.2.2.2 _ (List.mem_of_getElem? (i := 2) rfl)) dX3_spread_4 ?_
  refine kSv S (c_J7_fill_53178 (l := l) (D := D) (cI := cI) (cZ := cZ) (q0 := 11) rfl (by omega)) (va_cwS 2 S.2.2.2.2 gX3_spread_J7_fill_53178 rfl rfl rfl v_J7_fill_53178 ⟨(Nat.le_of_ble_eq_true rfl), (Nat.le_of_ble_eq_true rfl)⟩) hk hW rfl hl rfl (Nat.le_of_ble_eq_true rfl) dX3_spread_6 ⟨(Nat.le_of_ble_eq_true rfl), (Nat.le_of_ble_eq_true rfl)⟩ (fun u H locs hp hW => ?_)
  subst hp
  have hW : wd D A s H locs (wC q qf cI cZ g C (fun _ => 1073741824) rw len F sz X mk) := hW
  refine lv_aload_n S.1 S.2.1 dX3_spread_9 rfl (lv_at hl 0 rfl) ?_
  refine gf S hk hW 2 rfl rfl hwsX30 2 (by decide) 1 rfl rfl dX3_spread_10 ?_
  refine lv_iload_n S.1 S.2.1 dX3_spread_13 rfl (lv_at hl 1 rfl) ?_
  refine lv_iconst (v := nI 0) S.1 S.2.1 dX3_spread_14 (by decide) ?_
  refine ist (w' := wC q qf cI cZ g C (upd (fun _ => 1073741824) a (nI 0)) rw len F sz X mk) S hk hW 11 rfl a rfl (by omega) (by omega) dX3_spread_15 rfl (fun H locs hW => ?_)
  refine lv_iconst (v := nI 1) S.1 S.2.1 dX3_spread_16 (by decide) ?_
  refine lv_istore (lv' := [(4, .int (nI 1)), (0, .ref (q 2)), (1, .int (nI a)), (2, .int x), (3, .int y)]) S.1 S.2.1 dX3_spread_17 hl (by decide) rfl (fun ls hl => ?_)
  refine lv_iconst (v := nI 0) S.1 S.2.1 dX3_spread_19 (by decide) ?_
  refine lv_istore (lv' := [(5, .int (nI 0)), (4, .int (nI 1)), (0, .ref (q 2)), (1, .int (nI a)), (2, .int x), (3, .int y)]) S.1 S.2.1 dX3_spread_20 hl (by decide) rfl (fun ls hl => ?_)
  have L22 : ∀ (dd : Nat), ∀ (nw : Bool), ∀ (r : Nat), ∀ (R1 : Nat → Int32), (R1 = rnd g x y (upd (fun _ => 1073741824) a (nI 0)) r) → (nw = false → (swp g x y R1 (gK g)).1 = R1) → (r ≤ gN g) → gN g < r + dd → ∀ (H : Heap) (locs : List Loc) (ls : Array Slot), wd D A s H locs (wC q qf cI cZ g C R1 rw len F sz X mk) → lv_has ls 7 [(0, .ref (q 2)), (1, .int (nI a)), (2, .int x), (3, .int y), (4, .int (bI nw)), (5, .int (nI r))] → W p l e r_X3_spread s m args below meth c H locs 0 0 Q (F0 m 22 ls []) := by
    intro dd
    induction dd with
    | zero => intros; omega
    | succ dd ih22 =>
      intro nw r R1 hR1 hst hr hdd H locs ls hW hl
      refine lv_iload S.1 S.2.1 dX3_spread_22 (lv_at hl 4 rfl) ?_
      refine ifeq_b (tgt := 113) S dX3_spread_24 (by decide) (fun c_24 => ?_) (fun c_24 => ?_)
      · skip
        have hfin : R1 = rnd g x y (upd (fun _ => 1073741824) a (nI 0)) (gN g) := rnd_end hR1 (hst c_24) hr
        rw [show R1 = spr g x y a from hfin] at hW
        exact hR _ _ _ _ _ _ _ dX3_spread_113 (Nat.le_of_ble_eq_true rfl) (Nat.le_of_ble_eq_true rfl) hW rfl
      · skip
        refine lv_iload S.1 S.2.1 dX3_spread_27 (lv_at hl 5 rfl) ?_
        refine lv_aload_n S.1 S.2.1 dX3_spread_29 rfl (lv_at hl 0 rfl) ?_
        refine gf S hk hW 2 rfl rfl hwsX30 0 (by decide) 3 rfl rfl dX3_spread_30 ?_
        refine gfN (host := RX4) S hk hW 1 rfl rfl hwsX10 5 (by decide) 7 rfl rfl dX3_spread_33 ?_
        refine icge_n (tgt := 113) S (by omega) (by omega) dX3_spread_36 (by decide) (fun c_36 => ?_) (fun c_36 => ?_)
        · skip
          have hfin : R1 = rnd g x y (upd (fun _ => 1073741824) a (nI 0)) (gN g) := by rw [hR1, show r = gN g by omega]
          rw [show R1 = spr g x y a from hfin] at hW
          exact hR _ _ _ _ _ _ _ dX3_spread_113 (Nat.le_of_ble_eq_true rfl) (Nat.le_of_ble_eq_true rfl) hW rfl
        · skip
          refine lv_iconst (v := nI 0) S.1 S.2.1 dX3_spread_39 (by decide) ?_
          refine lv_istore (lv' := [(4, .int (nI 0)), (0, .ref (q 2)), (1, .int (nI a)), (2, .int x), (3, .int y), (5, .int (nI r))]) S.1 S.2.1 dX3_spread_40 hl (by decide) rfl (fun ls hl => ?_)
          refine lv_iconst (v := nI 0) S.1 S.2.1 dX3_spread_42 (by decide) ?_
          refine lv_istore (lv' := [(6, .int (nI 0)), (4, .int (nI 0)), (0, .ref (q 2)), (1, .int (nI a)), (2, .int x), (3, .int y), (5, .int (nI r))]) S.1 S.2.1 dX3_spread_43 hl (by decide) rfl (fun ls hl => ?_)
          have L45 : ∀ (dd : Nat), ∀ (nw2 : Bool), ∀ (i : Nat), ∀ (R2 : Nat → Int32), (R2 = (swp g x y R1 i).1) → (nw2 = (swp g x y R1 i).2) → (i ≤ gK g) → gK g < i + dd → ∀ (H : Heap) (locs : List Loc) (ls : Array Slot), wd D A s H locs (wC q qf cI cZ g C R2 rw len F sz X mk) → lv_has ls 7 [(0, .ref (q 2)), (1, .int (nI a)), (2, .int x), (3, .int y), (4, .int (bI nw2)), (5, .int (nI r)), (6, .int (nI i))] → W p l e r_X3_spread s m args below meth c H locs 0 0 Q (F0 m 45 ls []) := by
            intro dd
            induction dd with
            | zero => intros; omega
            | succ dd ih45 =>
              intro nw2 i R2 hR2 hnw hi hdd H locs ls hW hl
              refine lv_iload S.1 S.2.1 dX3_spread_45 (lv_at hl 6 rfl) ?_
              refine lv_aload_n S.1 S.2.1 dX3_spread_47 rfl (lv_at hl 0 rfl) ?_
              refine gf S hk hW 2 rfl rfl hwsX30 0 (by decide) 3 rfl rfl dX3_spread_48 ?_
              refine gfN (host := RX4) S hk hW 1 rfl rfl hwsX10 6 (by decide) 8 rfl rfl dX3_spread_51 ?_
              refine icge_n (tgt := 107) S (by omega) (by omega) dX3_spread_54 (by decide) (fun c_54 => ?_) (fun c_54 => ?_)
              · skip
                refine lv_iinc (v := nI (r + 1)) (lv' := [(5, .int (nI (r + 1))), (0, .ref (q 2)), (1, .int (nI a)), (2, .int x), (3, .int y), (4, .int (bI nw2)), (6, .int (nI i))]) (k := 5) S.1 S.2.1 dX3_spread_107 hl rfl (nI_1 _) (by decide) rfl (fun ls hl => ?_)
                refine lv_goto (tgt := 22) S.1 S.2.1 dX3_spread_110 (by decide) ?_
                exact ih22 nw2 (r + 1) R2 (by rw [hR2, hR1, show i = gK g by omega]; rfl) (fun h => by
                    have h1 : (swp g x y R1 (gK g)).2 = false := by rw [← show i = gK g by omega, ← hnw]; exact h
                    have h2 := swp_same h1
                    rw [hR2, show i = gK g by omega, h2]
                    exact h2) (by omega) (by omega) _ _ _ hW (lv_sub hl [1, 2, 3, 4, 5, 0] rfl)
              · skip
                refine lv_aload_n S.1 S.2.1 dX3_spread_57 rfl (lv_at hl 0 rfl) ?_
                refine gf S hk hW 2 rfl rfl hwsX30 0 (by decide) 3 rfl rfl dX3_spread_58 ?_
                refine gfN (host := RX4) S hk hW 1 rfl rfl hwsX10 4 (by decide) 13 rfl rfl dX3_spread_61 ?_
                refine lv_iload S.1 S.2.1 dX3_spread_64 (lv_at hl 6 rfl) ?_
                refine zld S hk hW 9 rfl i rfl (by omega) (by omega) dX3_spread_66 ?_
                refine top_eq (Gok_T G (j := i) (by omega)) ?_
                refine ifeq_b (tgt := 101) S dX3_spread_67 (by decide) (fun c_67 => ?_) (fun c_67 => ?_)
                · skip
                  refine lv_iinc (v := nI (i + 1)) (lv' := [(6, .int (nI (i + 1))), (0, .ref (q 2)), (1, .int (nI a)), (2, .int x), (3, .int y), (4, .int (bI nw2)), (5, .int (nI r))]) (k := 6) S.1 S.2.1 dX3_spread_101 hl rfl (nI_1 _) (by decide) rfl (fun ls hl => ?_)
                  refine lv_goto (tgt := 45) S.1 S.2.1 dX3_spread_104 (by decide) ?_
                  exact ih45 nw2 (i + 1) R2 (by simp only [swp, okL, ← hR2, ← hnw, c_67, eq_self, Nat.add_zero, decide_false, decide_true, Bool.not_true, Bool.not_false, Bool.and_true, Bool.true_and, Bool.and_false, Bool.false_and, Bool.or_true, Bool.true_or, Bool.or_false, Bool.false_or, ↓reduceIte, cond_true, cond_false, bI, and_true, true_and, and_false, false_and, or_true, true_or, or_false, false_or, not_true_eq_false, not_false_eq_true, if_true, if_false, Bool.false_eq_true, reduceCtorEq, ite_true, ite_false]) (by simp only [swp, okL, ← hR2, ← hnw, c_67, eq_self, Nat.add_zero, decide_false, decide_true, Bool.not_true, Bool.not_false, Bool.and_true, Bool.true_and, Bool.and_false, Bool.false_and, Bool.or_true, Bool.true_or, Bool.or_false, Bool.false_or, ↓reduceIte, cond_true, cond_false, bI, and_true, true_and, and_false, false_and, or_true, true_or, or_false, false_or, not_true_eq_false, not_false_eq_true, if_true, if_false, Bool.false_eq_true, reduceCtorEq, ite_true, ite_false]) (by omega) (by omega) _ _ _ hW (lv_sub hl [1, 2, 3, 4, 5, 6, 0] rfl)
                · skip
                  refine lv_iload S.1 S.2.1 dX3_spread_70 (lv_at hl 6 rfl) ?_
                  refine lv_iload_n S.1 S.2.1 dX3_spread_72 rfl (lv_at hl 2 rfl) ?_
                  refine lv_icmp_eq (tgt := 101) S.1 S.2.1 dX3_spread_73 (by decide) (fun c_73 => ?_) (fun c_73 => ?_)
                  · skip
                    refine lv_iinc (v := nI (i + 1)) (lv' := [(6, .int (nI (i + 1))), (0, .ref (q 2)), (1, .int (nI a)), (2, .int x), (3, .int y), (4, .int (bI nw2)), (5, .int (nI r))]) (k := 6) S.1 S.2.1 dX3_spread_101 hl rfl (nI_1 _) (by decide) rfl (fun ls hl => ?_)
                    refine lv_goto (tgt := 45) S.1 S.2.1 dX3_spread_104 (by decide) ?_
                    exact ih45 nw2 (i + 1) R2 (by simp only [swp, okL, ← hR2, ← hnw, c_67, c_73, eq_self, Nat.add_zero, decide_false, decide_true, Bool.not_true, Bool.not_false, Bool.and_true, Bool.true_and, Bool.and_false, Bool.false_and, Bool.or_true, Bool.true_or, Bool.or_false, Bool.false_or, ↓reduceIte, cond_true, cond_false, bI, and_true, true_and, and_false, false_and, or_true, true_or, or_false, false_or, not_true_eq_false, not_false_eq_true, if_true, if_false, Bool.false_eq_true, reduceCtorEq, ite_true, ite_false]) (by simp only [swp, okL, ← hR2, ← hnw, c_67, c_73, eq_self, Nat.add_zero, decide_false, decide_true, Bool.not_true, Bool.not_false, Bool.and_true, Bool.true_and, Bool.and_false, Bool.false_and, Bool.or_true, Bool.true_or, Bool.or_false, Bool.false_or, ↓reduceIte, cond_true, cond_false, bI, and_true, true_and, and_false, false_and, or_true, true_or, or_false, false_or, not_true_eq_false, not_false_eq_true, if_true, if_false, Bool.false_eq_true, reduceCtorEq, ite_true, ite_false]) (by omega) (by omega) _ _ _ hW (lv_sub hl [1, 2, 3, 4, 5, 6, 0] rfl)
                  · skip
                    refine lv_aload_n S.1 S.2.1 dX3_spread_76 rfl (lv_at hl 0 rfl) ?_
                    refine gf S hk hW 2 rfl rfl hwsX30 0 (by decide) 3 rfl rfl dX3_spread_77 ?_
                    refine lv_iload S.1 S.2.1 dX3_spread_80 (lv_at hl 6 rfl) ?_
                    refine lv_iload_n S.1 S.2.1 dX3_spread_82 rfl (lv_at hl 3 rfl) ?_
                    refine kVi S (c_X1_touches (l := l) (D := D) (cI := cI) (cZ := cZ) G (by first | assumption | omega)) (cwV 2 S.2.2.2.2 gX3_spread_X1_touches rfl rfl rfl ⟨rfl, v_X1_touches⟩ ⟨(Nat.le_of_ble_eq_true rfl), (Nat.le_of_ble_eq_true rfl)⟩) hk hW 1 rfl rfl rfl rfl hl rfl (Nat.le_of_ble_eq_true rfl) dX3_spread_83 ⟨(Nat.le_of_ble_eq_true rfl), (Nat.le_of_ble_eq_true rfl)⟩ (fun r u H locs hp hW => ?_)
                    obtain ⟨rfl, rfl⟩ := hp
                    refine ifne_b (tgt := 101) S dX3_spread_86 (by decide) (fun c_86 => ?_) (fun c_86 => ?_)
                    · skip
                      refine lv_iinc (v := nI (i + 1)) (lv' := [(6, .int (nI (i + 1))), (0, .ref (q 2)), (1, .int (nI a)), (2, .int x), (3, .int y), (4, .int (bI nw2)), (5, .int (nI r))]) (k := 6) S.1 S.2.1 dX3_spread_101 hl rfl (nI_1 _) (by decide) rfl (fun ls hl => ?_)
                      refine lv_goto (tgt := 45) S.1 S.2.1 dX3_spread_104 (by decide) ?_
                      exact ih45 nw2 (i + 1) R2 (by simp only [swp, okL, ← hR2, ← hnw, c_67, c_73, c_86, eq_self, Nat.add_zero, decide_false, decide_true, Bool.not_true, Bool.not_false, Bool.and_true, Bool.true_and, Bool.and_false, Bool.false_and, Bool.or_true, Bool.true_or, Bool.or_false, Bool.false_or, ↓reduceIte, cond_true, cond_false, bI, and_true, true_and, and_false, false_and, or_true, true_or, or_false, false_or, not_true_eq_false, not_false_eq_true, if_true, if_false, Bool.false_eq_true, reduceCtorEq, ite_true, ite_false]) (by simp only [swp, okL, ← hR2, ← hnw, c_67, c_73, c_86, eq_self, Nat.add_zero, decide_false, decide_true, Bool.not_true, Bool.not_false, Bool.and_true, Bool.true_and, Bool.and_false, Bool.false_and, Bool.or_true, Bool.true_or, Bool.or_false, Bool.false_or, ↓reduceIte, cond_true, cond_false, bI, and_true, true_and, and_false, false_and, or_true, true_or, or_false, false_or, not_true_eq_false, not_false_eq_true, if_true, if_false, Bool.false_eq_true, reduceCtorEq, ite_true, ite_false]) (by omega) (by omega) _ _ _ hW (lv_sub hl [1, 2, 3, 4, 5, 6, 0] rfl)
                    · skip
                      refine lv_aload_n S.1 S.2.1 dX3_spread_89 rfl (lv_at hl 0 rfl) ?_
                      refine lv_iload S.1 S.2.1 dX3_spread_90 (lv_at hl 6 rfl) ?_
                      refine kVi S (c_X3_relax (l := l) (D := D) (cI := cI) (cZ := cZ) G (by first | assumption | omega)) (cwV 1 S.2.2.2.2 gX3_spread_X3_relax rfl rfl rfl ⟨rfl, v_X3_relax⟩ ⟨(Nat.le_of_ble_eq_true rfl), (Nat.le_of_ble_eq_true rfl)⟩) hk hW 2 rfl rfl rfl rfl hl rfl (Nat.le_of_ble_eq_true rfl) dX3_spread_92 ⟨(Nat.le_of_ble_eq_true rfl), (Nat.le_of_ble_eq_true rfl)⟩ (fun r u H locs hp hW => ?_)
                      obtain ⟨rfl, rfl⟩ := hp
                      refine ifeq_b (tgt := 101) S dX3_spread_95 (by decide) (fun c_95 => ?_) (fun c_95 => ?_)
                      · skip
                        refine lv_iinc (v := nI (i + 1)) (lv' := [(6, .int (nI (i + 1))), (0, .ref (q 2)), (1, .int (nI a)), (2, .int x), (3, .int y), (4, .int (bI nw2)), (5, .int (nI r))]) (k := 6) S.1 S.2.1 dX3_spread_101 hl rfl (nI_1 _) (by decide) rfl (fun ls hl => ?_)
                        refine lv_goto (tgt := 45) S.1 S.2.1 dX3_spread_104 (by decide) ?_
                        exact ih45 nw2 (i + 1) (rlx g R2 i) (by simp only [swp, okL, ← hR2, ← hnw, c_67, c_73, c_86, c_95, eq_self, Nat.add_zero, decide_false, decide_true, Bool.not_true, Bool.not_false, Bool.and_true, Bool.true_and, Bool.and_false, Bool.false_and, Bool.or_true, Bool.true_or, Bool.or_false, Bool.false_or, ↓reduceIte, cond_true, cond_false, bI, and_true, true_and, and_false, false_and, or_true, true_or, or_false, false_or, not_true_eq_false, not_false_eq_true, if_true, if_false, Bool.false_eq_true, reduceCtorEq, ite_true, ite_false]) (by simp only [swp, okL, ← hR2, ← hnw, c_67, c_73, c_86, c_95, eq_self, Nat.add_zero, decide_false, decide_true, Bool.not_true, Bool.not_false, Bool.and_true, Bool.true_and, Bool.and_false, Bool.false_and, Bool.or_true, Bool.true_or, Bool.or_false, Bool.false_or, ↓reduceIte, cond_true, cond_false, bI, and_true, true_and, and_false, false_and, or_true, true_or, or_false, false_or, not_true_eq_false, not_false_eq_true, if_true, if_false, Bool.false_eq_true, reduceCtorEq, ite_true, ite_false]) (by omega) (by omega) _ _ _ hW (lv_sub hl [1, 2, 3, 4, 5, 6, 0] rfl)
                      · skip
                        refine lv_iconst (v := nI 1) S.1 S.2.1 dX3_spread_98 (by decide) ?_
                        refine lv_istore (lv' := [(4, .int (nI 1)), (0, .ref (q 2)), (1, .int (nI a)), (2, .int x), (3, .int y), (5, .int (nI r)), (6, .int (nI i))]) S.1 S.2.1 dX3_spread_99 hl (by decide) rfl (fun ls hl => ?_)
                        refine lv_iinc (v := nI (i + 1)) (lv' := [(6, .int (nI (i + 1))), (4, .int (nI 1)), (0, .ref (q 2)), (1, .int (nI a)), (2, .int x), (3, .int y), (5, .int (nI r))]) (k := 6) S.1 S.2.1 dX3_spread_101 hl rfl (nI_1 _) (by decide) rfl (fun ls hl => ?_)
                        refine lv_goto (tgt := 45) S.1 S.2.1 dX3_spread_104 (by decide) ?_
                        exact ih45 true (i + 1) (rlx g R2 i) (by simp only [swp, okL, ← hR2, ← hnw, c_67, c_73, c_86, c_95, eq_self, Nat.add_zero, decide_false, decide_true, Bool.not_true, Bool.not_false, Bool.and_true, Bool.true_and, Bool.and_false, Bool.false_and, Bool.or_true, Bool.true_or, Bool.or_false, Bool.false_or, ↓reduceIte, cond_true, cond_false, bI, and_true, true_and, and_false, false_and, or_true, true_or, or_false, false_or, not_true_eq_false, not_false_eq_true, if_true, if_false, Bool.false_eq_true, reduceCtorEq, ite_true, ite_false]) (by simp only [swp, okL, ← hR2, ← hnw, c_67, c_73, c_86, c_95, eq_self, Nat.add_zero, decide_false, decide_true, Bool.not_true, Bool.not_false, Bool.and_true, Bool.true_and, Bool.and_false, Bool.false_and, Bool.or_true, Bool.true_or, Bool.or_false, Bool.false_or, ↓reduceIte, cond_true, cond_false, bI, and_true, true_and, and_false, false_and, or_true, true_or, or_false, false_or, not_true_eq_false, not_false_eq_true, if_true, if_false, Bool.false_eq_true, reduceCtorEq, ite_true, ite_false]) (by omega) (by omega) _ _ _ hW (lv_sub hl [2, 3, 4, 5, 1, 6, 0] rfl)
          exact L45 ((gK g) + 1) false 0 R1 rfl rfl (by omega) (by omega) _ _ _ hW (lv_sub hl [2, 3, 4, 5, 1, 6, 0] rfl)
  exact L22 ((gN g) + 1) true 0 (upd (fun _ => 1073741824) a (nI 0)) rfl (fun h => absurd h (by decide)) (by omega) (by omega) _ _ _ hW (lv_sub hl [2, 3, 4, 5, 1, 0] rfl)
abbrev r_X3_leastAvoiding : Room := { frames := 3, cells := 0, slots := 0, locals := 74 }
theorem v_X3_leastAvoiding : yX3_leastAvoiding.cls ≠ "java/lang/invoke/MethodHandle" ∧ yX3_leastAvoiding.cls ≠ "java/lang/invoke/VarHandle" ∧ (parseMethodDescriptor yX3_leastAvoiding.desc).map (fun d => d.parameters.length) = some 4 := by decide +kernel
set_option maxRecDepth 100000 in
set_option maxHeartbeats 4000000 in
theorem c_X3_leastAvoiding {l : Launch} {D : va_G} {cI cZ : ClassId} {q : Nat → Nat} {qf : Nat} {g : Gr} {C R : Nat → Int32} {rw len : Nat} {F : Nat → Int32} {sz : Nat} {X : Nat → Int32} {mk : Int32} {a b : Nat} {x y : Int32} (G : Gok g) (ha : a < 10) (hb : b < 10) : cI_ l D cI cZ yX3_leastAvoiding wsX3_leastAvoiding r_X3_leastAvoiding [.ref (q 2), .int (nI a), .int (nI b), .int x, .int y] (wC q qf cI cZ g C R rw len F sz X mk) (fun r u => r = lav g x y a b ∧ ∃ R', u = wC q qf cI cZ g C R' rw len F sz X mk) 0 0 := by
  refine cI_of (cc := cX3_leastAvoiding) (maxL := 5) (rt := .int) (plainFor_of_name (by decide +kernel)) rfl (Nat.le_of_ble_eq_true rfl) ?_
  intro p e s m args below meth c A Q ls S hk hW hl hR
  have hl : lv_has ls 5 [(0, .ref (q 2)), (1, .int (nI a)), (2, .int (nI b)), (3, .int x), (4, .int y)] := hl
  have hwsX30 : ∀ x ∈ wsX30, x ∈ wsX3_leastAvoiding := fun x h => List.mem_cons_of_mem _ (List.mem_append_left _ (List.mem_append_right _ h))
  have hwsX10 : ∀ x ∈ wsX10, x ∈ wsX3_leastAvoiding := fun x h => List.mem_cons_of_mem _ (List.mem_append_right _ h)
  refine lv_aload_n S.1 S.2.1 dX3_leastAvoiding_0 rfl (lv_at hl 0 rfl) ?_
  refine lv_iload_n S.1 S.2.1 dX3_leastAvoiding_1 rfl (lv_at hl 1 rfl) ?_
  refine lv_iload_n S.1 S.2.1 dX3_leastAvoiding_2 rfl (lv_at hl 3 rfl) ?_
  refine lv_iload S.1 S.2.1 dX3_leastAvoiding_3 (lv_at hl 4 rfl) ?_
  refine kVv S (c_X3_spread (l := l) (D := D) (cI := cI) (cZ := cZ) G (by first | assumption | omega)) (cwV 3 S.2.2.2.2 gX3_leastAvoiding_X3_spread rfl rfl rfl ⟨rfl, v_X3_spread⟩ ⟨(Nat.le_of_ble_eq_true rfl), (Nat.le_of_ble_eq_true rfl)⟩) hk hW 2 rfl rfl rfl rfl hl rfl (Nat.le_of_ble_eq_true rfl) dX3_leastAvoiding_5 ⟨(Nat.le_of_ble_eq_true rfl), (Nat.le_of_ble_eq_true rfl)⟩ (fun u H locs hp hW => ?_)
  subst hp
  refine lv_aload_n S.1 S.2.1 dX3_leastAvoiding_8 rfl (lv_at hl 0 rfl) ?_
  refine gf S hk hW 2 rfl rfl hwsX30 2 (by decide) 1 rfl rfl dX3_leastAvoiding_9 ?_
  refine lv_iload_n S.1 S.2.1 dX3_leastAvoiding_12 rfl (lv_at hl 2 rfl) ?_
  refine ild S hk hW 11 rfl b rfl (by omega) (by omega) dX3_leastAvoiding_13 ?_
  refine kSi S (c_X3_priceIn (l := l) (D := D) (cI := cI) (cZ := cZ)) (va_cwS 1 S.2.2.2.2 gX3_leastAvoiding_X3_priceIn rfl rfl rfl v_X3_priceIn ⟨(Nat.le_of_ble_eq_true rfl), (Nat.le_of_ble_eq_true rfl)⟩) hk hW rfl hl rfl (Nat.le_of_ble_eq_true rfl) dX3_leastAvoiding_14 ⟨(Nat.le_of_ble_eq_true rfl), (Nat.le_of_ble_eq_true rfl)⟩ (fun r u H locs hp hW => ?_)
  obtain ⟨rfl, rfl⟩ := hp
  exact hR _ _ _ _ _ _ _ _ dX3_leastAvoiding_17 rfl (Nat.le_of_ble_eq_true rfl) (Nat.le_of_ble_eq_true rfl) hW ⟨rfl, ⟨_, rfl⟩⟩
abbrev r_X3_isOnWay : Room := { frames := 4, cells := 0, slots := 0, locals := 93 }
theorem v_X3_isOnWay : yX3_isOnWay.cls ≠ "java/lang/invoke/MethodHandle" ∧ yX3_isOnWay.cls ≠ "java/lang/invoke/VarHandle" ∧ (parseMethodDescriptor yX3_isOnWay.desc).map (fun d => d.parameters.length) = some 3 := by decide +kernel
set_option maxRecDepth 100000 in
set_option maxHeartbeats 4000000 in
theorem c_X3_isOnWay {l : Launch} {D : va_G} {cI cZ : ClassId} {q : Nat → Nat} {qf : Nat} {g : Gr} {C R : Nat → Int32} {rw len : Nat} {F : Nat → Int32} {sz : Nat} {X : Nat → Int32} {mk : Int32} {a b j : Nat} (G : Gok g) (ha : a < gN g) (hb : b < gN g) : cI_ l D cI cZ yX3_isOnWay wsX3_isOnWay r_X3_isOnWay [.ref (q 2), .int (nI a), .int (nI b), .int (nI j)] (wC q qf cI cZ g C R rw len F sz X mk) (fun r u => r = bI (onw g C a b j) ∧ u = wC q qf cI cZ g C R rw len F sz X mk) 0 0 := by
  refine cI_of (cc := cX3_isOnWay) (maxL := 5) (rt := .boolean) (plainFor_of_name (by decide +kernel)) rfl (Nat.le_of_ble_eq_true rfl) ?_
  intro p e s m args below meth c A Q ls S hk hW hl hR
  have hl : lv_has ls 5 [(0, .ref (q 2)), (1, .int (nI a)), (2, .int (nI b)), (3, .int (nI j))] := hl
  have hwsX30 : ∀ x ∈ wsX30, x ∈ wsX3_isOnWay := fun x h => List.mem_cons_of_mem _ (List.mem_append_left _ (List.mem_append_right _ h))
  have hwsX10 : ∀ x ∈ wsX10, x ∈ wsX3_isOnWay := fun x h => List.mem_cons_of_mem _ (List.mem_append_right _ h)
  have hN := Gok_N G; have hN2 := Gok_N2 G; have hKK := Gok_K G
  obtain ⟨L, hL⟩ : ∃ L, L = (lnI (C (a * 10 + b))).toNatClampNeg := ⟨_, rfl⟩
  have hLb : L < 2 ^ 31 := by rw [hL]; exact clamp_lt _
  refine lv_iconst (v := nI 0) S.1 S.2.1 dX3_isOnWay_0 (by decide) ?_
  refine lv_istore (lv' := [(4, .int (nI 0)), (0, .ref (q 2)), (1, .int (nI a)), (2, .int (nI b)), (3, .int (nI j))]) S.1 S.2.1 dX3_isOnWay_1 hl (by decide) rfl (fun ls hl => ?_)
  have L3 : ∀ (dd : Nat), ∀ (i : Nat), (anyN (fun i => decide (lnAt g C a b (nI i) = nI j)) i = false) → (i ≤ L) → L < i + dd → ∀ (H : Heap) (locs : List Loc) (ls : Array Slot), wd D A s H locs (wC q qf cI cZ g C R rw len F sz X mk) → lv_has ls 5 [(0, .ref (q 2)), (1, .int (nI a)), (2, .int (nI b)), (3, .int (nI j)), (4, .int (nI i))] → W p l e r_X3_isOnWay s m args below meth c H locs 0 0 Q (F0 m 3 ls []) := by
    intro dd
    induction dd with
    | zero => intros; omega
    | succ dd ih3 =>
      intro i hf hi hdd H locs ls hW hl
      refine lv_iload S.1 S.2.1 dX3_isOnWay_3 (lv_at hl 4 rfl) ?_
      refine lv_aload_n S.1 S.2.1 dX3_isOnWay_5 rfl (lv_at hl 0 rfl) ?_
      refine lv_iload_n S.1 S.2.1 dX3_isOnWay_6 rfl (lv_at hl 1 rfl) ?_
      refine lv_iload_n S.1 S.2.1 dX3_isOnWay_7 rfl (lv_at hl 2 rfl) ?_
      refine kVi S (c_X3_length (l := l) (D := D) (cI := cI) (cZ := cZ) (by first | assumption | omega) (by first | assumption | omega)) (cwV 2 S.2.2.2.2 gX3_isOnWay_X3_length rfl rfl rfl ⟨rfl, v_X3_length⟩ ⟨(Nat.le_of_ble_eq_true rfl), (Nat.le_of_ble_eq_true rfl)⟩) hk hW 2 rfl rfl rfl rfl hl rfl (Nat.le_of_ble_eq_true rfl) dX3_isOnWay_8 ⟨(Nat.le_of_ble_eq_true rfl), (Nat.le_of_ble_eq_true rfl)⟩ (fun r u H locs hp hW => ?_)
      obtain ⟨rfl, rfl⟩ := hp
      refine lv_icmp_ge (tgt := 34) S.1 S.2.1 dX3_isOnWay_11 (by decide) (fun c_11 => ?_) (fun c_11 => ?_)
      · skip
        have c11 := (le_nI_iff (by omega)).mp c_11
        rw [← hL] at c11
        refine lv_iconst (v := nI 0) S.1 S.2.1 dX3_isOnWay_34 (by decide) ?_
        exact hR _ _ _ _ _ _ _ _ dX3_isOnWay_35 rfl (Nat.le_of_ble_eq_true rfl) (Nat.le_of_ble_eq_true rfl) hW ⟨by rw [show onw g C a b j = false from by rw [onw, ← hL, show L = i by omega]; exact hf]; rfl, rfl⟩
      · skip
        have c11 : ¬ L ≤ i := fun q => c_11 ((le_nI_iff (by omega)).mpr (by rw [← hL]; exact q))
        refine lv_aload_n S.1 S.2.1 dX3_isOnWay_14 rfl (lv_at hl 0 rfl) ?_
        refine lv_iload_n S.1 S.2.1 dX3_isOnWay_15 rfl (lv_at hl 1 rfl) ?_
        refine lv_iload_n S.1 S.2.1 dX3_isOnWay_16 rfl (lv_at hl 2 rfl) ?_
        refine lv_iload S.1 S.2.1 dX3_isOnWay_17 (lv_at hl 4 rfl) ?_
        refine kVi S (c_X3_lineAt (l := l) (D := D) (cI := cI) (cZ := cZ) G (by first | assumption | omega) (by first | assumption | omega)) (cwV 3 S.2.2.2.2 gX3_isOnWay_X3_lineAt rfl rfl rfl ⟨rfl, v_X3_lineAt⟩ ⟨(Nat.le_of_ble_eq_true rfl), (Nat.le_of_ble_eq_true rfl)⟩) hk hW 2 rfl rfl rfl rfl hl rfl (Nat.le_of_ble_eq_true rfl) dX3_isOnWay_19 ⟨(Nat.le_of_ble_eq_true rfl), (Nat.le_of_ble_eq_true rfl)⟩ (fun r u H locs hp hW => ?_)
        obtain ⟨rfl, rfl⟩ := hp
        refine lv_iload_n S.1 S.2.1 dX3_isOnWay_22 rfl (lv_at hl 3 rfl) ?_
        refine lv_icmp_ne (tgt := 28) S.1 S.2.1 dX3_isOnWay_23 (by decide) (fun c_23 => ?_) (fun c_23 => ?_)
        · skip
          refine lv_iinc (v := nI (i + 1)) (lv' := [(4, .int (nI (i + 1))), (0, .ref (q 2)), (1, .int (nI a)), (2, .int (nI b)), (3, .int (nI j))]) (k := 4) S.1 S.2.1 dX3_isOnWay_28 hl rfl (nI_1 _) (by decide) rfl (fun ls hl => ?_)
          refine lv_goto (tgt := 3) S.1 S.2.1 dX3_isOnWay_31 (by decide) ?_
          exact ih3 (i + 1) (by simp only [anyN, hf, c_23, decide_false, Bool.or_self]) (by omega) (by omega) _ _ _ hW (lv_sub hl [1, 2, 3, 4, 0] rfl)
        · skip
          refine lv_iconst (v := nI 1) S.1 S.2.1 dX3_isOnWay_26 (by decide) ?_
          exact hR _ _ _ _ _ _ _ _ dX3_isOnWay_27 rfl (Nat.le_of_ble_eq_true rfl) (Nat.le_of_ble_eq_true rfl) hW ⟨by rw [show onw g C a b j = true from by rw [onw, ← hL]; exact anyN_true (i := i) (by omega) (by simp only [c_23, decide_true])]; rfl, rfl⟩
  exact L3 (L + 1) 0 rfl (by omega) (by omega) _ _ _ hW (lv_sub hl [1, 2, 3, 4, 0] rfl)
abbrev r_X3_isVital : Room := { frames := 5, cells := 0, slots := 0, locals := 117 }
theorem v_X3_isVital : yX3_isVital.cls ≠ "java/lang/invoke/MethodHandle" ∧ yX3_isVital.cls ≠ "java/lang/invoke/VarHandle" ∧ (parseMethodDescriptor yX3_isVital.desc).map (fun d => d.parameters.length) = some 3 := by decide +kernel
set_option maxRecDepth 100000 in
set_option maxHeartbeats 4000000 in
theorem c_X3_isVital {l : Launch} {D : va_G} {cI cZ : ClassId} {q : Nat → Nat} {qf : Nat} {g : Gr} {C R : Nat → Int32} {rw len : Nat} {F : Nat → Int32} {sz : Nat} {X : Nat → Int32} {mk : Int32} {a b j : Nat} (G : Gok g) (ha : a < gN g) (hb : b < gN g) : cI_ l D cI cZ yX3_isVital wsX3_isVital r_X3_isVital [.ref (q 2), .int (nI a), .int (nI b), .int (nI j)] (wC q qf cI cZ g C R rw len F sz X mk) (fun r u => r = bI (vit g C a b j) ∧ ∃ R', u = wC q qf cI cZ g C R' rw len F sz X mk) 0 0 := by
  refine cI_of (cc := cX3_isVital) (maxL := 4) (rt := .boolean) (plainFor_of_name (by decide +kernel)) rfl (Nat.le_of_ble_eq_true rfl) ?_
  intro p e s m args below meth c A Q ls S hk hW hl hR
  have hl : lv_has ls 4 [(0, .ref (q 2)), (1, .int (nI a)), (2, .int (nI b)), (3, .int (nI j))] := hl
  have hwsX30 : ∀ x ∈ wsX30, x ∈ wsX3_isVital := fun x h => List.mem_cons_of_mem _ (List.mem_append_left _ (List.mem_append_right _ h))
  have hwsX10 : ∀ x ∈ wsX10, x ∈ wsX3_isVital := fun x h => List.mem_cons_of_mem _ (List.mem_append_right _ h)
  have hN := Gok_N G; have hN2 := Gok_N2 G; have hKK := Gok_K G
  refine lv_aload_n S.1 S.2.1 dX3_isVital_0 rfl (lv_at hl 0 rfl) ?_
  refine lv_iload_n S.1 S.2.1 dX3_isVital_1 rfl (lv_at hl 1 rfl) ?_
  refine lv_iload_n S.1 S.2.1 dX3_isVital_2 rfl (lv_at hl 2 rfl) ?_
  refine lv_iload_n S.1 S.2.1 dX3_isVital_3 rfl (lv_at hl 3 rfl) ?_
  refine kVi S (c_X3_isOnWay (l := l) (D := D) (cI := cI) (cZ := cZ) G (by first | assumption | omega) (by first | assumption | omega)) (cwV 3 S.2.2.2.2 gX3_isVital_X3_isOnWay rfl rfl rfl ⟨rfl, v_X3_isOnWay⟩ ⟨(Nat.le_of_ble_eq_true rfl), (Nat.le_of_ble_eq_true rfl)⟩) hk hW 2 rfl rfl rfl rfl hl rfl (Nat.le_of_ble_eq_true rfl) dX3_isVital_4 ⟨(Nat.le_of_ble_eq_true rfl), (Nat.le_of_ble_eq_true rfl)⟩ (fun r u H locs hp hW => ?_)
  obtain ⟨rfl, rfl⟩ := hp
  refine ifeq_b (tgt := 31) S dX3_isVital_7 (by decide) (fun c_7 => ?_) (fun c_7 => ?_)
  · skip
    refine lv_iconst (v := nI 0) S.1 S.2.1 dX3_isVital_31 (by decide) ?_
    exact hR _ _ _ _ _ _ _ _ dX3_isVital_32 rfl (Nat.le_of_ble_eq_true rfl) (Nat.le_of_ble_eq_true rfl) hW ⟨(by simp only [vit, c_7, eq_self, Nat.add_zero, decide_false, decide_true, Bool.not_true, Bool.not_false, Bool.and_true, Bool.true_and, Bool.and_false, Bool.false_and, Bool.or_true, Bool.true_or, Bool.or_false, Bool.false_or, ↓reduceIte, cond_true, cond_false, bI, and_true, true_and, and_false, false_and, or_true, true_or, or_false, false_or, not_true_eq_false, not_false_eq_true, if_true, if_false, Bool.false_eq_true, reduceCtorEq, ite_true, ite_false]), ⟨_, rfl⟩⟩
  · skip
    refine lv_aload_n S.1 S.2.1 dX3_isVital_10 rfl (lv_at hl 0 rfl) ?_
    refine lv_iload_n S.1 S.2.1 dX3_isVital_11 rfl (lv_at hl 1 rfl) ?_
    refine lv_iload_n S.1 S.2.1 dX3_isVital_12 rfl (lv_at hl 2 rfl) ?_
    refine lv_iload_n S.1 S.2.1 dX3_isVital_13 rfl (lv_at hl 3 rfl) ?_
    refine lv_iconst (v := (-1)) S.1 S.2.1 dX3_isVital_14 (by decide) ?_
    refine kVi S (c_X3_leastAvoiding (l := l) (D := D) (cI := cI) (cZ := cZ) G (by first | assumption | omega) (by first | assumption | omega)) (cwV 4 S.2.2.2.2 gX3_isVital_X3_leastAvoiding rfl rfl rfl ⟨rfl, v_X3_leastAvoiding⟩ ⟨(Nat.le_of_ble_eq_true rfl), (Nat.le_of_ble_eq_true rfl)⟩) hk hW 2 rfl rfl rfl rfl hl rfl (Nat.le_of_ble_eq_true rfl) dX3_isVital_15 ⟨(Nat.le_of_ble_eq_true rfl), (Nat.le_of_ble_eq_true rfl)⟩ (fun r u H locs hp hW => ?_)
    obtain ⟨rfl, R'_1, rfl⟩ := hp
    refine lv_aload_n S.1 S.2.1 dX3_isVital_18 rfl (lv_at hl 0 rfl) ?_
    refine lv_iload_n S.1 S.2.1 dX3_isVital_19 rfl (lv_at hl 1 rfl) ?_
    refine lv_iload_n S.1 S.2.1 dX3_isVital_20 rfl (lv_at hl 2 rfl) ?_
    refine kVi S (c_X3_leastPrice (l := l) (D := D) (cI := cI) (cZ := cZ) (by first | assumption | omega) (by first | assumption | omega)) (cwV 2 S.2.2.2.2 gX3_isVital_X3_leastPrice rfl rfl rfl ⟨rfl, v_X3_leastPrice⟩ ⟨(Nat.le_of_ble_eq_true rfl), (Nat.le_of_ble_eq_true rfl)⟩) hk hW 2 rfl rfl rfl rfl hl rfl (Nat.le_of_ble_eq_true rfl) dX3_isVital_21 ⟨(Nat.le_of_ble_eq_true rfl), (Nat.le_of_ble_eq_true rfl)⟩ (fun r u H locs hp hW => ?_)
    obtain ⟨rfl, rfl⟩ := hp
    refine lv_icmp_eq (tgt := 31) S.1 S.2.1 dX3_isVital_24 (by decide) (fun c_24 => ?_) (fun c_24 => ?_)
    · skip
      refine lv_iconst (v := nI 0) S.1 S.2.1 dX3_isVital_31 (by decide) ?_
      exact hR _ _ _ _ _ _ _ _ dX3_isVital_32 rfl (Nat.le_of_ble_eq_true rfl) (Nat.le_of_ble_eq_true rfl) hW ⟨(by simp only [vit, c_7, eq_true c_24, eq_self, Nat.add_zero, decide_false, decide_true, Bool.not_true, Bool.not_false, Bool.and_true, Bool.true_and, Bool.and_false, Bool.false_and, Bool.or_true, Bool.true_or, Bool.or_false, Bool.false_or, ↓reduceIte, cond_true, cond_false, bI, and_true, true_and, and_false, false_and, or_true, true_or, or_false, false_or, not_true_eq_false, not_false_eq_true, if_true, if_false, Bool.false_eq_true, reduceCtorEq, ite_true, ite_false]), ⟨_, rfl⟩⟩
    · skip
      refine lv_iconst (v := nI 1) S.1 S.2.1 dX3_isVital_27 (by decide) ?_
      refine lv_goto (tgt := 32) S.1 S.2.1 dX3_isVital_28 (by decide) ?_
      exact hR _ _ _ _ _ _ _ _ dX3_isVital_32 rfl (Nat.le_of_ble_eq_true rfl) (Nat.le_of_ble_eq_true rfl) hW ⟨(by simp only [vit, c_7, eq_false c_24, eq_self, Nat.add_zero, decide_false, decide_true, Bool.not_true, Bool.not_false, Bool.and_true, Bool.true_and, Bool.and_false, Bool.false_and, Bool.or_true, Bool.true_or, Bool.or_false, Bool.false_or, ↓reduceIte, cond_true, cond_false, bI, and_true, true_and, and_false, false_and, or_true, true_or, or_false, false_or, not_true_eq_false, not_false_eq_true, if_true, if_false, Bool.false_eq_true, reduceCtorEq, ite_true, ite_false]), ⟨_, rfl⟩⟩
abbrev r_X3_wouldSink : Room := { frames := 4, cells := 0, slots := 0, locals := 98 }
theorem v_X3_wouldSink : yX3_wouldSink.cls ≠ "java/lang/invoke/MethodHandle" ∧ yX3_wouldSink.cls ≠ "java/lang/invoke/VarHandle" ∧ (parseMethodDescriptor yX3_wouldSink.desc).map (fun d => d.parameters.length) = some 5 := by decide +kernel
set_option maxRecDepth 100000 in
set_option maxHeartbeats 4000000 in
theorem c_X3_wouldSink {l : Launch} {D : va_G} {cI cZ : ClassId} {q : Nat → Nat} {qf : Nat} {g : Gr} {C R : Nat → Int32} {rw len : Nat} {F : Nat → Int32} {sz : Nat} {X : Nat → Int32} {mk : Int32} {a b : Nat} {v : Int32} {t : Bool} {x : Int32} (G : Gok g) (ha : a < 10) (hb : b < 10) : cI_ l D cI cZ yX3_wouldSink wsX3_wouldSink r_X3_wouldSink [.ref (q 2), .int (nI a), .int (nI b), .int v, .int (bI t), .int x] (wC q qf cI cZ g C R rw len F sz X mk) (fun r u => r = bI (snk g a b v t x) ∧ ∃ R', u = wC q qf cI cZ g C R' rw len F sz X mk) 0 0 := by
  refine cI_of (cc := cX3_wouldSink) (maxL := 6) (rt := .boolean) (plainFor_of_name (by decide +kernel)) rfl (Nat.le_of_ble_eq_true rfl) ?_
  intro p e s m args below meth c A Q ls S hk hW hl hR
  have hl : lv_has ls 6 [(0, .ref (q 2)), (1, .int (nI a)), (2, .int (nI b)), (3, .int v), (4, .int (bI t)), (5, .int x)] := hl
  have hwsX30 : ∀ x ∈ wsX30, x ∈ wsX3_wouldSink := fun x h => List.mem_cons_of_mem _ (List.mem_append_left _ (List.mem_append_right _ h))
  have hwsX10 : ∀ x ∈ wsX10, x ∈ wsX3_wouldSink := fun x h => List.mem_cons_of_mem _ (List.mem_append_right _ h)
  refine lv_iload_n S.1 S.2.1 dX3_wouldSink_0 rfl (lv_at hl 3 rfl) ?_
  refine lv_aload_n S.1 S.2.1 dX3_wouldSink_1 rfl (lv_at hl 0 rfl) ?_
  refine lv_iload_n S.1 S.2.1 dX3_wouldSink_2 rfl (lv_at hl 2 rfl) ?_
  refine lv_iload_n S.1 S.2.1 dX3_wouldSink_3 rfl (lv_at hl 1 rfl) ?_
  refine lv_iload S.1 S.2.1 dX3_wouldSink_4 (lv_at hl 5 rfl) ?_
  refine lv_iconst (v := (-1)) S.1 S.2.1 dX3_wouldSink_6 (by decide) ?_
  refine kVi S (c_X3_leastAvoiding (l := l) (D := D) (cI := cI) (cZ := cZ) G (by first | assumption | omega) (by first | assumption | omega)) (cwV 4 S.2.2.2.2 gX3_wouldSink_X3_leastAvoiding rfl rfl rfl ⟨rfl, v_X3_leastAvoiding⟩ ⟨(Nat.le_of_ble_eq_true rfl), (Nat.le_of_ble_eq_true rfl)⟩) hk hW 2 rfl rfl rfl rfl hl rfl (Nat.le_of_ble_eq_true rfl) dX3_wouldSink_7 ⟨(Nat.le_of_ble_eq_true rfl), (Nat.le_of_ble_eq_true rfl)⟩ (fun r u H locs hp hW => ?_)
  obtain ⟨rfl, R'_1, rfl⟩ := hp
  refine kSi S (c_X3_closesBelow (l := l) (D := D) (cI := cI) (cZ := cZ)) (va_cwS 2 S.2.2.2.2 gX3_wouldSink_X3_closesBelow rfl rfl rfl v_X3_closesBelow ⟨(Nat.le_of_ble_eq_true rfl), (Nat.le_of_ble_eq_true rfl)⟩) hk hW rfl hl rfl (Nat.le_of_ble_eq_true rfl) dX3_wouldSink_10 ⟨(Nat.le_of_ble_eq_true rfl), (Nat.le_of_ble_eq_true rfl)⟩ (fun r u H locs hp hW => ?_)
  obtain ⟨rfl, rfl⟩ := hp
  refine ifne_b (tgt := 37) S dX3_wouldSink_13 (by decide) (fun c_13 => ?_) (fun c_13 => ?_)
  · skip
    refine lv_iconst (v := nI 1) S.1 S.2.1 dX3_wouldSink_37 (by decide) ?_
    refine lv_goto (tgt := 42) S.1 S.2.1 dX3_wouldSink_38 (by decide) ?_
    exact hR _ _ _ _ _ _ _ _ dX3_wouldSink_42 rfl (Nat.le_of_ble_eq_true rfl) (Nat.le_of_ble_eq_true rfl) hW ⟨(by simp only [snk, c_13, eq_self, Nat.add_zero, decide_false, decide_true, Bool.not_true, Bool.not_false, Bool.and_true, Bool.true_and, Bool.and_false, Bool.false_and, Bool.or_true, Bool.true_or, Bool.or_false, Bool.false_or, ↓reduceIte, cond_true, cond_false, bI, and_true, true_and, and_false, false_and, or_true, true_or, or_false, false_or, not_true_eq_false, not_false_eq_true, if_true, if_false, Bool.false_eq_true, reduceCtorEq, ite_true, ite_false]), ⟨_, rfl⟩⟩
  · skip
    refine lv_iload S.1 S.2.1 dX3_wouldSink_16 (lv_at hl 4 rfl) ?_
    refine ifeq_b (tgt := 41) S dX3_wouldSink_18 (by decide) (fun c_18 => ?_) (fun c_18 => ?_)
    · skip
      refine lv_iconst (v := nI 0) S.1 S.2.1 dX3_wouldSink_41 (by decide) ?_
      exact hR _ _ _ _ _ _ _ _ dX3_wouldSink_42 rfl (Nat.le_of_ble_eq_true rfl) (Nat.le_of_ble_eq_true rfl) hW ⟨(by simp only [snk, c_13, c_18, eq_self, Nat.add_zero, decide_false, decide_true, Bool.not_true, Bool.not_false, Bool.and_true, Bool.true_and, Bool.and_false, Bool.false_and, Bool.or_true, Bool.true_or, Bool.or_false, Bool.false_or, ↓reduceIte, cond_true, cond_false, bI, and_true, true_and, and_false, false_and, or_true, true_or, or_false, false_or, not_true_eq_false, not_false_eq_true, if_true, if_false, Bool.false_eq_true, reduceCtorEq, ite_true, ite_false]), ⟨_, rfl⟩⟩
    · skip
      refine lv_iload_n S.1 S.2.1 dX3_wouldSink_21 rfl (lv_at hl 3 rfl) ?_
      refine lv_aload_n S.1 S.2.1 dX3_wouldSink_22 rfl (lv_at hl 0 rfl) ?_
      refine lv_iload_n S.1 S.2.1 dX3_wouldSink_23 rfl (lv_at hl 1 rfl) ?_
      refine lv_iload_n S.1 S.2.1 dX3_wouldSink_24 rfl (lv_at hl 2 rfl) ?_
      refine lv_iload S.1 S.2.1 dX3_wouldSink_25 (lv_at hl 5 rfl) ?_
      refine lv_iconst (v := (-1)) S.1 S.2.1 dX3_wouldSink_27 (by decide) ?_
      refine kVi S (c_X3_leastAvoiding (l := l) (D := D) (cI := cI) (cZ := cZ) G (by first | assumption | omega) (by first | assumption | omega)) (cwV 4 S.2.2.2.2 gX3_wouldSink_X3_leastAvoiding rfl rfl rfl ⟨rfl, v_X3_leastAvoiding⟩ ⟨(Nat.le_of_ble_eq_true rfl), (Nat.le_of_ble_eq_true rfl)⟩) hk hW 2 rfl rfl rfl rfl hl rfl (Nat.le_of_ble_eq_true rfl) dX3_wouldSink_28 ⟨(Nat.le_of_ble_eq_true rfl), (Nat.le_of_ble_eq_true rfl)⟩ (fun r u H locs hp hW => ?_)
      obtain ⟨rfl, R'_2, rfl⟩ := hp
      refine kSi S (c_X3_closesBelow (l := l) (D := D) (cI := cI) (cZ := cZ)) (va_cwS 2 S.2.2.2.2 gX3_wouldSink_X3_closesBelow rfl rfl rfl v_X3_closesBelow ⟨(Nat.le_of_ble_eq_true rfl), (Nat.le_of_ble_eq_true rfl)⟩) hk hW rfl hl rfl (Nat.le_of_ble_eq_true rfl) dX3_wouldSink_31 ⟨(Nat.le_of_ble_eq_true rfl), (Nat.le_of_ble_eq_true rfl)⟩ (fun r u H locs hp hW => ?_)
      obtain ⟨rfl, rfl⟩ := hp
      refine ifeq_b (tgt := 41) S dX3_wouldSink_34 (by decide) (fun c_34 => ?_) (fun c_34 => ?_)
      · skip
        refine lv_iconst (v := nI 0) S.1 S.2.1 dX3_wouldSink_41 (by decide) ?_
        exact hR _ _ _ _ _ _ _ _ dX3_wouldSink_42 rfl (Nat.le_of_ble_eq_true rfl) (Nat.le_of_ble_eq_true rfl) hW ⟨(by simp only [snk, c_13, c_18, c_34, eq_self, Nat.add_zero, decide_false, decide_true, Bool.not_true, Bool.not_false, Bool.and_true, Bool.true_and, Bool.and_false, Bool.false_and, Bool.or_true, Bool.true_or, Bool.or_false, Bool.false_or, ↓reduceIte, cond_true, cond_false, bI, and_true, true_and, and_false, false_and, or_true, true_or, or_false, false_or, not_true_eq_false, not_false_eq_true, if_true, if_false, Bool.false_eq_true, reduceCtorEq, ite_true, ite_false]), ⟨_, rfl⟩⟩
      · skip
        refine lv_iconst (v := nI 1) S.1 S.2.1 dX3_wouldSink_37 (by decide) ?_
        refine lv_goto (tgt := 42) S.1 S.2.1 dX3_wouldSink_38 (by decide) ?_
        exact hR _ _ _ _ _ _ _ _ dX3_wouldSink_42 rfl (Nat.le_of_ble_eq_true rfl) (Nat.le_of_ble_eq_true rfl) hW ⟨(by simp only [snk, c_13, c_18, c_34, eq_self, Nat.add_zero, decide_false, decide_true, Bool.not_true, Bool.not_false, Bool.and_true, Bool.true_and, Bool.and_false, Bool.false_and, Bool.or_true, Bool.true_or, Bool.or_false, Bool.false_or, ↓reduceIte, cond_true, cond_false, bI, and_true, true_and, and_false, false_and, or_true, true_or, or_false, false_or, not_true_eq_false, not_false_eq_true, if_true, if_false, Bool.false_eq_true, reduceCtorEq, ite_true, ite_false]), ⟨_, rfl⟩⟩
abbrev r_X3_ringOver : Room := { frames := 3, cells := 0, slots := 0, locals := 64 }
theorem v_X3_ringOver : yX3_ringOver.cls ≠ "java/lang/invoke/MethodHandle" ∧ yX3_ringOver.cls ≠ "java/lang/invoke/VarHandle" ∧ (parseMethodDescriptor yX3_ringOver.desc).map (fun d => d.parameters.length) = some 1 := by decide +kernel
set_option maxRecDepth 100000 in
set_option maxHeartbeats 4000000 in
theorem c_X3_ringOver {l : Launch} {D : va_G} {cI cZ : ClassId} {q : Nat → Nat} {qf : Nat} {g : Gr} {C R : Nat → Int32} {rw len : Nat} {F : Nat → Int32} {sz : Nat} {X : Nat → Int32} {mk : Int32} {j : Nat} (G : Gok g) (hj : j < gK g) : cI_ l D cI cZ yX3_ringOver wsX3_ringOver r_X3_ringOver [.ref (q 2), .int (nI j)] (wC q qf cI cZ g C R rw len F sz X mk) (fun r u => r = rov g C j ∧ u = wC q qf cI cZ g C R rw len F sz X mk) 0 0 := by
  refine cI_of (cc := cX3_ringOver) (maxL := 4) (rt := .int) (plainFor_of_name (by decide +kernel)) rfl (Nat.le_of_ble_eq_true rfl) ?_
  intro p e s m args below meth c A Q ls S hk hW hl hR
  have hl : lv_has ls 4 [(0, .ref (q 2)), (1, .int (nI j))] := hl
  have hwsX30 : ∀ x ∈ wsX30, x ∈ wsX3_ringOver := fun x h => List.mem_cons_of_mem _ (List.mem_append_left _ (List.mem_append_right _ h))
  have hwsX10 : ∀ x ∈ wsX10, x ∈ wsX3_ringOver := fun x h => List.mem_cons_of_mem _ (List.mem_append_right _ h)
  have hN := Gok_N G; have hN2 := Gok_N2 G; have hKK := Gok_K G
  refine lv_aload_n S.1 S.2.1 dX3_ringOver_0 rfl (lv_at hl 0 rfl) ?_
  refine gf S hk hW 2 rfl rfl hwsX30 0 (by decide) 1 rfl rfl dX3_ringOver_1 ?_
  refine gfN (host := RX4) S hk hW 1 rfl rfl hwsX10 4 (by decide) 13 rfl rfl dX3_ringOver_4 ?_
  refine lv_iload_n S.1 S.2.1 dX3_ringOver_7 rfl (lv_at hl 1 rfl) ?_
  refine zld S hk hW 9 rfl j rfl (by omega) (by omega) dX3_ringOver_8 ?_
  refine top_eq (Gok_T G (j := j) (by omega)) ?_
  refine ifne_b (tgt := 16) S dX3_ringOver_9 (by decide) (fun c_9 => ?_) (fun c_9 => ?_)
  · skip
    refine lv_aload_n S.1 S.2.1 dX3_ringOver_16 rfl (lv_at hl 0 rfl) ?_
    refine gf S hk hW 2 rfl rfl hwsX30 0 (by decide) 1 rfl rfl dX3_ringOver_17 ?_
    refine gfN (host := RX4) S hk hW 1 rfl rfl hwsX10 2 (by decide) 9 rfl rfl dX3_ringOver_20 ?_
    refine lv_iload_n S.1 S.2.1 dX3_ringOver_23 rfl (lv_at hl 1 rfl) ?_
    refine ild S hk hW 7 rfl j rfl (by omega) (by omega) dX3_ringOver_24 ?_
    refine lv_istore_n (lv' := [(2, .int (gP g j)), (0, .ref (q 2)), (1, .int (nI j))]) S.1 S.2.1 dX3_ringOver_25 rfl hl (by decide) rfl (fun ls hl => ?_)
    refine lv_aload_n S.1 S.2.1 dX3_ringOver_26 rfl (lv_at hl 1 rfl) ?_
    refine gf S hk hW 2 rfl rfl hwsX30 0 (by decide) 1 rfl rfl dX3_ringOver_27 ?_
    refine gfN (host := RX4) S hk hW 1 rfl rfl hwsX10 3 (by decide) 12 rfl rfl dX3_ringOver_30 ?_
    refine lv_iload_n S.1 S.2.1 dX3_ringOver_33 rfl (lv_at hl 2 rfl) ?_
    refine zld S hk hW 8 rfl j rfl (by omega) (by omega) dX3_ringOver_34 ?_
    refine top_eq (Gok_W G (j := j) (by omega)) ?_
    refine ifeq_b (tgt := 88) S dX3_ringOver_35 (by decide) (fun c_35 => ?_) (fun c_35 => ?_)
    · skip
      refine lv_aload_n S.1 S.2.1 dX3_ringOver_88 rfl (lv_at hl 1 rfl) ?_
      refine lv_aload_n S.1 S.2.1 dX3_ringOver_89 rfl (lv_at hl 1 rfl) ?_
      refine gf S hk hW 2 rfl rfl hwsX30 0 (by decide) 1 rfl rfl dX3_ringOver_90 ?_
      refine gfN (host := RX4) S hk hW 1 rfl rfl hwsX10 1 (by decide) 11 rfl rfl dX3_ringOver_93 ?_
      refine lv_iload_n S.1 S.2.1 dX3_ringOver_96 rfl (lv_at hl 2 rfl) ?_
      refine ild S hk hW 6 rfl j rfl (by omega) (by omega) dX3_ringOver_97 ?_
      refine top_eq (Gok_E G (j := j) (by omega)) ?_
      have hb97 := Gok_E2 G (j := j) (by omega)
      refine lv_aload_n S.1 S.2.1 dX3_ringOver_98 rfl (lv_at hl 1 rfl) ?_
      refine gf S hk hW 2 rfl rfl hwsX30 0 (by decide) 1 rfl rfl dX3_ringOver_99 ?_
      refine gfN (host := RX4) S hk hW 1 rfl rfl hwsX10 0 (by decide) 10 rfl rfl dX3_ringOver_102 ?_
      refine lv_iload_n S.1 S.2.1 dX3_ringOver_105 rfl (lv_at hl 2 rfl) ?_
      refine ild S hk hW 5 rfl j rfl (by omega) (by omega) dX3_ringOver_106 ?_
      refine top_eq (Gok_B G (j := j) (by omega)) ?_
      have hb106 := Gok_B2 G (j := j) (by omega)
      refine kVi S (c_X3_leastPrice (l := l) (D := D) (cI := cI) (cZ := cZ) (by first | assumption | omega) (by first | assumption | omega)) (cwV 2 S.2.2.2.2 gX3_ringOver_X3_leastPrice rfl rfl rfl ⟨rfl, v_X3_leastPrice⟩ ⟨(Nat.le_of_ble_eq_true rfl), (Nat.le_of_ble_eq_true rfl)⟩) hk hW 2 rfl rfl rfl rfl hl rfl (Nat.le_of_ble_eq_true rfl) dX3_ringOver_107 ⟨(Nat.le_of_ble_eq_true rfl), (Nat.le_of_ble_eq_true rfl)⟩ (fun r u H locs hp hW => ?_)
      obtain ⟨rfl, rfl⟩ := hp
      refine lv_istore_n (lv' := [(3, .int (prI (C ((e2 g j) * 10 + (e1 g j))))), (2, .int (gP g j)), (0, .ref (q 2)), (1, .int (nI j))]) S.1 S.2.1 dX3_ringOver_110 rfl hl (by decide) rfl (fun ls hl => ?_)
      refine lv_iload_n S.1 S.2.1 dX3_ringOver_111 rfl (lv_at hl 0 rfl) ?_
      refine lv_sipush (v := (-1000)) S.1 S.2.1 dX3_ringOver_112 (by decide) ?_
      refine lv_icmp_ne (tgt := 124) S.1 S.2.1 dX3_ringOver_115 (by decide) (fun c_115 => ?_) (fun c_115 => ?_)
      · skip
        refine lv_iload_n S.1 S.2.1 dX3_ringOver_124 rfl (lv_at hl 1 rfl) ?_
        refine lv_iload_n S.1 S.2.1 dX3_ringOver_125 rfl (lv_at hl 0 rfl) ?_
        refine lv_iadd S.1 S.2.1 dX3_ringOver_126 ?_
        exact hR _ _ _ _ _ _ _ _ dX3_ringOver_127 rfl (Nat.le_of_ble_eq_true rfl) (Nat.le_of_ble_eq_true rfl) hW ⟨(by simp only [rov, c_9, c_35, eq_false c_115, eq_self, Nat.add_zero, decide_false, decide_true, Bool.not_true, Bool.not_false, Bool.and_true, Bool.true_and, Bool.and_false, Bool.false_and, Bool.or_true, Bool.true_or, Bool.or_false, Bool.false_or, ↓reduceIte, cond_true, cond_false, bI, and_true, true_and, and_false, false_and, or_true, true_or, or_false, false_or, not_true_eq_false, not_false_eq_true, if_true, if_false, Bool.false_eq_true, reduceCtorEq, ite_true, ite_false]), rfl⟩
      · skip
        refine lv_sipush (v := (-1000)) S.1 S.2.1 dX3_ringOver_118 (by decide) ?_
        refine lv_goto (tgt := 127) S.1 S.2.1 dX3_ringOver_121 (by decide) ?_
        exact hR _ _ _ _ _ _ _ _ dX3_ringOver_127 rfl (Nat.le_of_ble_eq_true rfl) (Nat.le_of_ble_eq_true rfl) hW ⟨(by simp only [rov, c_9, c_35, eq_true c_115, eq_self, Nat.add_zero, decide_false, decide_true, Bool.not_true, Bool.not_false, Bool.and_true, Bool.true_and, Bool.and_false, Bool.false_and, Bool.or_true, Bool.true_or, Bool.or_false, Bool.false_or, ↓reduceIte, cond_true, cond_false, bI, and_true, true_and, and_false, false_and, or_true, true_or, or_false, false_or, not_true_eq_false, not_false_eq_true, if_true, if_false, Bool.false_eq_true, reduceCtorEq, ite_true, ite_false]), rfl⟩
    · skip
      refine lv_iload_n S.1 S.2.1 dX3_ringOver_38 rfl (lv_at hl 0 rfl) ?_
      refine lv_aload_n S.1 S.2.1 dX3_ringOver_39 rfl (lv_at hl 1 rfl) ?_
      refine lv_aload_n S.1 S.2.1 dX3_ringOver_40 rfl (lv_at hl 1 rfl) ?_
      refine gf S hk hW 2 rfl rfl hwsX30 0 (by decide) 1 rfl rfl dX3_ringOver_41 ?_
      refine gfN (host := RX4) S hk hW 1 rfl rfl hwsX10 0 (by decide) 10 rfl rfl dX3_ringOver_44 ?_
      refine lv_iload_n S.1 S.2.1 dX3_ringOver_47 rfl (lv_at hl 2 rfl) ?_
      refine ild S hk hW 5 rfl j rfl (by omega) (by omega) dX3_ringOver_48 ?_
      refine top_eq (Gok_B G (j := j) (by omega)) ?_
      have hb48 := Gok_B2 G (j := j) (by omega)
      refine lv_aload_n S.1 S.2.1 dX3_ringOver_49 rfl (lv_at hl 1 rfl) ?_
      refine gf S hk hW 2 rfl rfl hwsX30 0 (by decide) 1 rfl rfl dX3_ringOver_50 ?_
      refine gfN (host := RX4) S hk hW 1 rfl rfl hwsX10 1 (by decide) 11 rfl rfl dX3_ringOver_53 ?_
      refine lv_iload_n S.1 S.2.1 dX3_ringOver_56 rfl (lv_at hl 2 rfl) ?_
      refine ild S hk hW 6 rfl j rfl (by omega) (by omega) dX3_ringOver_57 ?_
      refine top_eq (Gok_E G (j := j) (by omega)) ?_
      have hb57 := Gok_E2 G (j := j) (by omega)
      refine kVi S (c_X3_leastPrice (l := l) (D := D) (cI := cI) (cZ := cZ) (by first | assumption | omega) (by first | assumption | omega)) (cwV 2 S.2.2.2.2 gX3_ringOver_X3_leastPrice rfl rfl rfl ⟨rfl, v_X3_leastPrice⟩ ⟨(Nat.le_of_ble_eq_true rfl), (Nat.le_of_ble_eq_true rfl)⟩) hk hW 2 rfl rfl rfl rfl hl rfl (Nat.le_of_ble_eq_true rfl) dX3_ringOver_58 ⟨(Nat.le_of_ble_eq_true rfl), (Nat.le_of_ble_eq_true rfl)⟩ (fun r u H locs hp hW => ?_)
      obtain ⟨rfl, rfl⟩ := hp
      refine lv_aload_n S.1 S.2.1 dX3_ringOver_61 rfl (lv_at hl 1 rfl) ?_
      refine lv_aload_n S.1 S.2.1 dX3_ringOver_62 rfl (lv_at hl 1 rfl) ?_
      refine gf S hk hW 2 rfl rfl hwsX30 0 (by decide) 1 rfl rfl dX3_ringOver_63 ?_
      refine gfN (host := RX4) S hk hW 1 rfl rfl hwsX10 1 (by decide) 11 rfl rfl dX3_ringOver_66 ?_
      refine lv_iload_n S.1 S.2.1 dX3_ringOver_69 rfl (lv_at hl 2 rfl) ?_
      refine ild S hk hW 6 rfl j rfl (by omega) (by omega) dX3_ringOver_70 ?_
      refine top_eq (Gok_E G (j := j) (by omega)) ?_
      have hb70 := Gok_E2 G (j := j) (by omega)
      refine lv_aload_n S.1 S.2.1 dX3_ringOver_71 rfl (lv_at hl 1 rfl) ?_
      refine gf S hk hW 2 rfl rfl hwsX30 0 (by decide) 1 rfl rfl dX3_ringOver_72 ?_
      refine gfN (host := RX4) S hk hW 1 rfl rfl hwsX10 0 (by decide) 10 rfl rfl dX3_ringOver_75 ?_
      refine lv_iload_n S.1 S.2.1 dX3_ringOver_78 rfl (lv_at hl 2 rfl) ?_
      refine ild S hk hW 5 rfl j rfl (by omega) (by omega) dX3_ringOver_79 ?_
      refine top_eq (Gok_B G (j := j) (by omega)) ?_
      have hb79 := Gok_B2 G (j := j) (by omega)
      refine kVi S (c_X3_leastPrice (l := l) (D := D) (cI := cI) (cZ := cZ) (by first | assumption | omega) (by first | assumption | omega)) (cwV 2 S.2.2.2.2 gX3_ringOver_X3_leastPrice rfl rfl rfl ⟨rfl, v_X3_leastPrice⟩ ⟨(Nat.le_of_ble_eq_true rfl), (Nat.le_of_ble_eq_true rfl)⟩) hk hW 2 rfl rfl rfl rfl hl rfl (Nat.le_of_ble_eq_true rfl) dX3_ringOver_80 ⟨(Nat.le_of_ble_eq_true rfl), (Nat.le_of_ble_eq_true rfl)⟩ (fun r u H locs hp hW => ?_)
      obtain ⟨rfl, rfl⟩ := hp
      refine va_mmin S.1 S.2.1 (S.2.2.1.trans hl.1.symm) S.2.2.2.1 (S.2.2.2.2 _ (List.mem_of_getElem? (i := 2) rfl)) (S.2.2.2.2 _ (List.mem_of_getElem? (i := 3) rfl)) (S.2.2.2.2 _ (List.mem_of_getElem? (i := 4) rfl)) (S.2.2.2.2 _ (List.mem_of_getElem? (i := 5) rfl)) (Nat.le_of_ble_eq_true rfl) (Nat.le_of_ble_eq_true rfl) (Nat.zero_le _) (Nat.zero_le _) dX3_ringOver_83 ?_
      refine top_eq (y := mmin (prI (C ((e1 g j) * 10 + (e2 g j)))) (prI (C ((e2 g j) * 10 + (e1 g j))))) rfl ?_
      refine lv_iadd S.1 S.2.1 dX3_ringOver_86 ?_
      exact hR _ _ _ _ _ _ _ _ dX3_ringOver_87 rfl (Nat.le_of_ble_eq_true rfl) (Nat.le_of_ble_eq_true rfl) hW ⟨(by simp only [rov, c_9, c_35, eq_self, Nat.add_zero, decide_false, decide_true, Bool.not_true, Bool.not_false, Bool.and_true, Bool.true_and, Bool.and_false, Bool.false_and, Bool.or_true, Bool.true_or, Bool.or_false, Bool.false_or, ↓reduceIte, cond_true, cond_false, bI, and_true, true_and, and_false, false_and, or_true, true_or, or_false, false_or, not_true_eq_false, not_false_eq_true, if_true, if_false, Bool.false_eq_true, reduceCtorEq, ite_true, ite_false]), rfl⟩
  · skip
    refine lv_sipush (v := (-1000)) S.1 S.2.1 dX3_ringOver_12 (by decide) ?_
    exact hR _ _ _ _ _ _ _ _ dX3_ringOver_15 rfl (Nat.le_of_ble_eq_true rfl) (Nat.le_of_ble_eq_true rfl) hW ⟨(by simp only [rov, c_9, eq_self, Nat.add_zero, decide_false, decide_true, Bool.not_true, Bool.not_false, Bool.and_true, Bool.true_and, Bool.and_false, Bool.false_and, Bool.or_true, Bool.true_or, Bool.or_false, Bool.false_or, ↓reduceIte, cond_true, cond_false, bI, and_true, true_and, and_false, false_and, or_true, true_or, or_false, false_or, not_true_eq_false, not_false_eq_true, if_true, if_false, Bool.false_eq_true, reduceCtorEq, ite_true, ite_false]), rfl⟩
abbrev r_X3_leastRing : Room := { frames := 4, cells := 0, slots := 0, locals := 87 }
theorem v_X3_leastRing : yX3_leastRing.cls ≠ "java/lang/invoke/MethodHandle" ∧ yX3_leastRing.cls ≠ "java/lang/invoke/VarHandle" ∧ (parseMethodDescriptor yX3_leastRing.desc).map (fun d => d.parameters.length) = some 0 := by decide +kernel
set_option maxRecDepth 100000 in
set_option maxHeartbeats 4000000 in
theorem c_X3_leastRing {l : Launch} {D : va_G} {cI cZ : ClassId} {q : Nat → Nat} {qf : Nat} {g : Gr} {C R : Nat → Int32} {rw len : Nat} {F : Nat → Int32} {sz : Nat} {X : Nat → Int32} {mk : Int32}  (G : Gok g) : cI_ l D cI cZ yX3_leastRing wsX3_leastRing r_X3_leastRing [.ref (q 2)] (wC q qf cI cZ g C R rw len F sz X mk) (fun r u => r = rgS g C (gK g) ∧ u = wC q qf cI cZ g C R rw len F sz X mk) 0 0 := by
  refine cI_of (cc := cX3_leastRing) (maxL := 4) (rt := .int) (plainFor_of_name (by decide +kernel)) rfl (Nat.le_of_ble_eq_true rfl) ?_
  intro p e s m args below meth c A Q ls S hk hW hl hR
  have hl : lv_has ls 4 [(0, .ref (q 2))] := hl
  have hwsX30 : ∀ x ∈ wsX30, x ∈ wsX3_leastRing := fun x h => List.mem_cons_of_mem _ (List.mem_append_left _ (List.mem_append_right _ h))
  have hwsX10 : ∀ x ∈ wsX10, x ∈ wsX3_leastRing := fun x h => List.mem_cons_of_mem _ (List.mem_append_right _ h)
  have hN := Gok_N G; have hN2 := Gok_N2 G; have hKK := Gok_K G
  refine lv_sipush (v := (-1000)) S.1 S.2.1 dX3_leastRing_0 (by decide) ?_
  refine lv_istore_n (lv' := [(1, .int (-1000)), (0, .ref (q 2))]) S.1 S.2.1 dX3_leastRing_3 rfl hl (by decide) rfl (fun ls hl => ?_)
  refine lv_iconst (v := nI 0) S.1 S.2.1 dX3_leastRing_4 (by decide) ?_
  refine lv_istore_n (lv' := [(2, .int (nI 0)), (1, .int (-1000)), (0, .ref (q 2))]) S.1 S.2.1 dX3_leastRing_5 rfl hl (by decide) rfl (fun ls hl => ?_)
  have L6 : ∀ (dd : Nat), ∀ (z : Int32), ∀ (j : Nat), (z = rgS g C j) → (j ≤ gK g) → gK g < j + dd → ∀ (H : Heap) (locs : List Loc) (ls : Array Slot), wd D A s H locs (wC q qf cI cZ g C R rw len F sz X mk) → lv_has ls 4 [(0, .ref (q 2)), (1, .int z), (2, .int (nI j))] → W p l e r_X3_leastRing s m args below meth c H locs 0 0 Q (F0 m 6 ls []) := by
    intro dd
    induction dd with
    | zero => intros; omega
    | succ dd ih6 =>
      intro z j hz hj hdd H locs ls hW hl
      refine lv_iload_n S.1 S.2.1 dX3_leastRing_6 rfl (lv_at hl 2 rfl) ?_
      refine lv_aload_n S.1 S.2.1 dX3_leastRing_7 rfl (lv_at hl 0 rfl) ?_
      refine gf S hk hW 2 rfl rfl hwsX30 0 (by decide) 1 rfl rfl dX3_leastRing_8 ?_
      refine gfN (host := RX4) S hk hW 1 rfl rfl hwsX10 6 (by decide) 8 rfl rfl dX3_leastRing_11 ?_
      refine icge_n (tgt := 50) S (by omega) (by omega) dX3_leastRing_14 (by decide) (fun c_14 => ?_) (fun c_14 => ?_)
      · skip
        refine lv_iload_n S.1 S.2.1 dX3_leastRing_50 rfl (lv_at hl 1 rfl) ?_
        exact hR _ _ _ _ _ _ _ _ dX3_leastRing_51 rfl (Nat.le_of_ble_eq_true rfl) (Nat.le_of_ble_eq_true rfl) hW ⟨by rw [hz, show j = gK g by omega], rfl⟩
      · skip
        refine lv_aload_n S.1 S.2.1 dX3_leastRing_17 rfl (lv_at hl 0 rfl) ?_
        refine lv_iload_n S.1 S.2.1 dX3_leastRing_18 rfl (lv_at hl 2 rfl) ?_
        refine kVi S (c_X3_ringOver (l := l) (D := D) (cI := cI) (cZ := cZ) G (by first | assumption | omega)) (cwV 1 S.2.2.2.2 gX3_leastRing_X3_ringOver rfl rfl rfl ⟨rfl, v_X3_ringOver⟩ ⟨(Nat.le_of_ble_eq_true rfl), (Nat.le_of_ble_eq_true rfl)⟩) hk hW 2 rfl rfl rfl rfl hl rfl (Nat.le_of_ble_eq_true rfl) dX3_leastRing_19 ⟨(Nat.le_of_ble_eq_true rfl), (Nat.le_of_ble_eq_true rfl)⟩ (fun r u H locs hp hW => ?_)
        obtain ⟨rfl, rfl⟩ := hp
        refine lv_istore_n (lv' := [(3, .int (rov g C j)), (0, .ref (q 2)), (1, .int z), (2, .int (nI j))]) S.1 S.2.1 dX3_leastRing_22 rfl hl (by decide) rfl (fun ls hl => ?_)
        refine lv_iload_n S.1 S.2.1 dX3_leastRing_23 rfl (lv_at hl 0 rfl) ?_
        refine lv_sipush (v := (-1000)) S.1 S.2.1 dX3_leastRing_24 (by decide) ?_
        refine lv_icmp_eq (tgt := 44) S.1 S.2.1 dX3_leastRing_27 (by decide) (fun c_27 => ?_) (fun c_27 => ?_)
        · skip
          refine lv_iinc (v := nI (j + 1)) (lv' := [(2, .int (nI (j + 1))), (3, .int (rov g C j)), (0, .ref (q 2)), (1, .int z)]) (k := 3) S.1 S.2.1 dX3_leastRing_44 hl rfl (nI_1 _) (by decide) rfl (fun ls hl => ?_)
          refine lv_goto (tgt := 6) S.1 S.2.1 dX3_leastRing_47 (by decide) ?_
          exact ih6 z (j + 1) (by simp only [rgS, ← hz, c_14, c_27, eq_self, Nat.add_zero, decide_false, decide_true, Bool.not_true, Bool.not_false, Bool.and_true, Bool.true_and, Bool.and_false, Bool.false_and, Bool.or_true, Bool.true_or, Bool.or_false, Bool.false_or, ↓reduceIte, cond_true, cond_false, bI, and_true, true_and, and_false, false_and, or_true, true_or, or_false, false_or, not_true_eq_false, not_false_eq_true, if_true, if_false, Bool.false_eq_true, reduceCtorEq, ite_true, ite_false]) (by omega) (by omega) _ _ _ hW (lv_sub hl [2, 3, 0] rfl)
        · skip
          refine lv_iload_n S.1 S.2.1 dX3_leastRing_30 rfl (lv_at hl 2 rfl) ?_
          refine lv_sipush (v := (-1000)) S.1 S.2.1 dX3_leastRing_31 (by decide) ?_
          refine lv_icmp_eq (tgt := 42) S.1 S.2.1 dX3_leastRing_34 (by decide) (fun c_34 => ?_) (fun c_34 => ?_)
          · skip
            refine lv_iload_n S.1 S.2.1 dX3_leastRing_42 rfl (lv_at hl 0 rfl) ?_
            refine lv_istore_n (lv' := [(1, .int (rov g C j)), (3, .int (rov g C j)), (0, .ref (q 2)), (2, .int (nI j))]) S.1 S.2.1 dX3_leastRing_43 rfl hl (by decide) rfl (fun ls hl => ?_)
            refine lv_iinc (v := nI (j + 1)) (lv' := [(2, .int (nI (j + 1))), (1, .int (rov g C j)), (3, .int (rov g C j)), (0, .ref (q 2))]) (k := 3) S.1 S.2.1 dX3_leastRing_44 hl rfl (nI_1 _) (by decide) rfl (fun ls hl => ?_)
            refine lv_goto (tgt := 6) S.1 S.2.1 dX3_leastRing_47 (by decide) ?_
            exact ih6 (rov g C j) (j + 1) (by simp only [rgS, ← hz, c_14, c_27, c_34, eq_self, Nat.add_zero, decide_false, decide_true, Bool.not_true, Bool.not_false, Bool.and_true, Bool.true_and, Bool.and_false, Bool.false_and, Bool.or_true, Bool.true_or, Bool.or_false, Bool.false_or, ↓reduceIte, cond_true, cond_false, bI, and_true, true_and, and_false, false_and, or_true, true_or, or_false, false_or, not_true_eq_false, not_false_eq_true, if_true, if_false, Bool.false_eq_true, reduceCtorEq, ite_true, ite_false]) (by omega) (by omega) _ _ _ hW (lv_sub hl [3, 1, 0] rfl)
          · skip
            refine lv_iload_n S.1 S.2.1 dX3_leastRing_37 rfl (lv_at hl 0 rfl) ?_
            refine lv_iload_n S.1 S.2.1 dX3_leastRing_38 rfl (lv_at hl 2 rfl) ?_
            refine lv_icmp_ge (tgt := 44) S.1 S.2.1 dX3_leastRing_39 (by decide) (fun c_39 => ?_) (fun c_39 => ?_)
            · skip
              refine lv_iinc (v := nI (j + 1)) (lv' := [(2, .int (nI (j + 1))), (3, .int (rov g C j)), (0, .ref (q 2)), (1, .int z)]) (k := 3) S.1 S.2.1 dX3_leastRing_44 hl rfl (nI_1 _) (by decide) rfl (fun ls hl => ?_)
              refine lv_goto (tgt := 6) S.1 S.2.1 dX3_leastRing_47 (by decide) ?_
              exact ih6 z (j + 1) (by simp only [rgS, ← hz, c_14, c_27, c_34, c_39, eq_self, Nat.add_zero, decide_false, decide_true, Bool.not_true, Bool.not_false, Bool.and_true, Bool.true_and, Bool.and_false, Bool.false_and, Bool.or_true, Bool.true_or, Bool.or_false, Bool.false_or, ↓reduceIte, cond_true, cond_false, bI, and_true, true_and, and_false, false_and, or_true, true_or, or_false, false_or, not_true_eq_false, not_false_eq_true, if_true, if_false, Bool.false_eq_true, reduceCtorEq, ite_true, ite_false]) (by omega) (by omega) _ _ _ hW (lv_sub hl [2, 3, 0] rfl)
            · skip
              refine lv_iload_n S.1 S.2.1 dX3_leastRing_42 rfl (lv_at hl 0 rfl) ?_
              refine lv_istore_n (lv' := [(1, .int (rov g C j)), (3, .int (rov g C j)), (0, .ref (q 2)), (2, .int (nI j))]) S.1 S.2.1 dX3_leastRing_43 rfl hl (by decide) rfl (fun ls hl => ?_)
              refine lv_iinc (v := nI (j + 1)) (lv' := [(2, .int (nI (j + 1))), (1, .int (rov g C j)), (3, .int (rov g C j)), (0, .ref (q 2))]) (k := 3) S.1 S.2.1 dX3_leastRing_44 hl rfl (nI_1 _) (by decide) rfl (fun ls hl => ?_)
              refine lv_goto (tgt := 6) S.1 S.2.1 dX3_leastRing_47 (by decide) ?_
              exact ih6 (rov g C j) (j + 1) (by simp only [rgS, ← hz, c_14, c_27, c_34, c_39, eq_self, Nat.add_zero, decide_false, decide_true, Bool.not_true, Bool.not_false, Bool.and_true, Bool.true_and, Bool.and_false, Bool.false_and, Bool.or_true, Bool.true_or, Bool.or_false, Bool.false_or, ↓reduceIte, cond_true, cond_false, bI, and_true, true_and, and_false, false_and, or_true, true_or, or_false, false_or, not_true_eq_false, not_false_eq_true, if_true, if_false, Bool.false_eq_true, reduceCtorEq, ite_true, ite_false]) (by omega) (by omega) _ _ _ hW (lv_sub hl [3, 1, 0] rfl)
  exact L6 ((gK g) + 1) (-1000) 0 rfl (by omega) (by omega) _ _ _ hW (lv_sub hl [2, 1, 0] rfl)
abbrev r_X3_heightOf : Room := { frames := 3, cells := 0, slots := 0, locals := 64 }
theorem v_X3_heightOf : yX3_heightOf.cls ≠ "java/lang/invoke/MethodHandle" ∧ yX3_heightOf.cls ≠ "java/lang/invoke/VarHandle" ∧ (parseMethodDescriptor yX3_heightOf.desc).map (fun d => d.parameters.length) = some 1 := by decide +kernel
set_option maxRecDepth 100000 in
set_option maxHeartbeats 4000000 in
theorem c_X3_heightOf {l : Launch} {D : va_G} {cI cZ : ClassId} {q : Nat → Nat} {qf : Nat} {g : Gr} {C R : Nat → Int32} {rw len : Nat} {F : Nat → Int32} {sz : Nat} {X : Nat → Int32} {mk : Int32} {a : Nat} (G : Gok g) (ha : a < 10) : cI_ l D cI cZ yX3_heightOf wsX3_heightOf r_X3_heightOf [.ref (q 2), .int (nI a)] (wC q qf cI cZ g C R rw len F sz X mk) (fun r u => r = hgS C a (gN g) ∧ u = wC q qf cI cZ g C R rw len F sz X mk) 0 0 := by
  refine cI_of (cc := cX3_heightOf) (maxL := 4) (rt := .int) (plainFor_of_name (by decide +kernel)) rfl (Nat.le_of_ble_eq_true rfl) ?_
  intro p e s m args below meth c A Q ls S hk hW hl hR
  have hl : lv_has ls 4 [(0, .ref (q 2)), (1, .int (nI a))] := hl
  have hwsX30 : ∀ x ∈ wsX30, x ∈ wsX3_heightOf := fun x h => List.mem_cons_of_mem _ (List.mem_append_left _ (List.mem_append_right _ h))
  have hwsX10 : ∀ x ∈ wsX10, x ∈ wsX3_heightOf := fun x h => List.mem_cons_of_mem _ (List.mem_append_right _ h)
  have hN := Gok_N G; have hN2 := Gok_N2 G; have hKK := Gok_K G
  refine lv_iconst (v := nI 0) S.1 S.2.1 dX3_heightOf_0 (by decide) ?_
  refine lv_istore_n (lv' := [(2, .int (nI 0)), (0, .ref (q 2)), (1, .int (nI a))]) S.1 S.2.1 dX3_heightOf_1 rfl hl (by decide) rfl (fun ls hl => ?_)
  refine lv_iconst (v := nI 0) S.1 S.2.1 dX3_heightOf_2 (by decide) ?_
  refine lv_istore_n (lv' := [(3, .int (nI 0)), (2, .int (nI 0)), (0, .ref (q 2)), (1, .int (nI a))]) S.1 S.2.1 dX3_heightOf_3 rfl hl (by decide) rfl (fun ls hl => ?_)
  have L4 : ∀ (dd : Nat), ∀ (z : Int32), ∀ (i : Nat), (z = hgS C a i) → (i ≤ gN g) → gN g < i + dd → ∀ (H : Heap) (locs : List Loc) (ls : Array Slot), wd D A s H locs (wC q qf cI cZ g C R rw len F sz X mk) → lv_has ls 4 [(0, .ref (q 2)), (1, .int (nI a)), (2, .int z), (3, .int (nI i))] → W p l e r_X3_heightOf s m args below meth c H locs 0 0 Q (F0 m 4 ls []) := by
    intro dd
    induction dd with
    | zero => intros; omega
    | succ dd ih4 =>
      intro z i hz hi hdd H locs ls hW hl
      refine lv_iload_n S.1 S.2.1 dX3_heightOf_4 rfl (lv_at hl 3 rfl) ?_
      refine lv_aload_n S.1 S.2.1 dX3_heightOf_5 rfl (lv_at hl 0 rfl) ?_
      refine gf S hk hW 2 rfl rfl hwsX30 0 (by decide) 1 rfl rfl dX3_heightOf_6 ?_
      refine gfN (host := RX4) S hk hW 1 rfl rfl hwsX10 5 (by decide) 7 rfl rfl dX3_heightOf_9 ?_
      refine icge_n (tgt := 41) S (by omega) (by omega) dX3_heightOf_12 (by decide) (fun c_12 => ?_) (fun c_12 => ?_)
      · skip
        refine lv_iload_n S.1 S.2.1 dX3_heightOf_41 rfl (lv_at hl 2 rfl) ?_
        exact hR _ _ _ _ _ _ _ _ dX3_heightOf_42 rfl (Nat.le_of_ble_eq_true rfl) (Nat.le_of_ble_eq_true rfl) hW ⟨by rw [hz, show i = gN g by omega], rfl⟩
      · skip
        refine lv_aload_n S.1 S.2.1 dX3_heightOf_15 rfl (lv_at hl 0 rfl) ?_
        refine lv_iload_n S.1 S.2.1 dX3_heightOf_16 rfl (lv_at hl 3 rfl) ?_
        refine lv_iload_n S.1 S.2.1 dX3_heightOf_17 rfl (lv_at hl 1 rfl) ?_
        refine kVi S (c_X3_leads (l := l) (D := D) (cI := cI) (cZ := cZ) (by first | assumption | omega) (by first | assumption | omega)) (cwV 2 S.2.2.2.2 gX3_heightOf_X3_leads rfl rfl rfl ⟨rfl, v_X3_leads⟩ ⟨(Nat.le_of_ble_eq_true rfl), (Nat.le_of_ble_eq_true rfl)⟩) hk hW 2 rfl rfl rfl rfl hl rfl (Nat.le_of_ble_eq_true rfl) dX3_heightOf_18 ⟨(Nat.le_of_ble_eq_true rfl), (Nat.le_of_ble_eq_true rfl)⟩ (fun r u H locs hp hW => ?_)
        obtain ⟨rfl, rfl⟩ := hp
        refine ifeq_b (tgt := 35) S dX3_heightOf_21 (by decide) (fun c_21 => ?_) (fun c_21 => ?_)
        · skip
          refine lv_iinc (v := nI (i + 1)) (lv' := [(3, .int (nI (i + 1))), (0, .ref (q 2)), (1, .int (nI a)), (2, .int z)]) (k := 3) S.1 S.2.1 dX3_heightOf_35 hl rfl (nI_1 _) (by decide) rfl (fun ls hl => ?_)
          refine lv_goto (tgt := 4) S.1 S.2.1 dX3_heightOf_38 (by decide) ?_
          exact ih4 z (i + 1) (by simp only [hgS, ← hz, c_12, c_21, eq_self, Nat.add_zero, decide_false, decide_true, Bool.not_true, Bool.not_false, Bool.and_true, Bool.true_and, Bool.and_false, Bool.false_and, Bool.or_true, Bool.true_or, Bool.or_false, Bool.false_or, ↓reduceIte, cond_true, cond_false, bI, and_true, true_and, and_false, false_and, or_true, true_or, or_false, false_or, not_true_eq_false, not_false_eq_true, if_true, if_false, Bool.false_eq_true, reduceCtorEq, ite_true, ite_false]) (by omega) (by omega) _ _ _ hW (lv_sub hl [1, 2, 3, 0] rfl)
        · skip
          refine lv_iload_n S.1 S.2.1 dX3_heightOf_24 rfl (lv_at hl 2 rfl) ?_
          refine lv_aload_n S.1 S.2.1 dX3_heightOf_25 rfl (lv_at hl 0 rfl) ?_
          refine lv_iload_n S.1 S.2.1 dX3_heightOf_26 rfl (lv_at hl 3 rfl) ?_
          refine lv_iload_n S.1 S.2.1 dX3_heightOf_27 rfl (lv_at hl 1 rfl) ?_
          refine kVi S (c_X3_leastPrice (l := l) (D := D) (cI := cI) (cZ := cZ) (by first | assumption | omega) (by first | assumption | omega)) (cwV 2 S.2.2.2.2 gX3_heightOf_X3_leastPrice rfl rfl rfl ⟨rfl, v_X3_leastPrice⟩ ⟨(Nat.le_of_ble_eq_true rfl), (Nat.le_of_ble_eq_true rfl)⟩) hk hW 2 rfl rfl rfl rfl hl rfl (Nat.le_of_ble_eq_true rfl) dX3_heightOf_28 ⟨(Nat.le_of_ble_eq_true rfl), (Nat.le_of_ble_eq_true rfl)⟩ (fun r u H locs hp hW => ?_)
          obtain ⟨rfl, rfl⟩ := hp
          refine va_mmin S.1 S.2.1 (S.2.2.1.trans hl.1.symm) S.2.2.2.1 (S.2.2.2.2 _ (List.mem_of_getElem? (i := 2) rfl)) (S.2.2.2.2 _ (List.mem_of_getElem? (i := 3) rfl)) (S.2.2.2.2 _ (List.mem_of_getElem? (i := 4) rfl)) (S.2.2.2.2 _ (List.mem_of_getElem? (i := 5) rfl)) (Nat.le_of_ble_eq_true rfl) (Nat.le_of_ble_eq_true rfl) (Nat.zero_le _) (Nat.zero_le _) dX3_heightOf_31 ?_
          refine top_eq (y := mmin z (prI (C (i * 10 + a)))) rfl ?_
          refine lv_istore_n (lv' := [(2, .int (mmin z (prI (C (i * 10 + a))))), (0, .ref (q 2)), (1, .int (nI a)), (3, .int (nI i))]) S.1 S.2.1 dX3_heightOf_34 rfl hl (by decide) rfl (fun ls hl => ?_)
          refine lv_iinc (v := nI (i + 1)) (lv' := [(3, .int (nI (i + 1))), (2, .int (mmin z (prI (C (i * 10 + a))))), (0, .ref (q 2)), (1, .int (nI a))]) (k := 3) S.1 S.2.1 dX3_heightOf_35 hl rfl (nI_1 _) (by decide) rfl (fun ls hl => ?_)
          refine lv_goto (tgt := 4) S.1 S.2.1 dX3_heightOf_38 (by decide) ?_
          exact ih4 (mmin z (prI (C (i * 10 + a)))) (i + 1) (by simp only [hgS, ← hz, c_12, c_21, eq_self, Nat.add_zero, decide_false, decide_true, Bool.not_true, Bool.not_false, Bool.and_true, Bool.true_and, Bool.and_false, Bool.false_and, Bool.or_true, Bool.true_or, Bool.or_false, Bool.false_or, ↓reduceIte, cond_true, cond_false, bI, and_true, true_and, and_false, false_and, or_true, true_or, or_false, false_or, not_true_eq_false, not_false_eq_true, if_true, if_false, Bool.false_eq_true, reduceCtorEq, ite_true, ite_false]) (by omega) (by omega) _ _ _ hW (lv_sub hl [2, 3, 1, 0] rfl)
  exact L4 ((gN g) + 1) (nI 0) 0 rfl (by omega) (by omega) _ _ _ hW (lv_sub hl [2, 3, 1, 0] rfl)
abbrev r_X3_lifted : Room := { frames := 4, cells := 0, slots := 0, locals := 87 }
theorem v_X3_lifted : yX3_lifted.cls ≠ "java/lang/invoke/MethodHandle" ∧ yX3_lifted.cls ≠ "java/lang/invoke/VarHandle" ∧ (parseMethodDescriptor yX3_lifted.desc).map (fun d => d.parameters.length) = some 1 := by decide +kernel
set_option maxRecDepth 100000 in
set_option maxHeartbeats 4000000 in
theorem c_X3_lifted {l : Launch} {D : va_G} {cI cZ : ClassId} {q : Nat → Nat} {qf : Nat} {g : Gr} {C R : Nat → Int32} {rw len : Nat} {F : Nat → Int32} {sz : Nat} {X : Nat → Int32} {mk : Int32} {j : Nat} (G : Gok g) (hj : j < gK g) : cI_ l D cI cZ yX3_lifted wsX3_lifted r_X3_lifted [.ref (q 2), .int (nI j)] (wC q qf cI cZ g C R rw len F sz X mk) (fun r u => r = lif g C j ∧ u = wC q qf cI cZ g C R rw len F sz X mk) 0 0 := by
  refine cI_of (cc := cX3_lifted) (maxL := 4) (rt := .int) (plainFor_of_name (by decide +kernel)) rfl (Nat.le_of_ble_eq_true rfl) ?_
  intro p e s m args below meth c A Q ls S hk hW hl hR
  have hl : lv_has ls 4 [(0, .ref (q 2)), (1, .int (nI j))] := hl
  have hwsX30 : ∀ x ∈ wsX30, x ∈ wsX3_lifted := fun x h => List.mem_cons_of_mem _ (List.mem_append_left _ (List.mem_append_right _ h))
  have hwsX10 : ∀ x ∈ wsX10, x ∈ wsX3_lifted := fun x h => List.mem_cons_of_mem _ (List.mem_append_right _ h)
  have hN := Gok_N G; have hN2 := Gok_N2 G; have hKK := Gok_K G
  refine lv_aload_n S.1 S.2.1 dX3_lifted_0 rfl (lv_at hl 0 rfl) ?_
  refine gf S hk hW 2 rfl rfl hwsX30 0 (by decide) 1 rfl rfl dX3_lifted_1 ?_
  refine gfN (host := RX4) S hk hW 1 rfl rfl hwsX10 2 (by decide) 9 rfl rfl dX3_lifted_4 ?_
  refine lv_iload_n S.1 S.2.1 dX3_lifted_7 rfl (lv_at hl 1 rfl) ?_
  refine ild S hk hW 7 rfl j rfl (by omega) (by omega) dX3_lifted_8 ?_
  refine lv_istore_n (lv' := [(2, .int (gP g j)), (0, .ref (q 2)), (1, .int (nI j))]) S.1 S.2.1 dX3_lifted_9 rfl hl (by decide) rfl (fun ls hl => ?_)
  refine lv_aload_n S.1 S.2.1 dX3_lifted_10 rfl (lv_at hl 1 rfl) ?_
  refine lv_aload_n S.1 S.2.1 dX3_lifted_11 rfl (lv_at hl 1 rfl) ?_
  refine gf S hk hW 2 rfl rfl hwsX30 0 (by decide) 1 rfl rfl dX3_lifted_12 ?_
  refine gfN (host := RX4) S hk hW 1 rfl rfl hwsX10 0 (by decide) 10 rfl rfl dX3_lifted_15 ?_
  refine lv_iload_n S.1 S.2.1 dX3_lifted_18 rfl (lv_at hl 2 rfl) ?_
  refine ild S hk hW 5 rfl j rfl (by omega) (by omega) dX3_lifted_19 ?_
  refine top_eq (Gok_B G (j := j) (by omega)) ?_
  have hb19 := Gok_B2 G (j := j) (by omega)
  refine kVi S (c_X3_heightOf (l := l) (D := D) (cI := cI) (cZ := cZ) G (by first | assumption | omega)) (cwV 1 S.2.2.2.2 gX3_lifted_X3_heightOf rfl rfl rfl ⟨rfl, v_X3_heightOf⟩ ⟨(Nat.le_of_ble_eq_true rfl), (Nat.le_of_ble_eq_true rfl)⟩) hk hW 2 rfl rfl rfl rfl hl rfl (Nat.le_of_ble_eq_true rfl) dX3_lifted_20 ⟨(Nat.le_of_ble_eq_true rfl), (Nat.le_of_ble_eq_true rfl)⟩ (fun r u H locs hp hW => ?_)
  obtain ⟨rfl, rfl⟩ := hp
  refine lv_aload_n S.1 S.2.1 dX3_lifted_23 rfl (lv_at hl 1 rfl) ?_
  refine lv_aload_n S.1 S.2.1 dX3_lifted_24 rfl (lv_at hl 1 rfl) ?_
  refine gf S hk hW 2 rfl rfl hwsX30 0 (by decide) 1 rfl rfl dX3_lifted_25 ?_
  refine gfN (host := RX4) S hk hW 1 rfl rfl hwsX10 1 (by decide) 11 rfl rfl dX3_lifted_28 ?_
  refine lv_iload_n S.1 S.2.1 dX3_lifted_31 rfl (lv_at hl 2 rfl) ?_
  refine ild S hk hW 6 rfl j rfl (by omega) (by omega) dX3_lifted_32 ?_
  refine top_eq (Gok_E G (j := j) (by omega)) ?_
  have hb32 := Gok_E2 G (j := j) (by omega)
  refine kVi S (c_X3_heightOf (l := l) (D := D) (cI := cI) (cZ := cZ) G (by first | assumption | omega)) (cwV 1 S.2.2.2.2 gX3_lifted_X3_heightOf rfl rfl rfl ⟨rfl, v_X3_heightOf⟩ ⟨(Nat.le_of_ble_eq_true rfl), (Nat.le_of_ble_eq_true rfl)⟩) hk hW 2 rfl rfl rfl rfl hl rfl (Nat.le_of_ble_eq_true rfl) dX3_lifted_33 ⟨(Nat.le_of_ble_eq_true rfl), (Nat.le_of_ble_eq_true rfl)⟩ (fun r u H locs hp hW => ?_)
  obtain ⟨rfl, rfl⟩ := hp
  refine lv_isub S.1 S.2.1 dX3_lifted_36 ?_
  refine lv_istore_n (lv' := [(3, .int ((hgS C (e1 g j) (gN g)) - (hgS C (e2 g j) (gN g)))), (2, .int (gP g j)), (0, .ref (q 2)), (1, .int (nI j))]) S.1 S.2.1 dX3_lifted_37 rfl hl (by decide) rfl (fun ls hl => ?_)
  refine lv_aload_n S.1 S.2.1 dX3_lifted_38 rfl (lv_at hl 2 rfl) ?_
  refine gf S hk hW 2 rfl rfl hwsX30 0 (by decide) 1 rfl rfl dX3_lifted_39 ?_
  refine gfN (host := RX4) S hk hW 1 rfl rfl hwsX10 3 (by decide) 12 rfl rfl dX3_lifted_42 ?_
  refine lv_iload_n S.1 S.2.1 dX3_lifted_45 rfl (lv_at hl 3 rfl) ?_
  refine zld S hk hW 8 rfl j rfl (by omega) (by omega) dX3_lifted_46 ?_
  refine top_eq (Gok_W G (j := j) (by omega)) ?_
  refine ifeq_b (tgt := 62) S dX3_lifted_47 (by decide) (fun c_47 => ?_) (fun c_47 => ?_)
  · skip
    refine lv_iload_n S.1 S.2.1 dX3_lifted_62 rfl (lv_at hl 1 rfl) ?_
    refine lv_iload_n S.1 S.2.1 dX3_lifted_63 rfl (lv_at hl 0 rfl) ?_
    refine lv_iadd S.1 S.2.1 dX3_lifted_64 ?_
    exact hR _ _ _ _ _ _ _ _ dX3_lifted_65 rfl (Nat.le_of_ble_eq_true rfl) (Nat.le_of_ble_eq_true rfl) hW ⟨(by simp only [lif, c_47, eq_self, Nat.add_zero, decide_false, decide_true, Bool.not_true, Bool.not_false, Bool.and_true, Bool.true_and, Bool.and_false, Bool.false_and, Bool.or_true, Bool.true_or, Bool.or_false, Bool.false_or, ↓reduceIte, cond_true, cond_false, bI, and_true, true_and, and_false, false_and, or_true, true_or, or_false, false_or, not_true_eq_false, not_false_eq_true, if_true, if_false, Bool.false_eq_true, reduceCtorEq, ite_true, ite_false]), rfl⟩
  · skip
    refine lv_iload_n S.1 S.2.1 dX3_lifted_50 rfl (lv_at hl 1 rfl) ?_
    refine lv_iload_n S.1 S.2.1 dX3_lifted_51 rfl (lv_at hl 0 rfl) ?_
    refine lv_iadd S.1 S.2.1 dX3_lifted_52 ?_
    refine lv_iload_n S.1 S.2.1 dX3_lifted_53 rfl (lv_at hl 1 rfl) ?_
    refine lv_iload_n S.1 S.2.1 dX3_lifted_54 rfl (lv_at hl 0 rfl) ?_
    refine lv_isub S.1 S.2.1 dX3_lifted_55 ?_
    refine va_mmin S.1 S.2.1 (S.2.2.1.trans hl.1.symm) S.2.2.2.1 (S.2.2.2.2 _ (List.mem_of_getElem? (i := 2) rfl)) (S.2.2.2.2 _ (List.mem_of_getElem? (i := 3) rfl)) (S.2.2.2.2 _ (List.mem_of_getElem? (i := 4) rfl)) (S.2.2.2.2 _ (List.mem_of_getElem? (i := 5) rfl)) (Nat.le_of_ble_eq_true rfl) (Nat.le_of_ble_eq_true rfl) (Nat.zero_le _) (Nat.zero_le _) dX3_lifted_56 ?_
    refine top_eq (y := mmin ((gP g j) + ((hgS C (e1 g j) (gN g)) - (hgS C (e2 g j) (gN g)))) ((gP g j) - ((hgS C (e1 g j) (gN g)) - (hgS C (e2 g j) (gN g))))) rfl ?_
    refine lv_goto (tgt := 65) S.1 S.2.1 dX3_lifted_59 (by decide) ?_
    exact hR _ _ _ _ _ _ _ _ dX3_lifted_65 rfl (Nat.le_of_ble_eq_true rfl) (Nat.le_of_ble_eq_true rfl) hW ⟨(by simp only [lif, c_47, eq_self, Nat.add_zero, decide_false, decide_true, Bool.not_true, Bool.not_false, Bool.and_true, Bool.true_and, Bool.and_false, Bool.false_and, Bool.or_true, Bool.true_or, Bool.or_false, Bool.false_or, ↓reduceIte, cond_true, cond_false, bI, and_true, true_and, and_false, false_and, or_true, true_or, or_false, false_or, not_true_eq_false, not_false_eq_true, if_true, if_false, Bool.false_eq_true, reduceCtorEq, ite_true, ite_false]), rfl⟩
abbrev r_X3_leastThrough : Room := { frames := 3, cells := 0, slots := 0, locals := 64 }
theorem v_X3_leastThrough : yX3_leastThrough.cls ≠ "java/lang/invoke/MethodHandle" ∧ yX3_leastThrough.cls ≠ "java/lang/invoke/VarHandle" ∧ (parseMethodDescriptor yX3_leastThrough.desc).map (fun d => d.parameters.length) = some 3 := by decide +kernel
set_option maxRecDepth 100000 in
set_option maxHeartbeats 4000000 in
theorem c_X3_leastThrough {l : Launch} {D : va_G} {cI cZ : ClassId} {q : Nat → Nat} {qf : Nat} {g : Gr} {C R : Nat → Int32} {rw len : Nat} {F : Nat → Int32} {sz : Nat} {X : Nat → Int32} {mk : Int32} {a b : Nat} {x : Int32} (G : Gok g) (ha : a < 10) (hb : b < 10) : cI_ l D cI cZ yX3_leastThrough wsX3_leastThrough r_X3_leastThrough [.ref (q 2), .int (nI a), .int (nI b), .int x] (wC q qf cI cZ g C R rw len F sz X mk) (fun r u => r = ltS C a b x (gN g) ∧ u = wC q qf cI cZ g C R rw len F sz X mk) 0 0 := by
  refine cI_of (cc := cX3_leastThrough) (maxL := 7) (rt := .int) (plainFor_of_name (by decide +kernel)) rfl (Nat.le_of_ble_eq_true rfl) ?_
  intro p e s m args below meth c A Q ls S hk hW hl hR
  have hl : lv_has ls 7 [(0, .ref (q 2)), (1, .int (nI a)), (2, .int (nI b)), (3, .int x)] := hl
  have hwsX30 : ∀ x ∈ wsX30, x ∈ wsX3_leastThrough := fun x h => List.mem_cons_of_mem _ (List.mem_append_left _ (List.mem_append_right _ h))
  have hwsX10 : ∀ x ∈ wsX10, x ∈ wsX3_leastThrough := fun x h => List.mem_cons_of_mem _ (List.mem_append_right _ h)
  have hN := Gok_N G; have hN2 := Gok_N2 G; have hKK := Gok_K G
  refine lv_sipush (v := (-1000)) S.1 S.2.1 dX3_leastThrough_0 (by decide) ?_
  refine lv_istore (lv' := [(4, .int (-1000)), (0, .ref (q 2)), (1, .int (nI a)), (2, .int (nI b)), (3, .int x)]) S.1 S.2.1 dX3_leastThrough_3 hl (by decide) rfl (fun ls hl => ?_)
  refine lv_iconst (v := nI 0) S.1 S.2.1 dX3_leastThrough_5 (by decide) ?_
  refine lv_istore (lv' := [(5, .int (nI 0)), (4, .int (-1000)), (0, .ref (q 2)), (1, .int (nI a)), (2, .int (nI b)), (3, .int x)]) S.1 S.2.1 dX3_leastThrough_6 hl (by decide) rfl (fun ls hl => ?_)
  have L8 : ∀ (dd : Nat), ∀ (z : Int32), ∀ (i : Nat), (z = ltS C a b x i) → (i ≤ gN g) → gN g < i + dd → ∀ (H : Heap) (locs : List Loc) (ls : Array Slot), wd D A s H locs (wC q qf cI cZ g C R rw len F sz X mk) → lv_has ls 7 [(0, .ref (q 2)), (1, .int (nI a)), (2, .int (nI b)), (3, .int x), (4, .int z), (5, .int (nI i))] → W p l e r_X3_leastThrough s m args below meth c H locs 0 0 Q (F0 m 8 ls []) := by
    intro dd
    induction dd with
    | zero => intros; omega
    | succ dd ih8 =>
      intro z i hz hi hdd H locs ls hW hl
      refine lv_iload S.1 S.2.1 dX3_leastThrough_8 (lv_at hl 5 rfl) ?_
      refine lv_aload_n S.1 S.2.1 dX3_leastThrough_10 rfl (lv_at hl 0 rfl) ?_
      refine gf S hk hW 2 rfl rfl hwsX30 0 (by decide) 1 rfl rfl dX3_leastThrough_11 ?_
      refine gfN (host := RX4) S hk hW 1 rfl rfl hwsX10 5 (by decide) 7 rfl rfl dX3_leastThrough_14 ?_
      refine icge_n (tgt := 94) S (by omega) (by omega) dX3_leastThrough_17 (by decide) (fun c_17 => ?_) (fun c_17 => ?_)
      · skip
        refine lv_iload S.1 S.2.1 dX3_leastThrough_94 (lv_at hl 4 rfl) ?_
        exact hR _ _ _ _ _ _ _ _ dX3_leastThrough_96 rfl (Nat.le_of_ble_eq_true rfl) (Nat.le_of_ble_eq_true rfl) hW ⟨by rw [hz, show i = gN g by omega], rfl⟩
      · skip
        refine lv_iload_n S.1 S.2.1 dX3_leastThrough_20 rfl (lv_at hl 3 rfl) ?_
        refine lv_iload S.1 S.2.1 dX3_leastThrough_21 (lv_at hl 5 rfl) ?_
        refine lv_ishr S.1 S.2.1 dX3_leastThrough_23 ?_
        refine lv_iconst (v := nI 1) S.1 S.2.1 dX3_leastThrough_24 (by decide) ?_
        refine lv_iand S.1 S.2.1 dX3_leastThrough_25 ?_
        refine lv_if_eq (tgt := 88) S.1 S.2.1 dX3_leastThrough_26 (by decide) (fun c_26 => ?_) (fun c_26 => ?_)
        · skip
          refine lv_iinc (v := nI (i + 1)) (lv' := [(5, .int (nI (i + 1))), (0, .ref (q 2)), (1, .int (nI a)), (2, .int (nI b)), (3, .int x), (4, .int z)]) (k := 5) S.1 S.2.1 dX3_leastThrough_88 hl rfl (nI_1 _) (by decide) rfl (fun ls hl => ?_)
          refine lv_goto (tgt := 8) S.1 S.2.1 dX3_leastThrough_91 (by decide) ?_
          exact ih8 z (i + 1) (by simp only [ltS, ← hz, c_17, c_26, eq_self, Nat.add_zero, decide_false, decide_true, Bool.not_true, Bool.not_false, Bool.and_true, Bool.true_and, Bool.and_false, Bool.false_and, Bool.or_true, Bool.true_or, Bool.or_false, Bool.false_or, ↓reduceIte, cond_true, cond_false, bI, and_true, true_and, and_false, false_and, or_true, true_or, or_false, false_or, not_true_eq_false, not_false_eq_true, if_true, if_false, Bool.false_eq_true, reduceCtorEq, ite_true, ite_false]) (by omega) (by omega) _ _ _ hW (lv_sub hl [1, 2, 3, 4, 5, 0] rfl)
        · skip
          refine lv_aload_n S.1 S.2.1 dX3_leastThrough_29 rfl (lv_at hl 0 rfl) ?_
          refine lv_iload_n S.1 S.2.1 dX3_leastThrough_30 rfl (lv_at hl 1 rfl) ?_
          refine lv_iload S.1 S.2.1 dX3_leastThrough_31 (lv_at hl 5 rfl) ?_
          refine kVi S (c_X3_leads (l := l) (D := D) (cI := cI) (cZ := cZ) (by first | assumption | omega) (by first | assumption | omega)) (cwV 2 S.2.2.2.2 gX3_leastThrough_X3_leads rfl rfl rfl ⟨rfl, v_X3_leads⟩ ⟨(Nat.le_of_ble_eq_true rfl), (Nat.le_of_ble_eq_true rfl)⟩) hk hW 2 rfl rfl rfl rfl hl rfl (Nat.le_of_ble_eq_true rfl) dX3_leastThrough_33 ⟨(Nat.le_of_ble_eq_true rfl), (Nat.le_of_ble_eq_true rfl)⟩ (fun r u H locs hp hW => ?_)
          obtain ⟨rfl, rfl⟩ := hp
          refine ifeq_b (tgt := 88) S dX3_leastThrough_36 (by decide) (fun c_36 => ?_) (fun c_36 => ?_)
          · skip
            refine lv_iinc (v := nI (i + 1)) (lv' := [(5, .int (nI (i + 1))), (0, .ref (q 2)), (1, .int (nI a)), (2, .int (nI b)), (3, .int x), (4, .int z)]) (k := 5) S.1 S.2.1 dX3_leastThrough_88 hl rfl (nI_1 _) (by decide) rfl (fun ls hl => ?_)
            refine lv_goto (tgt := 8) S.1 S.2.1 dX3_leastThrough_91 (by decide) ?_
            exact ih8 z (i + 1) (by simp only [ltS, ← hz, c_17, c_26, c_36, eq_self, Nat.add_zero, decide_false, decide_true, Bool.not_true, Bool.not_false, Bool.and_true, Bool.true_and, Bool.and_false, Bool.false_and, Bool.or_true, Bool.true_or, Bool.or_false, Bool.false_or, ↓reduceIte, cond_true, cond_false, bI, and_true, true_and, and_false, false_and, or_true, true_or, or_false, false_or, not_true_eq_false, not_false_eq_true, if_true, if_false, Bool.false_eq_true, reduceCtorEq, ite_true, ite_false]) (by omega) (by omega) _ _ _ hW (lv_sub hl [1, 2, 3, 4, 5, 0] rfl)
          · skip
            refine lv_aload_n S.1 S.2.1 dX3_leastThrough_39 rfl (lv_at hl 0 rfl) ?_
            refine lv_iload S.1 S.2.1 dX3_leastThrough_40 (lv_at hl 5 rfl) ?_
            refine lv_iload_n S.1 S.2.1 dX3_leastThrough_42 rfl (lv_at hl 2 rfl) ?_
            refine kVi S (c_X3_leads (l := l) (D := D) (cI := cI) (cZ := cZ) (by first | assumption | omega) (by first | assumption | omega)) (cwV 2 S.2.2.2.2 gX3_leastThrough_X3_leads rfl rfl rfl ⟨rfl, v_X3_leads⟩ ⟨(Nat.le_of_ble_eq_true rfl), (Nat.le_of_ble_eq_true rfl)⟩) hk hW 2 rfl rfl rfl rfl hl rfl (Nat.le_of_ble_eq_true rfl) dX3_leastThrough_43 ⟨(Nat.le_of_ble_eq_true rfl), (Nat.le_of_ble_eq_true rfl)⟩ (fun r u H locs hp hW => ?_)
            obtain ⟨rfl, rfl⟩ := hp
            refine ifeq_b (tgt := 88) S dX3_leastThrough_46 (by decide) (fun c_46 => ?_) (fun c_46 => ?_)
            · skip
              refine lv_iinc (v := nI (i + 1)) (lv' := [(5, .int (nI (i + 1))), (0, .ref (q 2)), (1, .int (nI a)), (2, .int (nI b)), (3, .int x), (4, .int z)]) (k := 5) S.1 S.2.1 dX3_leastThrough_88 hl rfl (nI_1 _) (by decide) rfl (fun ls hl => ?_)
              refine lv_goto (tgt := 8) S.1 S.2.1 dX3_leastThrough_91 (by decide) ?_
              exact ih8 z (i + 1) (by simp only [ltS, ← hz, c_17, c_26, c_36, c_46, eq_self, Nat.add_zero, decide_false, decide_true, Bool.not_true, Bool.not_false, Bool.and_true, Bool.true_and, Bool.and_false, Bool.false_and, Bool.or_true, Bool.true_or, Bool.or_false, Bool.false_or, ↓reduceIte, cond_true, cond_false, bI, and_true, true_and, and_false, false_and, or_true, true_or, or_false, false_or, not_true_eq_false, not_false_eq_true, if_true, if_false, Bool.false_eq_true, reduceCtorEq, ite_true, ite_false]) (by omega) (by omega) _ _ _ hW (lv_sub hl [1, 2, 3, 4, 5, 0] rfl)
            · skip
              refine lv_aload_n S.1 S.2.1 dX3_leastThrough_49 rfl (lv_at hl 0 rfl) ?_
              refine lv_iload_n S.1 S.2.1 dX3_leastThrough_50 rfl (lv_at hl 1 rfl) ?_
              refine lv_iload S.1 S.2.1 dX3_leastThrough_51 (lv_at hl 5 rfl) ?_
              refine kVi S (c_X3_leastPrice (l := l) (D := D) (cI := cI) (cZ := cZ) (by first | assumption | omega) (by first | assumption | omega)) (cwV 2 S.2.2.2.2 gX3_leastThrough_X3_leastPrice rfl rfl rfl ⟨rfl, v_X3_leastPrice⟩ ⟨(Nat.le_of_ble_eq_true rfl), (Nat.le_of_ble_eq_true rfl)⟩) hk hW 2 rfl rfl rfl rfl hl rfl (Nat.le_of_ble_eq_true rfl) dX3_leastThrough_53 ⟨(Nat.le_of_ble_eq_true rfl), (Nat.le_of_ble_eq_true rfl)⟩ (fun r u H locs hp hW => ?_)
              obtain ⟨rfl, rfl⟩ := hp
              refine lv_aload_n S.1 S.2.1 dX3_leastThrough_56 rfl (lv_at hl 0 rfl) ?_
              refine lv_iload S.1 S.2.1 dX3_leastThrough_57 (lv_at hl 5 rfl) ?_
              refine lv_iload_n S.1 S.2.1 dX3_leastThrough_59 rfl (lv_at hl 2 rfl) ?_
              refine kVi S (c_X3_leastPrice (l := l) (D := D) (cI := cI) (cZ := cZ) (by first | assumption | omega) (by first | assumption | omega)) (cwV 2 S.2.2.2.2 gX3_leastThrough_X3_leastPrice rfl rfl rfl ⟨rfl, v_X3_leastPrice⟩ ⟨(Nat.le_of_ble_eq_true rfl), (Nat.le_of_ble_eq_true rfl)⟩) hk hW 2 rfl rfl rfl rfl hl rfl (Nat.le_of_ble_eq_true rfl) dX3_leastThrough_60 ⟨(Nat.le_of_ble_eq_true rfl), (Nat.le_of_ble_eq_true rfl)⟩ (fun r u H locs hp hW => ?_)
              obtain ⟨rfl, rfl⟩ := hp
              refine lv_iadd S.1 S.2.1 dX3_leastThrough_63 ?_
              refine lv_istore (lv' := [(6, .int ((prI (C (a * 10 + i))) + (prI (C (i * 10 + b))))), (0, .ref (q 2)), (1, .int (nI a)), (2, .int (nI b)), (3, .int x), (4, .int z), (5, .int (nI i))]) S.1 S.2.1 dX3_leastThrough_64 hl (by decide) rfl (fun ls hl => ?_)
              refine lv_iload S.1 S.2.1 dX3_leastThrough_66 (lv_at hl 5 rfl) ?_
              refine lv_sipush (v := (-1000)) S.1 S.2.1 dX3_leastThrough_68 (by decide) ?_
              refine lv_icmp_ne (tgt := 79) S.1 S.2.1 dX3_leastThrough_71 (by decide) (fun c_71 => ?_) (fun c_71 => ?_)
              · skip
                refine lv_iload S.1 S.2.1 dX3_leastThrough_79 (lv_at hl 5 rfl) ?_
                refine lv_iload S.1 S.2.1 dX3_leastThrough_81 (lv_at hl 0 rfl) ?_
                refine va_mmin S.1 S.2.1 (S.2.2.1.trans hl.1.symm) S.2.2.2.1 (S.2.2.2.2 _ (List.mem_of_getElem? (i := 2) rfl)) (S.2.2.2.2 _ (List.mem_of_getElem? (i := 3) rfl)) (S.2.2.2.2 _ (List.mem_of_getElem? (i := 4) rfl)) (S.2.2.2.2 _ (List.mem_of_getElem? (i := 5) rfl)) (Nat.le_of_ble_eq_true rfl) (Nat.le_of_ble_eq_true rfl) (Nat.zero_le _) (Nat.zero_le _) dX3_leastThrough_83 ?_
                refine top_eq (y := mmin z ((prI (C (a * 10 + i))) + (prI (C (i * 10 + b))))) rfl ?_
                refine lv_istore (lv' := [(4, .int (mmin z ((prI (C (a * 10 + i))) + (prI (C (i * 10 + b)))))), (6, .int ((prI (C (a * 10 + i))) + (prI (C (i * 10 + b))))), (0, .ref (q 2)), (1, .int (nI a)), (2, .int (nI b)), (3, .int x), (5, .int (nI i))]) S.1 S.2.1 dX3_leastThrough_86 hl (by decide) rfl (fun ls hl => ?_)
                refine lv_iinc (v := nI (i + 1)) (lv' := [(5, .int (nI (i + 1))), (4, .int (mmin z ((prI (C (a * 10 + i))) + (prI (C (i * 10 + b)))))), (6, .int ((prI (C (a * 10 + i))) + (prI (C (i * 10 + b))))), (0, .ref (q 2)), (1, .int (nI a)), (2, .int (nI b)), (3, .int x)]) (k := 6) S.1 S.2.1 dX3_leastThrough_88 hl rfl (nI_1 _) (by decide) rfl (fun ls hl => ?_)
                refine lv_goto (tgt := 8) S.1 S.2.1 dX3_leastThrough_91 (by decide) ?_
                exact ih8 (mmin z ((prI (C (a * 10 + i))) + (prI (C (i * 10 + b))))) (i + 1) (by simp only [ltS, ← hz, c_17, c_26, c_36, c_46, c_71, eq_self, Nat.add_zero, decide_false, decide_true, Bool.not_true, Bool.not_false, Bool.and_true, Bool.true_and, Bool.and_false, Bool.false_and, Bool.or_true, Bool.true_or, Bool.or_false, Bool.false_or, ↓reduceIte, cond_true, cond_false, bI, and_true, true_and, and_false, false_and, or_true, true_or, or_false, false_or, not_true_eq_false, not_false_eq_true, if_true, if_false, Bool.false_eq_true, reduceCtorEq, ite_true, ite_false]) (by omega) (by omega) _ _ _ hW (lv_sub hl [3, 4, 5, 6, 1, 0] rfl)
              · skip
                refine lv_iload S.1 S.2.1 dX3_leastThrough_74 (lv_at hl 0 rfl) ?_
                refine lv_goto (tgt := 86) S.1 S.2.1 dX3_leastThrough_76 (by decide) ?_
                refine lv_istore (lv' := [(4, .int ((prI (C (a * 10 + i))) + (prI (C (i * 10 + b))))), (6, .int ((prI (C (a * 10 + i))) + (prI (C (i * 10 + b))))), (0, .ref (q 2)), (1, .int (nI a)), (2, .int (nI b)), (3, .int x), (5, .int (nI i))]) S.1 S.2.1 dX3_leastThrough_86 hl (by decide) rfl (fun ls hl => ?_)
                refine lv_iinc (v := nI (i + 1)) (lv' := [(5, .int (nI (i + 1))), (4, .int ((prI (C (a * 10 + i))) + (prI (C (i * 10 + b))))), (6, .int ((prI (C (a * 10 + i))) + (prI (C (i * 10 + b))))), (0, .ref (q 2)), (1, .int (nI a)), (2, .int (nI b)), (3, .int x)]) (k := 6) S.1 S.2.1 dX3_leastThrough_88 hl rfl (nI_1 _) (by decide) rfl (fun ls hl => ?_)
                refine lv_goto (tgt := 8) S.1 S.2.1 dX3_leastThrough_91 (by decide) ?_
                exact ih8 ((prI (C (a * 10 + i))) + (prI (C (i * 10 + b)))) (i + 1) (by simp only [ltS, ← hz, c_17, c_26, c_36, c_46, c_71, eq_self, Nat.add_zero, decide_false, decide_true, Bool.not_true, Bool.not_false, Bool.and_true, Bool.true_and, Bool.and_false, Bool.false_and, Bool.or_true, Bool.true_or, Bool.or_false, Bool.false_or, ↓reduceIte, cond_true, cond_false, bI, and_true, true_and, and_false, false_and, or_true, true_or, or_false, false_or, not_true_eq_false, not_false_eq_true, if_true, if_false, Bool.false_eq_true, reduceCtorEq, ite_true, ite_false]) (by omega) (by omega) _ _ _ hW (lv_sub hl [3, 4, 5, 6, 1, 0] rfl)
  exact L8 ((gN g) + 1) (-1000) 0 rfl (by omega) (by omega) _ _ _ hW (lv_sub hl [2, 3, 4, 5, 1, 0] rfl)
abbrev r_X3_countLinked : Room := { frames := 2, cells := 0, slots := 0, locals := 43 }
theorem v_X3_countLinked : yX3_countLinked.cls ≠ "java/lang/invoke/MethodHandle" ∧ yX3_countLinked.cls ≠ "java/lang/invoke/VarHandle" ∧ (parseMethodDescriptor yX3_countLinked.desc).map (fun d => d.parameters.length) = some 0 := by decide +kernel
set_option maxRecDepth 100000 in
set_option maxHeartbeats 4000000 in
theorem c_X3_countLinked {l : Launch} {D : va_G} {cI cZ : ClassId} {q : Nat → Nat} {qf : Nat} {g : Gr} {C R : Nat → Int32} {rw len : Nat} {F : Nat → Int32} {sz : Nat} {X : Nat → Int32} {mk : Int32}  (G : Gok g) : cI_ l D cI cZ yX3_countLinked wsX3_countLinked r_X3_countLinked [.ref (q 2)] (wC q qf cI cZ g C R rw len F sz X mk) (fun r u => r = nI (clO C (gN g) (gN g)) ∧ u = wC q qf cI cZ g C R rw len F sz X mk) 0 0 := by
  refine cI_of (cc := cX3_countLinked) (maxL := 4) (rt := .int) (plainFor_of_name (by decide +kernel)) rfl (Nat.le_of_ble_eq_true rfl) ?_
  intro p e s m args below meth c A Q ls S hk hW hl hR
  have hl : lv_has ls 4 [(0, .ref (q 2))] := hl
  have hwsX30 : ∀ x ∈ wsX30, x ∈ wsX3_countLinked := fun x h => List.mem_cons_of_mem _ (List.mem_append_left _ (List.mem_append_right _ h))
  have hwsX10 : ∀ x ∈ wsX10, x ∈ wsX3_countLinked := fun x h => List.mem_cons_of_mem _ (List.mem_append_right _ h)
  have hN := Gok_N G; have hN2 := Gok_N2 G; have hKK := Gok_K G
  refine lv_iconst (v := nI 0) S.1 S.2.1 dX3_countLinked_0 (by decide) ?_
  refine lv_istore_n (lv' := [(1, .int (nI 0)), (0, .ref (q 2))]) S.1 S.2.1 dX3_countLinked_1 rfl hl (by decide) rfl (fun ls hl => ?_)
  refine lv_iconst (v := nI 0) S.1 S.2.1 dX3_countLinked_2 (by decide) ?_
  refine lv_istore_n (lv' := [(2, .int (nI 0)), (1, .int (nI 0)), (0, .ref (q 2))]) S.1 S.2.1 dX3_countLinked_3 rfl hl (by decide) rfl (fun ls hl => ?_)
  have L4 : ∀ (dd : Nat), ∀ (n : Nat), ∀ (a : Nat), (n = clO C (gN g) a) → (a ≤ gN g) → gN g < a + dd → ∀ (H : Heap) (locs : List Loc) (ls : Array Slot), wd D A s H locs (wC q qf cI cZ g C R rw len F sz X mk) → lv_has ls 4 [(0, .ref (q 2)), (1, .int (nI n)), (2, .int (nI a))] → W p l e r_X3_countLinked s m args below meth c H locs 0 0 Q (F0 m 4 ls []) := by
    intro dd
    induction dd with
    | zero => intros; omega
    | succ dd ih4 =>
      intro n a hn ha hdd H locs ls hW hl
      refine lv_iload_n S.1 S.2.1 dX3_countLinked_4 rfl (lv_at hl 2 rfl) ?_
      refine lv_aload_n S.1 S.2.1 dX3_countLinked_5 rfl (lv_at hl 0 rfl) ?_
      refine gf S hk hW 2 rfl rfl hwsX30 0 (by decide) 1 rfl rfl dX3_countLinked_6 ?_
      refine gfN (host := RX4) S hk hW 1 rfl rfl hwsX10 5 (by decide) 7 rfl rfl dX3_countLinked_9 ?_
      refine icge_n (tgt := 57) S (by omega) (by omega) dX3_countLinked_12 (by decide) (fun c_12 => ?_) (fun c_12 => ?_)
      · skip
        refine lv_iload_n S.1 S.2.1 dX3_countLinked_57 rfl (lv_at hl 1 rfl) ?_
        exact hR _ _ _ _ _ _ _ _ dX3_countLinked_58 rfl (Nat.le_of_ble_eq_true rfl) (Nat.le_of_ble_eq_true rfl) hW ⟨by rw [hn, show a = gN g by omega], rfl⟩
      · skip
        refine lv_iconst (v := nI 0) S.1 S.2.1 dX3_countLinked_15 (by decide) ?_
        refine lv_istore_n (lv' := [(3, .int (nI 0)), (0, .ref (q 2)), (1, .int (nI n)), (2, .int (nI a))]) S.1 S.2.1 dX3_countLinked_16 rfl hl (by decide) rfl (fun ls hl => ?_)
        have L17 : ∀ (dd : Nat), ∀ (n2 : Nat), ∀ (b : Nat), (n2 = clO C (gN g) a + clI C a b) → (b ≤ gN g) → gN g < b + dd → ∀ (H : Heap) (locs : List Loc) (ls : Array Slot), wd D A s H locs (wC q qf cI cZ g C R rw len F sz X mk) → lv_has ls 4 [(0, .ref (q 2)), (1, .int (nI n2)), (2, .int (nI a)), (3, .int (nI b))] → W p l e r_X3_countLinked s m args below meth c H locs 0 0 Q (F0 m 17 ls []) := by
          intro dd
          induction dd with
          | zero => intros; omega
          | succ dd ih17 =>
            intro n2 b hn2 hb hdd H locs ls hW hl
            refine lv_iload_n S.1 S.2.1 dX3_countLinked_17 rfl (lv_at hl 3 rfl) ?_
            refine lv_aload_n S.1 S.2.1 dX3_countLinked_18 rfl (lv_at hl 0 rfl) ?_
            refine gf S hk hW 2 rfl rfl hwsX30 0 (by decide) 1 rfl rfl dX3_countLinked_19 ?_
            refine gfN (host := RX4) S hk hW 1 rfl rfl hwsX10 5 (by decide) 7 rfl rfl dX3_countLinked_22 ?_
            refine icge_n (tgt := 51) S (by omega) (by omega) dX3_countLinked_25 (by decide) (fun c_25 => ?_) (fun c_25 => ?_)
            · skip
              refine lv_iinc (v := nI (a + 1)) (lv' := [(2, .int (nI (a + 1))), (0, .ref (q 2)), (1, .int (nI n2)), (3, .int (nI b))]) (k := 2) S.1 S.2.1 dX3_countLinked_51 hl rfl (nI_1 _) (by decide) rfl (fun ls hl => ?_)
              refine lv_goto (tgt := 4) S.1 S.2.1 dX3_countLinked_54 (by decide) ?_
              exact ih4 n2 (a + 1) (by rw [hn2, show b = gN g by omega]; rfl) (by omega) (by omega) _ _ _ hW (lv_sub hl [1, 2, 0] rfl)
            · skip
              refine lv_iload_n S.1 S.2.1 dX3_countLinked_28 rfl (lv_at hl 2 rfl) ?_
              refine lv_iload_n S.1 S.2.1 dX3_countLinked_29 rfl (lv_at hl 3 rfl) ?_
              refine iceq_n (tgt := 45) S (by omega) (by omega) dX3_countLinked_30 (by decide) (fun c_30 => ?_) (fun c_30 => ?_)
              · skip
                refine lv_iinc (v := nI (b + 1)) (lv' := [(3, .int (nI (b + 1))), (0, .ref (q 2)), (1, .int (nI n2)), (2, .int (nI a))]) (k := 3) S.1 S.2.1 dX3_countLinked_45 hl rfl (nI_1 _) (by decide) rfl (fun ls hl => ?_)
                refine lv_goto (tgt := 17) S.1 S.2.1 dX3_countLinked_48 (by decide) ?_
                exact ih17 n2 (b + 1) (by simp only [clI, if_pos c_30, eq_self, Nat.add_zero, decide_false, decide_true, Bool.not_true, Bool.not_false, Bool.and_true, Bool.true_and, Bool.and_false, Bool.false_and, Bool.or_true, Bool.true_or, Bool.or_false, Bool.false_or, ↓reduceIte, cond_true, cond_false, bI, and_true, true_and, and_false, false_and, or_true, true_or, or_false, false_or, not_true_eq_false, not_false_eq_true, if_true, if_false, Bool.false_eq_true, reduceCtorEq, ite_true, ite_false]; omega) (by omega) (by omega) _ _ _ hW (lv_sub hl [1, 2, 3, 0] rfl)
              · skip
                refine lv_aload_n S.1 S.2.1 dX3_countLinked_33 rfl (lv_at hl 0 rfl) ?_
                refine lv_iload_n S.1 S.2.1 dX3_countLinked_34 rfl (lv_at hl 2 rfl) ?_
                refine lv_iload_n S.1 S.2.1 dX3_countLinked_35 rfl (lv_at hl 3 rfl) ?_
                refine kVi S (c_X3_leads (l := l) (D := D) (cI := cI) (cZ := cZ) (by first | assumption | omega) (by first | assumption | omega)) (cwV 2 S.2.2.2.2 gX3_countLinked_X3_leads rfl rfl rfl ⟨rfl, v_X3_leads⟩ ⟨(Nat.le_of_ble_eq_true rfl), (Nat.le_of_ble_eq_true rfl)⟩) hk hW 2 rfl rfl rfl rfl hl rfl (Nat.le_of_ble_eq_true rfl) dX3_countLinked_36 ⟨(Nat.le_of_ble_eq_true rfl), (Nat.le_of_ble_eq_true rfl)⟩ (fun r u H locs hp hW => ?_)
                obtain ⟨rfl, rfl⟩ := hp
                refine ifeq_b (tgt := 45) S dX3_countLinked_39 (by decide) (fun c_39 => ?_) (fun c_39 => ?_)
                · skip
                  refine lv_iinc (v := nI (b + 1)) (lv' := [(3, .int (nI (b + 1))), (0, .ref (q 2)), (1, .int (nI n2)), (2, .int (nI a))]) (k := 3) S.1 S.2.1 dX3_countLinked_45 hl rfl (nI_1 _) (by decide) rfl (fun ls hl => ?_)
                  refine lv_goto (tgt := 17) S.1 S.2.1 dX3_countLinked_48 (by decide) ?_
                  exact ih17 n2 (b + 1) (by simp only [clI, if_neg c_30, c_39, eq_self, Nat.add_zero, decide_false, decide_true, Bool.not_true, Bool.not_false, Bool.and_true, Bool.true_and, Bool.and_false, Bool.false_and, Bool.or_true, Bool.true_or, Bool.or_false, Bool.false_or, ↓reduceIte, cond_true, cond_false, bI, and_true, true_and, and_false, false_and, or_true, true_or, or_false, false_or, not_true_eq_false, not_false_eq_true, if_true, if_false, Bool.false_eq_true, reduceCtorEq, ite_true, ite_false]; omega) (by omega) (by omega) _ _ _ hW (lv_sub hl [1, 2, 3, 0] rfl)
                · skip
                  refine lv_iinc (v := nI (n2 + 1)) (lv' := [(1, .int (nI (n2 + 1))), (0, .ref (q 2)), (2, .int (nI a)), (3, .int (nI b))]) (k := 1) S.1 S.2.1 dX3_countLinked_42 hl rfl (nI_1 _) (by decide) rfl (fun ls hl => ?_)
                  refine lv_iinc (v := nI (b + 1)) (lv' := [(3, .int (nI (b + 1))), (1, .int (nI (n2 + 1))), (0, .ref (q 2)), (2, .int (nI a))]) (k := 3) S.1 S.2.1 dX3_countLinked_45 hl rfl (nI_1 _) (by decide) rfl (fun ls hl => ?_)
                  refine lv_goto (tgt := 17) S.1 S.2.1 dX3_countLinked_48 (by decide) ?_
                  exact ih17 (n2 + 1) (b + 1) (by simp only [clI, if_neg c_30, c_39, eq_self, Nat.add_zero, decide_false, decide_true, Bool.not_true, Bool.not_false, Bool.and_true, Bool.true_and, Bool.and_false, Bool.false_and, Bool.or_true, Bool.true_or, Bool.or_false, Bool.false_or, ↓reduceIte, cond_true, cond_false, bI, and_true, true_and, and_false, false_and, or_true, true_or, or_false, false_or, not_true_eq_false, not_false_eq_true, if_true, if_false, Bool.false_eq_true, reduceCtorEq, ite_true, ite_false]; omega) (by omega) (by omega) _ _ _ hW (lv_sub hl [2, 1, 3, 0] rfl)
        exact L17 ((gN g) + 1) n 0 hn (by omega) (by omega) _ _ _ hW (lv_sub hl [1, 2, 3, 0] rfl)
  exact L4 ((gN g) + 1) 0 0 rfl (by omega) (by omega) _ _ _ hW (lv_sub hl [2, 1, 0] rfl)
abbrev r_X3_measure : Room := { frames := 3, cells := 0, slots := 0, locals := 74 }
theorem v_X3_measure : yX3_measure.cls ≠ "java/lang/invoke/MethodHandle" ∧ yX3_measure.cls ≠ "java/lang/invoke/VarHandle" ∧ (parseMethodDescriptor yX3_measure.desc).map (fun d => d.parameters.length) = some 0 := by decide +kernel
set_option maxRecDepth 100000 in
set_option maxHeartbeats 4000000 in
theorem c_X3_measure {l : Launch} {D : va_G} {cI cZ : ClassId} {q : Nat → Nat} {qf : Nat} {g : Gr} {C R : Nat → Int32} {rw len : Nat} {F : Nat → Int32} {sz : Nat} {X : Nat → Int32} {mk : Int32}  (G : Gok g) : cV_ l D cI cZ yX3_measure wsX3_measure r_X3_measure [.ref (q 2)] (wC q qf cI cZ g C R rw len F sz X mk) (fun u => ∃ C' R', (∀ p, p < 100 → C' p = cst g (gN g) p) ∧ u = wC q qf cI cZ g C' R' rw len F sz X mk) 0 0 := by
  refine cV_of (cc := cX3_measure) (maxL := 2) (plainFor_of_name (by decide +kernel)) rfl (Nat.le_of_ble_eq_true rfl) ?_
  intro p e s m args below meth c A Q ls S hnm hk hW hl hR
  have hl : lv_has ls 2 [(0, .ref (q 2))] := hl
  have hwsX30 : ∀ x ∈ wsX30, x ∈ wsX3_measure := fun x h => List.mem_cons_of_mem _ (List.mem_append_left _ (List.mem_append_right _ h))
  have hwsX10 : ∀ x ∈ wsX10, x ∈ wsX3_measure := fun x h => List.mem_cons_of_mem _ (List.mem_append_right _ h)
  have hN := Gok_N G; have hN2 := Gok_N2 G; have hKK := Gok_K G
  refine lv_aload_n S.1 S.2.1 dX3_measure_0 rfl (lv_at hl 0 rfl) ?_
  refine gf S hk hW 2 rfl rfl hwsX30 1 (by decide) 1 rfl rfl dX3_measure_1 ?_
  refine lv_ldc (v := 1073741824) S.1 S.2.1 S.2.2.2.1 (S.2.2.2.2 _ (List.mem_of_getElem? (i := 2) rfl)) dX3_measure_4 ?_
  refine kSv S (c_J7_fill_53178 (l := l) (D := D) (cI := cI) (cZ := cZ) (q0 := 10) rfl (by omega)) (va_cwS 2 S.2.2.2.2 gX3_measure_J7_fill_53178 rfl rfl rfl v_J7_fill_53178 ⟨(Nat.le_of_ble_eq_true rfl), (Nat.le_of_ble_eq_true rfl)⟩) hk hW rfl hl rfl (Nat.le_of_ble_eq_true rfl) dX3_measure_6 ⟨(Nat.le_of_ble_eq_true rfl), (Nat.le_of_ble_eq_true rfl)⟩ (fun u H locs hp hW => ?_)
  subst hp
  have hW : wd D A s H locs (wC q qf cI cZ g (fun _ => 1073741824) R rw len F sz X mk) := hW
  refine lv_iconst (v := nI 0) S.1 S.2.1 dX3_measure_9 (by decide) ?_
  refine lv_istore_n (lv' := [(1, .int (nI 0)), (0, .ref (q 2))]) S.1 S.2.1 dX3_measure_10 rfl hl (by decide) rfl (fun ls hl => ?_)
  have L11 : ∀ (dd : Nat), ∀ (i : Nat), ∀ (C1 : Nat → Int32), ∀ (R1 : Nat → Int32), (∀ p, p < 100 → C1 p = cst g i p) → (i ≤ gN g) → gN g < i + dd → ∀ (H : Heap) (locs : List Loc) (ls : Array Slot), wd D A s H locs (wC q qf cI cZ g C1 R1 rw len F sz X mk) → lv_has ls 2 [(0, .ref (q 2)), (1, .int (nI i))] → W p l e r_X3_measure s m args below meth c H locs 0 0 Q (F0 m 11 ls []) := by
    intro dd
    induction dd with
    | zero => intros; omega
    | succ dd ih11 =>
      intro i C1 R1 hC hi hdd H locs ls hW hl
      refine lv_iload_n S.1 S.2.1 dX3_measure_11 rfl (lv_at hl 1 rfl) ?_
      refine lv_aload_n S.1 S.2.1 dX3_measure_12 rfl (lv_at hl 0 rfl) ?_
      refine gf S hk hW 2 rfl rfl hwsX30 0 (by decide) 3 rfl rfl dX3_measure_13 ?_
      refine gfN (host := RX4) S hk hW 1 rfl rfl hwsX10 5 (by decide) 7 rfl rfl dX3_measure_16 ?_
      refine icge_n (tgt := 54) S (by omega) (by omega) dX3_measure_19 (by decide) (fun c_19 => ?_) (fun c_19 => ?_)
      · skip
        exact hR _ _ _ _ _ _ _ dX3_measure_54 (Nat.le_of_ble_eq_true rfl) (Nat.le_of_ble_eq_true rfl) hW ⟨C1, R1, by rw [← show i = gN g by omega]; exact hC, rfl⟩
      · skip
        refine lv_aload_n S.1 S.2.1 dX3_measure_22 rfl (lv_at hl 0 rfl) ?_
        refine lv_iload_n S.1 S.2.1 dX3_measure_23 rfl (lv_at hl 1 rfl) ?_
        refine lv_iconst (v := (-1)) S.1 S.2.1 dX3_measure_24 (by decide) ?_
        refine lv_iconst (v := (-1)) S.1 S.2.1 dX3_measure_25 (by decide) ?_
        refine kVv S (c_X3_spread (l := l) (D := D) (cI := cI) (cZ := cZ) G (by first | assumption | omega)) (cwV 3 S.2.2.2.2 gX3_measure_X3_spread rfl rfl rfl ⟨rfl, v_X3_spread⟩ ⟨(Nat.le_of_ble_eq_true rfl), (Nat.le_of_ble_eq_true rfl)⟩) hk hW 2 rfl rfl rfl rfl hl rfl (Nat.le_of_ble_eq_true rfl) dX3_measure_26 ⟨(Nat.le_of_ble_eq_true rfl), (Nat.le_of_ble_eq_true rfl)⟩ (fun u H locs hp hW => ?_)
        subst hp
        refine lv_aload_n S.1 S.2.1 dX3_measure_29 rfl (lv_at hl 0 rfl) ?_
        refine gf S hk hW 2 rfl rfl hwsX30 2 (by decide) 4 rfl rfl dX3_measure_30 ?_
        refine lv_iconst (v := nI 0) S.1 S.2.1 dX3_measure_33 (by decide) ?_
        refine lv_aload_n S.1 S.2.1 dX3_measure_34 rfl (lv_at hl 0 rfl) ?_
        refine gf S hk hW 2 rfl rfl hwsX30 1 (by decide) 1 rfl rfl dX3_measure_35 ?_
        refine lv_iload_n S.1 S.2.1 dX3_measure_38 rfl (lv_at hl 1 rfl) ?_
        refine lv_iconst (v := nI 0) S.1 S.2.1 dX3_measure_39 (by decide) ?_
        refine kNi S (c_X4_pairOf (l := l) (D := D) (cI := cI) (cZ := cZ)) ⟨va_cnB (host := RX4) 2 S.2.2.2.2 gX3_measure_X4_pairOf_n39 rfl rfl rfl (hk.2.1 _ (List.mem_of_getElem? (i := 14) rfl)) (S.2.2.2.2 _ (List.mem_of_getElem? (i := 38) rfl)) v_X4_pairOf ⟨(Nat.le_of_ble_eq_true rfl), (Nat.le_of_ble_eq_true rfl)⟩, S.2.2.2.2 _ (List.mem_of_getElem? (i := 37) rfl), trivial⟩ hk hW rfl hl rfl (Nat.le_of_ble_eq_true rfl) dX3_measure_40 ⟨(Nat.le_of_ble_eq_true rfl), (Nat.le_of_ble_eq_true rfl)⟩ (fun r u H locs hp hW => ?_)
        obtain ⟨rfl, rfl⟩ := hp
        refine lv_bipush (v := nI 10) S.1 S.2.1 dX3_measure_43 (by decide) ?_
        refine acpy (w' := wC q qf cI cZ g (va_cpy (spr g (-1) (-1) i) C1 0 (i * 10 + 0) 10) (spr g (-1) (-1) i) rw len F sz X mk) S hk hW (S.2.2.1.trans hl.1.symm) 5 6 7 8 11 10 rfl rfl rfl rfl rfl rfl (sp := 0) (dp := i * 10 + 0) (nn := 10) (by omega) (by omega) (by omega) (by omega) (by omega) (Nat.le_of_ble_eq_true rfl) (Nat.le_of_ble_eq_true rfl) dX3_measure_45 rfl (fun H locs hW => ?_)
        refine lv_iinc (v := nI (i + 1)) (lv' := [(1, .int (nI (i + 1))), (0, .ref (q 2))]) (k := 1) S.1 S.2.1 dX3_measure_48 hl rfl (nI_1 _) (by decide) rfl (fun ls hl => ?_)
        refine lv_goto (tgt := 11) S.1 S.2.1 dX3_measure_51 (by decide) ?_
        exact ih11 (i + 1) (va_cpy (spr g (-1) (-1) i) C1 0 (i * 10 + 0) 10) (spr g (-1) (-1) i) (cst_step hC (by omega)) (by omega) (by omega) _ _ _ hW (lv_sub hl [1, 0] rfl)
  exact L11 ((gN g) + 1) 0 (fun _ => 1073741824) R (fun p hp => by simp only [cst, Nat.not_lt_zero, if_false]) (by omega) (by omega) _ _ _ hW (lv_sub hl [1, 0] rfl)
