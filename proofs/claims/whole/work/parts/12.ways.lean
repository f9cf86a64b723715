abbrev r_X4_lower : Room := { frames := 0, cells := 0, slots := 0, locals := 0 }
theorem v_X4_lower : yX4_lower.cls ≠ "java/lang/invoke/MethodHandle" ∧ yX4_lower.cls ≠ "java/lang/invoke/VarHandle" ∧ (parseMethodDescriptor yX4_lower.desc).map (fun d => d.parameters.length) = some 3 := by decide +kernel
set_option maxRecDepth 100000 in
set_option maxHeartbeats 4000000 in
theorem c_X4_lower {l : Launch} {D : va_G} {cI cZ cF : ClassId} {q : Nat → Nat} {qf : Nat → Nat} {g : Gr} {C R : Nat → Int32} {rw len : Nat} {F : Nat → Int32} {sz : Nat} {X : Nat → Int32} {mk : Int32} {a b : Nat} {v : Int32} (ha : a < 10) (hb : b < 10) : cI_ l D cI cZ cF yX4_lower wsX4_lower r_X4_lower [.ref (q 2), .int (nI a), .int (nI b), .int v] (wC q qf cI cZ cF g C R rw len F sz X mk) (fun r u => r = bI (lowB R a b v) ∧ u = wC q qf cI cZ cF g C (low R a b v) rw len F sz X mk) 0 0 := by
  refine cI_of (cc := cX4_lower) (maxL := 4) (rt := .boolean) (plainFor_of_name (by decide +kernel)) rfl (Nat.le_of_ble_eq_true rfl) ?_
  intro p e s m args below meth c A Q ls S hk hW hl hR
  have hl : lv_has ls 4 [(0, .ref (q 2)), (1, .int (nI a)), (2, .int (nI b)), (3, .int v)] := hl
  have hwsX40 : ∀ x ∈ wsX40, x ∈ wsX4_lower := fun x h => List.mem_cons_of_mem _ (List.mem_append_right _ h)
  refine lv_aload_n S.1 S.2.1 dX4_lower_0 rfl (lv_at hl 0 rfl) ?_
  refine gf S hk hW 2 rfl rfl hwsX40 2 (by decide) 1 rfl rfl dX4_lower_1 ?_
  refine lv_iload_n S.1 S.2.1 dX4_lower_4 rfl (lv_at hl 1 rfl) ?_
  refine ild S hk hW 11 rfl a rfl (by omega) (by omega) dX4_lower_5 ?_
  refine lv_ldc (v := 1073741824) S.1 S.2.1 S.2.2.2.1 (S.2.2.2.2 _ (List.mem_of_getElem? (i := 2) rfl)) dX4_lower_6 ?_
  refine lv_icmp_eq (tgt := 28) S.1 S.2.1 dX4_lower_8 (by decide) (fun c_8 => ?_) (fun c_8 => ?_)
  · skip
    refine lv_iconst (v := nI 0) S.1 S.2.1 dX4_lower_28 (by decide) ?_
    have hlow : low R a b v = R := by simp only [low, eq_true c_8, eq_self, Nat.add_zero, decide_false, decide_true, Bool.not_true, Bool.not_false, Bool.and_true, Bool.true_and, Bool.and_false, Bool.false_and, Bool.or_true, Bool.true_or, Bool.or_false, Bool.false_or, ↓reduceIte, cond_true, cond_false, bI, and_true, true_and, and_false, false_and, or_true, true_or, or_false, false_or, not_true_eq_false, not_false_eq_true, if_true, if_false, Bool.false_eq_true, reduceCtorEq, ite_true, ite_false]
    rw [← hlow] at hW
    exact hR _ _ _ _ _ _ _ _ dX4_lower_29 rfl (Nat.le_of_ble_eq_true rfl) (Nat.le_of_ble_eq_true rfl) hW ⟨(by simp only [lowB, eq_true c_8, eq_self, Nat.add_zero, decide_false, decide_true, Bool.not_true, Bool.not_false, Bool.and_true, Bool.true_and, Bool.and_false, Bool.false_and, Bool.or_true, Bool.true_or, Bool.or_false, Bool.false_or, ↓reduceIte, cond_true, cond_false, bI, and_true, true_and, and_false, false_and, or_true, true_or, or_false, false_or, not_true_eq_false, not_false_eq_true, if_true, if_false, Bool.false_eq_true, reduceCtorEq, ite_true, ite_false]), rfl⟩
  · skip
    refine lv_aload_n S.1 S.2.1 dX4_lower_11 rfl (lv_at hl 0 rfl) ?_
    refine gf S hk hW 2 rfl rfl hwsX40 2 (by decide) 1 rfl rfl dX4_lower_12 ?_
    refine lv_iload_n S.1 S.2.1 dX4_lower_15 rfl (lv_at hl 1 rfl) ?_
    refine ild S hk hW 11 rfl a rfl (by omega) (by omega) dX4_lower_16 ?_
    refine lv_iload_n S.1 S.2.1 dX4_lower_17 rfl (lv_at hl 3 rfl) ?_
    refine lv_iadd S.1 S.2.1 dX4_lower_18 ?_
    refine lv_aload_n S.1 S.2.1 dX4_lower_19 rfl (lv_at hl 0 rfl) ?_
    refine gf S hk hW 2 rfl rfl hwsX40 2 (by decide) 1 rfl rfl dX4_lower_20 ?_
    refine lv_iload_n S.1 S.2.1 dX4_lower_23 rfl (lv_at hl 2 rfl) ?_
    refine ild S hk hW 11 rfl b rfl (by omega) (by omega) dX4_lower_24 ?_
    refine lv_icmp_lt (tgt := 30) S.1 S.2.1 dX4_lower_25 (by decide) (fun c_25 => ?_) (fun c_25 => ?_)
    · skip
      refine lv_aload_n S.1 S.2.1 dX4_lower_30 rfl (lv_at hl 0 rfl) ?_
      refine gf S hk hW 2 rfl rfl hwsX40 2 (by decide) 1 rfl rfl dX4_lower_31 ?_
      refine lv_iload_n S.1 S.2.1 dX4_lower_34 rfl (lv_at hl 2 rfl) ?_
      refine lv_aload_n S.1 S.2.1 dX4_lower_35 rfl (lv_at hl 0 rfl) ?_
      refine gf S hk hW 2 rfl rfl hwsX40 2 (by decide) 1 rfl rfl dX4_lower_36 ?_
      refine lv_iload_n S.1 S.2.1 dX4_lower_39 rfl (lv_at hl 1 rfl) ?_
      refine ild S hk hW 11 rfl a rfl (by omega) (by omega) dX4_lower_40 ?_
      refine lv_iload_n S.1 S.2.1 dX4_lower_41 rfl (lv_at hl 3 rfl) ?_
      refine lv_iadd S.1 S.2.1 dX4_lower_42 ?_
      refine ist (w' := wC q qf cI cZ cF g C (upd R b ((R a) + v)) rw len F sz X mk) S hk hW 11 rfl b rfl (by omega) (by omega) dX4_lower_43 rfl (fun H locs hW => ?_)
      refine lv_iconst (v := nI 1) S.1 S.2.1 dX4_lower_44 (by decide) ?_
      have hlow : low R a b v = upd R b (R a + v) := by simp only [low, eq_false c_8, eq_true c_25, eq_self, Nat.add_zero, decide_false, decide_true, Bool.not_true, Bool.not_false, Bool.and_true, Bool.true_and, Bool.and_false, Bool.false_and, Bool.or_true, Bool.true_or, Bool.or_false, Bool.false_or, ↓reduceIte, cond_true, cond_false, bI, and_true, true_and, and_false, false_and, or_true, true_or, or_false, false_or, not_true_eq_false, not_false_eq_true, if_true, if_false, Bool.false_eq_true, reduceCtorEq, ite_true, ite_false]
      rw [← hlow] at hW
      exact hR _ _ _ _ _ _ _ _ dX4_lower_45 rfl (Nat.le_of_ble_eq_true rfl) (Nat.le_of_ble_eq_true rfl) hW ⟨(by simp only [lowB, eq_false c_8, eq_true c_25, eq_self, Nat.add_zero, decide_false, decide_true, Bool.not_true, Bool.not_false, Bool.and_true, Bool.true_and, Bool.and_false, Bool.false_and, Bool.or_true, Bool.true_or, Bool.or_false, Bool.false_or, ↓reduceIte, cond_true, cond_false, bI, and_true, true_and, and_false, false_and, or_true, true_or, or_false, false_or, not_true_eq_false, not_false_eq_true, if_true, if_false, Bool.false_eq_true, reduceCtorEq, ite_true, ite_false]), rfl⟩
    · skip
      refine lv_iconst (v := nI 0) S.1 S.2.1 dX4_lower_28 (by decide) ?_
      have hlow : low R a b v = R := by simp only [low, eq_false c_8, eq_false c_25, eq_self, Nat.add_zero, decide_false, decide_true, Bool.not_true, Bool.not_false, Bool.and_true, Bool.true_and, Bool.and_false, Bool.false_and, Bool.or_true, Bool.true_or, Bool.or_false, Bool.false_or, ↓reduceIte, cond_true, cond_false, bI, and_true, true_and, and_false, false_and, or_true, true_or, or_false, false_or, not_true_eq_false, not_false_eq_true, if_true, if_false, Bool.false_eq_true, reduceCtorEq, ite_true, ite_false]
      rw [← hlow] at hW
      exact hR _ _ _ _ _ _ _ _ dX4_lower_29 rfl (Nat.le_of_ble_eq_true rfl) (Nat.le_of_ble_eq_true rfl) hW ⟨(by simp only [lowB, eq_false c_8, eq_false c_25, eq_self, Nat.add_zero, decide_false, decide_true, Bool.not_true, Bool.not_false, Bool.and_true, Bool.true_and, Bool.and_false, Bool.false_and, Bool.or_true, Bool.true_or, Bool.or_false, Bool.false_or, ↓reduceIte, cond_true, cond_false, bI, and_true, true_and, and_false, false_and, or_true, true_or, or_false, false_or, not_true_eq_false, not_false_eq_true, if_true, if_false, Bool.false_eq_true, reduceCtorEq, ite_true, ite_false]), rfl⟩
abbrev r_X4_relax : Room := { frames := 1, cells := 0, slots := 0, locals := 23 }
theorem v_X4_relax : yX4_relax.cls ≠ "java/lang/invoke/MethodHandle" ∧ yX4_relax.cls ≠ "java/lang/invoke/VarHandle" ∧ (parseMethodDescriptor yX4_relax.desc).map (fun d => d.parameters.length) = some 1 := by decide +kernel
set_option maxRecDepth 100000 in
set_option maxHeartbeats 4000000 in
theorem c_X4_relax {l : Launch} {D : va_G} {cI cZ cF : ClassId} {q : Nat → Nat} {qf : Nat → Nat} {g : Gr} {C R : Nat → Int32} {rw len : Nat} {F : Nat → Int32} {sz : Nat} {X : Nat → Int32} {mk : Int32} {j : Nat} (G : Gok g) (hj : j < gK g) : cI_ l D cI cZ cF yX4_relax wsX4_relax r_X4_relax [.ref (q 2), .int (nI j)] (wC q qf cI cZ cF g C R rw len F sz X mk) (fun r u => r = bI (rlxB g R j) ∧ u = wC q qf cI cZ cF g C (rlx g R j) rw len F sz X mk) 0 0 := by
  refine cI_of (cc := cX4_relax) (maxL := 6) (rt := .boolean) (plainFor_of_name (by decide +kernel)) rfl (Nat.le_of_ble_eq_true rfl) ?_
  intro p e s m args below meth c A Q ls S hk hW hl hR
  have hl : lv_has ls 6 [(0, .ref (q 2)), (1, .int (nI j))] := hl
  have hwsX40 : ∀ x ∈ wsX40, x ∈ wsX4_relax := fun x h => List.mem_cons_of_mem _ (List.mem_append_left _ (List.mem_append_right _ h))
  have hwsX20 : ∀ x ∈ wsX20, x ∈ wsX4_relax := fun x h => List.mem_cons_of_mem _ (List.mem_append_right _ h)
  have hN := Gok_N G; have hN2 := Gok_N2 G; have hKK := Gok_K G
  refine lv_aload_n S.1 S.2.1 dX4_relax_0 rfl (lv_at hl 0 rfl) ?_
  refine lv_iload_n S.1 S.2.1 dX4_relax_1 rfl (lv_at hl 1 rfl) ?_
  refine kVi S (c_X4_costOf (l := l) (D := D) (cI := cI) (cZ := cZ) (cF := cF) (by first | assumption | omega)) (cwV 1 S.2.2.2.2 gX4_relax_X4_costOf rfl rfl rfl ⟨rfl, v_X4_costOf⟩ ⟨(Nat.le_of_ble_eq_true rfl), (Nat.le_of_ble_eq_true rfl)⟩) hk hW 2 rfl rfl rfl rfl hl rfl (Nat.le_of_ble_eq_true rfl) dX4_relax_2 ⟨(Nat.le_of_ble_eq_true rfl), (Nat.le_of_ble_eq_true rfl)⟩ (fun r u H locs hp hW => ?_)
  obtain ⟨rfl, rfl⟩ := hp
  refine lv_istore_n (lv' := [(2, .int (cw g j)), (0, .ref (q 2)), (1, .int (nI j))]) S.1 S.2.1 dX4_relax_5 rfl hl (by decide) rfl (fun ls hl => ?_)
  refine lv_aload_n S.1 S.2.1 dX4_relax_6 rfl (lv_at hl 1 rfl) ?_
  refine gf S hk hW 2 rfl rfl hwsX40 0 (by decide) 1 rfl rfl dX4_relax_7 ?_
  refine gfN (host := RX5) S hk hW 1 rfl rfl hwsX20 0 (by decide) 10 rfl rfl dX4_relax_10 ?_
  refine lv_iload_n S.1 S.2.1 dX4_relax_13 rfl (lv_at hl 2 rfl) ?_
  refine ild S hk hW 5 rfl j rfl (by omega) (by omega) dX4_relax_14 ?_
  refine top_eq (Gok_B G (j := j) (by omega)) ?_
  have hb14 := Gok_B2 G (j := j) (by omega)
  refine lv_istore_n (lv' := [(3, .int (nI (e1 g j))), (2, .int (cw g j)), (0, .ref (q 2)), (1, .int (nI j))]) S.1 S.2.1 dX4_relax_15 rfl hl (by decide) rfl (fun ls hl => ?_)
  refine lv_aload_n S.1 S.2.1 dX4_relax_16 rfl (lv_at hl 2 rfl) ?_
  refine gf S hk hW 2 rfl rfl hwsX40 0 (by decide) 1 rfl rfl dX4_relax_17 ?_
  refine gfN (host := RX5) S hk hW 1 rfl rfl hwsX20 1 (by decide) 11 rfl rfl dX4_relax_20 ?_
  refine lv_iload_n S.1 S.2.1 dX4_relax_23 rfl (lv_at hl 3 rfl) ?_
  refine ild S hk hW 6 rfl j rfl (by omega) (by omega) dX4_relax_24 ?_
  refine top_eq (Gok_E G (j := j) (by omega)) ?_
  have hb24 := Gok_E2 G (j := j) (by omega)
  refine lv_istore (lv' := [(4, .int (nI (e2 g j))), (3, .int (nI (e1 g j))), (2, .int (cw g j)), (0, .ref (q 2)), (1, .int (nI j))]) S.1 S.2.1 dX4_relax_25 hl (by decide) rfl (fun ls hl => ?_)
  refine lv_aload_n S.1 S.2.1 dX4_relax_27 rfl (lv_at hl 3 rfl) ?_
  refine lv_iload_n S.1 S.2.1 dX4_relax_28 rfl (lv_at hl 1 rfl) ?_
  refine lv_iload S.1 S.2.1 dX4_relax_29 (lv_at hl 0 rfl) ?_
  refine lv_iload_n S.1 S.2.1 dX4_relax_31 rfl (lv_at hl 2 rfl) ?_
  refine kVi S (c_X4_lower (l := l) (D := D) (cI := cI) (cZ := cZ) (cF := cF) (by first | assumption | omega) (by first | assumption | omega)) (cwV 3 S.2.2.2.2 gX4_relax_X4_lower rfl rfl rfl ⟨rfl, v_X4_lower⟩ ⟨(Nat.le_of_ble_eq_true rfl), (Nat.le_of_ble_eq_true rfl)⟩) hk hW 2 rfl rfl rfl rfl hl rfl (Nat.le_of_ble_eq_true rfl) dX4_relax_32 ⟨(Nat.le_of_ble_eq_true rfl), (Nat.le_of_ble_eq_true rfl)⟩ (fun r u H locs hp hW => ?_)
  obtain ⟨rfl, rfl⟩ := hp
  refine lv_istore (lv' := [(5, .int (bI (lowB R (e1 g j) (e2 g j) (cw g j)))), (4, .int (nI (e2 g j))), (3, .int (nI (e1 g j))), (2, .int (cw g j)), (0, .ref (q 2)), (1, .int (nI j))]) S.1 S.2.1 dX4_relax_35 hl (by decide) rfl (fun ls hl => ?_)
  refine lv_aload_n S.1 S.2.1 dX4_relax_37 rfl (lv_at hl 4 rfl) ?_
  refine gf S hk hW 2 rfl rfl hwsX40 0 (by decide) 1 rfl rfl dX4_relax_38 ?_
  refine gfN (host := RX5) S hk hW 1 rfl rfl hwsX20 3 (by decide) 12 rfl rfl dX4_relax_41 ?_
  refine lv_iload_n S.1 S.2.1 dX4_relax_44 rfl (lv_at hl 5 rfl) ?_
  refine zld S hk hW 8 rfl j rfl (by omega) (by omega) dX4_relax_45 ?_
  refine top_eq (Gok_W G (j := j) (by omega)) ?_
  refine ifeq_b (tgt := 60) S dX4_relax_46 (by decide) (fun c_46 => ?_) (fun c_46 => ?_)
  · skip
    refine lv_iload S.1 S.2.1 dX4_relax_60 (lv_at hl 0 rfl) ?_
    refine ifeq_b (tgt := 69) S dX4_relax_62 (by decide) (fun c_62 => ?_) (fun c_62 => ?_)
    · skip
      refine lv_iconst (v := nI 0) S.1 S.2.1 dX4_relax_69 (by decide) ?_
      have hrlx : rlx g R j = (low R (e1 g j) (e2 g j) (cw g j)) := by simp only [rlx, c_46, c_62, eq_self, Nat.add_zero, decide_false, decide_true, Bool.not_true, Bool.not_false, Bool.and_true, Bool.true_and, Bool.and_false, Bool.false_and, Bool.or_true, Bool.true_or, Bool.or_false, Bool.false_or, ↓reduceIte, cond_true, cond_false, bI, and_true, true_and, and_false, false_and, or_true, true_or, or_false, false_or, not_true_eq_false, not_false_eq_true, if_true, if_false, Bool.false_eq_true, reduceCtorEq, ite_true, ite_false]
      rw [← hrlx] at hW
      exact hR _ _ _ _ _ _ _ _ dX4_relax_70 rfl (Nat.le_of_ble_eq_true rfl) (Nat.le_of_ble_eq_true rfl) hW ⟨(by simp only [rlxB, c_46, c_62, eq_self, Nat.add_zero, decide_false, decide_true, Bool.not_true, Bool.not_false, Bool.and_true, Bool.true_and, Bool.and_false, Bool.false_and, Bool.or_true, Bool.true_or, Bool.or_false, Bool.false_or, ↓reduceIte, cond_true, cond_false, bI, and_true, true_and, and_false, false_and, or_true, true_or, or_false, false_or, not_true_eq_false, not_false_eq_true, if_true, if_false, Bool.false_eq_true, reduceCtorEq, ite_true, ite_false]), rfl⟩
    · skip
      refine lv_iconst (v := nI 1) S.1 S.2.1 dX4_relax_65 (by decide) ?_
      refine lv_goto (tgt := 70) S.1 S.2.1 dX4_relax_66 (by decide) ?_
      have hrlx : rlx g R j = (low R (e1 g j) (e2 g j) (cw g j)) := by simp only [rlx, c_46, c_62, eq_self, Nat.add_zero, decide_false, decide_true, Bool.not_true, Bool.not_false, Bool.and_true, Bool.true_and, Bool.and_false, Bool.false_and, Bool.or_true, Bool.true_or, Bool.or_false, Bool.false_or, ↓reduceIte, cond_true, cond_false, bI, and_true, true_and, and_false, false_and, or_true, true_or, or_false, false_or, not_true_eq_false, not_false_eq_true, if_true, if_false, Bool.false_eq_true, reduceCtorEq, ite_true, ite_false]
      rw [← hrlx] at hW
      exact hR _ _ _ _ _ _ _ _ dX4_relax_70 rfl (Nat.le_of_ble_eq_true rfl) (Nat.le_of_ble_eq_true rfl) hW ⟨(by simp only [rlxB, c_46, c_62, eq_self, Nat.add_zero, decide_false, decide_true, Bool.not_true, Bool.not_false, Bool.and_true, Bool.true_and, Bool.and_false, Bool.false_and, Bool.or_true, Bool.true_or, Bool.or_false, Bool.false_or, ↓reduceIte, cond_true, cond_false, bI, and_true, true_and, and_false, false_and, or_true, true_or, or_false, false_or, not_true_eq_false, not_false_eq_true, if_true, if_false, Bool.false_eq_true, reduceCtorEq, ite_true, ite_false]), rfl⟩
  · skip
    refine lv_aload_n S.1 S.2.1 dX4_relax_49 rfl (lv_at hl 4 rfl) ?_
    refine lv_iload S.1 S.2.1 dX4_relax_50 (lv_at hl 1 rfl) ?_
    refine lv_iload_n S.1 S.2.1 dX4_relax_52 rfl (lv_at hl 2 rfl) ?_
    refine lv_iload_n S.1 S.2.1 dX4_relax_53 rfl (lv_at hl 3 rfl) ?_
    refine kVi S (c_X4_lower (l := l) (D := D) (cI := cI) (cZ := cZ) (cF := cF) (by first | assumption | omega) (by first | assumption | omega)) (cwV 3 S.2.2.2.2 gX4_relax_X4_lower rfl rfl rfl ⟨rfl, v_X4_lower⟩ ⟨(Nat.le_of_ble_eq_true rfl), (Nat.le_of_ble_eq_true rfl)⟩) hk hW 2 rfl rfl rfl rfl hl rfl (Nat.le_of_ble_eq_true rfl) dX4_relax_54 ⟨(Nat.le_of_ble_eq_true rfl), (Nat.le_of_ble_eq_true rfl)⟩ (fun r u H locs hp hW => ?_)
    obtain ⟨rfl, rfl⟩ := hp
    refine ifne_b (tgt := 65) S dX4_relax_57 (by decide) (fun c_57 => ?_) (fun c_57 => ?_)
    · skip
      refine lv_iconst (v := nI 1) S.1 S.2.1 dX4_relax_65 (by decide) ?_
      refine lv_goto (tgt := 70) S.1 S.2.1 dX4_relax_66 (by decide) ?_
      have hrlx : rlx g R j = (low (low R (e1 g j) (e2 g j) (cw g j)) (e2 g j) (e1 g j) (cw g j)) := by simp only [rlx, c_46, c_57, eq_self, Nat.add_zero, decide_false, decide_true, Bool.not_true, Bool.not_false, Bool.and_true, Bool.true_and, Bool.and_false, Bool.false_and, Bool.or_true, Bool.true_or, Bool.or_false, Bool.false_or, ↓reduceIte, cond_true, cond_false, bI, and_true, true_and, and_false, false_and, or_true, true_or, or_false, false_or, not_true_eq_false, not_false_eq_true, if_true, if_false, Bool.false_eq_true, reduceCtorEq, ite_true, ite_false]
      rw [← hrlx] at hW
      exact hR _ _ _ _ _ _ _ _ dX4_relax_70 rfl (Nat.le_of_ble_eq_true rfl) (Nat.le_of_ble_eq_true rfl) hW ⟨(by simp only [rlxB, c_46, c_57, eq_self, Nat.add_zero, decide_false, decide_true, Bool.not_true, Bool.not_false, Bool.and_true, Bool.true_and, Bool.and_false, Bool.false_and, Bool.or_true, Bool.true_or, Bool.or_false, Bool.false_or, ↓reduceIte, cond_true, cond_false, bI, and_true, true_and, and_false, false_and, or_true, true_or, or_false, false_or, not_true_eq_false, not_false_eq_true, if_true, if_false, Bool.false_eq_true, reduceCtorEq, ite_true, ite_false]), rfl⟩
    · skip
      refine lv_iload S.1 S.2.1 dX4_relax_60 (lv_at hl 0 rfl) ?_
      refine ifeq_b (tgt := 69) S dX4_relax_62 (by decide) (fun c_62 => ?_) (fun c_62 => ?_)
      · skip
        refine lv_iconst (v := nI 0) S.1 S.2.1 dX4_relax_69 (by decide) ?_
        have hrlx : rlx g R j = (low (low R (e1 g j) (e2 g j) (cw g j)) (e2 g j) (e1 g j) (cw g j)) := by simp only [rlx, c_46, c_57, c_62, eq_self, Nat.add_zero, decide_false, decide_true, Bool.not_true, Bool.not_false, Bool.and_true, Bool.true_and, Bool.and_false, Bool.false_and, Bool.or_true, Bool.true_or, Bool.or_false, Bool.false_or, ↓reduceIte, cond_true, cond_false, bI, and_true, true_and, and_false, false_and, or_true, true_or, or_false, false_or, not_true_eq_false, not_false_eq_true, if_true, if_false, Bool.false_eq_true, reduceCtorEq, ite_true, ite_false]
        rw [← hrlx] at hW
        exact hR _ _ _ _ _ _ _ _ dX4_relax_70 rfl (Nat.le_of_ble_eq_true rfl) (Nat.le_of_ble_eq_true rfl) hW ⟨(by simp only [rlxB, c_46, c_57, c_62, eq_self, Nat.add_zero, decide_false, decide_true, Bool.not_true, Bool.not_false, Bool.and_true, Bool.true_and, Bool.and_false, Bool.false_and, Bool.or_true, Bool.true_or, Bool.or_false, Bool.false_or, ↓reduceIte, cond_true, cond_false, bI, and_true, true_and, and_false, false_and, or_true, true_or, or_false, false_or, not_true_eq_false, not_false_eq_true, if_true, if_false, Bool.false_eq_true, reduceCtorEq, ite_true, ite_false]), rfl⟩
      · skip
        refine lv_iconst (v := nI 1) S.1 S.2.1 dX4_relax_65 (by decide) ?_
        refine lv_goto (tgt := 70) S.1 S.2.1 dX4_relax_66 (by decide) ?_
        have hrlx : rlx g R j = (low (low R (e1 g j) (e2 g j) (cw g j)) (e2 g j) (e1 g j) (cw g j)) := by simp only [rlx, c_46, c_57, c_62, eq_self, Nat.add_zero, decide_false, decide_true, Bool.not_true, Bool.not_false, Bool.and_true, Bool.true_and, Bool.and_false, Bool.false_and, Bool.or_true, Bool.true_or, Bool.or_false, Bool.false_or, ↓reduceIte, cond_true, cond_false, bI, and_true, true_and, and_false, false_and, or_true, true_or, or_false, false_or, not_true_eq_false, not_false_eq_true, if_true, if_false, Bool.false_eq_true, reduceCtorEq, ite_true, ite_false]
        rw [← hrlx] at hW
        exact hR _ _ _ _ _ _ _ _ dX4_relax_70 rfl (Nat.le_of_ble_eq_true rfl) (Nat.le_of_ble_eq_true rfl) hW ⟨(by simp only [rlxB, c_46, c_57, c_62, eq_self, Nat.add_zero, decide_false, decide_true, Bool.not_true, Bool.not_false, Bool.and_true, Bool.true_and, Bool.and_false, Bool.false_and, Bool.or_true, Bool.true_or, Bool.or_false, Bool.false_or, ↓reduceIte, cond_true, cond_false, bI, and_true, true_and, and_false, false_and, or_true, true_or, or_false, false_or, not_true_eq_false, not_false_eq_true, if_true, if_false, Bool.false_eq_true, reduceCtorEq, ite_true, ite_false]), rfl⟩
abbrev r_X4_spread : Room := { frames := 2, cells := 0, slots := 0, locals := 48 }
theorem v_X4_spread : yX4_spread.cls ≠ "java/lang/invoke/MethodHandle" ∧ yX4_spread.cls ≠ "java/lang/invoke/VarHandle" ∧ (parseMethodDescriptor yX4_spread.desc).map (fun d => d.parameters.length) = some 3 := by decide +kernel
set_option maxRecDepth 100000 in
set_option maxHeartbeats 4000000 in
theorem c_X4_spread {l : Launch} {D : va_G} {cI cZ cF : ClassId} {q : Nat → Nat} {qf : Nat → Nat} {g : Gr} {C R : Nat → Int32} {rw len : Nat} {F : Nat → Int32} {sz : Nat} {X : Nat → Int32} {mk : Int32} {a : Nat} {x y : Int32} (G : Gok g) (ha : a < 10) : cV_ l D cI cZ cF yX4_spread wsX4_spread r_X4_spread [.ref (q 2), .int (nI a), .int x, .int y] (wC q qf cI cZ cF g C R rw len F sz X mk) (fun u => u = wC q qf cI cZ cF g C (spr g x y a) rw len F sz X mk) 0 0 := by
  refine cV_of (cc := cX4_spread) (maxL := 7) (plainFor_of_name (by decide +kernel)) rfl (Nat.le_of_ble_eq_true rfl) ?_
  intro p e s m args below meth c A Q ls S hnm hk hW hl hR
  have hl : lv_has ls 7 [(0, .ref (q 2)), (1, .int (nI a)), (2, .int x), (3, .int y)] := hl
  have hwsX40 : ∀ x ∈ wsX40, x ∈ wsX4_spread := fun x h => List.mem_cons_of_mem _ (List.mem_append_left _ (List.mem_append_right _ h))
  have hwsX20 : ∀ x ∈ wsX20, x ∈ wsX4_spread := fun x h => List.mem_cons_of_mem _ (List.mem_append_right _ h)
  have hN := Gok_N G; have hN2 := Gok_N2 G; have hKK := Gok_K G
  refine lv_aload_n S.1 S.2.1 dX4_spread_0 rfl (lv_at hl 0 rfl) ?_
  refine gf S hk hW 2 rfl rfl hwsX40 2 (by decide) 1 rfl rfl dX4_spread_1 ?_
  refine lv_ldc (v := 1073741824) S.1 S.2.1 S.2.2.2.1 (S.2.2.2.2 _ (List.mem_of_getElem? (i := 2) rfl)) dX4_spread_4 ?_
  refine kSv S (c_J7_fill_53178 (l := l) (D := D) (cI := cI) (cZ := cZ) (cF := cF) (q0 := 11) rfl (by omega)) (va_cwS 2 S.2.2.2.2 gX4_spread_J7_fill_53178 rfl rfl rfl v_J7_fill_53178 ⟨(Nat.le_of_ble_eq_true rfl), (Nat.le_of_ble_eq_true rfl)⟩) hk hW rfl hl rfl (Nat.le_of_ble_eq_true rfl) dX4_spread_6 ⟨(Nat.le_of_ble_eq_true rfl), (Nat.le_of_ble_eq_true rfl)⟩ (fun u H locs hp hW => ?_)
  subst hp
  have hW : wd D A s H locs (wC q qf cI cZ cF g C (fun _ => 1073741824) rw len F sz X mk) := hW
  refine lv_aload_n S.1 S.2.1 dX4_spread_9 rfl (lv_at hl 0 rfl) ?_
  refine gf S hk hW 2 rfl rfl hwsX40 2 (by decide) 1 rfl rfl dX4_spread_10 ?_
  refine lv_iload_n S.1 S.2.1 dX4_spread_13 rfl (lv_at hl 1 rfl) ?_
  refine lv_iconst (v := nI 0) S.1 S.2.1 dX4_spread_14 (by decide) ?_
  refine ist (w' := wC q qf cI cZ cF g C (upd (fun _ => 1073741824) a (nI 0)) rw len F sz X mk) S hk hW 11 rfl a rfl (by omega) (by omega) dX4_spread_15 rfl (fun H locs hW => ?_)
  refine lv_iconst (v := nI 1) S.1 S.2.1 dX4_spread_16 (by decide) ?_
  refine lv_istore (lv' := [(4, .int (nI 1)), (0, .ref (q 2)), (1, .int (nI a)), (2, .int x), (3, .int y)]) S.1 S.2.1 dX4_spread_17 hl (by decide) rfl (fun ls hl => ?_)
  refine lv_iconst (v := nI 0) S.1 S.2.1 dX4_spread_19 (by decide) ?_
  refine lv_istore (lv' := [(5, .int (nI 0)), (4, .int (nI 1)), (0, .ref (q 2)), (1, .int (nI a)), (2, .int x), (3, .int y)]) S.1 S.2.1 dX4_spread_20 hl (by decide) rfl (fun ls hl => ?_)
  have L22 : ∀ (dd : Nat), ∀ (nw : Bool), ∀ (r : Nat), ∀ (R1 : Nat → Int32), (R1 = rnd g x y (upd (fun _ => 1073741824) a (nI 0)) r) → (nw = false → (swp g x y R1 (gK g)).1 = R1) → (r ≤ gN g) → gN g < r + dd → ∀ (H : Heap) (locs : List Loc) (ls : Array Slot), wd D A s H locs (wC q qf cI cZ cF g C R1 rw len F sz X mk) → lv_has ls 7 [(0, .ref (q 2)), (1, .int (nI a)), (2, .int x), (3, .int y), (4, .int (bI nw)), (5, .int (nI r))] → W p l e r_X4_spread s m args below meth c H locs 0 0 Q (F0 m 22 ls []) := by
    intro dd
    induction dd with
    | zero => intros; omega
    | succ dd ih22 =>
      intro nw r R1 hR1 hst hr hdd H locs ls hW hl
      refine lv_iload S.1 S.2.1 dX4_spread_22 (lv_at hl 4 rfl) ?_
      refine ifeq_b (tgt := 113) S dX4_spread_24 (by decide) (fun c_24 => ?_) (fun c_24 => ?_)
      · skip
        have hfin : R1 = rnd g x y (upd (fun _ => 1073741824) a (nI 0)) (gN g) := rnd_end hR1 (hst c_24) hr
        rw [show R1 = spr g x y a from hfin] at hW
        exact hR _ _ _ _ _ _ _ dX4_spread_113 (Nat.le_of_ble_eq_true rfl) (Nat.le_of_ble_eq_true rfl) hW rfl
      · skip
        refine lv_iload S.1 S.2.1 dX4_spread_27 (lv_at hl 5 rfl) ?_
        refine lv_aload_n S.1 S.2.1 dX4_spread_29 rfl (lv_at hl 0 rfl) ?_
        refine gf S hk hW 2 rfl rfl hwsX40 0 (by decide) 3 rfl rfl dX4_spread_30 ?_
        refine gfN (host := RX5) S hk hW 1 rfl rfl hwsX20 5 (by decide) 7 rfl rfl dX4_spread_33 ?_
        refine icge_n (tgt := 113) S (by omega) (by omega) dX4_spread_36 (by decide) (fun c_36 => ?_) (fun c_36 => ?_)
        · skip
          have hfin : R1 = rnd g x y (upd (fun _ => 1073741824) a (nI 0)) (gN g) := by rw [hR1, show r = gN g by omega]
          rw [show R1 = spr g x y a from hfin] at hW
          exact hR _ _ _ _ _ _ _ dX4_spread_113 (Nat.le_of_ble_eq_true rfl) (Nat.le_of_ble_eq_true rfl) hW rfl
        · skip
          refine lv_iconst (v := nI 0) S.1 S.2.1 dX4_spread_39 (by decide) ?_
          refine lv_istore (lv' := [(4, .int (nI 0)), (0, .ref (q 2)), (1, .int (nI a)), (2, .int x), (3, .int y), (5, .int (nI r))]) S.1 S.2.1 dX4_spread_40 hl (by decide) rfl (fun ls hl => ?_)
          refine lv_iconst (v := nI 0) S.1 S.2.1 dX4_spread_42 (by decide) ?_
          refine lv_istore (lv' := [(6, .int (nI 0)), (4, .int (nI 0)), (0, .ref (q 2)), (1, .int (nI a)), (2, .int x), (3, .int y), (5, .int (nI r))]) S.1 S.2.1 dX4_spread_43 hl (by decide) rfl (fun ls hl => ?_)
          have L45 : ∀ (dd : Nat), ∀ (nw2 : Bool), ∀ (i : Nat), ∀ (R2 : Nat → Int32), (R2 = (swp g x y R1 i).1) → (nw2 = (swp g x y R1 i).2) → (i ≤ gK g) → gK g < i + dd → ∀ (H : Heap) (locs : List Loc) (ls : Array Slot), wd D A s H locs (wC q qf cI cZ cF g C R2 rw len F sz X mk) → lv_has ls 7 [(0, .ref (q 2)), (1, .int (nI a)), (2, .int x), (3, .int y), (4, .int (bI nw2)), (5, .int (nI r)), (6, .int (nI i))] → W p l e r_X4_spread s m args below meth c H locs 0 0 Q (F0 m 45 ls []) := by
            intro dd
            induction dd with
            | zero => intros; omega
            | succ dd ih45 =>
              intro nw2 i R2 hR2 hnw hi hdd H locs ls hW hl
              refine lv_iload S.1 S.2.1 dX4_spread_45 (lv_at hl 6 rfl) ?_
              refine lv_aload_n S.1 S.2.1 dX4_spread_47 rfl (lv_at hl 0 rfl) ?_
              refine gf S hk hW 2 rfl rfl hwsX40 0 (by decide) 3 rfl rfl dX4_spread_48 ?_
              refine gfN (host := RX5) S hk hW 1 rfl rfl hwsX20 6 (by decide) 8 rfl rfl dX4_spread_51 ?_
              refine icge_n (tgt := 107) S (by omega) (by omega) dX4_spread_54 (by decide) (fun c_54 => ?_) (fun c_54 => ?_)
              · skip
                refine lv_iinc (v := nI (r + 1)) (lv' := [(5, .int (nI (r + 1))), (0, .ref (q 2)), (1, .int (nI a)), (2, .int x), (3, .int y), (4, .int (bI nw2)), (6, .int (nI i))]) (k := 5) S.1 S.2.1 dX4_spread_107 hl rfl (nI_1 _) (by decide) rfl (fun ls hl => ?_)
                refine lv_goto (tgt := 22) S.1 S.2.1 dX4_spread_110 (by decide) ?_
                exact ih22 nw2 (r + 1) R2 (by rw [hR2, hR1, show i = gK g by omega]; rfl) (fun h => by
                    have h1 : (swp g x y R1 (gK g)).2 = false := by rw [← show i = gK g by omega, ← hnw]; exact h
                    have h2 := swp_same h1
                    rw [hR2, show i = gK g by omega, h2]
                    exact h2) (by omega) (by omega) _ _ _ hW (lv_sub hl [1, 2, 3, 4, 5, 0] rfl)
              · skip
                refine lv_aload_n S.1 S.2.1 dX4_spread_57 rfl (lv_at hl 0 rfl) ?_
                refine gf S hk hW 2 rfl rfl hwsX40 0 (by decide) 3 rfl rfl dX4_spread_58 ?_
                refine gfN (host := RX5) S hk hW 1 rfl rfl hwsX20 4 (by decide) 13 rfl rfl dX4_spread_61 ?_
                refine lv_iload S.1 S.2.1 dX4_spread_64 (lv_at hl 6 rfl) ?_
                refine zld S hk hW 9 rfl i rfl (by omega) (by omega) dX4_spread_66 ?_
                refine top_eq (Gok_T G (j := i) (by omega)) ?_
                refine ifeq_b (tgt := 101) S dX4_spread_67 (by decide) (fun c_67 => ?_) (fun c_67 => ?_)
                · skip
                  refine lv_iinc (v := nI (i + 1)) (lv' := [(6, .int (nI (i + 1))), (0, .ref (q 2)), (1, .int (nI a)), (2, .int x), (3, .int y), (4, .int (bI nw2)), (5, .int (nI r))]) (k := 6) S.1 S.2.1 dX4_spread_101 hl rfl (nI_1 _) (by decide) rfl (fun ls hl => ?_)
                  refine lv_goto (tgt := 45) S.1 S.2.1 dX4_spread_104 (by decide) ?_
                  exact ih45 nw2 (i + 1) R2 (by simp only [swp, okL, ← hR2, ← hnw, c_67, eq_self, Nat.add_zero, decide_false, decide_true, Bool.not_true, Bool.not_false, Bool.and_true, Bool.true_and, Bool.and_false, Bool.false_and, Bool.or_true, Bool.true_or, Bool.or_false, Bool.false_or, ↓reduceIte, cond_true, cond_false, bI, and_true, true_and, and_false, false_and, or_true, true_or, or_false, false_or, not_true_eq_false, not_false_eq_true, if_true, if_false, Bool.false_eq_true, reduceCtorEq, ite_true, ite_false]) (by simp only [swp, okL, ← hR2, ← hnw, c_67, eq_self, Nat.add_zero, decide_false, decide_true, Bool.not_true, Bool.not_false, Bool.and_true, Bool.true_and, Bool.and_false, Bool.false_and, Bool.or_true, Bool.true_or, Bool.or_false, Bool.false_or, ↓reduceIte, cond_true, cond_false, bI, and_true, true_and, and_false, false_and, or_true, true_or, or_false, false_or, not_true_eq_false, not_false_eq_true, if_true, if_false, Bool.false_eq_true, reduceCtorEq, ite_true, ite_false]) (by omega) (by omega) _ _ _ hW (lv_sub hl [1, 2, 3, 4, 5, 6, 0] rfl)
                · skip
                  refine lv_iload S.1 S.2.1 dX4_spread_70 (lv_at hl 6 rfl) ?_
                  refine lv_iload_n S.1 S.2.1 dX4_spread_72 rfl (lv_at hl 2 rfl) ?_
                  refine lv_icmp_eq (tgt := 101) S.1 S.2.1 dX4_spread_73 (by decide) (fun c_73 => ?_) (fun c_73 => ?_)
                  · skip
                    refine lv_iinc (v := nI (i + 1)) (lv' := [(6, .int (nI (i + 1))), (0, .ref (q 2)), (1, .int (nI a)), (2, .int x), (3, .int y), (4, .int (bI nw2)), (5, .int (nI r))]) (k := 6) S.1 S.2.1 dX4_spread_101 hl rfl (nI_1 _) (by decide) rfl (fun ls hl => ?_)
                    refine lv_goto (tgt := 45) S.1 S.2.1 dX4_spread_104 (by decide) ?_
                    exact ih45 nw2 (i + 1) R2 (by simp only [swp, okL, ← hR2, ← hnw, c_67, c_73, eq_self, Nat.add_zero, decide_false, decide_true, Bool.not_true, Bool.not_false, Bool.and_true, Bool.true_and, Bool.and_false, Bool.false_and, Bool.or_true, Bool.true_or, Bool.or_false, Bool.false_or, ↓reduceIte, cond_true, cond_false, bI, and_true, true_and, and_false, false_and, or_true, true_or, or_false, false_or, not_true_eq_false, not_false_eq_true, if_true, if_false, Bool.false_eq_true, reduceCtorEq, ite_true, ite_false]) (by simp only [swp, okL, ← hR2, ← hnw, c_67, c_73, eq_self, Nat.add_zero, decide_false, decide_true, Bool.not_true, Bool.not_false, Bool.and_true, Bool.true_and, Bool.and_false, Bool.false_and, Bool.or_true, Bool.true_or, Bool.or_false, Bool.false_or, ↓reduceIte, cond_true, cond_false, bI, and_true, true_and, and_false, false_and, or_true, true_or, or_false, false_or, not_true_eq_false, not_false_eq_true, if_true, if_false, Bool.false_eq_true, reduceCtorEq, ite_true, ite_false]) (by omega) (by omega) _ _ _ hW (lv_sub hl [1, 2, 3, 4, 5, 6, 0] rfl)
                  · skip
                    refine lv_aload_n S.1 S.2.1 dX4_spread_76 rfl (lv_at hl 0 rfl) ?_
                    refine gf S hk hW 2 rfl rfl hwsX40 0 (by decide) 3 rfl rfl dX4_spread_77 ?_
                    refine lv_iload S.1 S.2.1 dX4_spread_80 (lv_at hl 6 rfl) ?_
                    refine lv_iload_n S.1 S.2.1 dX4_spread_82 rfl (lv_at hl 3 rfl) ?_
                    refine kVi S (c_X2_touches (l := l) (D := D) (cI := cI) (cZ := cZ) (cF := cF) G (by first | assumption | omega)) (cwV 2 S.2.2.2.2 gX4_spread_X2_touches rfl rfl rfl ⟨rfl, v_X2_touches⟩ ⟨(Nat.le_of_ble_eq_true rfl), (Nat.le_of_ble_eq_true rfl)⟩) hk hW 1 rfl rfl rfl rfl hl rfl (Nat.le_of_ble_eq_true rfl) dX4_spread_83 ⟨(Nat.le_of_ble_eq_true rfl), (Nat.le_of_ble_eq_true rfl)⟩ (fun r u H locs hp hW => ?_)
                    obtain ⟨rfl, rfl⟩ := hp
                    refine ifne_b (tgt := 101) S dX4_spread_86 (by decide) (fun c_86 => ?_) (fun c_86 => ?_)
                    · skip
                      refine lv_iinc (v := nI (i + 1)) (lv' := [(6, .int (nI (i + 1))), (0, .ref (q 2)), (1, .int (nI a)), (2, .int x), (3, .int y), (4, .int (bI nw2)), (5, .int (nI r))]) (k := 6) S.1 S.2.1 dX4_spread_101 hl rfl (nI_1 _) (by decide) rfl (fun ls hl => ?_)
                      refine lv_goto (tgt := 45) S.1 S.2.1 dX4_spread_104 (by decide) ?_
                      exact ih45 nw2 (i + 1) R2 (by simp only [swp, okL, ← hR2, ← hnw, c_67, c_73, c_86, eq_self, Nat.add_zero, decide_false, decide_true, Bool.not_true, Bool.not_false, Bool.and_true, Bool.true_and, Bool.and_false, Bool.false_and, Bool.or_true, Bool.true_or, Bool.or_false, Bool.false_or, ↓reduceIte, cond_true, cond_false, bI, and_true, true_and, and_false, false_and, or_true, true_or, or_false, false_or, not_true_eq_false, not_false_eq_true, if_true, if_false, Bool.false_eq_true, reduceCtorEq, ite_true, ite_false]) (by simp only [swp, okL, ← hR2, ← hnw, c_67, c_73, c_86, eq_self, Nat.add_zero, decide_false, decide_true, Bool.not_true, Bool.not_false, Bool.and_true, Bool.true_and, Bool.and_false, Bool.false_and, Bool.or_true, Bool.true_or, Bool.or_false, Bool.false_or, ↓reduceIte, cond_true, cond_false, bI, and_true, true_and, and_false, false_and, or_true, true_or, or_false, false_or, not_true_eq_false, not_false_eq_true, if_true, if_false, Bool.false_eq_true, reduceCtorEq, ite_true, ite_false]) (by omega) (by omega) _ _ _ hW (lv_sub hl [1, 2, 3, 4, 5, 6, 0] rfl)
                    · skip
                      refine lv_aload_n S.1 S.2.1 dX4_spread_89 rfl (lv_at hl 0 rfl) ?_
                      refine lv_iload S.1 S.2.1 dX4_spread_90 (lv_at hl 6 rfl) ?_
                      refine kVi S (c_X4_relax (l := l) (D := D) (cI := cI) (cZ := cZ) (cF := cF) G (by first | assumption | omega)) (cwV 1 S.2.2.2.2 gX4_spread_X4_relax rfl rfl rfl ⟨rfl, v_X4_relax⟩ ⟨(Nat.le_of_ble_eq_true rfl), (Nat.le_of_ble_eq_true rfl)⟩) hk hW 2 rfl rfl rfl rfl hl rfl (Nat.le_of_ble_eq_true rfl) dX4_spread_92 ⟨(Nat.le_of_ble_eq_true rfl), (Nat.le_of_ble_eq_true rfl)⟩ (fun r u H locs hp hW => ?_)
                      obtain ⟨rfl, rfl⟩ := hp
                      refine ifeq_b (tgt := 101) S dX4_spread_95 (by decide) (fun c_95 => ?_) (fun c_95 => ?_)
                      · skip
                        refine lv_iinc (v := nI (i + 1)) (lv' := [(6, .int (nI (i + 1))), (0, .ref (q 2)), (1, .int (nI a)), (2, .int x), (3, .int y), (4, .int (bI nw2)), (5, .int (nI r))]) (k := 6) S.1 S.2.1 dX4_spread_101 hl rfl (nI_1 _) (by decide) rfl (fun ls hl => ?_)
                        refine lv_goto (tgt := 45) S.1 S.2.1 dX4_spread_104 (by decide) ?_
                        exact ih45 nw2 (i + 1) (rlx g R2 i) (by simp only [swp, okL, ← hR2, ← hnw, c_67, c_73, c_86, c_95, eq_self, Nat.add_zero, decide_false, decide_true, Bool.not_true, Bool.not_false, Bool.and_true, Bool.true_and, Bool.and_false, Bool.false_and, Bool.or_true, Bool.true_or, Bool.or_false, Bool.false_or, ↓reduceIte, cond_true, cond_false, bI, and_true, true_and, and_false, false_and, or_true, true_or, or_false, false_or, not_true_eq_false, not_false_eq_true, if_true, if_false, Bool.false_eq_true, reduceCtorEq, ite_true, ite_false]) (by simp only [swp, okL, ← hR2, ← hnw, c_67, c_73, c_86, c_95, eq_self, Nat.add_zero, decide_false, decide_true, Bool.not_true, Bool.not_false, Bool.and_true, Bool.true_and, Bool.and_false, Bool.false_and, Bool.or_true, Bool.true_or, Bool.or_false, Bool.false_or, ↓reduceIte, cond_true, cond_false, bI, and_true, true_and, and_false, false_and, or_true, true_or, or_false, false_or, not_true_eq_false, not_false_eq_true, if_true, if_false, Bool.false_eq_true, reduceCtorEq, ite_true, ite_false]) (by omega) (by omega) _ _ _ hW (lv_sub hl [1, 2, 3, 4, 5, 6, 0] rfl)
                      · skip
                        refine lv_iconst (v := nI 1) S.1 S.2.1 dX4_spread_98 (by decide) ?_
                        refine lv_istore (lv' := [(4, .int (nI 1)), (0, .ref (q 2)), (1, .int (nI a)), (2, .int x), (3, .int y), (5, .int (nI r)), (6, .int (nI i))]) S.1 S.2.1 dX4_spread_99 hl (by decide) rfl (fun ls hl => ?_)
                        refine lv_iinc (v := nI (i + 1)) (lv' := [(6, .int (nI (i + 1))), (4, .int (nI 1)), (0, .ref (q 2)), (1, .int (nI a)), (2, .int x), (3, .int y), (5, .int (nI r))]) (k := 6) S.1 S.2.1 dX4_spread_101 hl rfl (nI_1 _) (by decide) rfl (fun ls hl => ?_)
                        refine lv_goto (tgt := 45) S.1 S.2.1 dX4_spread_104 (by decide) ?_
                        exact ih45 true (i + 1) (rlx g R2 i) (by simp only [swp, okL, ← hR2, ← hnw, c_67, c_73, c_86, c_95, eq_self, Nat.add_zero, decide_false, decide_true, Bool.not_true, Bool.not_false, Bool.and_true, Bool.true_and, Bool.and_false, Bool.false_and, Bool.or_true, Bool.true_or, Bool.or_false, Bool.false_or, ↓reduceIte, cond_true, cond_false, bI, and_true, true_and, and_false, false_and, or_true, true_or, or_false, false_or, not_true_eq_false, not_false_eq_true, if_true, if_false, Bool.false_eq_true, reduceCtorEq, ite_true, ite_false]) (by simp only [swp, okL, ← hR2, ← hnw, c_67, c_73, c_86, c_95, eq_self, Nat.add_zero, decide_false, decide_true, Bool.not_true, Bool.not_false, Bool.and_true, Bool.true_and, Bool.and_false, Bool.false_and, Bool.or_true, Bool.true_or, Bool.or_false, Bool.false_or, ↓reduceIte, cond_true, cond_false, bI, and_true, true_and, and_false, false_and, or_true, true_or, or_false, false_or, not_true_eq_false, not_false_eq_true, if_true, if_false, Bool.false_eq_true, reduceCtorEq, ite_true, ite_false]) (by omega) (by omega) _ _ _ hW (lv_sub hl [2, 3, 4, 5, 1, 6, 0] rfl)
          exact L45 ((gK g) + 1) false 0 R1 rfl rfl (by omega) (by omega) _ _ _ hW (lv_sub hl [2, 3, 4, 5, 1, 6, 0] rfl)
  exact L22 ((gN g) + 1) true 0 (upd (fun _ => 1073741824) a (nI 0)) rfl (fun h => absurd h (by decide)) (by omega) (by omega) _ _ _ hW (lv_sub hl [2, 3, 4, 5, 1, 0] rfl)
abbrev r_X4_leastAvoiding : Room := { frames := 3, cells := 0, slots := 0, locals := 74 }
theorem v_X4_leastAvoiding : yX4_leastAvoiding.cls ≠ "java/lang/invoke/MethodHandle" ∧ yX4_leastAvoiding.cls ≠ "java/lang/invoke/VarHandle" ∧ (parseMethodDescriptor yX4_leastAvoiding.desc).map (fun d => d.parameters.length) = some 4 := by decide +kernel
set_option maxRecDepth 100000 in
set_option maxHeartbeats 4000000 in
theorem c_X4_leastAvoiding {l : Launch} {D : va_G} {cI cZ cF : ClassId} {q : Nat → Nat} {qf : Nat → Nat} {g : Gr} {C R : Nat → Int32} {rw len : Nat} {F : Nat → Int32} {sz : Nat} {X : Nat → Int32} {mk : Int32} {a b : Nat} {x y : Int32} (G : Gok g) (ha : a < 10) (hb : b < 10) : cI_ l D cI cZ cF yX4_leastAvoiding wsX4_leastAvoiding r_X4_leastAvoiding [.ref (q 2), .int (nI a), .int (nI b), .int x, .int y] (wC q qf cI cZ cF g C R rw len F sz X mk) (fun r u => r = lav g x y a b ∧ ∃ R', u = wC q qf cI cZ cF g C R' rw len F sz X mk) 0 0 := by
  refine cI_of (cc := cX4_leastAvoiding) (maxL := 5) (rt := .int) (plainFor_of_name (by decide +kernel)) rfl (Nat.le_of_ble_eq_true rfl) ?_
  intro p e s m args below meth c A Q ls S hk hW hl hR
  have hl : lv_has ls 5 [(0, .ref (q 2)), (1, .int (nI a)), (2, .int (nI b)), (3, .int x), (4, .int y)] := hl
  have hwsX40 : ∀ x ∈ wsX40, x ∈ wsX4_leastAvoiding := fun x h => List.mem_cons_of_mem _ (List.mem_append_left _ (List.mem_append_right _ h))
  have hwsX20 : ∀ x ∈ wsX20, x ∈ wsX4_leastAvoiding := fun x h => List.mem_cons_of_mem _ (List.mem_append_right _ h)
  refine lv_aload_n S.1 S.2.1 dX4_leastAvoiding_0 rfl (lv_at hl 0 rfl) ?_
  refine lv_iload_n S.1 S.2.1 dX4_leastAvoiding_1 rfl (lv_at hl 1 rfl) ?_
  refine lv_iload_n S.1 S.2.1 dX4_leastAvoiding_2 rfl (lv_at hl 3 rfl) ?_
  refine lv_iload S.1 S.2.1 dX4_leastAvoiding_3 (lv_at hl 4 rfl) ?_
  refine kVv S (c_X4_spread (l := l) (D := D) (cI := cI) (cZ := cZ) (cF := cF) G (by first | assumption | omega)) (cwV 3 S.2.2.2.2 gX4_leastAvoiding_X4_spread rfl rfl rfl ⟨rfl, v_X4_spread⟩ ⟨(Nat.le_of_ble_eq_true rfl), (Nat.le_of_ble_eq_true rfl)⟩) hk hW 2 rfl rfl rfl rfl hl rfl (Nat.le_of_ble_eq_true rfl) dX4_leastAvoiding_5 ⟨(Nat.le_of_ble_eq_true rfl), (Nat.le_of_ble_eq_true rfl)⟩ (fun u H locs hp hW => ?_)
  subst hp
  refine lv_aload_n S.1 S.2.1 dX4_leastAvoiding_8 rfl (lv_at hl 0 rfl) ?_
  refine gf S hk hW 2 rfl rfl hwsX40 2 (by decide) 1 rfl rfl dX4_leastAvoiding_9 ?_
  refine lv_iload_n S.1 S.2.1 dX4_leastAvoiding_12 rfl (lv_at hl 2 rfl) ?_
  refine ild S hk hW 11 rfl b rfl (by omega) (by omega) dX4_leastAvoiding_13 ?_
  refine kSi S (c_X4_priceIn (l := l) (D := D) (cI := cI) (cZ := cZ) (cF := cF)) (va_cwS 1 S.2.2.2.2 gX4_leastAvoiding_X4_priceIn rfl rfl rfl v_X4_priceIn ⟨(Nat.le_of_ble_eq_true rfl), (Nat.le_of_ble_eq_true rfl)⟩) hk hW rfl hl rfl (Nat.le_of_ble_eq_true rfl) dX4_leastAvoiding_14 ⟨(Nat.le_of_ble_eq_true rfl), (Nat.le_of_ble_eq_true rfl)⟩ (fun r u H locs hp hW => ?_)
  obtain ⟨rfl, rfl⟩ := hp
  exact hR _ _ _ _ _ _ _ _ dX4_leastAvoiding_17 rfl (Nat.le_of_ble_eq_true rfl) (Nat.le_of_ble_eq_true rfl) hW ⟨rfl, ⟨_, rfl⟩⟩
abbrev r_X4_isOnWay : Room := { frames := 4, cells := 0, slots := 0, locals := 93 }
theorem v_X4_isOnWay : yX4_isOnWay.cls ≠ "java/lang/invoke/MethodHandle" ∧ yX4_isOnWay.cls ≠ "java/lang/invoke/VarHandle" ∧ (parseMethodDescriptor yX4_isOnWay.desc).map (fun d => d.parameters.length) = some 3 := by decide +kernel
set_option maxRecDepth 100000 in
set_option maxHeartbeats 4000000 in
theorem c_X4_isOnWay {l : Launch} {D : va_G} {cI cZ cF : ClassId} {q : Nat → Nat} {qf : Nat → Nat} {g : Gr} {C R : Nat → Int32} {rw len : Nat} {F : Nat → Int32} {sz : Nat} {X : Nat → Int32} {mk : Int32} {a b j : Nat} (G : Gok g) (ha : a < gN g) (hb : b < gN g) : cI_ l D cI cZ cF yX4_isOnWay wsX4_isOnWay r_X4_isOnWay [.ref (q 2), .int (nI a), .int (nI b), .int (nI j)] (wC q qf cI cZ cF g C R rw len F sz X mk) (fun r u => r = bI (onw g C a b j) ∧ u = wC q qf cI cZ cF g C R rw len F sz X mk) 0 0 := by
  refine cI_of (cc := cX4_isOnWay) (maxL := 5) (rt := .boolean) (plainFor_of_name (by decide +kernel)) rfl (Nat.le_of_ble_eq_true rfl) ?_
  intro p e s m args below meth c A Q ls S hk hW hl hR
  have hl : lv_has ls 5 [(0, .ref (q 2)), (1, .int (nI a)), (2, .int (nI b)), (3, .int (nI j))] := hl
  have hwsX40 : ∀ x ∈ wsX40, x ∈ wsX4_isOnWay := fun x h => List.mem_cons_of_mem _ (List.mem_append_left _ (List.mem_append_right _ h))
  have hwsX20 : ∀ x ∈ wsX20, x ∈ wsX4_isOnWay := fun x h => List.mem_cons_of_mem _ (List.mem_append_right _ h)
  have hN := Gok_N G; have hN2 := Gok_N2 G; have hKK := Gok_K G
  obtain ⟨L, hL⟩ : ∃ L, L = (lnI (C (a * 10 + b))).toNatClampNeg := ⟨_, rfl⟩
  have hLb : L < 2 ^ 31 := by rw [hL]; exact clamp_lt _
  refine lv_iconst (v := nI 0) S.1 S.2.1 dX4_isOnWay_0 (by decide) ?_
  refine lv_istore (lv' := [(4, .int (nI 0)), (0, .ref (q 2)), (1, .int (nI a)), (2, .int (nI b)), (3, .int (nI j))]) S.1 S.2.1 dX4_isOnWay_1 hl (by decide) rfl (fun ls hl => ?_)
  have L3 : ∀ (dd : Nat), ∀ (i : Nat), (anyN (fun i => decide (lnAt g C a b (nI i) = nI j)) i = false) → (i ≤ L) → L < i + dd → ∀ (H : Heap) (locs : List Loc) (ls : Array Slot), wd D A s H locs (wC q qf cI cZ cF g C R rw len F sz X mk) → lv_has ls 5 [(0, .ref (q 2)), (1, .int (nI a)), (2, .int (nI b)), (3, .int (nI j)), (4, .int (nI i))] → W p l e r_X4_isOnWay s m args below meth c H locs 0 0 Q (F0 m 3 ls []) := by
    intro dd
    induction dd with
    | zero => intros; omega
    | succ dd ih3 =>
      intro i hf hi hdd H locs ls hW hl
      refine lv_iload S.1 S.2.1 dX4_isOnWay_3 (lv_at hl 4 rfl) ?_
      refine lv_aload_n S.1 S.2.1 dX4_isOnWay_5 rfl (lv_at hl 0 rfl) ?_
      refine lv_iload_n S.1 S.2.1 dX4_isOnWay_6 rfl (lv_at hl 1 rfl) ?_
      refine lv_iload_n S.1 S.2.1 dX4_isOnWay_7 rfl (lv_at hl 2 rfl) ?_
      refine kVi S (c_X4_length (l := l) (D := D) (cI := cI) (cZ := cZ) (cF := cF) (by first | assumption | omega) (by first | assumption | omega)) (cwV 2 S.2.2.2.2 gX4_isOnWay_X4_length rfl rfl rfl ⟨rfl, v_X4_length⟩ ⟨(Nat.le_of_ble_eq_true rfl), (Nat.le_of_ble_eq_true rfl)⟩) hk hW 2 rfl rfl rfl rfl hl rfl (Nat.le_of_ble_eq_true rfl) dX4_isOnWay_8 ⟨(Nat.le_of_ble_eq_true rfl), (Nat.le_of_ble_eq_true rfl)⟩ (fun r u H locs hp hW => ?_)
      obtain ⟨rfl, rfl⟩ := hp
      refine lv_icmp_ge (tgt := 34) S.1 S.2.1 dX4_isOnWay_11 (by decide) (fun c_11 => ?_) (fun c_11 => ?_)
      · skip
        have c11 := (le_nI_iff (by omega)).mp c_11
        rw [← hL] at c11
        refine lv_iconst (v := nI 0) S.1 S.2.1 dX4_isOnWay_34 (by decide) ?_
        exact hR _ _ _ _ _ _ _ _ dX4_isOnWay_35 rfl (Nat.le_of_ble_eq_true rfl) (Nat.le_of_ble_eq_true rfl) hW ⟨by rw [show onw g C a b j = false from by rw [onw, ← hL, show L = i by omega]; exact hf]; rfl, rfl⟩
      · skip
        have c11 : ¬ L ≤ i := fun q => c_11 ((le_nI_iff (by omega)).mpr (by rw [← hL]; exact q))
        refine lv_aload_n S.1 S.2.1 dX4_isOnWay_14 rfl (lv_at hl 0 rfl) ?_
        refine lv_iload_n S.1 S.2.1 dX4_isOnWay_15 rfl (lv_at hl 1 rfl) ?_
        refine lv_iload_n S.1 S.2.1 dX4_isOnWay_16 rfl (lv_at hl 2 rfl) ?_
        refine lv_iload S.1 S.2.1 dX4_isOnWay_17 (lv_at hl 4 rfl) ?_
        refine kVi S (c_X4_lineAt (l := l) (D := D) (cI := cI) (cZ := cZ) (cF := cF) G (by first | assumption | omega) (by first | assumption | omega)) (cwV 3 S.2.2.2.2 gX4_isOnWay_X4_lineAt rfl rfl rfl ⟨rfl, v_X4_lineAt⟩ ⟨(Nat.le_of_ble_eq_true rfl), (Nat.le_of_ble_eq_true rfl)⟩) hk hW 2 rfl rfl rfl rfl hl rfl (Nat.le_of_ble_eq_true rfl) dX4_isOnWay_19 ⟨(Nat.le_of_ble_eq_true rfl), (Nat.le_of_ble_eq_true rfl)⟩ (fun r u H locs hp hW => ?_)
        obtain ⟨rfl, rfl⟩ := hp
        refine lv_iload_n S.1 S.2.1 dX4_isOnWay_22 rfl (lv_at hl 3 rfl) ?_
        refine lv_icmp_ne (tgt := 28) S.1 S.2.1 dX4_isOnWay_23 (by decide) (fun c_23 => ?_) (fun c_23 => ?_)
        · skip
          refine lv_iinc (v := nI (i + 1)) (lv' := [(4, .int (nI (i + 1))), (0, .ref (q 2)), (1, .int (nI a)), (2, .int (nI b)), (3, .int (nI j))]) (k := 4) S.1 S.2.1 dX4_isOnWay_28 hl rfl (nI_1 _) (by decide) rfl (fun ls hl => ?_)
          refine lv_goto (tgt := 3) S.1 S.2.1 dX4_isOnWay_31 (by decide) ?_
          exact ih3 (i + 1) (by simp only [anyN, hf, c_23, decide_false, Bool.or_self]) (by omega) (by omega) _ _ _ hW (lv_sub hl [1, 2, 3, 4, 0] rfl)
        · skip
          refine lv_iconst (v := nI 1) S.1 S.2.1 dX4_isOnWay_26 (by decide) ?_
          exact hR _ _ _ _ _ _ _ _ dX4_isOnWay_27 rfl (Nat.le_of_ble_eq_true rfl) (Nat.le_of_ble_eq_true rfl) hW ⟨by rw [show onw g C a b j = true from by rw [onw, ← hL]; exact anyN_true (i := i) (by omega) (by simp only [c_23, decide_true])]; rfl, rfl⟩
  exact L3 (L + 1) 0 rfl (by omega) (by omega) _ _ _ hW (lv_sub hl [1, 2, 3, 4, 0] rfl)
abbrev r_X4_isVital : Room := { frames := 5, cells := 0, slots := 0, locals := 117 }
theorem v_X4_isVital : yX4_isVital.cls ≠ "java/lang/invoke/MethodHandle" ∧ yX4_isVital.cls ≠ "java/lang/invoke/VarHandle" ∧ (parseMethodDescriptor yX4_isVital.desc).map (fun d => d.parameters.length) = some 3 := by decide +kernel
set_option maxRecDepth 100000 in
set_option maxHeartbeats 4000000 in
theorem c_X4_isVital {l : Launch} {D : va_G} {cI cZ cF : ClassId} {q : Nat → Nat} {qf : Nat → Nat} {g : Gr} {C R : Nat → Int32} {rw len : Nat} {F : Nat → Int32} {sz : Nat} {X : Nat → Int32} {mk : Int32} {a b j : Nat} (G : Gok g) (ha : a < gN g) (hb : b < gN g) : cI_ l D cI cZ cF yX4_isVital wsX4_isVital r_X4_isVital [.ref (q 2), .int (nI a), .int (nI b), .int (nI j)] (wC q qf cI cZ cF g C R rw len F sz X mk) (fun r u => r = bI (vit g C a b j) ∧ ∃ R', u = wC q qf cI cZ cF g C R' rw len F sz X mk) 0 0 := by
  refine cI_of (cc := cX4_isVital) (maxL := 4) (rt := .boolean) (plainFor_of_name (by decide +kernel)) rfl (Nat.le_of_ble_eq_true rfl) ?_
  intro p e s m args below meth c A Q ls S hk hW hl hR
  have hl : lv_has ls 4 [(0, .ref (q 2)), (1, .int (nI a)), (2, .int (nI b)), (3, .int (nI j))] := hl
  have hwsX40 : ∀ x ∈ wsX40, x ∈ wsX4_isVital := fun x h => List.mem_cons_of_mem _ (List.mem_append_left _ (List.mem_append_right _ h))
  have hwsX20 : ∀ x ∈ wsX20, x ∈ wsX4_isVital := fun x h => List.mem_cons_of_mem _ (List.mem_append_right _ h)
  have hN := Gok_N G; have hN2 := Gok_N2 G; have hKK := Gok_K G
  refine lv_aload_n S.1 S.2.1 dX4_isVital_0 rfl (lv_at hl 0 rfl) ?_
  refine lv_iload_n S.1 S.2.1 dX4_isVital_1 rfl (lv_at hl 1 rfl) ?_
  refine lv_iload_n S.1 S.2.1 dX4_isVital_2 rfl (lv_at hl 2 rfl) ?_
  refine lv_iload_n S.1 S.2.1 dX4_isVital_3 rfl (lv_at hl 3 rfl) ?_
  refine kVi S (c_X4_isOnWay (l := l) (D := D) (cI := cI) (cZ := cZ) (cF := cF) G (by first | assumption | omega) (by first | assumption | omega)) (cwV 3 S.2.2.2.2 gX4_isVital_X4_isOnWay rfl rfl rfl ⟨rfl, v_X4_isOnWay⟩ ⟨(Nat.le_of_ble_eq_true rfl), (Nat.le_of_ble_eq_true rfl)⟩) hk hW 2 rfl rfl rfl rfl hl rfl (Nat.le_of_ble_eq_true rfl) dX4_isVital_4 ⟨(Nat.le_of_ble_eq_true rfl), (Nat.le_of_ble_eq_true rfl)⟩ (fun r u H locs hp hW => ?_)
  obtain ⟨rfl, rfl⟩ := hp
  refine ifeq_b (tgt := 31) S dX4_isVital_7 (by decide) (fun c_7 => ?_) (fun c_7 => ?_)
  · skip
    refine lv_iconst (v := nI 0) S.1 S.2.1 dX4_isVital_31 (by decide) ?_
    exact hR _ _ _ _ _ _ _ _ dX4_isVital_32 rfl (Nat.le_of_ble_eq_true rfl) (Nat.le_of_ble_eq_true rfl) hW ⟨(by simp only [vit, c_7, eq_self, Nat.add_zero, decide_false, decide_true, Bool.not_true, Bool.not_false, Bool.and_true, Bool.true_and, Bool.and_false, Bool.false_and, Bool.or_true, Bool.true_or, Bool.or_false, Bool.false_or, ↓reduceIte, cond_true, cond_false, bI, and_true, true_and, and_false, false_and, or_true, true_or, or_false, false_or, not_true_eq_false, not_false_eq_true, if_true, if_false, Bool.false_eq_true, reduceCtorEq, ite_true, ite_false]), ⟨_, rfl⟩⟩
  · skip
    refine lv_aload_n S.1 S.2.1 dX4_isVital_10 rfl (lv_at hl 0 rfl) ?_
    refine lv_iload_n S.1 S.2.1 dX4_isVital_11 rfl (lv_at hl 1 rfl) ?_
    refine lv_iload_n S.1 S.2.1 dX4_isVital_12 rfl (lv_at hl 2 rfl) ?_
    refine lv_iload_n S.1 S.2.1 dX4_isVital_13 rfl (lv_at hl 3 rfl) ?_
    refine lv_iconst (v := (-1)) S.1 S.2.1 dX4_isVital_14 (by decide) ?_
    refine kVi S (c_X4_leastAvoiding (l := l) (D := D) (cI := cI) (cZ := cZ) (cF := cF) G (by first | assumption | omega) (by first | assumption | omega)) (cwV 4 S.2.2.2.2 gX4_isVital_X4_leastAvoiding rfl rfl rfl ⟨rfl, v_X4_leastAvoiding⟩ ⟨(Nat.le_of_ble_eq_true rfl), (Nat.le_of_ble_eq_true rfl)⟩) hk hW 2 rfl rfl rfl rfl hl rfl (Nat.le_of_ble_eq_true rfl) dX4_isVital_15 ⟨(Nat.le_of_ble_eq_true rfl), (Nat.le_of_ble_eq_true rfl)⟩ (fun r u H locs hp hW => ?_)
    obtain ⟨rfl, R'_1, rfl⟩ := hp
    refine lv_aload_n S.1 S.2.1 dX4_isVital_18 rfl (lv_at hl 0 rfl) ?_
    refine lv_iload_n S.1 S.2.1 dX4_isVital_19 rfl (lv_at hl 1 rfl) ?_
    refine lv_iload_n S.1 S.2.1 dX4_isVital_20 rfl (lv_at hl 2 rfl) ?_
    refine kVi S (c_X4_leastPrice (l := l) (D := D) (cI := cI) (cZ := cZ) (cF := cF) (by first | assumption | omega) (by first | assumption | omega)) (cwV 2 S.2.2.2.2 gX4_isVital_X4_leastPrice rfl rfl rfl ⟨rfl, v_X4_leastPrice⟩ ⟨(Nat.le_of_ble_eq_true rfl), (Nat.le_of_ble_eq_true rfl)⟩) hk hW 2 rfl rfl rfl rfl hl rfl (Nat.le_of_ble_eq_true rfl) dX4_isVital_21 ⟨(Nat.le_of_ble_eq_true rfl), (Nat.le_of_ble_eq_true rfl)⟩ (fun r u H locs hp hW => ?_)
    obtain ⟨rfl, rfl⟩ := hp
    refine lv_icmp_eq (tgt := 31) S.1 S.2.1 dX4_isVital_24 (by decide) (fun c_24 => ?_) (fun c_24 => ?_)
    · skip
      refine lv_iconst (v := nI 0) S.1 S.2.1 dX4_isVital_31 (by decide) ?_
      exact hR _ _ _ _ _ _ _ _ dX4_isVital_32 rfl (Nat.le_of_ble_eq_true rfl) (Nat.le_of_ble_eq_true rfl) hW ⟨(by simp only [vit, c_7, eq_true c_24, eq_self, Nat.add_zero, decide_false, decide_true, Bool.not_true, Bool.not_false, Bool.and_true, Bool.true_and, Bool.and_false, Bool.false_and, Bool.or_true, Bool.true_or, Bool.or_false, Bool.false_or, ↓reduceIte, cond_true, cond_false, bI, and_true, true_and, and_false, false_and, or_true, true_or, or_false, false_or, not_true_eq_false, not_false_eq_true, if_true, if_false, Bool.false_eq_true, reduceCtorEq, ite_true, ite_false]), ⟨_, rfl⟩⟩
    · skip
      refine lv_iconst (v := nI 1) S.1 S.2.1 dX4_isVital_27 (by decide) ?_
      refine lv_goto (tgt := 32) S.1 S.2.1 dX4_isVital_28 (by decide) ?_
      exact hR _ _ _ _ _ _ _ _ dX4_isVital_32 rfl (Nat.le_of_ble_eq_true rfl) (Nat.le_of_ble_eq_true rfl) hW ⟨(by simp only [vit, c_7, eq_false c_24, eq_self, Nat.add_zero, decide_false, decide_true, Bool.not_true, Bool.not_false, Bool.and_true, Bool.true_and, Bool.and_false, Bool.false_and, Bool.or_true, Bool.true_or, Bool.or_false, Bool.false_or, ↓reduceIte, cond_true, cond_false, bI, and_true, true_and, and_false, false_and, or_true, true_or, or_false, false_or, not_true_eq_false, not_false_eq_true, if_true, if_false, Bool.false_eq_true, reduceCtorEq, ite_true, ite_false]), ⟨_, rfl⟩⟩
abbrev r_X4_wouldSink : Room := { frames := 4, cells := 0, slots := 0, locals := 98 }
theorem v_X4_wouldSink : yX4_wouldSink.cls ≠ "java/lang/invoke/MethodHandle" ∧ yX4_wouldSink.cls ≠ "java/lang/invoke/VarHandle" ∧ (parseMethodDescriptor yX4_wouldSink.desc).map (fun d => d.parameters.length) = some 5 := by decide +kernel
set_option maxRecDepth 100000 in
set_option maxHeartbeats 4000000 in
theorem c_X4_wouldSink {l : Launch} {D : va_G} {cI cZ cF : ClassId} {q : Nat → Nat} {qf : Nat → Nat} {g : Gr} {C R : Nat → Int32} {rw len : Nat} {F : Nat → Int32} {sz : Nat} {X : Nat → Int32} {mk : Int32} {a b : Nat} {v : Int32} {t : Bool} {x : Int32} (G : Gok g) (ha : a < 10) (hb : b < 10) : cI_ l D cI cZ cF yX4_wouldSink wsX4_wouldSink r_X4_wouldSink [.ref (q 2), .int (nI a), .int (nI b), .int v, .int (bI t), .int x] (wC q qf cI cZ cF g C R rw len F sz X mk) (fun r u => r = bI (snk g a b v t x) ∧ ∃ R', u = wC q qf cI cZ cF g C R' rw len F sz X mk) 0 0 := by
  refine cI_of (cc := cX4_wouldSink) (maxL := 6) (rt := .boolean) (plainFor_of_name (by decide +kernel)) rfl (Nat.le_of_ble_eq_true rfl) ?_
  intro p e s m args below meth c A Q ls S hk hW hl hR
  have hl : lv_has ls 6 [(0, .ref (q 2)), (1, .int (nI a)), (2, .int (nI b)), (3, .int v), (4, .int (bI t)), (5, .int x)] := hl
  have hwsX40 : ∀ x ∈ wsX40, x ∈ wsX4_wouldSink := fun x h => List.mem_cons_of_mem _ (List.mem_append_left _ (List.mem_append_right _ h))
  have hwsX20 : ∀ x ∈ wsX20, x ∈ wsX4_wouldSink := fun x h => List.mem_cons_of_mem _ (List.mem_append_right _ h)
  refine lv_iload_n S.1 S.2.1 dX4_wouldSink_0 rfl (lv_at hl 3 rfl) ?_
  refine lv_aload_n S.1 S.2.1 dX4_wouldSink_1 rfl (lv_at hl 0 rfl) ?_
  refine lv_iload_n S.1 S.2.1 dX4_wouldSink_2 rfl (lv_at hl 2 rfl) ?_
  refine lv_iload_n S.1 S.2.1 dX4_wouldSink_3 rfl (lv_at hl 1 rfl) ?_
  refine lv_iload S.1 S.2.1 dX4_wouldSink_4 (lv_at hl 5 rfl) ?_
  refine lv_iconst (v := (-1)) S.1 S.2.1 dX4_wouldSink_6 (by decide) ?_
  refine kVi S (c_X4_leastAvoiding (l := l) (D := D) (cI := cI) (cZ := cZ) (cF := cF) G (by first | assumption | omega) (by first | assumption | omega)) (cwV 4 S.2.2.2.2 gX4_wouldSink_X4_leastAvoiding rfl rfl rfl ⟨rfl, v_X4_leastAvoiding⟩ ⟨(Nat.le_of_ble_eq_true rfl), (Nat.le_of_ble_eq_true rfl)⟩) hk hW 2 rfl rfl rfl rfl hl rfl (Nat.le_of_ble_eq_true rfl) dX4_wouldSink_7 ⟨(Nat.le_of_ble_eq_true rfl), (Nat.le_of_ble_eq_true rfl)⟩ (fun r u H locs hp hW => ?_)
  obtain ⟨rfl, R'_1, rfl⟩ := hp
  refine kSi S (c_X4_closesBelow (l := l) (D := D) (cI := cI) (cZ := cZ) (cF := cF)) (va_cwS 2 S.2.2.2.2 gX4_wouldSink_X4_closesBelow rfl rfl rfl v_X4_closesBelow ⟨(Nat.le_of_ble_eq_true rfl), (Nat.le_of_ble_eq_true rfl)⟩) hk hW rfl hl rfl (Nat.le_of_ble_eq_true rfl) dX4_wouldSink_10 ⟨(Nat.le_of_ble_eq_true rfl), (Nat.le_of_ble_eq_true rfl)⟩ (fun r u H locs hp hW => ?_)
  obtain ⟨rfl, rfl⟩ := hp
  refine ifne_b (tgt := 37) S dX4_wouldSink_13 (by decide) (fun c_13 => ?_) (fun c_13 => ?_)
  · skip
    refine lv_iconst (v := nI 1) S.1 S.2.1 dX4_wouldSink_37 (by decide) ?_
    refine lv_goto (tgt := 42) S.1 S.2.1 dX4_wouldSink_38 (by decide) ?_
    exact hR _ _ _ _ _ _ _ _ dX4_wouldSink_42 rfl (Nat.le_of_ble_eq_true rfl) (Nat.le_of_ble_eq_true rfl) hW ⟨(by simp only [snk, c_13, eq_self, Nat.add_zero, decide_false, decide_true, Bool.not_true, Bool.not_false, Bool.and_true, Bool.true_and, Bool.and_false, Bool.false_and, Bool.or_true, Bool.true_or, Bool.or_false, Bool.false_or, ↓reduceIte, cond_true, cond_false, bI, and_true, true_and, and_false, false_and, or_true, true_or, or_false, false_or, not_true_eq_false, not_false_eq_true, if_true, if_false, Bool.false_eq_true, reduceCtorEq, ite_true, ite_false]), ⟨_, rfl⟩⟩
  · skip
    refine lv_iload S.1 S.2.1 dX4_wouldSink_16 (lv_at hl 4 rfl) ?_
    refine ifeq_b (tgt := 41) S dX4_wouldSink_18 (by decide) (fun c_18 => ?_) (fun c_18 => ?_)
    · skip
      refine lv_iconst (v := nI 0) S.1 S.2.1 dX4_wouldSink_41 (by decide) ?_
      exact hR _ _ _ _ _ _ _ _ dX4_wouldSink_42 rfl (Nat.le_of_ble_eq_true rfl) (Nat.le_of_ble_eq_true rfl) hW ⟨(by simp only [snk, c_13, c_18, eq_self, Nat.add_zero, decide_false, decide_true, Bool.not_true, Bool.not_false, Bool.and_true, Bool.true_and, Bool.and_false, Bool.false_and, Bool.or_true, Bool.true_or, Bool.or_false, Bool.false_or, ↓reduceIte, cond_true, cond_false, bI, and_true, true_and, and_false, false_and, or_true, true_or, or_false, false_or, not_true_eq_false, not_false_eq_true, if_true, if_false, Bool.false_eq_true, reduceCtorEq, ite_true, ite_false]), ⟨_, rfl⟩⟩
    · skip
      refine lv_iload_n S.1 S.2.1 dX4_wouldSink_21 rfl (lv_at hl 3 rfl) ?_
      refine lv_aload_n S.1 S.2.1 dX4_wouldSink_22 rfl (lv_at hl 0 rfl) ?_
      refine lv_iload_n S.1 S.2.1 dX4_wouldSink_23 rfl (lv_at hl 1 rfl) ?_
      refine lv_iload_n S.1 S.2.1 dX4_wouldSink_24 rfl (lv_at hl 2 rfl) ?_
      refine lv_iload S.1 S.2.1 dX4_wouldSink_25 (lv_at hl 5 rfl) ?_
      refine lv_iconst (v := (-1)) S.1 S.2.1 dX4_wouldSink_27 (by decide) ?_
      refine kVi S (c_X4_leastAvoiding (l := l) (D := D) (cI := cI) (cZ := cZ) (cF := cF) G (by first | assumption | omega) (by first | assumption | omega)) (cwV 4 S.2.2.2.2 gX4_wouldSink_X4_leastAvoiding rfl rfl rfl ⟨rfl, v_X4_leastAvoiding⟩ ⟨(Nat.le_of_ble_eq_true rfl), (Nat.le_of_ble_eq_true rfl)⟩) hk hW 2 rfl rfl rfl rfl hl rfl (Nat.le_of_ble_eq_true rfl) dX4_wouldSink_28 ⟨(Nat.le_of_ble_eq_true rfl), (Nat.le_of_ble_eq_true rfl)⟩ (fun r u H locs hp hW => ?_)
      obtain ⟨rfl, R'_2, rfl⟩ := hp
      refine kSi S (c_X4_closesBelow (l := l) (D := D) (cI := cI) (cZ := cZ) (cF := cF)) (va_cwS 2 S.2.2.2.2 gX4_wouldSink_X4_closesBelow rfl rfl rfl v_X4_closesBelow ⟨(Nat.le_of_ble_eq_true rfl), (Nat.le_of_ble_eq_true rfl)⟩) hk hW rfl hl rfl (Nat.le_of_ble_eq_true rfl) dX4_wouldSink_31 ⟨(Nat.le_of_ble_eq_true rfl), (Nat.le_of_ble_eq_true rfl)⟩ (fun r u H locs hp hW => ?_)
      obtain ⟨rfl, rfl⟩ := hp
      refine ifeq_b (tgt := 41) S dX4_wouldSink_34 (by decide) (fun c_34 => ?_) (fun c_34 => ?_)
      · skip
        refine lv_iconst (v := nI 0) S.1 S.2.1 dX4_wouldSink_41 (by decide) ?_
        exact hR _ _ _ _ _ _ _ _ dX4_wouldSink_42 rfl (Nat.le_of_ble_eq_true rfl) (Nat.le_of_ble_eq_true rfl) hW ⟨(by simp only [snk, c_13, c_18, c_34, eq_self, Nat.add_zero, decide_false, decide_true, Bool.not_true, Bool.not_false, Bool.and_true, Bool.true_and, Bool.and_false, Bool.false_and, Bool.or_true, Bool.true_or, Bool.or_false, Bool.false_or, ↓reduceIte, cond_true, cond_false, bI, and_true, true_and, and_false, false_and, or_true, true_or, or_false, false_or, not_true_eq_false, not_false_eq_true, if_true, if_false, Bool.false_eq_true, reduceCtorEq, ite_true, ite_false]), ⟨_, rfl⟩⟩
      · skip
        refine lv_iconst (v := nI 1) S.1 S.2.1 dX4_wouldSink_37 (by decide) ?_
        refine lv_goto (tgt := 42) S.1 S.2.1 dX4_wouldSink_38 (by decide) ?_
        exact hR _ _ _ _ _ _ _ _ dX4_wouldSink_42 rfl (Nat.le_of_ble_eq_true rfl) (Nat.le_of_ble_eq_true rfl) hW ⟨(by simp only [snk, c_13, c_18, c_34, eq_self, Nat.add_zero, decide_false, decide_true, Bool.not_true, Bool.not_false, Bool.and_true, Bool.true_and, Bool.and_false, Bool.false_and, Bool.or_true, Bool.true_or, Bool.or_false, Bool.false_or, ↓reduceIte, cond_true, cond_false, bI, and_true, true_and, and_false, false_and, or_true, true_or, or_false, false_or, not_true_eq_false, not_false_eq_true, if_true, if_false, Bool.false_eq_true, reduceCtorEq, ite_true, ite_false]), ⟨_, rfl⟩⟩
abbrev r_X4_ringOver : Room := { frames := 3, cells := 0, slots := 0, locals := 64 }
theorem v_X4_ringOver : yX4_ringOver.cls ≠ "java/lang/invoke/MethodHandle" ∧ yX4_ringOver.cls ≠ "java/lang/invoke/VarHandle" ∧ (parseMethodDescriptor yX4_ringOver.desc).map (fun d => d.parameters.length) = some 1 := by decide +kernel
set_option maxRecDepth 100000 in
set_option maxHeartbeats 4000000 in
theorem c_X4_ringOver {l : Launch} {D : va_G} {cI cZ cF : ClassId} {q : Nat → Nat} {qf : Nat → Nat} {g : Gr} {C R : Nat → Int32} {rw len : Nat} {F : Nat → Int32} {sz : Nat} {X : Nat → Int32} {mk : Int32} {j : Nat} (G : Gok g) (hj : j < gK g) : cI_ l D cI cZ cF yX4_ringOver wsX4_ringOver r_X4_ringOver [.ref (q 2), .int (nI j)] (wC q qf cI cZ cF g C R rw len F sz X mk) (fun r u => r = rov g C j ∧ u = wC q qf cI cZ cF g C R rw len F sz X mk) 0 0 := by
  refine cI_of (cc := cX4_ringOver) (maxL := 4) (rt := .int) (plainFor_of_name (by decide +kernel)) rfl (Nat.le_of_ble_eq_true rfl) ?_
  intro p e s m args below meth c A Q ls S hk hW hl hR
  have hl : lv_has ls 4 [(0, .ref (q 2)), (1, .int (nI j))] := hl
  have hwsX40 : ∀ x ∈ wsX40, x ∈ wsX4_ringOver := fun x h => List.mem_cons_of_mem _ (List.mem_append_left _ (List.mem_append_right _ h))
  have hwsX20 : ∀ x ∈ wsX20, x ∈ wsX4_ringOver := fun x h => List.mem_cons_of_mem _ (List.mem_append_right _ h)
  have hN := Gok_N G; have hN2 := Gok_N2 G; have hKK := Gok_K G
  refine lv_aload_n S.1 S.2.1 dX4_ringOver_0 rfl (lv_at hl 0 rfl) ?_
  refine gf S hk hW 2 rfl rfl hwsX40 0 (by decide) 1 rfl rfl dX4_ringOver_1 ?_
  refine gfN (host := RX5) S hk hW 1 rfl rfl hwsX20 4 (by decide) 13 rfl rfl dX4_ringOver_4 ?_
  refine lv_iload_n S.1 S.2.1 dX4_ringOver_7 rfl (lv_at hl 1 rfl) ?_
  refine zld S hk hW 9 rfl j rfl (by omega) (by omega) dX4_ringOver_8 ?_
  refine top_eq (Gok_T G (j := j) (by omega)) ?_
  refine ifne_b (tgt := 16) S dX4_ringOver_9 (by decide) (fun c_9 => ?_) (fun c_9 => ?_)
  · skip
    refine lv_aload_n S.1 S.2.1 dX4_ringOver_16 rfl (lv_at hl 0 rfl) ?_
    refine gf S hk hW 2 rfl rfl hwsX40 0 (by decide) 1 rfl rfl dX4_ringOver_17 ?_
    refine gfN (host := RX5) S hk hW 1 rfl rfl hwsX20 2 (by decide) 9 rfl rfl dX4_ringOver_20 ?_
    refine lv_iload_n S.1 S.2.1 dX4_ringOver_23 rfl (lv_at hl 1 rfl) ?_
    refine ild S hk hW 7 rfl j rfl (by omega) (by omega) dX4_ringOver_24 ?_
    refine lv_istore_n (lv' := [(2, .int (gP g j)), (0, .ref (q 2)), (1, .int (nI j))]) S.1 S.2.1 dX4_ringOver_25 rfl hl (by decide) rfl (fun ls hl => ?_)
    refine lv_aload_n S.1 S.2.1 dX4_ringOver_26 rfl (lv_at hl 1 rfl) ?_
    refine gf S hk hW 2 rfl rfl hwsX40 0 (by decide) 1 rfl rfl dX4_ringOver_27 ?_
    refine gfN (host := RX5) S hk hW 1 rfl rfl hwsX20 3 (by decide) 12 rfl rfl dX4_ringOver_30 ?_
    refine lv_iload_n S.1 S.2.1 dX4_ringOver_33 rfl (lv_at hl 2 rfl) ?_
    refine zld S hk hW 8 rfl j rfl (by omega) (by omega) dX4_ringOver_34 ?_
    refine top_eq (Gok_W G (j := j) (by omega)) ?_
    refine ifeq_b (tgt := 88) S dX4_ringOver_35 (by decide) (fun c_35 => ?_) (fun c_35 => ?_)
    · skip
      refine lv_aload_n S.1 S.2.1 dX4_ringOver_88 rfl (lv_at hl 1 rfl) ?_
      refine lv_aload_n S.1 S.2.1 dX4_ringOver_89 rfl (lv_at hl 1 rfl) ?_
      refine gf S hk hW 2 rfl rfl hwsX40 0 (by decide) 1 rfl rfl dX4_ringOver_90 ?_
      refine gfN (host := RX5) S hk hW 1 rfl rfl hwsX20 1 (by decide) 11 rfl rfl dX4_ringOver_93 ?_
      refine lv_iload_n S.1 S.2.1 dX4_ringOver_96 rfl (lv_at hl 2 rfl) ?_
      refine ild S hk hW 6 rfl j rfl (by omega) (by omega) dX4_ringOver_97 ?_
      refine top_eq (Gok_E G (j := j) (by omega)) ?_
      have hb97 := Gok_E2 G (j := j) (by omega)
      refine lv_aload_n S.1 S.2.1 dX4_ringOver_98 rfl (lv_at hl 1 rfl) ?_
      refine gf S hk hW 2 rfl rfl hwsX40 0 (by decide) 1 rfl rfl dX4_ringOver_99 ?_
      refine gfN (host := RX5) S hk hW 1 rfl rfl hwsX20 0 (by decide) 10 rfl rfl dX4_ringOver_102 ?_
      refine lv_iload_n S.1 S.2.1 dX4_ringOver_105 rfl (lv_at hl 2 rfl) ?_
      refine ild S hk hW 5 rfl j rfl (by omega) (by omega) dX4_ringOver_106 ?_
      refine top_eq (Gok_B G (j := j) (by omega)) ?_
      have hb106 := Gok_B2 G (j := j) (by omega)
      refine kVi S (c_X4_leastPrice (l := l) (D := D) (cI := cI) (cZ := cZ) (cF := cF) (by first | assumption | omega) (by first | assumption | omega)) (cwV 2 S.2.2.2.2 gX4_ringOver_X4_leastPrice rfl rfl rfl ⟨rfl, v_X4_leastPrice⟩ ⟨(Nat.le_of_ble_eq_true rfl), (Nat.le_of_ble_eq_true rfl)⟩) hk hW 2 rfl rfl rfl rfl hl rfl (Nat.le_of_ble_eq_true rfl) dX4_ringOver_107 ⟨(Nat.le_of_ble_eq_true rfl), (Nat.le_of_ble_eq_true rfl)⟩ (fun r u H locs hp hW => ?_)
      obtain ⟨rfl, rfl⟩ := hp
      refine lv_istore_n (lv' := [(3, .int (prI (C ((e2 g j) * 10 + (e1 g j))))), (2, .int (gP g j)), (0, .ref (q 2)), (1, .int (nI j))]) S.1 S.2.1 dX4_ringOver_110 rfl hl (by decide) rfl (fun ls hl => ?_)
      refine lv_iload_n S.1 S.2.1 dX4_ringOver_111 rfl (lv_at hl 0 rfl) ?_
      refine lv_sipush (v := (-1000)) S.1 S.2.1 dX4_ringOver_112 (by decide) ?_
      refine lv_icmp_ne (tgt := 124) S.1 S.2.1 dX4_ringOver_115 (by decide) (fun c_115 => ?_) (fun c_115 => ?_)
      · skip
        refine lv_iload_n S.1 S.2.1 dX4_ringOver_124 rfl (lv_at hl 1 rfl) ?_
        refine lv_iload_n S.1 S.2.1 dX4_ringOver_125 rfl (lv_at hl 0 rfl) ?_
        refine lv_iadd S.1 S.2.1 dX4_ringOver_126 ?_
        exact hR _ _ _ _ _ _ _ _ dX4_ringOver_127 rfl (Nat.le_of_ble_eq_true rfl) (Nat.le_of_ble_eq_true rfl) hW ⟨(by simp only [rov, c_9, c_35, eq_false c_115, eq_self, Nat.add_zero, decide_false, decide_true, Bool.not_true, Bool.not_false, Bool.and_true, Bool.true_and, Bool.and_false, Bool.false_and, Bool.or_true, Bool.true_or, Bool.or_false, Bool.false_or, ↓reduceIte, cond_true, cond_false, bI, and_true, true_and, and_false, false_and, or_true, true_or, or_false, false_or, not_true_eq_false, not_false_eq_true, if_true, if_false, Bool.false_eq_true, reduceCtorEq, ite_true, ite_false]), rfl⟩
      · skip
        refine lv_sipush (v := (-1000)) S.1 S.2.1 dX4_ringOver_118 (by decide) ?_
        refine lv_goto (tgt := 127) S.1 S.2.1 dX4_ringOver_121 (by decide) ?_
        exact hR _ _ _ _ _ _ _ _ dX4_ringOver_127 rfl (Nat.le_of_ble_eq_true rfl) (Nat.le_of_ble_eq_true rfl) hW ⟨(by simp only [rov, c_9, c_35, eq_true c_115, eq_self, Nat.add_zero, decide_false, decide_true, Bool.not_true, Bool.not_false, Bool.and_true, Bool.true_and, Bool.and_false, Bool.false_and, Bool.or_true, Bool.true_or, Bool.or_false, Bool.false_or, ↓reduceIte, cond_true, cond_false, bI, and_true, true_and, and_false, false_and, or_true, true_or, or_false, false_or, not_true_eq_false, not_false_eq_true, if_true, if_false, Bool.false_eq_true, reduceCtorEq, ite_true, ite_false]), rfl⟩
    · skip
      refine lv_iload_n S.1 S.2.1 dX4_ringOver_38 rfl (lv_at hl 0 rfl) ?_
      refine lv_aload_n S.1 S.2.1 dX4_ringOver_39 rfl (lv_at hl 1 rfl) ?_
      refine lv_aload_n S.1 S.2.1 dX4_ringOver_40 rfl (lv_at hl 1 rfl) ?_
      refine gf S hk hW 2 rfl rfl hwsX40 0 (by decide) 1 rfl rfl dX4_ringOver_41 ?_
      refine gfN (host := RX5) S hk hW 1 rfl rfl hwsX20 0 (by decide) 10 rfl rfl dX4_ringOver_44 ?_
      refine lv_iload_n S.1 S.2.1 dX4_ringOver_47 rfl (lv_at hl 2 rfl) ?_
      refine ild S hk hW 5 rfl j rfl (by omega) (by omega) dX4_ringOver_48 ?_
      refine top_eq (Gok_B G (j := j) (by omega)) ?_
      have hb48 := Gok_B2 G (j := j) (by omega)
      refine lv_aload_n S.1 S.2.1 dX4_ringOver_49 rfl (lv_at hl 1 rfl) ?_
      refine gf S hk hW 2 rfl rfl hwsX40 0 (by decide) 1 rfl rfl dX4_ringOver_50 ?_
      refine gfN (host := RX5) S hk hW 1 rfl rfl hwsX20 1 (by decide) 11 rfl rfl dX4_ringOver_53 ?_
      refine lv_iload_n S.1 S.2.1 dX4_ringOver_56 rfl (lv_at hl 2 rfl) ?_
      refine ild S hk hW 6 rfl j rfl (by omega) (by omega) dX4_ringOver_57 ?_
      refine top_eq (Gok_E G (j := j) (by omega)) ?_
      have hb57 := Gok_E2 G (j := j) (by omega)
      refine kVi S (c_X4_leastPrice (l := l) (D := D) (cI := cI) (cZ := cZ) (cF := cF) (by first | assumption | omega) (by first | assumption | omega)) (cwV 2 S.2.2.2.2 gX4_ringOver_X4_leastPrice rfl rfl rfl ⟨rfl, v_X4_leastPrice⟩ ⟨(Nat.le_of_ble_eq_true rfl), (Nat.le_of_ble_eq_true rfl)⟩) hk hW 2 rfl rfl rfl rfl hl rfl (Nat.le_of_ble_eq_true rfl) dX4_ringOver_58 ⟨(Nat.le_of_ble_eq_true rfl), (Nat.le_of_ble_eq_true rfl)⟩ (fun r u H locs hp hW => ?_)
      obtain ⟨rfl, rfl⟩ := hp
      refine lv_aload_n S.1 S.2.1 dX4_ringOver_61 rfl (lv_at hl 1 rfl) ?_
      refine lv_aload_n S.1 S.2.1 dX4_ringOver_62 rfl (lv_at hl 1 rfl) ?_
      refine gf S hk hW 2 rfl rfl hwsX40 0 (by decide) 1 rfl rfl dX4_ringOver_63 ?_
      refine gfN (host := RX5) S hk hW 1 rfl rfl hwsX20 1 (by decide) 11 rfl rfl dX4_ringOver_66 ?_
      refine lv_iload_n S.1 S.2.1 dX4_ringOver_69 rfl (lv_at hl 2 rfl) ?_
      refine ild S hk hW 6 rfl j rfl (by omega) (by omega) dX4_ringOver_70 ?_
      refine top_eq (Gok_E G (j := j) (by omega)) ?_
      have hb70 := Gok_E2 G (j := j) (by omega)
      refine lv_aload_n S.1 S.2.1 dX4_ringOver_71 rfl (lv_at hl 1 rfl) ?_
      refine gf S hk hW 2 rfl rfl hwsX40 0 (by decide) 1 rfl rfl dX4_ringOver_72 ?_
      refine gfN (host := RX5) S hk hW 1 rfl rfl hwsX20 0 (by decide) 10 rfl rfl dX4_ringOver_75 ?_
      refine lv_iload_n S.1 S.2.1 dX4_ringOver_78 rfl (lv_at hl 2 rfl) ?_
      refine ild S hk hW 5 rfl j rfl (by omega) (by omega) dX4_ringOver_79 ?_
      refine top_eq (Gok_B G (j := j) (by omega)) ?_
      have hb79 := Gok_B2 G (j := j) (by omega)
      refine kVi S (c_X4_leastPrice (l := l) (D := D) (cI := cI) (cZ := cZ) (cF := cF) (by first | assumption | omega) (by first | assumption | omega)) (cwV 2 S.2.2.2.2 gX4_ringOver_X4_leastPrice rfl rfl rfl ⟨rfl, v_X4_leastPrice⟩ ⟨(Nat.le_of_ble_eq_true rfl), (Nat.le_of_ble_eq_true rfl)⟩) hk hW 2 rfl rfl rfl rfl hl rfl (Nat.le_of_ble_eq_true rfl) dX4_ringOver_80 ⟨(Nat.le_of_ble_eq_true rfl), (Nat.le_of_ble_eq_true rfl)⟩ (fun r u H locs hp hW => ?_)
      obtain ⟨rfl, rfl⟩ := hp
      refine va_mmin S.1 S.2.1 (S.2.2.1.trans hl.1.symm) S.2.2.2.1 (S.2.2.2.2 _ (List.mem_of_getElem? (i := 2) rfl)) (S.2.2.2.2 _ (List.mem_of_getElem? (i := 3) rfl)) (S.2.2.2.2 _ (List.mem_of_getElem? (i := 4) rfl)) (S.2.2.2.2 _ (List.mem_of_getElem? (i := 5) rfl)) (Nat.le_of_ble_eq_true rfl) (Nat.le_of_ble_eq_true rfl) (Nat.zero_le _) (Nat.zero_le _) dX4_ringOver_83 ?_
      refine top_eq (y := mmin (prI (C ((e1 g j) * 10 + (e2 g j)))) (prI (C ((e2 g j) * 10 + (e1 g j))))) rfl ?_
      refine lv_iadd S.1 S.2.1 dX4_ringOver_86 ?_
      exact hR _ _ _ _ _ _ _ _ dX4_ringOver_87 rfl (Nat.le_of_ble_eq_true rfl) (Nat.le_of_ble_eq_true rfl) hW ⟨(by simp only [rov, c_9, c_35, eq_self, Nat.add_zero, decide_false, decide_true, Bool.not_true, Bool.not_false, Bool.and_true, Bool.true_and, Bool.and_false, Bool.false_and, Bool.or_true, Bool.true_or, Bool.or_false, Bool.false_or, ↓reduceIte, cond_true, cond_false, bI, and_true, true_and, and_false, false_and, or_true, true_or, or_false, false_or, not_true_eq_false, not_false_eq_true, if_true, if_false, Bool.false_eq_true, reduceCtorEq, ite_true, ite_false]), rfl⟩
  · skip
    refine lv_sipush (v := (-1000)) S.1 S.2.1 dX4_ringOver_12 (by decide) ?_
    exact hR _ _ _ _ _ _ _ _ dX4_ringOver_15 rfl (Nat.le_of_ble_eq_true rfl) (Nat.le_of_ble_eq_true rfl) hW ⟨(by simp only [rov, c_9, eq_self, Nat.add_zero, decide_false, decide_true, Bool.not_true, Bool.not_false, Bool.and_true, Bool.true_and, Bool.and_false, Bool.false_and, Bool.or_true, Bool.true_or, Bool.or_false, Bool.false_or, ↓reduceIte, cond_true, cond_false, bI, and_true, true_and, and_false, false_and, or_true, true_or, or_false, false_or, not_true_eq_false, not_false_eq_true, if_true, if_false, Bool.false_eq_true, reduceCtorEq, ite_true, ite_false]), rfl⟩
abbrev r_X4_leastRing : Room := { frames := 4, cells := 0, slots := 0, locals := 87 }
theorem v_X4_leastRing : yX4_leastRing.cls ≠ "java/lang/invoke/MethodHandle" ∧ yX4_leastRing.cls ≠ "java/lang/invoke/VarHandle" ∧ (parseMethodDescriptor yX4_leastRing.desc).map (fun d => d.parameters.length) = some 0 := by decide +kernel
set_option maxRecDepth 100000 in
set_option maxHeartbeats 4000000 in
theorem c_X4_leastRing {l : Launch} {D : va_G} {cI cZ cF : ClassId} {q : Nat → Nat} {qf : Nat → Nat} {g : Gr} {C R : Nat → Int32} {rw len : Nat} {F : Nat → Int32} {sz : Nat} {X : Nat → Int32} {mk : Int32}  (G : Gok g) : cI_ l D cI cZ cF yX4_leastRing wsX4_leastRing r_X4_leastRing [.ref (q 2)] (wC q qf cI cZ cF g C R rw len F sz X mk) (fun r u => r = rgS g C (gK g) ∧ u = wC q qf cI cZ cF g C R rw len F sz X mk) 0 0 := by
  refine cI_of (cc := cX4_leastRing) (maxL := 4) (rt := .int) (plainFor_of_name (by decide +kernel)) rfl (Nat.le_of_ble_eq_true rfl) ?_
  intro p e s m args below meth c A Q ls S hk hW hl hR
  have hl : lv_has ls 4 [(0, .ref (q 2))] := hl
  have hwsX40 : ∀ x ∈ wsX40, x ∈ wsX4_leastRing := fun x h => List.mem_cons_of_mem _ (List.mem_append_left _ (List.mem_append_right _ h))
  have hwsX20 : ∀ x ∈ wsX20, x ∈ wsX4_leastRing := fun x h => List.mem_cons_of_mem _ (List.mem_append_right _ h)
  have hN := Gok_N G; have hN2 := Gok_N2 G; have hKK := Gok_K G
  refine lv_sipush (v := (-1000)) S.1 S.2.1 dX4_leastRing_0 (by decide) ?_
  refine lv_istore_n (lv' := [(1, .int (-1000)), (0, .ref (q 2))]) S.1 S.2.1 dX4_leastRing_3 rfl hl (by decide) rfl (fun ls hl => ?_)
  refine lv_iconst (v := nI 0) S.1 S.2.1 dX4_leastRing_4 (by decide) ?_
  refine lv_istore_n (lv' := [(2, .int (nI 0)), (1, .int (-1000)), (0, .ref (q 2))]) S.1 S.2.1 dX4_leastRing_5 rfl hl (by decide) rfl (fun ls hl => ?_)
  have L6 : ∀ (dd : Nat), ∀ (z : Int32), ∀ (j : Nat), (z = rgS g C j) → (j ≤ gK g) → gK g < j + dd → ∀ (H : Heap) (locs : List Loc) (ls : Array Slot), wd D A s H locs (wC q qf cI cZ cF g C R rw len F sz X mk) → lv_has ls 4 [(0, .ref (q 2)), (1, .int z), (2, .int (nI j))] → W p l e r_X4_leastRing s m args below meth c H locs 0 0 Q (F0 m 6 ls []) := by
    intro dd
    induction dd with
    | zero => intros; omega
    | succ dd ih6 =>
      intro z j hz hj hdd H locs ls hW hl
      refine lv_iload_n S.1 S.2.1 dX4_leastRing_6 rfl (lv_at hl 2 rfl) ?_
      refine lv_aload_n S.1 S.2.1 dX4_leastRing_7 rfl (lv_at hl 0 rfl) ?_
      refine gf S hk hW 2 rfl rfl hwsX40 0 (by decide) 1 rfl rfl dX4_leastRing_8 ?_
      refine gfN (host := RX5) S hk hW 1 rfl rfl hwsX20 6 (by decide) 8 rfl rfl dX4_leastRing_11 ?_
      refine icge_n (tgt := 50) S (by omega) (by omega) dX4_leastRing_14 (by decide) (fun c_14 => ?_) (fun c_14 => ?_)
      · skip
        refine lv_iload_n S.1 S.2.1 dX4_leastRing_50 rfl (lv_at hl 1 rfl) ?_
        exact hR _ _ _ _ _ _ _ _ dX4_leastRing_51 rfl (Nat.le_of_ble_eq_true rfl) (Nat.le_of_ble_eq_true rfl) hW ⟨by rw [hz, show j = gK g by omega], rfl⟩
      · skip
        refine lv_aload_n S.1 S.2.1 dX4_leastRing_17 rfl (lv_at hl 0 rfl) ?_
        refine lv_iload_n S.1 S.2.1 dX4_leastRing_18 rfl (lv_at hl 2 rfl) ?_
        refine kVi S (c_X4_ringOver (l := l) (D := D) (cI := cI) (cZ := cZ) (cF := cF) G (by first | assumption | omega)) (cwV 1 S.2.2.2.2 gX4_leastRing_X4_ringOver rfl rfl rfl ⟨rfl, v_X4_ringOver⟩ ⟨(Nat.le_of_ble_eq_true rfl), (Nat.le_of_ble_eq_true rfl)⟩) hk hW 2 rfl rfl rfl rfl hl rfl (Nat.le_of_ble_eq_true rfl) dX4_leastRing_19 ⟨(Nat.le_of_ble_eq_true rfl), (Nat.le_of_ble_eq_true rfl)⟩ (fun r u H locs hp hW => ?_)
        obtain ⟨rfl, rfl⟩ := hp
        refine lv_istore_n (lv' := [(3, .int (rov g C j)), (0, .ref (q 2)), (1, .int z), (2, .int (nI j))]) S.1 S.2.1 dX4_leastRing_22 rfl hl (by decide) rfl (fun ls hl => ?_)
        refine lv_iload_n S.1 S.2.1 dX4_leastRing_23 rfl (lv_at hl 0 rfl) ?_
        refine lv_sipush (v := (-1000)) S.1 S.2.1 dX4_leastRing_24 (by decide) ?_
        refine lv_icmp_eq (tgt := 44) S.1 S.2.1 dX4_leastRing_27 (by decide) (fun c_27 => ?_) (fun c_27 => ?_)
        · skip
          refine lv_iinc (v := nI (j + 1)) (lv' := [(2, .int (nI (j + 1))), (3, .int (rov g C j)), (0, .ref (q 2)), (1, .int z)]) (k := 3) S.1 S.2.1 dX4_leastRing_44 hl rfl (nI_1 _) (by decide) rfl (fun ls hl => ?_)
          refine lv_goto (tgt := 6) S.1 S.2.1 dX4_leastRing_47 (by decide) ?_
          exact ih6 z (j + 1) (by simp only [rgS, ← hz, c_14, c_27, eq_self, Nat.add_zero, decide_false, decide_true, Bool.not_true, Bool.not_false, Bool.and_true, Bool.true_and, Bool.and_false, Bool.false_and, Bool.or_true, Bool.true_or, Bool.or_false, Bool.false_or, ↓reduceIte, cond_true, cond_false, bI, and_true, true_and, and_false, false_and, or_true, true_or, or_false, false_or, not_true_eq_false, not_false_eq_true, if_true, if_false, Bool.false_eq_true, reduceCtorEq, ite_true, ite_false]) (by omega) (by omega) _ _ _ hW (lv_sub hl [2, 3, 0] rfl)
        · skip
          refine lv_iload_n S.1 S.2.1 dX4_leastRing_30 rfl (lv_at hl 2 rfl) ?_
          refine lv_sipush (v := (-1000)) S.1 S.2.1 dX4_leastRing_31 (by decide) ?_
          refine lv_icmp_eq (tgt := 42) S.1 S.2.1 dX4_leastRing_34 (by decide) (fun c_34 => ?_) (fun c_34 => ?_)
          · skip
            refine lv_iload_n S.1 S.2.1 dX4_leastRing_42 rfl (lv_at hl 0 rfl) ?_
            refine lv_istore_n (lv' := [(1, .int (rov g C j)), (3, .int (rov g C j)), (0, .ref (q 2)), (2, .int (nI j))]) S.1 S.2.1 dX4_leastRing_43 rfl hl (by decide) rfl (fun ls hl => ?_)
            refine lv_iinc (v := nI (j + 1)) (lv' := [(2, .int (nI (j + 1))), (1, .int (rov g C j)), (3, .int (rov g C j)), (0, .ref (q 2))]) (k := 3) S.1 S.2.1 dX4_leastRing_44 hl rfl (nI_1 _) (by decide) rfl (fun ls hl => ?_)
            refine lv_goto (tgt := 6) S.1 S.2.1 dX4_leastRing_47 (by decide) ?_
            exact ih6 (rov g C j) (j + 1) (by simp only [rgS, ← hz, c_14, c_27, c_34, eq_self, Nat.add_zero, decide_false, decide_true, Bool.not_true, Bool.not_false, Bool.and_true, Bool.true_and, Bool.and_false, Bool.false_and, Bool.or_true, Bool.true_or, Bool.or_false, Bool.false_or, ↓reduceIte, cond_true, cond_false, bI, and_true, true_and, and_false, false_and, or_true, true_or, or_false, false_or, not_true_eq_false, not_false_eq_true, if_true, if_false, Bool.false_eq_true, reduceCtorEq, ite_true, ite_false]) (by omega) (by omega) _ _ _ hW (lv_sub hl [3, 1, 0] rfl)
          · skip
            refine lv_iload_n S.1 S.2.1 dX4_leastRing_37 rfl (lv_at hl 0 rfl) ?_
            refine lv_iload_n S.1 S.2.1 dX4_leastRing_38 rfl (lv_at hl 2 rfl) ?_
            refine lv_icmp_ge (tgt := 44) S.1 S.2.1 dX4_leastRing_39 (by decide) (fun c_39 => ?_) (fun c_39 => ?_)
            · skip
              refine lv_iinc (v := nI (j + 1)) (lv' := [(2, .int (nI (j + 1))), (3, .int (rov g C j)), (0, .ref (q 2)), (1, .int z)]) (k := 3) S.1 S.2.1 dX4_leastRing_44 hl rfl (nI_1 _) (by decide) rfl (fun ls hl => ?_)
              refine lv_goto (tgt := 6) S.1 S.2.1 dX4_leastRing_47 (by decide) ?_
              exact ih6 z (j + 1) (by simp only [rgS, ← hz, c_14, c_27, c_34, c_39, eq_self, Nat.add_zero, decide_false, decide_true, Bool.not_true, Bool.not_false, Bool.and_true, Bool.true_and, Bool.and_false, Bool.false_and, Bool.or_true, Bool.true_or, Bool.or_false, Bool.false_or, ↓reduceIte, cond_true, cond_false, bI, and_true, true_and, and_false, false_and, or_true, true_or, or_false, false_or, not_true_eq_false, not_false_eq_true, if_true, if_false, Bool.false_eq_true, reduceCtorEq, ite_true, ite_false]) (by omega) (by omega) _ _ _ hW (lv_sub hl [2, 3, 0] rfl)
            · skip
              refine lv_iload_n S.1 S.2.1 dX4_leastRing_42 rfl (lv_at hl 0 rfl) ?_
              refine lv_istore_n (lv' := [(1, .int (rov g C j)), (3, .int (rov g C j)), (0, .ref (q 2)), (2, .int (nI j))]) S.1 S.2.1 dX4_leastRing_43 rfl hl (by decide) rfl (fun ls hl => ?_)
              refine lv_iinc (v := nI (j + 1)) (lv' := [(2, .int (nI (j + 1))), (1, .int (rov g C j)), (3, .int (rov g C j)), (0, .ref (q 2))]) (k := 3) S.1 S.2.1 dX4_leastRing_44 hl rfl (nI_1 _) (by decide) rfl (fun ls hl => ?_)
              refine lv_goto (tgt := 6) S.1 S.2.1 dX4_leastRing_47 (by decide) ?_
              exact ih6 (rov g C j) (j + 1) (by simp only [rgS, ← hz, c_14, c_27, c_34, c_39, eq_self, Nat.add_zero, decide_false, decide_true, Bool.not_true, Bool.not_false, Bool.and_true, Bool.true_and, Bool.and_false, Bool.false_and, Bool.or_true, Bool.true_or, Bool.or_false, Bool.false_or, ↓reduceIte, cond_true, cond_false, bI, and_true, true_and, and_false, false_and, or_true, true_or, or_false, false_or, not_true_eq_false, not_false_eq_true, if_true, if_false, Bool.false_eq_true, reduceCtorEq, ite_true, ite_false]) (by omega) (by omega) _ _ _ hW (lv_sub hl [3, 1, 0] rfl)
  exact L6 ((gK g) + 1) (-1000) 0 rfl (by omega) (by omega) _ _ _ hW (lv_sub hl [2, 1, 0] rfl)
abbrev r_X4_heightOf : Room := { frames := 3, cells := 0, slots := 0, locals := 64 }
theorem v_X4_heightOf : yX4_heightOf.cls ≠ "java/lang/invoke/MethodHandle" ∧ yX4_heightOf.cls ≠ "java/lang/invoke/VarHandle" ∧ (parseMethodDescriptor yX4_heightOf.desc).map (fun d => d.parameters.length) = some 1 := by decide +kernel
set_option maxRecDepth 100000 in
set_option maxHeartbeats 4000000 in
theorem c_X4_heightOf {l : Launch} {D : va_G} {cI cZ cF : ClassId} {q : Nat → Nat} {qf : Nat → Nat} {g : Gr} {C R : Nat → Int32} {rw len : Nat} {F : Nat → Int32} {sz : Nat} {X : Nat → Int32} {mk : Int32} {a : Nat} (G : Gok g) (ha : a < 10) : cI_ l D cI cZ cF yX4_heightOf wsX4_heightOf r_X4_heightOf [.ref (q 2), .int (nI a)] (wC q qf cI cZ cF g C R rw len F sz X mk) (fun r u => r = hgS C a (gN g) ∧ u = wC q qf cI cZ cF g C R rw len F sz X mk) 0 0 := by
  refine cI_of (cc := cX4_heightOf) (maxL := 4) (rt := .int) (plainFor_of_name (by decide +kernel)) rfl (Nat.le_of_ble_eq_true rfl) ?_
  intro p e s m args below meth c A Q ls S hk hW hl hR
  have hl : lv_has ls 4 [(0, .ref (q 2)), (1, .int (nI a))] := hl
  have hwsX40 : ∀ x ∈ wsX40, x ∈ wsX4_heightOf := fun x h => List.mem_cons_of_mem _ (List.mem_append_left _ (List.mem_append_right _ h))
  have hwsX20 : ∀ x ∈ wsX20, x ∈ wsX4_heightOf := fun x h => List.mem_cons_of_mem _ (List.mem_append_right _ h)
  have hN := Gok_N G; have hN2 := Gok_N2 G; have hKK := Gok_K G
  refine lv_iconst (v := nI 0) S.1 S.2.1 dX4_heightOf_0 (by decide) ?_
  refine lv_istore_n (lv' := [(2, .int (nI 0)), (0, .ref (q 2)), (1, .int (nI a))]) S.1 S.2.1 dX4_heightOf_1 rfl hl (by decide) rfl (fun ls hl => ?_)
  refine lv_iconst (v := nI 0) S.1 S.2.1 dX4_heightOf_2 (by decide) ?_
  refine lv_istore_n (lv' := [(3, .int (nI 0)), (2, .int (nI 0)), (0, .ref (q 2)), (1, .int (nI a))]) S.1 S.2.1 dX4_heightOf_3 rfl hl (by decide) rfl (fun ls hl => ?_)
  have L4 : ∀ (dd : Nat), ∀ (z : Int32), ∀ (i : Nat), (z = hgS C a i) → (i ≤ gN g) → gN g < i + dd → ∀ (H : Heap) (locs : List Loc) (ls : Array Slot), wd D A s H locs (wC q qf cI cZ cF g C R rw len F sz X mk) → lv_has ls 4 [(0, .ref (q 2)), (1, .int (nI a)), (2, .int z), (3, .int (nI i))] → W p l e r_X4_heightOf s m args below meth c H locs 0 0 Q (F0 m 4 ls []) := by
    intro dd
    induction dd with
    | zero => intros; omega
    | succ dd ih4 =>
      intro z i hz hi hdd H locs ls hW hl
      refine lv_iload_n S.1 S.2.1 dX4_heightOf_4 rfl (lv_at hl 3 rfl) ?_
      refine lv_aload_n S.1 S.2.1 dX4_heightOf_5 rfl (lv_at hl 0 rfl) ?_
      refine gf S hk hW 2 rfl rfl hwsX40 0 (by decide) 1 rfl rfl dX4_heightOf_6 ?_
      refine gfN (host := RX5) S hk hW 1 rfl rfl hwsX20 5 (by decide) 7 rfl rfl dX4_heightOf_9 ?_
      refine icge_n (tgt := 41) S (by omega) (by omega) dX4_heightOf_12 (by decide) (fun c_12 => ?_) (fun c_12 => ?_)
      · skip
        refine lv_iload_n S.1 S.2.1 dX4_heightOf_41 rfl (lv_at hl 2 rfl) ?_
        exact hR _ _ _ _ _ _ _ _ dX4_heightOf_42 rfl (Nat.le_of_ble_eq_true rfl) (Nat.le_of_ble_eq_true rfl) hW ⟨by rw [hz, show i = gN g by omega], rfl⟩
      · skip
        refine lv_aload_n S.1 S.2.1 dX4_heightOf_15 rfl (lv_at hl 0 rfl) ?_
        refine lv_iload_n S.1 S.2.1 dX4_heightOf_16 rfl (lv_at hl 3 rfl) ?_
        refine lv_iload_n S.1 S.2.1 dX4_heightOf_17 rfl (lv_at hl 1 rfl) ?_
        refine kVi S (c_X4_leads (l := l) (D := D) (cI := cI) (cZ := cZ) (cF := cF) (by first | assumption | omega) (by first | assumption | omega)) (cwV 2 S.2.2.2.2 gX4_heightOf_X4_leads rfl rfl rfl ⟨rfl, v_X4_leads⟩ ⟨(Nat.le_of_ble_eq_true rfl), (Nat.le_of_ble_eq_true rfl)⟩) hk hW 2 rfl rfl rfl rfl hl rfl (Nat.le_of_ble_eq_true rfl) dX4_heightOf_18 ⟨(Nat.le_of_ble_eq_true rfl), (Nat.le_of_ble_eq_true rfl)⟩ (fun r u H locs hp hW => ?_)
        obtain ⟨rfl, rfl⟩ := hp
        refine ifeq_b (tgt := 35) S dX4_heightOf_21 (by decide) (fun c_21 => ?_) (fun c_21 => ?_)
        · skip
          refine lv_iinc (v := nI (i + 1)) (lv' := [(3, .int (nI (i + 1))), (0, .ref (q 2)), (1, .int (nI a)), (2, .int z)]) (k := 3) S.1 S.2.1 dX4_heightOf_35 hl rfl (nI_1 _) (by decide) rfl (fun ls hl => ?_)
          refine lv_goto (tgt := 4) S.1 S.2.1 dX4_heightOf_38 (by decide) ?_
          exact ih4 z (i + 1) (by simp only [hgS, ← hz, c_12, c_21, eq_self, Nat.add_zero, decide_false, decide_true, Bool.not_true, Bool.not_false, Bool.and_true, Bool.true_and, Bool.and_false, Bool.false_and, Bool.or_true, Bool.true_or, Bool.or_false, Bool.false_or, ↓reduceIte, cond_true, cond_false, bI, and_true, true_and, and_false, false_and, or_true, true_or, or_false, false_or, not_true_eq_false, not_false_eq_true, if_true, if_false, Bool.false_eq_true, reduceCtorEq, ite_true, ite_false]) (by omega) (by omega) _ _ _ hW (lv_sub hl [1, 2, 3, 0] rfl)
        · skip
          refine lv_iload_n S.1 S.2.1 dX4_heightOf_24 rfl (lv_at hl 2 rfl) ?_
          refine lv_aload_n S.1 S.2.1 dX4_heightOf_25 rfl (lv_at hl 0 rfl) ?_
          refine lv_iload_n S.1 S.2.1 dX4_heightOf_26 rfl (lv_at hl 3 rfl) ?_
          refine lv_iload_n S.1 S.2.1 dX4_heightOf_27 rfl (lv_at hl 1 rfl) ?_
          refine kVi S (c_X4_leastPrice (l := l) (D := D) (cI := cI) (cZ := cZ) (cF := cF) (by first | assumption | omega) (by first | assumption | omega)) (cwV 2 S.2.2.2.2 gX4_heightOf_X4_leastPrice rfl rfl rfl ⟨rfl, v_X4_leastPrice⟩ ⟨(Nat.le_of_ble_eq_true rfl), (Nat.le_of_ble_eq_true rfl)⟩) hk hW 2 rfl rfl rfl rfl hl rfl (Nat.le_of_ble_eq_true rfl) dX4_heightOf_28 ⟨(Nat.le_of_ble_eq_true rfl), (Nat.le_of_ble_eq_true rfl)⟩ (fun r u H locs hp hW => ?_)
          obtain ⟨rfl, rfl⟩ := hp
          refine va_mmin S.1 S.2.1 (S.2.2.1.trans hl.1.symm) S.2.2.2.1 (S.2.2.2.2 _ (List.mem_of_getElem? (i := 2) rfl)) (S.2.2.2.2 _ (List.mem_of_getElem? (i := 3) rfl)) (S.2.2.2.2 _ (List.mem_of_getElem? (i := 4) rfl)) (S.2.2.2.2 _ (List.mem_of_getElem? (i := 5) rfl)) (Nat.le_of_ble_eq_true rfl) (Nat.le_of_ble_eq_true rfl) (Nat.zero_le _) (Nat.zero_le _) dX4_heightOf_31 ?_
          refine top_eq (y := mmin z (prI (C (i * 10 + a)))) rfl ?_
          refine lv_istore_n (lv' := [(2, .int (mmin z (prI (C (i * 10 + a))))), (0, .ref (q 2)), (1, .int (nI a)), (3, .int (nI i))]) S.1 S.2.1 dX4_heightOf_34 rfl hl (by decide) rfl (fun ls hl => ?_)
          refine lv_iinc (v := nI (i + 1)) (lv' := [(3, .int (nI (i + 1))), (2, .int (mmin z (prI (C (i * 10 + a))))), (0, .ref (q 2)), (1, .int (nI a))]) (k := 3) S.1 S.2.1 dX4_heightOf_35 hl rfl (nI_1 _) (by decide) rfl (fun ls hl => ?_)
          refine lv_goto (tgt := 4) S.1 S.2.1 dX4_heightOf_38 (by decide) ?_
          exact ih4 (mmin z (prI (C (i * 10 + a)))) (i + 1) (by simp only [hgS, ← hz, c_12, c_21, eq_self, Nat.add_zero, decide_false, decide_true, Bool.not_true, Bool.not_false, Bool.and_true, Bool.true_and, Bool.and_false, Bool.false_and, Bool.or_true, Bool.true_or, Bool.or_false, Bool.false_or, ↓reduceIte, cond_true, cond_false, bI, and_true, true_and, and_false, false_and, or_true, true_or, or_false, false_or, not_true_eq_false, not_false_eq_true, if_true, if_false, Bool.false_eq_true, reduceCtorEq, ite_true, ite_false]) (by omega) (by omega) _ _ _ hW (lv_sub hl [2, 3, 1, 0] rfl)
  exact L4 ((gN g) + 1) (nI 0) 0 rfl (by omega) (by omega) _ _ _ hW (lv_sub hl [2, 3, 1, 0] rfl)
abbrev r_X4_lifted : Room := { frames := 4, cells := 0, slots := 0, locals := 87 }
theorem v_X4_lifted : yX4_lifted.cls ≠ "java/lang/invoke/MethodHandle" ∧ yX4_lifted.cls ≠ "java/lang/invoke/VarHandle" ∧ (parseMethodDescriptor yX4_lifted.desc).map (fun d => d.parameters.length) = some 1 := by decide +kernel
set_option maxRecDepth 100000 in
set_option maxHeartbeats 4000000 in
theorem c_X4_lifted {l : Launch} {D : va_G} {cI cZ cF : ClassId} {q : Nat → Nat} {qf : Nat → Nat} {g : Gr} {C R : Nat → Int32} {rw len : Nat} {F : Nat → Int32} {sz : Nat} {X : Nat → Int32} {mk : Int32} {j : Nat} (G : Gok g) (hj : j < gK g) : cI_ l D cI cZ cF yX4_lifted wsX4_lifted r_X4_lifted [.ref (q 2), .int (nI j)] (wC q qf cI cZ cF g C R rw len F sz X mk) (fun r u => r = lif g C j ∧ u = wC q qf cI cZ cF g C R rw len F sz X mk) 0 0 := by
  refine cI_of (cc := cX4_lifted) (maxL := 4) (rt := .int) (plainFor_of_name (by decide +kernel)) rfl (Nat.le_of_ble_eq_true rfl) ?_
  intro p e s m args below meth c A Q ls S hk hW hl hR
  have hl : lv_has ls 4 [(0, .ref (q 2)), (1, .int (nI j))] := hl
  have hwsX40 : ∀ x ∈ wsX40, x ∈ wsX4_lifted := fun x h => List.mem_cons_of_mem _ (List.mem_append_left _ (List.mem_append_right _ h))
  have hwsX20 : ∀ x ∈ wsX20, x ∈ wsX4_lifted := fun x h => List.mem_cons_of_mem _ (List.mem_append_right _ h)
  have hN := Gok_N G; have hN2 := Gok_N2 G; have hKK := Gok_K G
  refine lv_aload_n S.1 S.2.1 dX4_lifted_0 rfl (lv_at hl 0 rfl) ?_
  refine gf S hk hW 2 rfl rfl hwsX40 0 (by decide) 1 rfl rfl dX4_lifted_1 ?_
  refine gfN (host := RX5) S hk hW 1 rfl rfl hwsX20 2 (by decide) 9 rfl rfl dX4_lifted_4 ?_
  refine lv_iload_n S.1 S.2.1 dX4_lifted_7 rfl (lv_at hl 1 rfl) ?_
  refine ild S hk hW 7 rfl j rfl (by omega) (by omega) dX4_lifted_8 ?_
  refine lv_istore_n (lv' := [(2, .int (gP g j)), (0, .ref (q 2)), (1, .int (nI j))]) S.1 S.2.1 dX4_lifted_9 rfl hl (by decide) rfl (fun ls hl => ?_)
  refine lv_aload_n S.1 S.2.1 dX4_lifted_10 rfl (lv_at hl 1 rfl) ?_
  refine lv_aload_n S.1 S.2.1 dX4_lifted_11 rfl (lv_at hl 1 rfl) ?_
  refine gf S hk hW 2 rfl rfl hwsX40 0 (by decide) 1 rfl rfl dX4_lifted_12 ?_
  refine gfN (host := RX5) S hk hW 1 rfl rfl hwsX20 0 (by decide) 10 rfl rfl dX4_lifted_15 ?_
  refine lv_iload_n S.1 S.2.1 dX4_lifted_18 rfl (lv_at hl 2 rfl) ?_
  refine ild S hk hW 5 rfl j rfl (by omega) (by omega) dX4_lifted_19 ?_
  refine top_eq (Gok_B G (j := j) (by omega)) ?_
  have hb19 := Gok_B2 G (j := j) (by omega)
  refine kVi S (c_X4_heightOf (l := l) (D := D) (cI := cI) (cZ := cZ) (cF := cF) G (by first | assumption | omega)) (cwV 1 S.2.2.2.2 gX4_lifted_X4_heightOf rfl rfl rfl ⟨rfl, v_X4_heightOf⟩ ⟨(Nat.le_of_ble_eq_true rfl), (Nat.le_of_ble_eq_true rfl)⟩) hk hW 2 rfl rfl rfl rfl hl rfl (Nat.le_of_ble_eq_true rfl) dX4_lifted_20 ⟨(Nat.le_of_ble_eq_true rfl), (Nat.le_of_ble_eq_true rfl)⟩ (fun r u H locs hp hW => ?_)
  obtain ⟨rfl, rfl⟩ := hp
  refine lv_aload_n S.1 S.2.1 dX4_lifted_23 rfl (lv_at hl 1 rfl) ?_
  refine lv_aload_n S.1 S.2.1 dX4_lifted_24 rfl (lv_at hl 1 rfl) ?_
  refine gf S hk hW 2 rfl rfl hwsX40 0 (by decide) 1 rfl rfl dX4_lifted_25 ?_
  refine gfN (host := RX5) S hk hW 1 rfl rfl hwsX20 1 (by decide) 11 rfl rfl dX4_lifted_28 ?_
  refine lv_iload_n S.1 S.2.1 dX4_lifted_31 rfl (lv_at hl 2 rfl) ?_
  refine ild S hk hW 6 rfl j rfl (by omega) (by omega) dX4_lifted_32 ?_
  refine top_eq (Gok_E G (j := j) (by omega)) ?_
  have hb32 := Gok_E2 G (j := j) (by omega)
  refine kVi S (c_X4_heightOf (l := l) (D := D) (cI := cI) (cZ := cZ) (cF := cF) G (by first | assumption | omega)) (cwV 1 S.2.2.2.2 gX4_lifted_X4_heightOf rfl rfl rfl ⟨rfl, v_X4_heightOf⟩ ⟨(Nat.le_of_ble_eq_true rfl), (Nat.le_of_ble_eq_true rfl)⟩) hk hW 2 rfl rfl rfl rfl hl rfl (Nat.le_of_ble_eq_true rfl) dX4_lifted_33 ⟨(Nat.le_of_ble_eq_true rfl), (Nat.le_of_ble_eq_true rfl)⟩ (fun r u H locs hp hW => ?_)
  obtain ⟨rfl, rfl⟩ := hp
  refine lv_isub S.1 S.2.1 dX4_lifted_36 ?_
  refine lv_istore_n (lv' := [(3, .int ((hgS C (e1 g j) (gN g)) - (hgS C (e2 g j) (gN g)))), (2, .int (gP g j)), (0, .ref (q 2)), (1, .int (nI j))]) S.1 S.2.1 dX4_lifted_37 rfl hl (by decide) rfl (fun ls hl => ?_)
  refine lv_aload_n S.1 S.2.1 dX4_lifted_38 rfl (lv_at hl 2 rfl) ?_
  refine gf S hk hW 2 rfl rfl hwsX40 0 (by decide) 1 rfl rfl dX4_lifted_39 ?_
  refine gfN (host := RX5) S hk hW 1 rfl rfl hwsX20 3 (by decide) 12 rfl rfl dX4_lifted_42 ?_
  refine lv_iload_n S.1 S.2.1 dX4_lifted_45 rfl (lv_at hl 3 rfl) ?_
  refine zld S hk hW 8 rfl j rfl (by omega) (by omega) dX4_lifted_46 ?_
  refine top_eq (Gok_W G (j := j) (by omega)) ?_
  refine ifeq_b (tgt := 62) S dX4_lifted_47 (by decide) (fun c_47 => ?_) (fun c_47 => ?_)
  · skip
    refine lv_iload_n S.1 S.2.1 dX4_lifted_62 rfl (lv_at hl 1 rfl) ?_
    refine lv_iload_n S.1 S.2.1 dX4_lifted_63 rfl (lv_at hl 0 rfl) ?_
    refine lv_iadd S.1 S.2.1 dX4_lifted_64 ?_
    exact hR _ _ _ _ _ _ _ _ dX4_lifted_65 rfl (Nat.le_of_ble_eq_true rfl) (Nat.le_of_ble_eq_true rfl) hW ⟨(by simp only [lif, c_47, eq_self, Nat.add_zero, decide_false, decide_true, Bool.not_true, Bool.not_false, Bool.and_true, Bool.true_and, Bool.and_false, Bool.false_and, Bool.or_true, Bool.true_or, Bool.or_false, Bool.false_or, ↓reduceIte, cond_true, cond_false, bI, and_true, true_and, and_false, false_and, or_true, true_or, or_false, false_or, not_true_eq_false, not_false_eq_true, if_true, if_false, Bool.false_eq_true, reduceCtorEq, ite_true, ite_false]), rfl⟩
  · skip
    refine lv_iload_n S.1 S.2.1 dX4_lifted_50 rfl (lv_at hl 1 rfl) ?_
    refine lv_iload_n S.1 S.2.1 dX4_lifted_51 rfl (lv_at hl 0 rfl) ?_
    refine lv_iadd S.1 S.2.1 dX4_lifted_52 ?_
    refine lv_iload_n S.1 S.2.1 dX4_lifted_53 rfl (lv_at hl 1 rfl) ?_
    refine lv_iload_n S.1 S.2.1 dX4_lifted_54 rfl (lv_at hl 0 rfl) ?_
    refine lv_isub S.1 S.2.1 dX4_lifted_55 ?_
    refine va_mmin S.1 S.2.1 (S.2.2.1.trans hl.1.symm) S.2.2.2.1 (S.2.2.2.2 _ (List.mem_of_getElem? (i := 2) rfl)) (S.2.2.2.2 _ (List.mem_of_getElem? (i := 3) rfl)) (S.2.2.2.2 _ (List.mem_of_getElem? (i := 4) rfl)) (S.2.2.2.2 _ (List.mem_of_getElem? (i := 5) rfl)) (Nat.le_of_ble_eq_true rfl) (Nat.le_of_ble_eq_true rfl) (Nat.zero_le _) (Nat.zero_le _) dX4_lifted_56 ?_
    refine top_eq (y := mmin ((gP g j) + ((hgS C (e1 g j) (gN g)) - (hgS C (e2 g j) (gN g)))) ((gP g j) - ((hgS C (e1 g j) (gN g)) - (hgS C (e2 g j) (gN g))))) rfl ?_
    refine lv_goto (tgt := 65) S.1 S.2.1 dX4_lifted_59 (by decide) ?_
    exact hR _ _ _ _ _ _ _ _ dX4_lifted_65 rfl (Nat.le_of_ble_eq_true rfl) (Nat.le_of_ble_eq_true rfl) hW ⟨(by simp only [lif, c_47, eq_self, Nat.add_zero, decide_false, decide_true, Bool.not_true, Bool.not_false, Bool.and_true, Bool.true_and, Bool.and_false, Bool.false_and, Bool.or_true, Bool.true_or, Bool.or_false, Bool.false_or, ↓reduceIte, cond_true, cond_false, bI, and_true, true_and, and_false, false_and, or_true, true_or, or_false, false_or, not_true_eq_false, not_false_eq_true, if_true, if_false, Bool.false_eq_true, reduceCtorEq, ite_true, ite_false]), rfl⟩
abbrev r_X4_leastThrough : Room := { frames := 3, cells := 0, slots := 0, locals := 64 }
theorem v_X4_leastThrough : yX4_leastThrough.cls ≠ "java/lang/invoke/MethodHandle" ∧ yX4_leastThrough.cls ≠ "java/lang/invoke/VarHandle" ∧ (parseMethodDescriptor yX4_leastThrough.desc).map (fun d => d.parameters.length) = some 3 := by decide +kernel
set_option maxRecDepth 100000 in
set_option maxHeartbeats 4000000 in
theorem c_X4_leastThrough {l : Launch} {D : va_G} {cI cZ cF : ClassId} {q : Nat → Nat} {qf : Nat → Nat} {g : Gr} {C R : Nat → Int32} {rw len : Nat} {F : Nat → Int32} {sz : Nat} {X : Nat → Int32} {mk : Int32} {a b : Nat} {x : Int32} (G : Gok g) (ha : a < 10) (hb : b < 10) : cI_ l D cI cZ cF yX4_leastThrough wsX4_leastThrough r_X4_leastThrough [.ref (q 2), .int (nI a), .int (nI b), .int x] (wC q qf cI cZ cF g C R rw len F sz X mk) (fun r u => r = ltS C a b x (gN g) ∧ u = wC q qf cI cZ cF g C R rw len F sz X mk) 0 0 := by
  refine cI_of (cc := cX4_leastThrough) (maxL := 7) (rt := .int) (plainFor_of_name (by decide +kernel)) rfl (Nat.le_of_ble_eq_true rfl) ?_
  intro p e s m args below meth c A Q ls S hk hW hl hR
  have hl : lv_has ls 7 [(0, .ref (q 2)), (1, .int (nI a)), (2, .int (nI b)), (3, .int x)] := hl
  have hwsX40 : ∀ x ∈ wsX40, x ∈ wsX4_leastThrough := fun x h => List.mem_cons_of_mem _ (List.mem_append_left _ (List.mem_append_right _ h))
  have hwsX20 : ∀ x ∈ wsX20, x ∈ wsX4_leastThrough := fun x h => List.mem_cons_of_mem _ (List.mem_append_right _ h)
  have hN := Gok_N G; have hN2 := Gok_N2 G; have hKK := Gok_K G
  refine lv_sipush (v := (-1000)) S.1 S.2.1 dX4_leastThrough_0 (by decide) ?_
  refine lv_istore (lv' := [(4, .int (-1000)), (0, .ref (q 2)), (1, .int (nI a)), (2, .int (nI b)), (3, .int x)]) S.1 S.2.1 dX4_leastThrough_3 hl (by decide) rfl (fun ls hl => ?_)
  refine lv_iconst (v := nI 0) S.1 S.2.1 dX4_leastThrough_5 (by decide) ?_
  refine lv_istore (lv' := [(5, .int (nI 0)), (4, .int (-1000)), (0, .ref (q 2)), (1, .int (nI a)), (2, .int (nI b)), (3, .int x)]) S.1 S.2.1 dX4_leastThrough_6 hl (by decide) rfl (fun ls hl => ?_)
  have L8 : ∀ (dd : Nat), ∀ (z : Int32), ∀ (i : Nat), (z = ltS C a b x i) → (i ≤ gN g) → gN g < i + dd → ∀ (H : Heap) (locs : List Loc) (ls : Array Slot), wd D A s H locs (wC q qf cI cZ cF g C R rw len F sz X mk) → lv_has ls 7 [(0, .ref (q 2)), (1, .int (nI a)), (2, .int (nI b)), (3, .int x), (4, .int z), (5, .int (nI i))] → W p l e r_X4_leastThrough s m args below meth c H locs 0 0 Q (F0 m 8 ls []) := by
    intro dd
    induction dd with
    | zero => intros; omega
    | succ dd ih8 =>
      intro z i hz hi hdd H locs ls hW hl
      refine lv_iload S.1 S.2.1 dX4_leastThrough_8 (lv_at hl 5 rfl) ?_
      refine lv_aload_n S.1 S.2.1 dX4_leastThrough_10 rfl (lv_at hl 0 rfl) ?_
      refine gf S hk hW 2 rfl rfl hwsX40 0 (by decide) 1 rfl rfl dX4_leastThrough_11 ?_
      refine gfN (host := RX5) S hk hW 1 rfl rfl hwsX20 5 (by decide) 7 rfl rfl dX4_leastThrough_14 ?_
      refine icge_n (tgt := 94) S (by omega) (by omega) dX4_leastThrough_17 (by decide) (fun c_17 => ?_) (fun c_17 => ?_)
      · skip
        refine lv_iload S.1 S.2.1 dX4_leastThrough_94 (lv_at hl 4 rfl) ?_
        exact hR _ _ _ _ _ _ _ _ dX4_leastThrough_96 rfl (Nat.le_of_ble_eq_true rfl) (Nat.le_of_ble_eq_true rfl) hW ⟨by rw [hz, show i = gN g by omega], rfl⟩
      · skip
        refine lv_iload_n S.1 S.2.1 dX4_leastThrough_20 rfl (lv_at hl 3 rfl) ?_
        refine lv_iload S.1 S.2.1 dX4_leastThrough_21 (lv_at hl 5 rfl) ?_
        refine lv_ishr S.1 S.2.1 dX4_leastThrough_23 ?_
        refine lv_iconst (v := nI 1) S.1 S.2.1 dX4_leastThrough_24 (by decide) ?_
        refine lv_iand S.1 S.2.1 dX4_leastThrough_25 ?_
        refine lv_if_eq (tgt := 88) S.1 S.2.1 dX4_leastThrough_26 (by decide) (fun c_26 => ?_) (fun c_26 => ?_)
        · skip
          refine lv_iinc (v := nI (i + 1)) (lv' := [(5, .int (nI (i + 1))), (0, .ref (q 2)), (1, .int (nI a)), (2, .int (nI b)), (3, .int x), (4, .int z)]) (k := 5) S.1 S.2.1 dX4_leastThrough_88 hl rfl (nI_1 _) (by decide) rfl (fun ls hl => ?_)
          refine lv_goto (tgt := 8) S.1 S.2.1 dX4_leastThrough_91 (by decide) ?_
          exact ih8 z (i + 1) (by simp only [ltS, ← hz, c_17, c_26, eq_self, Nat.add_zero, decide_false, decide_true, Bool.not_true, Bool.not_false, Bool.and_true, Bool.true_and, Bool.and_false, Bool.false_and, Bool.or_true, Bool.true_or, Bool.or_false, Bool.false_or, ↓reduceIte, cond_true, cond_false, bI, and_true, true_and, and_false, false_and, or_true, true_or, or_false, false_or, not_true_eq_false, not_false_eq_true, if_true, if_false, Bool.false_eq_true, reduceCtorEq, ite_true, ite_false]) (by omega) (by omega) _ _ _ hW (lv_sub hl [1, 2, 3, 4, 5, 0] rfl)
        · skip
          refine lv_aload_n S.1 S.2.1 dX4_leastThrough_29 rfl (lv_at hl 0 rfl) ?_
          refine lv_iload_n S.1 S.2.1 dX4_leastThrough_30 rfl (lv_at hl 1 rfl) ?_
          refine lv_iload S.1 S.2.1 dX4_leastThrough_31 (lv_at hl 5 rfl) ?_
          refine kVi S (c_X4_leads (l := l) (D := D) (cI := cI) (cZ := cZ) (cF := cF) (by first | assumption | omega) (by first | assumption | omega)) (cwV 2 S.2.2.2.2 gX4_leastThrough_X4_leads rfl rfl rfl ⟨rfl, v_X4_leads⟩ ⟨(Nat.le_of_ble_eq_true rfl), (Nat.le_of_ble_eq_true rfl)⟩) hk hW 2 rfl rfl rfl rfl hl rfl (Nat.le_of_ble_eq_true rfl) dX4_leastThrough_33 ⟨(Nat.le_of_ble_eq_true rfl), (Nat.le_of_ble_eq_true rfl)⟩ (fun r u H locs hp hW => ?_)
          obtain ⟨rfl, rfl⟩ := hp
          refine ifeq_b (tgt := 88) S dX4_leastThrough_36 (by decide) (fun c_36 => ?_) (fun c_36 => ?_)
          · skip
            refine lv_iinc (v := nI (i + 1)) (lv' := [(5, .int (nI (i + 1))), (0, .ref (q 2)), (1, .int (nI a)), (2, .int (nI b)), (3, .int x), (4, .int z)]) (k := 5) S.1 S.2.1 dX4_leastThrough_88 hl rfl (nI_1 _) (by decide) rfl (fun ls hl => ?_)
            refine lv_goto (tgt := 8) S.1 S.2.1 dX4_leastThrough_91 (by decide) ?_
            exact ih8 z (i + 1) (by simp only [ltS, ← hz, c_17, c_26, c_36, eq_self, Nat.add_zero, decide_false, decide_true, Bool.not_true, Bool.not_false, Bool.and_true, Bool.true_and, Bool.and_false, Bool.false_and, Bool.or_true, Bool.true_or, Bool.or_false, Bool.false_or, ↓reduceIte, cond_true, cond_false, bI, and_true, true_and, and_false, false_and, or_true, true_or, or_false, false_or, not_true_eq_false, not_false_eq_true, if_true, if_false, Bool.false_eq_true, reduceCtorEq, ite_true, ite_false]) (by omega) (by omega) _ _ _ hW (lv_sub hl [1, 2, 3, 4, 5, 0] rfl)
          · skip
            refine lv_aload_n S.1 S.2.1 dX4_leastThrough_39 rfl (lv_at hl 0 rfl) ?_
            refine lv_iload S.1 S.2.1 dX4_leastThrough_40 (lv_at hl 5 rfl) ?_
            refine lv_iload_n S.1 S.2.1 dX4_leastThrough_42 rfl (lv_at hl 2 rfl) ?_
            refine kVi S (c_X4_leads (l := l) (D := D) (cI := cI) (cZ := cZ) (cF := cF) (by first | assumption | omega) (by first | assumption | omega)) (cwV 2 S.2.2.2.2 gX4_leastThrough_X4_leads rfl rfl rfl ⟨rfl, v_X4_leads⟩ ⟨(Nat.le_of_ble_eq_true rfl), (Nat.le_of_ble_eq_true rfl)⟩) hk hW 2 rfl rfl rfl rfl hl rfl (Nat.le_of_ble_eq_true rfl) dX4_leastThrough_43 ⟨(Nat.le_of_ble_eq_true rfl), (Nat.le_of_ble_eq_true rfl)⟩ (fun r u H locs hp hW => ?_)
            obtain ⟨rfl, rfl⟩ := hp
            refine ifeq_b (tgt := 88) S dX4_leastThrough_46 (by decide) (fun c_46 => ?_) (fun c_46 => ?_)
            · skip
              refine lv_iinc (v := nI (i + 1)) (lv' := [(5, .int (nI (i + 1))), (0, .ref (q 2)), (1, .int (nI a)), (2, .int (nI b)), (3, .int x), (4, .int z)]) (k := 5) S.1 S.2.1 dX4_leastThrough_88 hl rfl (nI_1 _) (by decide) rfl (fun ls hl => ?_)
              refine lv_goto (tgt := 8) S.1 S.2.1 dX4_leastThrough_91 (by decide) ?_
              exact ih8 z (i + 1) (by simp only [ltS, ← hz, c_17, c_26, c_36, c_46, eq_self, Nat.add_zero, decide_false, decide_true, Bool.not_true, Bool.not_false, Bool.and_true, Bool.true_and, Bool.and_false, Bool.false_and, Bool.or_true, Bool.true_or, Bool.or_false, Bool.false_or, ↓reduceIte, cond_true, cond_false, bI, and_true, true_and, and_false, false_and, or_true, true_or, or_false, false_or, not_true_eq_false, not_false_eq_true, if_true, if_false, Bool.false_eq_true, reduceCtorEq, ite_true, ite_false]) (by omega) (by omega) _ _ _ hW (lv_sub hl [1, 2, 3, 4, 5, 0] rfl)
            · skip
              refine lv_aload_n S.1 S.2.1 dX4_leastThrough_49 rfl (lv_at hl 0 rfl) ?_
              refine lv_iload_n S.1 S.2.1 dX4_leastThrough_50 rfl (lv_at hl 1 rfl) ?_
              refine lv_iload S.1 S.2.1 dX4_leastThrough_51 (lv_at hl 5 rfl) ?_
              refine kVi S (c_X4_leastPrice (l := l) (D := D) (cI := cI) (cZ := cZ) (cF := cF) (by first | assumption | omega) (by first | assumption | omega)) (cwV 2 S.2.2.2.2 gX4_leastThrough_X4_leastPrice rfl rfl rfl ⟨rfl, v_X4_leastPrice⟩ ⟨(Nat.le_of_ble_eq_true rfl), (Nat.le_of_ble_eq_true rfl)⟩) hk hW 2 rfl rfl rfl rfl hl rfl (Nat.le_of_ble_eq_true rfl) dX4_leastThrough_53 ⟨(Nat.le_of_ble_eq_true rfl), (Nat.le_of_ble_eq_true rfl)⟩ (fun r u H locs hp hW => ?_)
              obtain ⟨rfl, rfl⟩ := hp
              refine lv_aload_n S.1 S.2.1 dX4_leastThrough_56 rfl (lv_at hl 0 rfl) ?_
              refine lv_iload S.1 S.2.1 dX4_leastThrough_57 (lv_at hl 5 rfl) ?_
              refine lv_iload_n S.1 S.2.1 dX4_leastThrough_59 rfl (lv_at hl 2 rfl) ?_
              refine kVi S (c_X4_leastPrice (l := l) (D := D) (cI := cI) (cZ := cZ) (cF := cF) (by first | assumption | omega) (by first | assumption | omega)) (cwV 2 S.2.2.2.2 gX4_leastThrough_X4_leastPrice rfl rfl rfl ⟨rfl, v_X4_leastPrice⟩ ⟨(Nat.le_of_ble_eq_true rfl), (Nat.le_of_ble_eq_true rfl)⟩) hk hW 2 rfl rfl rfl rfl hl rfl (Nat.le_of_ble_eq_true rfl) dX4_leastThrough_60 ⟨(Nat.le_of_ble_eq_true rfl), (Nat.le_of_ble_eq_true rfl)⟩ (fun r u H locs hp hW => ?_)
              obtain ⟨rfl, rfl⟩ := hp
              refine lv_iadd S.1 S.2.1 dX4_leastThrough_63 ?_
              refine lv_istore (lv' := [(6, .int ((prI (C (a * 10 + i))) + (prI (C (i * 10 + b))))), (0, .ref (q 2)), (1, .int (nI a)), (2, .int (nI b)), (3, .int x), (4, .int z), (5, .int (nI i))]) S.1 S.2.1 dX4_leastThrough_64 hl (by decide) rfl (fun ls hl => ?_)
              refine lv_iload S.1 S.2.1 dX4_leastThrough_66 (lv_at hl 5 rfl) ?_
              refine lv_sipush (v := (-1000)) S.1 S.2.1 dX4_leastThrough_68 (by decide) ?_
              refine lv_icmp_ne (tgt := 79) S.1 S.2.1 dX4_leastThrough_71 (by decide) (fun c_71 => ?_) (fun c_71 => ?_)
              · skip
                refine lv_iload S.1 S.2.1 dX4_leastThrough_79 (lv_at hl 5 rfl) ?_
                refine lv_iload S.1 S.2.1 dX4_leastThrough_81 (lv_at hl 0 rfl) ?_
                refine va_mmin S.1 S.2.1 (S.2.2.1.trans hl.1.symm) S.2.2.2.1 (S.2.2.2.2 _ (List.mem_of_getElem? (i := 2) rfl)) (S.2.2.2.2 _ (List.mem_of_getElem? (i := 3) rfl)) (S.2.2.2.2 _ (List.mem_of_getElem? (i := 4) rfl)) (S.2.2.2.2 _ (List.mem_of_getElem? (i := 5) rfl)) (Nat.le_of_ble_eq_true rfl) (Nat.le_of_ble_eq_true rfl) (Nat.zero_le _) (Nat.zero_le _) dX4_leastThrough_83 ?_
                refine top_eq (y := mmin z ((prI (C (a * 10 + i))) + (prI (C (i * 10 + b))))) rfl ?_
                refine lv_istore (lv' := [(4, .int (mmin z ((prI (C (a * 10 + i))) + (prI (C (i * 10 + b)))))), (6, .int ((prI (C (a * 10 + i))) + (prI (C (i * 10 + b))))), (0, .ref (q 2)), (1, .int (nI a)), (2, .int (nI b)), (3, .int x), (5, .int (nI i))]) S.1 S.2.1 dX4_leastThrough_86 hl (by decide) rfl (fun ls hl => ?_)
                refine lv_iinc (v := nI (i + 1)) (lv' := [(5, .int (nI (i + 1))), (4, .int (mmin z ((prI (C (a * 10 + i))) + (prI (C (i * 10 + b)))))), (6, .int ((prI (C (a * 10 + i))) + (prI (C (i * 10 + b))))), (0, .ref (q 2)), (1, .int (nI a)), (2, .int (nI b)), (3, .int x)]) (k := 6) S.1 S.2.1 dX4_leastThrough_88 hl rfl (nI_1 _) (by decide) rfl (fun ls hl => ?_)
                refine lv_goto (tgt := 8) S.1 S.2.1 dX4_leastThrough_91 (by decide) ?_
                exact ih8 (mmin z ((prI (C (a * 10 + i))) + (prI (C (i * 10 + b))))) (i + 1) (by simp only [ltS, ← hz, c_17, c_26, c_36, c_46, c_71, eq_self, Nat.add_zero, decide_false, decide_true, Bool.not_true, Bool.not_false, Bool.and_true, Bool.true_and, Bool.and_false, Bool.false_and, Bool.or_true, Bool.true_or, Bool.or_false, Bool.false_or, ↓reduceIte, cond_true, cond_false, bI, and_true, true_and, and_false, false_and, or_true, true_or, or_false, false_or, not_true_eq_false, not_false_eq_true, if_true, if_false, Bool.false_eq_true, reduceCtorEq, ite_true, ite_false]) (by omega) (by omega) _ _ _ hW (lv_sub hl [3, 4, 5, 6, 1, 0] rfl)
              · skip
                refine lv_iload S.1 S.2.1 dX4_leastThrough_74 (lv_at hl 0 rfl) ?_
                refine lv_goto (tgt := 86) S.1 S.2.1 dX4_leastThrough_76 (by decide) ?_
                refine lv_istore (lv' := [(4, .int ((prI (C (a * 10 + i))) + (prI (C (i * 10 + b))))), (6, .int ((prI (C (a * 10 + i))) + (prI (C (i * 10 + b))))), (0, .ref (q 2)), (1, .int (nI a)), (2, .int (nI b)), (3, .int x), (5, .int (nI i))]) S.1 S.2.1 dX4_leastThrough_86 hl (by decide) rfl (fun ls hl => ?_)
                refine lv_iinc (v := nI (i + 1)) (lv' := [(5, .int (nI (i + 1))), (4, .int ((prI (C (a * 10 + i))) + (prI (C (i * 10 + b))))), (6, .int ((prI (C (a * 10 + i))) + (prI (C (i * 10 + b))))), (0, .ref (q 2)), (1, .int (nI a)), (2, .int (nI b)), (3, .int x)]) (k := 6) S.1 S.2.1 dX4_leastThrough_88 hl rfl (nI_1 _) (by decide) rfl (fun ls hl => ?_)
                refine lv_goto (tgt := 8) S.1 S.2.1 dX4_leastThrough_91 (by decide) ?_
                exact ih8 ((prI (C (a * 10 + i))) + (prI (C (i * 10 + b)))) (i + 1) (by simp only [ltS, ← hz, c_17, c_26, c_36, c_46, c_71, eq_self, Nat.add_zero, decide_false, decide_true, Bool.not_true, Bool.not_false, Bool.and_true, Bool.true_and, Bool.and_false, Bool.false_and, Bool.or_true, Bool.true_or, Bool.or_false, Bool.false_or, ↓reduceIte, cond_true, cond_false, bI, and_true, true_and, and_false, false_and, or_true, true_or, or_false, false_or, not_true_eq_false, not_false_eq_true, if_true, if_false, Bool.false_eq_true, reduceCtorEq, ite_true, ite_false]) (by omega) (by omega) _ _ _ hW (lv_sub hl [3, 4, 5, 6, 1, 0] rfl)
  exact L8 ((gN g) + 1) (-1000) 0 rfl (by omega) (by omega) _ _ _ hW (lv_sub hl [2, 3, 4, 5, 1, 0] rfl)
abbrev r_X4_countLinked : Room := { frames := 2, cells := 0, slots := 0, locals := 43 }
theorem v_X4_countLinked : yX4_countLinked.cls ≠ "java/lang/invoke/MethodHandle" ∧ yX4_countLinked.cls ≠ "java/lang/invoke/VarHandle" ∧ (parseMethodDescriptor yX4_countLinked.desc).map (fun d => d.parameters.length) = some 0 := by decide +kernel
set_option maxRecDepth 100000 in
set_option maxHeartbeats 4000000 in
theorem c_X4_countLinked {l : Launch} {D : va_G} {cI cZ cF : ClassId} {q : Nat → Nat} {qf : Nat → Nat} {g : Gr} {C R : Nat → Int32} {rw len : Nat} {F : Nat → Int32} {sz : Nat} {X : Nat → Int32} {mk : Int32}  (G : Gok g) : cI_ l D cI cZ cF yX4_countLinked wsX4_countLinked r_X4_countLinked [.ref (q 2)] (wC q qf cI cZ cF g C R rw len F sz X mk) (fun r u => r = nI (clO C (gN g) (gN g)) ∧ u = wC q qf cI cZ cF g C R rw len F sz X mk) 0 0 := by
  refine cI_of (cc := cX4_countLinked) (maxL := 4) (rt := .int) (plainFor_of_name (by decide +kernel)) rfl (Nat.le_of_ble_eq_true rfl) ?_
  intro p e s m args below meth c A Q ls S hk hW hl hR
  have hl : lv_has ls 4 [(0, .ref (q 2))] := hl
  have hwsX40 : ∀ x ∈ wsX40, x ∈ wsX4_countLinked := fun x h => List.mem_cons_of_mem _ (List.mem_append_left _ (List.mem_append_right _ h))
  have hwsX20 : ∀ x ∈ wsX20, x ∈ wsX4_countLinked := fun x h => List.mem_cons_of_mem _ (List.mem_append_right _ h)
  have hN := Gok_N G; have hN2 := Gok_N2 G; have hKK := Gok_K G
  refine lv_iconst (v := nI 0) S.1 S.2.1 dX4_countLinked_0 (by decide) ?_
  refine lv_istore_n (lv' := [(1, .int (nI 0)), (0, .ref (q 2))]) S.1 S.2.1 dX4_countLinked_1 rfl hl (by decide) rfl (fun ls hl => ?_)
  refine lv_iconst (v := nI 0) S.1 S.2.1 dX4_countLinked_2 (by decide) ?_
  refine lv_istore_n (lv' := [(2, .int (nI 0)), (1, .int (nI 0)), (0, .ref (q 2))]) S.1 S.2.1 dX4_countLinked_3 rfl hl (by decide) rfl (fun ls hl => ?_)
  have L4 : ∀ (dd : Nat), ∀ (n : Nat), ∀ (a : Nat), (n = clO C (gN g) a) → (a ≤ gN g) → gN g < a + dd → ∀ (H : Heap) (locs : List Loc) (ls : Array Slot), wd D A s H locs (wC q qf cI cZ cF g C R rw len F sz X mk) → lv_has ls 4 [(0, .ref (q 2)), (1, .int (nI n)), (2, .int (nI a))] → W p l e r_X4_countLinked s m args below meth c H locs 0 0 Q (F0 m 4 ls []) := by
    intro dd
    induction dd with
    | zero => intros; omega
    | succ dd ih4 =>
      intro n a hn ha hdd H locs ls hW hl
      refine lv_iload_n S.1 S.2.1 dX4_countLinked_4 rfl (lv_at hl 2 rfl) ?_
      refine lv_aload_n S.1 S.2.1 dX4_countLinked_5 rfl (lv_at hl 0 rfl) ?_
      refine gf S hk hW 2 rfl rfl hwsX40 0 (by decide) 1 rfl rfl dX4_countLinked_6 ?_
      refine gfN (host := RX5) S hk hW 1 rfl rfl hwsX20 5 (by decide) 7 rfl rfl dX4_countLinked_9 ?_
      refine icge_n (tgt := 57) S (by omega) (by omega) dX4_countLinked_12 (by decide) (fun c_12 => ?_) (fun c_12 => ?_)
      · skip
        refine lv_iload_n S.1 S.2.1 dX4_countLinked_57 rfl (lv_at hl 1 rfl) ?_
        exact hR _ _ _ _ _ _ _ _ dX4_countLinked_58 rfl (Nat.le_of_ble_eq_true rfl) (Nat.le_of_ble_eq_true rfl) hW ⟨by rw [hn, show a = gN g by omega], rfl⟩
      · skip
        refine lv_iconst (v := nI 0) S.1 S.2.1 dX4_countLinked_15 (by decide) ?_
        refine lv_istore_n (lv' := [(3, .int (nI 0)), (0, .ref (q 2)), (1, .int (nI n)), (2, .int (nI a))]) S.1 S.2.1 dX4_countLinked_16 rfl hl (by decide) rfl (fun ls hl => ?_)
        have L17 : ∀ (dd : Nat), ∀ (n2 : Nat), ∀ (b : Nat), (n2 = clO C (gN g) a + clI C a b) → (b ≤ gN g) → gN g < b + dd → ∀ (H : Heap) (locs : List Loc) (ls : Array Slot), wd D A s H locs (wC q qf cI cZ cF g C R rw len F sz X mk) → lv_has ls 4 [(0, .ref (q 2)), (1, .int (nI n2)), (2, .int (nI a)), (3, .int (nI b))] → W p l e r_X4_countLinked s m args below meth c H locs 0 0 Q (F0 m 17 ls []) := by
          intro dd
          induction dd with
          | zero => intros; omega
          | succ dd ih17 =>
            intro n2 b hn2 hb hdd H locs ls hW hl
            refine lv_iload_n S.1 S.2.1 dX4_countLinked_17 rfl (lv_at hl 3 rfl) ?_
            refine lv_aload_n S.1 S.2.1 dX4_countLinked_18 rfl (lv_at hl 0 rfl) ?_
            refine gf S hk hW 2 rfl rfl hwsX40 0 (by decide) 1 rfl rfl dX4_countLinked_19 ?_
            refine gfN (host := RX5) S hk hW 1 rfl rfl hwsX20 5 (by decide) 7 rfl rfl dX4_countLinked_22 ?_
            refine icge_n (tgt := 51) S (by omega) (by omega) dX4_countLinked_25 (by decide) (fun c_25 => ?_) (fun c_25 => ?_)
            · skip
              refine lv_iinc (v := nI (a + 1)) (lv' := [(2, .int (nI (a + 1))), (0, .ref (q 2)), (1, .int (nI n2)), (3, .int (nI b))]) (k := 2) S.1 S.2.1 dX4_countLinked_51 hl rfl (nI_1 _) (by decide) rfl (fun ls hl => ?_)
              refine lv_goto (tgt := 4) S.1 S.2.1 dX4_countLinked_54 (by decide) ?_
              exact ih4 n2 (a + 1) (by rw [hn2, show b = gN g by omega]; rfl) (by omega) (by omega) _ _ _ hW (lv_sub hl [1, 2, 0] rfl)
            · skip
              refine lv_iload_n S.1 S.2.1 dX4_countLinked_28 rfl (lv_at hl 2 rfl) ?_
              refine lv_iload_n S.1 S.2.1 dX4_countLinked_29 rfl (lv_at hl 3 rfl) ?_
              refine iceq_n (tgt := 45) S (by omega) (by omega) dX4_countLinked_30 (by decide) (fun c_30 => ?_) (fun c_30 => ?_)
              · skip
                refine lv_iinc (v := nI (b + 1)) (lv' := [(3, .int (nI (b + 1))), (0, .ref (q 2)), (1, .int (nI n2)), (2, .int (nI a))]) (k := 3) S.1 S.2.1 dX4_countLinked_45 hl rfl (nI_1 _) (by decide) rfl (fun ls hl => ?_)
                refine lv_goto (tgt := 17) S.1 S.2.1 dX4_countLinked_48 (by decide) ?_
                exact ih17 n2 (b + 1) (by simp only [clI, if_pos c_30, eq_self, Nat.add_zero, decide_false, decide_true, Bool.not_true, Bool.not_false, Bool.and_true, Bool.true_and, Bool.and_false, Bool.false_and, Bool.or_true, Bool.true_or, Bool.or_false, Bool.false_or, ↓reduceIte, cond_true, cond_false, bI, and_true, true_and, and_false, false_and, or_true, true_or, or_false, false_or, not_true_eq_false, not_false_eq_true, if_true, if_false, Bool.false_eq_true, reduceCtorEq, ite_true, ite_false]; omega) (by omega) (by omega) _ _ _ hW (lv_sub hl [1, 2, 3, 0] rfl)
              · skip
                refine lv_aload_n S.1 S.2.1 dX4_countLinked_33 rfl (lv_at hl 0 rfl) ?_
                refine lv_iload_n S.1 S.2.1 dX4_countLinked_34 rfl (lv_at hl 2 rfl) ?_
                refine lv_iload_n S.1 S.2.1 dX4_countLinked_35 rfl (lv_at hl 3 rfl) ?_
                refine kVi S (c_X4_leads (l := l) (D := D) (cI := cI) (cZ := cZ) (cF := cF) (by first | assumption | omega) (by first | assumption | omega)) (cwV 2 S.2.2.2.2 gX4_countLinked_X4_leads rfl rfl rfl ⟨rfl, v_X4_leads⟩ ⟨(Nat.le_of_ble_eq_true rfl), (Nat.le_of_ble_eq_true rfl)⟩) hk hW 2 rfl rfl rfl rfl hl rfl (Nat.le_of_ble_eq_true rfl) dX4_countLinked_36 ⟨(Nat.le_of_ble_eq_true rfl), (Nat.le_of_ble_eq_true rfl)⟩ (fun r u H locs hp hW => ?_)
                obtain ⟨rfl, rfl⟩ := hp
                refine ifeq_b (tgt := 45) S dX4_countLinked_39 (by decide) (fun c_39 => ?_) (fun c_39 => ?_)
                · skip
                  refine lv_iinc (v := nI (b + 1)) (lv' := [(3, .int (nI (b + 1))), (0, .ref (q 2)), (1, .int (nI n2)), (2, .int (nI a))]) (k := 3) S.1 S.2.1 dX4_countLinked_45 hl rfl (nI_1 _) (by decide) rfl (fun ls hl => ?_)
                  refine lv_goto (tgt := 17) S.1 S.2.1 dX4_countLinked_48 (by decide) ?_
                  exact ih17 n2 (b + 1) (by simp only [clI, if_neg c_30, c_39, eq_self, Nat.add_zero, decide_false, decide_true, Bool.not_true, Bool.not_false, Bool.and_true, Bool.true_and, Bool.and_false, Bool.false_and, Bool.or_true, Bool.true_or, Bool.or_false, Bool.false_or, ↓reduceIte, cond_true, cond_false, bI, and_true, true_and, and_false, false_and, or_true, true_or, or_false, false_or, not_true_eq_false, not_false_eq_true, if_true, if_false, Bool.false_eq_true, reduceCtorEq, ite_true, ite_false]; omega) (by omega) (by omega) _ _ _ hW (lv_sub hl [1, 2, 3, 0] rfl)
                · skip
                  refine lv_iinc (v := nI (n2 + 1)) (lv' := [(1, .int (nI (n2 + 1))), (0, .ref (q 2)), (2, .int (nI a)), (3, .int (nI b))]) (k := 1) S.1 S.2.1 dX4_countLinked_42 hl rfl (nI_1 _) (by decide) rfl (fun ls hl => ?_)
                  refine lv_iinc (v := nI (b + 1)) (lv' := [(3, .int (nI (b + 1))), (1, .int (nI (n2 + 1))), (0, .ref (q 2)), (2, .int (nI a))]) (k := 3) S.1 S.2.1 dX4_countLinked_45 hl rfl (nI_1 _) (by decide) rfl (fun ls hl => ?_)
                  refine lv_goto (tgt := 17) S.1 S.2.1 dX4_countLinked_48 (by decide) ?_
                  exact ih17 (n2 + 1) (b + 1) (by simp only [clI, if_neg c_30, c_39, eq_self, Nat.add_zero, decide_false, decide_true, Bool.not_true, Bool.not_false, Bool.and_true, Bool.true_and, Bool.and_false, Bool.false_and, Bool.or_true, Bool.true_or, Bool.or_false, Bool.false_or, ↓reduceIte, cond_true, cond_false, bI, and_true, true_and, and_false, false_and, or_true, true_or, or_false, false_or, not_true_eq_false, not_false_eq_true, if_true, if_false, Bool.false_eq_true, reduceCtorEq, ite_true, ite_false]; omega) (by omega) (by omega) _ _ _ hW (lv_sub hl [2, 1, 3, 0] rfl)
        exact L17 ((gN g) + 1) n 0 hn (by omega) (by omega) _ _ _ hW (lv_sub hl [1, 2, 3, 0] rfl)
  exact L4 ((gN g) + 1) 0 0 rfl (by omega) (by omega) _ _ _ hW (lv_sub hl [2, 1, 0] rfl)
abbrev r_X4_measure : Room := { frames := 3, cells := 0, slots := 0, locals := 74 }
theorem v_X4_measure : yX4_measure.cls ≠ "java/lang/invoke/MethodHandle" ∧ yX4_measure.cls ≠ "java/lang/invoke/VarHandle" ∧ (parseMethodDescriptor yX4_measure.desc).map (fun d => d.parameters.length) = some 0 := by decide +kernel
set_option maxRecDepth 100000 in
set_option maxHeartbeats 4000000 in
theorem c_X4_measure {l : Launch} {D : va_G} {cI cZ cF : ClassId} {q : Nat → Nat} {qf : Nat → Nat} {g : Gr} {C R : Nat → Int32} {rw len : Nat} {F : Nat → Int32} {sz : Nat} {X : Nat → Int32} {mk : Int32}  (G : Gok g) : cV_ l D cI cZ cF yX4_measure wsX4_measure r_X4_measure [.ref (q 2)] (wC q qf cI cZ cF g C R rw len F sz X mk) (fun u => ∃ C' R', (∀ p, p < 100 → C' p = cst g (gN g) p) ∧ u = wC q qf cI cZ cF g C' R' rw len F sz X mk) 0 0 := by
  refine cV_of (cc := cX4_measure) (maxL := 2) (plainFor_of_name (by decide +kernel)) rfl (Nat.le_of_ble_eq_true rfl) ?_
  intro p e s m args below meth c A Q ls S hnm hk hW hl hR
  have hl : lv_has ls 2 [(0, .ref (q 2))] := hl
  have hwsX40 : ∀ x ∈ wsX40, x ∈ wsX4_measure := fun x h => List.mem_cons_of_mem _ (List.mem_append_left _ (List.mem_append_right _ h))
  have hwsX20 : ∀ x ∈ wsX20, x ∈ wsX4_measure := fun x h => List.mem_cons_of_mem _ (List.mem_append_right _ h)
  have hN := Gok_N G; have hN2 := Gok_N2 G; have hKK := Gok_K G
  refine lv_aload_n S.1 S.2.1 dX4_measure_0 rfl (lv_at hl 0 rfl) ?_
  refine gf S hk hW 2 rfl rfl hwsX40 1 (by decide) 1 rfl rfl dX4_measure_1 ?_
  refine lv_ldc (v := 1073741824) S.1 S.2.1 S.2.2.2.1 (S.2.2.2.2 _ (List.mem_of_getElem? (i := 2) rfl)) dX4_measure_4 ?_
  refine kSv S (c_J7_fill_53178 (l := l) (D := D) (cI := cI) (cZ := cZ) (cF := cF) (q0 := 10) rfl (by omega)) (va_cwS 2 S.2.2.2.2 gX4_measure_J7_fill_53178 rfl rfl rfl v_J7_fill_53178 ⟨(Nat.le_of_ble_eq_true rfl), (Nat.le_of_ble_eq_true rfl)⟩) hk hW rfl hl rfl (Nat.le_of_ble_eq_true rfl) dX4_measure_6 ⟨(Nat.le_of_ble_eq_true rfl), (Nat.le_of_ble_eq_true rfl)⟩ (fun u H locs hp hW => ?_)
  subst hp
  have hW : wd D A s H locs (wC q qf cI cZ cF g (fun _ => 1073741824) R rw len F sz X mk) := hW
  refine lv_iconst (v := nI 0) S.1 S.2.1 dX4_measure_9 (by decide) ?_
  refine lv_istore_n (lv' := [(1, .int (nI 0)), (0, .ref (q 2))]) S.1 S.2.1 dX4_measure_10 rfl hl (by decide) rfl (fun ls hl => ?_)
  have L11 : ∀ (dd : Nat), ∀ (i : Nat), ∀ (C1 : Nat → Int32), ∀ (R1 : Nat → Int32), (∀ p, p < 100 → C1 p = cst g i p) → (i ≤ gN g) → gN g < i + dd → ∀ (H : Heap) (locs : List Loc) (ls : Array Slot), wd D A s H locs (wC q qf cI cZ cF g C1 R1 rw len F sz X mk) → lv_has ls 2 [(0, .ref (q 2)), (1, .int (nI i))] → W p l e r_X4_measure s m args below meth c H locs 0 0 Q (F0 m 11 ls []) := by
    intro dd
    induction dd with
    | zero => intros; omega
    | succ dd ih11 =>
      intro i C1 R1 hC hi hdd H locs ls hW hl
      refine lv_iload_n S.1 S.2.1 dX4_measure_11 rfl (lv_at hl 1 rfl) ?_
      refine lv_aload_n S.1 S.2.1 dX4_measure_12 rfl (lv_at hl 0 rfl) ?_
      refine gf S hk hW 2 rfl rfl hwsX40 0 (by decide) 3 rfl rfl dX4_measure_13 ?_
      refine gfN (host := RX5) S hk hW 1 rfl rfl hwsX20 5 (by decide) 7 rfl rfl dX4_measure_16 ?_
      refine icge_n (tgt := 54) S (by omega) (by omega) dX4_measure_19 (by decide) (fun c_19 => ?_) (fun c_19 => ?_)
      · skip
        exact hR _ _ _ _ _ _ _ dX4_measure_54 (Nat.le_of_ble_eq_true rfl) (Nat.le_of_ble_eq_true rfl) hW ⟨C1, R1, by rw [← show i = gN g by omega]; exact hC, rfl⟩
      · skip
        refine lv_aload_n S.1 S.2.1 dX4_measure_22 rfl (lv_at hl 0 rfl) ?_
        refine lv_iload_n S.1 S.2.1 dX4_measure_23 rfl (lv_at hl 1 rfl) ?_
        refine lv_iconst (v := (-1)) S.1 S.2.1 dX4_measure_24 (by decide) ?_
        refine lv_iconst (v := (-1)) S.1 S.2.1 dX4_measure_25 (by decide) ?_
        refine kVv S (c_X4_spread (l := l) (D := D) (cI := cI) (cZ := cZ) (cF := cF) G (by first | assumption | omega)) (cwV 3 S.2.2.2.2 gX4_measure_X4_spread rfl rfl rfl ⟨rfl, v_X4_spread⟩ ⟨(Nat.le_of_ble_eq_true rfl), (Nat.le_of_ble_eq_true rfl)⟩) hk hW 2 rfl rfl rfl rfl hl rfl (Nat.le_of_ble_eq_true rfl) dX4_measure_26 ⟨(Nat.le_of_ble_eq_true rfl), (Nat.le_of_ble_eq_true rfl)⟩ (fun u H locs hp hW => ?_)
        subst hp
        refine lv_aload_n S.1 S.2.1 dX4_measure_29 rfl (lv_at hl 0 rfl) ?_
        refine gf S hk hW 2 rfl rfl hwsX40 2 (by decide) 4 rfl rfl dX4_measure_30 ?_
        refine lv_iconst (v := nI 0) S.1 S.2.1 dX4_measure_33 (by decide) ?_
        refine lv_aload_n S.1 S.2.1 dX4_measure_34 rfl (lv_at hl 0 rfl) ?_
        refine gf S hk hW 2 rfl rfl hwsX40 1 (by decide) 1 rfl rfl dX4_measure_35 ?_
        refine lv_iload_n S.1 S.2.1 dX4_measure_38 rfl (lv_at hl 1 rfl) ?_
        refine lv_iconst (v := nI 0) S.1 S.2.1 dX4_measure_39 (by decide) ?_
        refine kNi S (c_X5_pairOf (l := l) (D := D) (cI := cI) (cZ := cZ) (cF := cF)) ⟨va_cnB (host := RX5) 2 S.2.2.2.2 gX4_measure_X5_pairOf_n39 rfl rfl rfl (hk.2.1.1 _ (List.mem_of_getElem? (i := 14) rfl)) (S.2.2.2.2 _ (List.mem_of_getElem? (i := 38) rfl)) v_X5_pairOf ⟨(Nat.le_of_ble_eq_true rfl), (Nat.le_of_ble_eq_true rfl)⟩, S.2.2.2.2 _ (List.mem_of_getElem? (i := 37) rfl), trivial⟩ hk hW rfl hl rfl (Nat.le_of_ble_eq_true rfl) dX4_measure_40 ⟨(Nat.le_of_ble_eq_true rfl), (Nat.le_of_ble_eq_true rfl)⟩ (fun r u H locs hp hW => ?_)
        obtain ⟨rfl, rfl⟩ := hp
        refine lv_bipush (v := nI 10) S.1 S.2.1 dX4_measure_43 (by decide) ?_
        refine acpy (w' := wC q qf cI cZ cF g (va_cpy (spr g (-1) (-1) i) C1 0 (i * 10 + 0) 10) (spr g (-1) (-1) i) rw len F sz X mk) S hk hW (S.2.2.1.trans hl.1.symm) 5 6 7 8 11 10 rfl rfl rfl rfl rfl rfl (sp := 0) (dp := i * 10 + 0) (nn := 10) (by omega) (by omega) (by omega) (by omega) (by omega) (Nat.le_of_ble_eq_true rfl) (Nat.le_of_ble_eq_true rfl) dX4_measure_45 rfl (fun H locs hW => ?_)
        refine lv_iinc (v := nI (i + 1)) (lv' := [(1, .int (nI (i + 1))), (0, .ref (q 2))]) (k := 1) S.1 S.2.1 dX4_measure_48 hl rfl (nI_1 _) (by decide) rfl (fun ls hl => ?_)
        refine lv_goto (tgt := 11) S.1 S.2.1 dX4_measure_51 (by decide) ?_
        exact ih11 (i + 1) (va_cpy (spr g (-1) (-1) i) C1 0 (i * 10 + 0) 10) (spr g (-1) (-1) i) (cst_step hC (by omega)) (by omega) (by omega) _ _ _ hW (lv_sub hl [1, 0] rfl)
  exact L11 ((gN g) + 1) 0 (fun _ => 1073741824) R (fun p hp => by simp only [cst, Nat.not_lt_zero, if_false]) (by omega) (by omega) _ _ _ hW (lv_sub hl [1, 0] rfl)
