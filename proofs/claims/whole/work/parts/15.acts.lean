abbrev r_X5_asNumber : Room := { frames := 0, cells := 0, slots := 0, locals := 0 }
theorem v_X5_asNumber : yX5_asNumber.cls ≠ "java/lang/invoke/MethodHandle" ∧ yX5_asNumber.cls ≠ "java/lang/invoke/VarHandle" ∧ (parseMethodDescriptor yX5_asNumber.desc).map (fun d => d.parameters.length) = some 1 := by decide +kernel
set_option maxRecDepth 100000 in
set_option maxHeartbeats 4000000 in
theorem c_X5_asNumber {l : Launch} {D : va_G} {cI cZ cF : ClassId} {w : va_W} {t : Bool}  : cI_ l D cI cZ cF yX5_asNumber wsX5_asNumber r_X5_asNumber [.int (bI t)] (w) (fun r u => r = bI t ∧ u = w) 0 0 := by
  refine cI_of (cc := cX5_asNumber) (maxL := 1) (rt := .int) (plainFor_of_name (by decide +kernel)) rfl (Nat.le_of_ble_eq_true rfl) ?_
  intro p e s m args below meth c A Q ls S hk hW hl hR
  have hl : lv_has ls 1 [(0, .int (bI t))] := hl
  refine lv_iload_n S.1 S.2.1 dX5_asNumber_0 rfl (lv_at hl 0 rfl) ?_
  refine ifeq_b (tgt := 8) S dX5_asNumber_1 (by decide) (fun c_1 => ?_) (fun c_1 => ?_)
  · skip
    refine lv_iconst (v := nI 0) S.1 S.2.1 dX5_asNumber_8 (by decide) ?_
    exact hR _ _ _ _ _ _ _ _ dX5_asNumber_9 rfl (Nat.le_of_ble_eq_true rfl) (Nat.le_of_ble_eq_true rfl) hW ⟨(by simp only [c_1, eq_self, Nat.add_zero, decide_false, decide_true, Bool.not_true, Bool.not_false, Bool.and_true, Bool.true_and, Bool.and_false, Bool.false_and, Bool.or_true, Bool.true_or, Bool.or_false, Bool.false_or, ↓reduceIte, cond_true, cond_false, bI, and_true, true_and, and_false, false_and, or_true, true_or, or_false, false_or, not_true_eq_false, not_false_eq_true, if_true, if_false, Bool.false_eq_true, reduceCtorEq, ite_true, ite_false]), rfl⟩
  · skip
    refine lv_iconst (v := nI 1) S.1 S.2.1 dX5_asNumber_4 (by decide) ?_
    refine lv_goto (tgt := 9) S.1 S.2.1 dX5_asNumber_5 (by decide) ?_
    exact hR _ _ _ _ _ _ _ _ dX5_asNumber_9 rfl (Nat.le_of_ble_eq_true rfl) (Nat.le_of_ble_eq_true rfl) hW ⟨(by simp only [c_1, eq_self, Nat.add_zero, decide_false, decide_true, Bool.not_true, Bool.not_false, Bool.and_true, Bool.true_and, Bool.and_false, Bool.false_and, Bool.or_true, Bool.true_or, Bool.or_false, Bool.false_or, ↓reduceIte, cond_true, cond_false, bI, and_true, true_and, and_false, false_and, or_true, true_or, or_false, false_or, not_true_eq_false, not_false_eq_true, if_true, if_false, Bool.false_eq_true, reduceCtorEq, ite_true, ite_false]), rfl⟩
abbrev r_X5_mayCost : Room := { frames := 0, cells := 0, slots := 0, locals := 0 }
theorem v_X5_mayCost : yX5_mayCost.cls ≠ "java/lang/invoke/MethodHandle" ∧ yX5_mayCost.cls ≠ "java/lang/invoke/VarHandle" ∧ (parseMethodDescriptor yX5_mayCost.desc).map (fun d => d.parameters.length) = some 2 := by decide +kernel
set_option maxRecDepth 100000 in
set_option maxHeartbeats 4000000 in
theorem c_X5_mayCost {l : Launch} {D : va_G} {cI cZ cF : ClassId} {w : va_W} {v : Int32} {t : Bool}  : cI_ l D cI cZ cF yX5_mayCost wsX5_mayCost r_X5_mayCost [.int v, .int (bI t)] (w) (fun r u => r = bI (mayC v t) ∧ u = w) 0 0 := by
  refine cI_of (cc := cX5_mayCost) (maxL := 2) (rt := .boolean) (plainFor_of_name (by decide +kernel)) rfl (Nat.le_of_ble_eq_true rfl) ?_
  intro p e s m args below meth c A Q ls S hk hW hl hR
  have hl : lv_has ls 2 [(0, .int v), (1, .int (bI t))] := hl
  refine lv_iload_n S.1 S.2.1 dX5_mayCost_0 rfl (lv_at hl 0 rfl) ?_
  refine lv_iload_n S.1 S.2.1 dX5_mayCost_1 rfl (lv_at hl 1 rfl) ?_
  refine ifeq_b (tgt := 9) S dX5_mayCost_2 (by decide) (fun c_2 => ?_) (fun c_2 => ?_)
  · skip
    refine lv_bipush (v := (-50)) S.1 S.2.1 dX5_mayCost_9 (by decide) ?_
    refine lv_icmp_lt (tgt := 24) S.1 S.2.1 dX5_mayCost_11 (by decide) (fun c_11 => ?_) (fun c_11 => ?_)
    · skip
      refine lv_iconst (v := nI 0) S.1 S.2.1 dX5_mayCost_24 (by decide) ?_
      exact hR _ _ _ _ _ _ _ _ dX5_mayCost_25 rfl (Nat.le_of_ble_eq_true rfl) (Nat.le_of_ble_eq_true rfl) hW ⟨(by simp only [mayC, c_2, eq_true c_11, eq_self, Nat.add_zero, decide_false, decide_true, Bool.not_true, Bool.not_false, Bool.and_true, Bool.true_and, Bool.and_false, Bool.false_and, Bool.or_true, Bool.true_or, Bool.or_false, Bool.false_or, ↓reduceIte, cond_true, cond_false, bI, and_true, true_and, and_false, false_and, or_true, true_or, or_false, false_or, not_true_eq_false, not_false_eq_true, if_true, if_false, Bool.false_eq_true, reduceCtorEq, ite_true, ite_false]), rfl⟩
    · skip
      refine lv_iload_n S.1 S.2.1 dX5_mayCost_14 rfl (lv_at hl 0 rfl) ?_
      refine lv_bipush (v := nI 99) S.1 S.2.1 dX5_mayCost_15 (by decide) ?_
      refine lv_icmp_gt (tgt := 24) S.1 S.2.1 dX5_mayCost_17 (by decide) (fun c_17 => ?_) (fun c_17 => ?_)
      · skip
        refine lv_iconst (v := nI 0) S.1 S.2.1 dX5_mayCost_24 (by decide) ?_
        exact hR _ _ _ _ _ _ _ _ dX5_mayCost_25 rfl (Nat.le_of_ble_eq_true rfl) (Nat.le_of_ble_eq_true rfl) hW ⟨(by simp only [mayC, c_2, eq_false c_11, eq_true c_17, eq_self, Nat.add_zero, decide_false, decide_true, Bool.not_true, Bool.not_false, Bool.and_true, Bool.true_and, Bool.and_false, Bool.false_and, Bool.or_true, Bool.true_or, Bool.or_false, Bool.false_or, ↓reduceIte, cond_true, cond_false, bI, and_true, true_and, and_false, false_and, or_true, true_or, or_false, false_or, not_true_eq_false, not_false_eq_true, if_true, if_false, Bool.false_eq_true, reduceCtorEq, ite_true, ite_false]), rfl⟩
      · skip
        refine lv_iconst (v := nI 1) S.1 S.2.1 dX5_mayCost_20 (by decide) ?_
        refine lv_goto (tgt := 25) S.1 S.2.1 dX5_mayCost_21 (by decide) ?_
        exact hR _ _ _ _ _ _ _ _ dX5_mayCost_25 rfl (Nat.le_of_ble_eq_true rfl) (Nat.le_of_ble_eq_true rfl) hW ⟨(by simp only [mayC, c_2, eq_false c_11, eq_false c_17, eq_self, Nat.add_zero, decide_false, decide_true, Bool.not_true, Bool.not_false, Bool.and_true, Bool.true_and, Bool.and_false, Bool.false_and, Bool.or_true, Bool.true_or, Bool.or_false, Bool.false_or, ↓reduceIte, cond_true, cond_false, bI, and_true, true_and, and_false, false_and, or_true, true_or, or_false, false_or, not_true_eq_false, not_false_eq_true, if_true, if_false, Bool.false_eq_true, reduceCtorEq, ite_true, ite_false]), rfl⟩
  · skip
    refine lv_iconst (v := nI 0) S.1 S.2.1 dX5_mayCost_5 (by decide) ?_
    refine lv_goto (tgt := 11) S.1 S.2.1 dX5_mayCost_6 (by decide) ?_
    refine lv_icmp_lt (tgt := 24) S.1 S.2.1 dX5_mayCost_11 (by decide) (fun c_11 => ?_) (fun c_11 => ?_)
    · skip
      refine lv_iconst (v := nI 0) S.1 S.2.1 dX5_mayCost_24 (by decide) ?_
      exact hR _ _ _ _ _ _ _ _ dX5_mayCost_25 rfl (Nat.le_of_ble_eq_true rfl) (Nat.le_of_ble_eq_true rfl) hW ⟨(by simp only [mayC, c_2, eq_true c_11, eq_self, Nat.add_zero, decide_false, decide_true, Bool.not_true, Bool.not_false, Bool.and_true, Bool.true_and, Bool.and_false, Bool.false_and, Bool.or_true, Bool.true_or, Bool.or_false, Bool.false_or, ↓reduceIte, cond_true, cond_false, bI, and_true, true_and, and_false, false_and, or_true, true_or, or_false, false_or, not_true_eq_false, not_false_eq_true, if_true, if_false, Bool.false_eq_true, reduceCtorEq, ite_true, ite_false]), rfl⟩
    · skip
      refine lv_iload_n S.1 S.2.1 dX5_mayCost_14 rfl (lv_at hl 0 rfl) ?_
      refine lv_bipush (v := nI 99) S.1 S.2.1 dX5_mayCost_15 (by decide) ?_
      refine lv_icmp_gt (tgt := 24) S.1 S.2.1 dX5_mayCost_17 (by decide) (fun c_17 => ?_) (fun c_17 => ?_)
      · skip
        refine lv_iconst (v := nI 0) S.1 S.2.1 dX5_mayCost_24 (by decide) ?_
        exact hR _ _ _ _ _ _ _ _ dX5_mayCost_25 rfl (Nat.le_of_ble_eq_true rfl) (Nat.le_of_ble_eq_true rfl) hW ⟨(by simp only [mayC, c_2, eq_false c_11, eq_true c_17, eq_self, Nat.add_zero, decide_false, decide_true, Bool.not_true, Bool.not_false, Bool.and_true, Bool.true_and, Bool.and_false, Bool.false_and, Bool.or_true, Bool.true_or, Bool.or_false, Bool.false_or, ↓reduceIte, cond_true, cond_false, bI, and_true, true_and, and_false, false_and, or_true, true_or, or_false, false_or, not_true_eq_false, not_false_eq_true, if_true, if_false, Bool.false_eq_true, reduceCtorEq, ite_true, ite_false]), rfl⟩
      · skip
        refine lv_iconst (v := nI 1) S.1 S.2.1 dX5_mayCost_20 (by decide) ?_
        refine lv_goto (tgt := 25) S.1 S.2.1 dX5_mayCost_21 (by decide) ?_
        exact hR _ _ _ _ _ _ _ _ dX5_mayCost_25 rfl (Nat.le_of_ble_eq_true rfl) (Nat.le_of_ble_eq_true rfl) hW ⟨(by simp only [mayC, c_2, eq_false c_11, eq_false c_17, eq_self, Nat.add_zero, decide_false, decide_true, Bool.not_true, Bool.not_false, Bool.and_true, Bool.true_and, Bool.and_false, Bool.false_and, Bool.or_true, Bool.true_or, Bool.or_false, Bool.false_or, ↓reduceIte, cond_true, cond_false, bI, and_true, true_and, and_false, false_and, or_true, true_or, or_false, false_or, not_true_eq_false, not_false_eq_true, if_true, if_false, Bool.false_eq_true, reduceCtorEq, ite_true, ite_false]), rfl⟩
abbrev r_X5_wouldSinkAt : Room := { frames := 5, cells := 0, slots := 0, locals := 123 }
theorem v_X5_wouldSinkAt : yX5_wouldSinkAt.cls ≠ "java/lang/invoke/MethodHandle" ∧ yX5_wouldSinkAt.cls ≠ "java/lang/invoke/VarHandle" ∧ (parseMethodDescriptor yX5_wouldSinkAt.desc).map (fun d => d.parameters.length) = some 2 := by decide +kernel
set_option maxRecDepth 100000 in
set_option maxHeartbeats 4000000 in
theorem c_X5_wouldSinkAt {l : Launch} {D : va_G} {cI cZ cF : ClassId} {q : Nat → Nat} {qf : Nat → Nat} {g : Gr} {C R : Nat → Int32} {rw len : Nat} {F : Nat → Int32} {sz : Nat} {X : Nat → Int32} {mk : Int32} {j : Nat} {v : Int32} (G : Gok g) (hj : j < gK g) : cI_ l D cI cZ cF yX5_wouldSinkAt wsX5_wouldSinkAt r_X5_wouldSinkAt [.ref (q 0), .int (nI j), .int v] (wC q qf cI cZ cF g C R rw len F sz X mk) (fun r u => r = bI (snk g (e1 g j) (e2 g j) v (bW g j) (nI j)) ∧ ∃ R', u = wC q qf cI cZ cF g C R' rw len F sz X mk) 0 0 := by
  refine cI_of (cc := cX5_wouldSinkAt) (maxL := 3) (rt := .boolean) (plainFor_of_name (by decide +kernel)) rfl (Nat.le_of_ble_eq_true rfl) ?_
  intro p e s m args below meth c A Q ls S hk hW hl hR
  have hl : lv_has ls 3 [(0, .ref (q 0)), (1, .int (nI j)), (2, .int v)] := hl
  have hwsX50 : ∀ x ∈ wsX50, x ∈ wsX5_wouldSinkAt := fun x h => List.mem_cons_of_mem _ (List.mem_append_left _ (List.mem_append_left _ (List.mem_append_right _ h)))
  have hwsX20 : ∀ x ∈ wsX20, x ∈ wsX5_wouldSinkAt := fun x h => List.mem_cons_of_mem _ (List.mem_append_left _ (List.mem_append_right _ h))
  have hwsX40 : ∀ x ∈ wsX40, x ∈ wsX5_wouldSinkAt := fun x h => List.mem_cons_of_mem _ (List.mem_append_right _ h)
  have hN := Gok_N G; have hN2 := Gok_N2 G; have hKK := Gok_K G
  refine lv_aload_n S.1 S.2.1 dX5_wouldSinkAt_0 rfl (lv_at hl 0 rfl) ?_
  refine gf S hk hW 0 rfl rfl hwsX50 1 (by decide) 1 rfl rfl dX5_wouldSinkAt_1 ?_
  refine lv_aload_n S.1 S.2.1 dX5_wouldSinkAt_4 rfl (lv_at hl 0 rfl) ?_
  refine gf S hk hW 0 rfl rfl hwsX50 0 (by decide) 2 rfl rfl dX5_wouldSinkAt_5 ?_
  refine gfN (host := RX5) S hk hW 1 rfl rfl hwsX20 0 (by decide) 5 rfl rfl dX5_wouldSinkAt_8 ?_
  refine lv_iload_n S.1 S.2.1 dX5_wouldSinkAt_11 rfl (lv_at hl 1 rfl) ?_
  refine ild S hk hW 5 rfl j rfl (by omega) (by omega) dX5_wouldSinkAt_12 ?_
  refine top_eq (Gok_B G (j := j) (by omega)) ?_
  have hb12 := Gok_B2 G (j := j) (by omega)
  refine lv_aload_n S.1 S.2.1 dX5_wouldSinkAt_13 rfl (lv_at hl 0 rfl) ?_
  refine gf S hk hW 0 rfl rfl hwsX50 0 (by decide) 2 rfl rfl dX5_wouldSinkAt_14 ?_
  refine gfN (host := RX5) S hk hW 1 rfl rfl hwsX20 1 (by decide) 6 rfl rfl dX5_wouldSinkAt_17 ?_
  refine lv_iload_n S.1 S.2.1 dX5_wouldSinkAt_20 rfl (lv_at hl 1 rfl) ?_
  refine ild S hk hW 6 rfl j rfl (by omega) (by omega) dX5_wouldSinkAt_21 ?_
  refine top_eq (Gok_E G (j := j) (by omega)) ?_
  have hb21 := Gok_E2 G (j := j) (by omega)
  refine lv_iload_n S.1 S.2.1 dX5_wouldSinkAt_22 rfl (lv_at hl 2 rfl) ?_
  refine lv_aload_n S.1 S.2.1 dX5_wouldSinkAt_23 rfl (lv_at hl 0 rfl) ?_
  refine gf S hk hW 0 rfl rfl hwsX50 0 (by decide) 2 rfl rfl dX5_wouldSinkAt_24 ?_
  refine gfN (host := RX5) S hk hW 1 rfl rfl hwsX20 3 (by decide) 2 rfl rfl dX5_wouldSinkAt_27 ?_
  refine lv_iload_n S.1 S.2.1 dX5_wouldSinkAt_30 rfl (lv_at hl 1 rfl) ?_
  refine zld S hk hW 8 rfl j rfl (by omega) (by omega) dX5_wouldSinkAt_31 ?_
  refine top_eq (Gok_W G (j := j) (by omega)) ?_
  refine lv_iload_n S.1 S.2.1 dX5_wouldSinkAt_32 rfl (lv_at hl 1 rfl) ?_
  refine kVi S (c_X4_wouldSink (l := l) (D := D) (cI := cI) (cZ := cZ) (cF := cF) G (by first | assumption | omega) (by first | assumption | omega)) (cwV 5 S.2.2.2.2 gX5_wouldSinkAt_X4_wouldSink rfl rfl rfl ⟨rfl, v_X4_wouldSink⟩ ⟨(Nat.le_of_ble_eq_true rfl), (Nat.le_of_ble_eq_true rfl)⟩) hk hW 2 rfl rfl rfl rfl hl rfl (Nat.le_of_ble_eq_true rfl) dX5_wouldSinkAt_33 ⟨(Nat.le_of_ble_eq_true rfl), (Nat.le_of_ble_eq_true rfl)⟩ (fun r u H locs hp hW => ?_)
  obtain ⟨rfl, R'_1, rfl⟩ := hp
  exact hR _ _ _ _ _ _ _ _ dX5_wouldSinkAt_36 (bI_nar _) (Nat.le_of_ble_eq_true rfl) (Nat.le_of_ble_eq_true rfl) hW ⟨rfl, ⟨_, rfl⟩⟩
abbrev r_X5_keepAct (mc ms : Nat) : Room := { frames := 5, cells := mc, slots := ms, locals := 108 }
theorem v_X5_keepAct : yX5_keepAct.cls ≠ "java/lang/invoke/MethodHandle" ∧ yX5_keepAct.cls ≠ "java/lang/invoke/VarHandle" ∧ (parseMethodDescriptor yX5_keepAct.desc).map (fun d => d.parameters.length) = some 0 := by decide +kernel
set_option maxRecDepth 100000 in
set_option maxHeartbeats 4000000 in
theorem c_X5_keepAct {l : Launch} {D : va_G} {cI cZ cF : ClassId} {q : Nat → Nat} {qf : Nat → Nat} {g : Gr} {C R : Nat → Int32} {rw len : Nat} {F : Nat → Int32} {sz : Nat} {X : Nat → Int32} {mk : Int32}  (G : Gok g) (hr : rw ≤ 400) (hrl : rw ≤ len) (h16 : 0 ≤ len) (hlm : len ≤ 401) : cV_ l D cI cZ cF yX5_keepAct wsX5_keepAct (r_X5_keepAct (gC rw len) (gS rw len)) [.ref (q 0)] (wC q qf cI cZ cF g C R rw len F sz X mk) (fun u => actP q cI cZ cF g rw len F sz X mk u) (gC rw len) (gS rw len) := by
  refine cV_of (cc := cX5_keepAct) (maxL := 1) (plainFor_of_name (by decide +kernel)) rfl (Nat.le_of_ble_eq_true rfl) ?_
  intro p e s m args below meth c A Q ls S hnm hk hW hl hR
  have hl : lv_has ls 1 [(0, .ref (q 0))] := hl
  have hwsX50 : ∀ x ∈ wsX50, x ∈ wsX5_keepAct := fun x h => List.mem_cons_of_mem _ (List.mem_append_left _ (List.mem_append_left _ (List.mem_append_left _ (List.mem_append_left _ (List.mem_append_right _ h)))))
  have hwsX40 : ∀ x ∈ wsX40, x ∈ wsX5_keepAct := fun x h => List.mem_cons_of_mem _ (List.mem_append_left _ (List.mem_append_left _ (List.mem_append_left _ (List.mem_append_right _ h))))
  have hwsX20 : ∀ x ∈ wsX20, x ∈ wsX5_keepAct := fun x h => List.mem_cons_of_mem _ (List.mem_append_left _ (List.mem_append_left _ (List.mem_append_right _ h)))
  have hwsX30 : ∀ x ∈ wsX30, x ∈ wsX5_keepAct := fun x h => List.mem_cons_of_mem _ (List.mem_append_left _ (List.mem_append_right _ h))
  have hwsX00 : ∀ x ∈ wsX00, x ∈ wsX5_keepAct := fun x h => List.mem_cons_of_mem _ (List.mem_append_right _ h)
  refine lv_aload_n S.1 S.2.1 dX5_keepAct_0 rfl (lv_at hl 0 rfl) ?_
  refine gf S hk hW 0 rfl rfl hwsX50 1 (by decide) 1 rfl rfl dX5_keepAct_1 ?_
  refine kVv S (c_X4_measure (l := l) (D := D) (cI := cI) (cZ := cZ) (cF := cF) G) (cwV 0 S.2.2.2.2 gX5_keepAct_X4_measure rfl rfl rfl ⟨rfl, v_X4_measure⟩ ⟨(Nat.le_of_ble_eq_true rfl), (Nat.le_of_ble_eq_true rfl)⟩) hk hW 2 rfl rfl rfl rfl hl rfl (Nat.le_of_ble_eq_true rfl) dX5_keepAct_4 ⟨Nat.zero_le _, Nat.zero_le _⟩ (fun u H locs hp hW => ?_)
  obtain ⟨C'_1, R'_2, hCm, rfl⟩ := hp
  refine lv_aload_n S.1 S.2.1 dX5_keepAct_7 rfl (lv_at hl 0 rfl) ?_
  refine gf S hk hW 0 rfl rfl hwsX50 2 (by decide) 2 rfl rfl dX5_keepAct_8 ?_
  refine lv_aload_n S.1 S.2.1 dX5_keepAct_11 rfl (lv_at hl 0 rfl) ?_
  refine gf S hk hW 0 rfl rfl hwsX50 1 (by decide) 1 rfl rfl dX5_keepAct_12 ?_
  refine kVv S (c_X3_keep (l := l) (D := D) (cI := cI) (cZ := cZ) (cF := cF) (by first | assumption | omega) (by first | assumption | omega) (by first | assumption | omega) (by first | assumption | omega)) (cwV 1 S.2.2.2.2 gX5_keepAct_X3_keep rfl rfl rfl ⟨rfl, v_X3_keep⟩ ⟨(Nat.le_of_ble_eq_true rfl), (Nat.le_of_ble_eq_true rfl)⟩) hk hW 3 rfl rfl rfl rfl hl rfl (Nat.le_of_ble_eq_true rfl) dX5_keepAct_15 ⟨Nat.le_of_eq (Nat.zero_add _), Nat.le_of_eq (Nat.zero_add _)⟩ (fun u H locs hp hW => ?_)
  obtain ⟨qf'_3, F'_4, hFo, hFn, rfl⟩ := hp
  exact hR _ _ _ _ _ _ _ dX5_keepAct_18 (by omega) (by omega) hW ⟨_, _, _, _, hCm, hFo, hFn, rfl⟩
abbrev r_X5_restart (mc ms : Nat) : Room := { frames := 6, cells := mc, slots := ms, locals := 128 }
theorem v_X5_restart : yX5_restart.cls ≠ "java/lang/invoke/MethodHandle" ∧ yX5_restart.cls ≠ "java/lang/invoke/VarHandle" ∧ (parseMethodDescriptor yX5_restart.desc).map (fun d => d.parameters.length) = some 1 := by decide +kernel
set_option maxRecDepth 100000 in
set_option maxHeartbeats 4000000 in
theorem c_X5_restart {l : Launch} {D : va_G} {cI cZ cF : ClassId} {q : Nat → Nat} {qf : Nat → Nat} {g : Gr} {C R : Nat → Int32} {rw len : Nat} {F : Nat → Int32} {sz : Nat} {X : Nat → Int32} {mk : Int32} {n : Nat} (h2 : 2 ≤ n) (h10 : n ≤ 10) (h16 : 0 ≤ len) (hlm : len ≤ 401) : cV_ l D cI cZ cF yX5_restart wsX5_restart (r_X5_restart (gC 0 len) (gS 0 len)) [.ref (q 0), .int (nI n)] (wC q qf cI cZ cF g C R rw len F sz X mk) (fun u => actP q cI cZ cF (sK (sN g n) 0) 0 len F sz X (nI 0) u) (gC 0 len) (gS 0 len) := by
  refine cV_of (cc := cX5_restart) (maxL := 2) (plainFor_of_name (by decide +kernel)) rfl (Nat.le_of_ble_eq_true rfl) ?_
  intro p e s m args below meth c A Q ls S hnm hk hW hl hR
  have hl : lv_has ls 2 [(0, .ref (q 0)), (1, .int (nI n))] := hl
  have hwsX50 : ∀ x ∈ wsX50, x ∈ wsX5_restart := fun x h => List.mem_cons_of_mem _ (List.mem_append_left _ (List.mem_append_left _ (List.mem_append_left _ (List.mem_append_left _ (List.mem_append_right _ h)))))
  have hwsX20 : ∀ x ∈ wsX20, x ∈ wsX5_restart := fun x h => List.mem_cons_of_mem _ (List.mem_append_left _ (List.mem_append_left _ (List.mem_append_left _ (List.mem_append_right _ h))))
  have hwsX30 : ∀ x ∈ wsX30, x ∈ wsX5_restart := fun x h => List.mem_cons_of_mem _ (List.mem_append_left _ (List.mem_append_left _ (List.mem_append_right _ h)))
  have hwsX40 : ∀ x ∈ wsX40, x ∈ wsX5_restart := fun x h => List.mem_cons_of_mem _ (List.mem_append_left _ (List.mem_append_right _ h))
  have hwsX00 : ∀ x ∈ wsX00, x ∈ wsX5_restart := fun x h => List.mem_cons_of_mem _ (List.mem_append_right _ h)
  refine lv_aload_n S.1 S.2.1 dX5_restart_0 rfl (lv_at hl 0 rfl) ?_
  refine gf S hk hW 0 rfl rfl hwsX50 0 (by decide) 1 rfl rfl dX5_restart_1 ?_
  refine lv_iload_n S.1 S.2.1 dX5_restart_4 rfl (lv_at hl 1 rfl) ?_
  refine kVv S (c_X2_clear (l := l) (D := D) (cI := cI) (cZ := cZ) (cF := cF)) (cwV 1 S.2.2.2.2 gX5_restart_X2_clear rfl rfl rfl ⟨rfl, v_X2_clear⟩ ⟨(Nat.le_of_ble_eq_true rfl), (Nat.le_of_ble_eq_true rfl)⟩) hk hW 1 rfl rfl rfl rfl hl rfl (Nat.le_of_ble_eq_true rfl) dX5_restart_5 ⟨Nat.zero_le _, Nat.zero_le _⟩ (fun u H locs hp hW => ?_)
  subst hp
  refine lv_aload_n S.1 S.2.1 dX5_restart_8 rfl (lv_at hl 0 rfl) ?_
  refine gf S hk hW 0 rfl rfl hwsX50 2 (by decide) 2 rfl rfl dX5_restart_9 ?_
  refine kVv S (c_X3_clear (l := l) (D := D) (cI := cI) (cZ := cZ) (cF := cF)) (cwV 0 S.2.2.2.2 gX5_restart_X3_clear rfl rfl rfl ⟨rfl, v_X3_clear⟩ ⟨(Nat.le_of_ble_eq_true rfl), (Nat.le_of_ble_eq_true rfl)⟩) hk hW 3 rfl rfl rfl rfl hl rfl (Nat.le_of_ble_eq_true rfl) dX5_restart_12 ⟨Nat.zero_le _, Nat.zero_le _⟩ (fun u H locs hp hW => ?_)
  subst hp
  refine lv_aload_n S.1 S.2.1 dX5_restart_15 rfl (lv_at hl 0 rfl) ?_
  refine lv_iconst (v := nI 0) S.1 S.2.1 dX5_restart_16 (by decide) ?_
  refine pf (ty := .int) (w' := wC q qf cI cZ cF (sK (sN g n) 0) C R 0 len F sz X (nI 0)) S hk hW 0 rfl rfl hwsX50 tyX5 tyX5_ok nmX5 4 (by decide) 3 rfl rfl (by decide +kernel) rfl rfl (Nat.le_of_ble_eq_true rfl) dX5_restart_17 rfl (fun H locs hW => ?_)
  refine lv_aload_n S.1 S.2.1 dX5_restart_20 rfl (lv_at hl 0 rfl) ?_
  refine kVv S (c_X5_keepAct (l := l) (D := D) (cI := cI) (cZ := cZ) (cF := cF) (Gok_new h2 h10) (by omega) (by omega) h16 hlm) (cwV 0 S.2.2.2.2 gX5_restart_X5_keepAct rfl rfl rfl ⟨rfl, v_X5_keepAct⟩ ⟨(Nat.le_of_ble_eq_true rfl), (Nat.le_of_ble_eq_true rfl)⟩) hk hW 0 rfl rfl rfl rfl hl rfl (Nat.le_of_ble_eq_true rfl) dX5_restart_21 ⟨Nat.le_of_eq (Nat.zero_add _), Nat.le_of_eq (Nat.zero_add _)⟩ (fun u H locs hp hW => ?_)
  obtain ⟨qf'_1, C'_2, R'_3, F'_4, hCa, hFo, hFn, rfl⟩ := hp
  exact hR _ _ _ _ _ _ _ dX5_restart_24 (by omega) (by omega) hW ⟨_, _, _, _, hCa, hFo, hFn, rfl⟩
abbrev r_X5_posts (mc ms : Nat) : Room := { frames := 7, cells := mc, slots := ms, locals := 149 }
theorem v_X5_posts : yX5_posts.cls ≠ "java/lang/invoke/MethodHandle" ∧ yX5_posts.cls ≠ "java/lang/invoke/VarHandle" ∧ (parseMethodDescriptor yX5_posts.desc).map (fun d => d.parameters.length) = some 1 := by decide +kernel
set_option maxRecDepth 100000 in
set_option maxHeartbeats 4000000 in
theorem c_X5_posts {l : Launch} {D : va_G} {cI cZ cF : ClassId} {q : Nat → Nat} {qf : Nat → Nat} {g : Gr} {C R : Nat → Int32} {rw len : Nat} {F : Nat → Int32} {sz : Nat} {X : Nat → Int32} {mk : Int32} {x : Int32} (h16 : 0 ≤ len) (hlm : len ≤ 401) : cI_ l D cI cZ cF yX5_posts wsX5_posts (r_X5_posts (gC 0 len) (gS 0 len)) [.ref (q 0), .int x] (wC q qf cI cZ cF g C R rw len F sz X mk) (fun r u => (∀ z, postsC x = some z → r = z ∧ ∃ R', u = wC q qf cI cZ cF g C R' rw len F sz X mk) ∧ (postsC x = none → r = nI (gN g) ∧ actP q cI cZ cF (sK (sN g x.toNatClampNeg) 0) 0 len F sz X (nI 0) u)) (gC 0 len) (gS 0 len) := by
  refine cI_of (cc := cX5_posts) (maxL := 3) (rt := .int) (plainFor_of_name (by decide +kernel)) rfl (Nat.le_of_ble_eq_true rfl) ?_
  intro p e s m args below meth c A Q ls S hk hW hl hR
  have hl : lv_has ls 3 [(0, .ref (q 0)), (1, .int x)] := hl
  have hwsX50 : ∀ x ∈ wsX50, x ∈ wsX5_posts := fun x h => List.mem_cons_of_mem _ (List.mem_append_left _ (List.mem_append_left _ (List.mem_append_left _ (List.mem_append_left _ (List.mem_append_right _ h)))))
  have hwsX20 : ∀ x ∈ wsX20, x ∈ wsX5_posts := fun x h => List.mem_cons_of_mem _ (List.mem_append_left _ (List.mem_append_left _ (List.mem_append_left _ (List.mem_append_right _ h))))
  have hwsX30 : ∀ x ∈ wsX30, x ∈ wsX5_posts := fun x h => List.mem_cons_of_mem _ (List.mem_append_left _ (List.mem_append_left _ (List.mem_append_right _ h)))
  have hwsX40 : ∀ x ∈ wsX40, x ∈ wsX5_posts := fun x h => List.mem_cons_of_mem _ (List.mem_append_left _ (List.mem_append_right _ h))
  have hwsX00 : ∀ x ∈ wsX00, x ∈ wsX5_posts := fun x h => List.mem_cons_of_mem _ (List.mem_append_right _ h)
  refine lv_iload_n S.1 S.2.1 dX5_posts_0 rfl (lv_at hl 1 rfl) ?_
  refine lv_iconst (v := nI 2) S.1 S.2.1 dX5_posts_1 (by decide) ?_
  refine lv_icmp_lt (tgt := 11) S.1 S.2.1 dX5_posts_2 (by decide) (fun c_2 => ?_) (fun c_2 => ?_)
  · skip
    refine lv_sipush (v := (-1002)) S.1 S.2.1 dX5_posts_11 (by decide) ?_
    exact hR _ _ _ _ _ _ _ _ dX5_posts_14 rfl (Nat.zero_le _) (Nat.zero_le _) hW (ref_post (by simp only [postsC, eq_true c_2, eq_self, Nat.add_zero, decide_false, decide_true, Bool.not_true, Bool.not_false, Bool.and_true, Bool.true_and, Bool.and_false, Bool.false_and, Bool.or_true, Bool.true_or, Bool.or_false, Bool.false_or, ↓reduceIte, cond_true, cond_false, bI, and_true, true_and, and_false, false_and, or_true, true_or, or_false, false_or, not_true_eq_false, not_false_eq_true, if_true, if_false, Bool.false_eq_true, reduceCtorEq, ite_true, ite_false]) ⟨_, rfl⟩)
  · skip
    refine lv_iload_n S.1 S.2.1 dX5_posts_5 rfl (lv_at hl 1 rfl) ?_
    refine lv_bipush (v := nI 10) S.1 S.2.1 dX5_posts_6 (by decide) ?_
    refine lv_icmp_le (tgt := 15) S.1 S.2.1 dX5_posts_8 (by decide) (fun c_8 => ?_) (fun c_8 => ?_)
    · skip
      have hpc : postsC x = none := by simp only [postsC, if_neg c_2, if_pos c_8]
      obtain ⟨n, h2, h10, rfl⟩ := posts_nat c_2 c_8
      have hcn : (nI n).toNatClampNeg = n := nI_clamp (by omega)
      refine lv_aload_n S.1 S.2.1 dX5_posts_15 rfl (lv_at hl 0 rfl) ?_
      refine gf S hk hW 0 rfl rfl hwsX50 0 (by decide) 1 rfl rfl dX5_posts_16 ?_
      refine gfN (host := RX5) S hk hW 1 rfl rfl hwsX20 5 (by decide) 0 rfl rfl dX5_posts_19 ?_
      refine lv_istore_n (lv' := [(2, .int (nI (gN g))), (0, .ref (q 0)), (1, .int (nI n))]) S.1 S.2.1 dX5_posts_22 rfl hl (by decide) rfl (fun ls hl => ?_)
      refine lv_aload_n S.1 S.2.1 dX5_posts_23 rfl (lv_at hl 1 rfl) ?_
      refine lv_iload_n S.1 S.2.1 dX5_posts_24 rfl (lv_at hl 2 rfl) ?_
      refine kVv S (c_X5_restart (l := l) (D := D) (cI := cI) (cZ := cZ) (cF := cF) (by first | assumption | omega) (by first | assumption | omega) (by first | assumption | omega) (by first | assumption | omega)) (cwV 1 S.2.2.2.2 gX5_posts_X5_restart rfl rfl rfl ⟨rfl, v_X5_restart⟩ ⟨(Nat.le_of_ble_eq_true rfl), (Nat.le_of_ble_eq_true rfl)⟩) hk hW 0 rfl rfl rfl rfl hl rfl (Nat.le_of_ble_eq_true rfl) dX5_posts_25 ⟨Nat.le_of_eq (Nat.zero_add _), Nat.le_of_eq (Nat.zero_add _)⟩ (fun u H locs hp hW => ?_)
      obtain ⟨qf'_1, C'_2, R'_3, F'_4, hCa, hFo, hFn, rfl⟩ := hp
      refine lv_iload_n S.1 S.2.1 dX5_posts_28 rfl (lv_at hl 0 rfl) ?_
      exact hR _ _ _ _ _ _ _ _ dX5_posts_29 rfl (by omega) (by omega) hW (act_post hpc ⟨rfl, _, _, _, _, by rw [hcn]; exact hCa, hFo, hFn, by rw [hcn]⟩)
    · skip
      refine lv_sipush (v := (-1002)) S.1 S.2.1 dX5_posts_11 (by decide) ?_
      exact hR _ _ _ _ _ _ _ _ dX5_posts_14 rfl (Nat.zero_le _) (Nat.zero_le _) hW (ref_post (by simp only [postsC, eq_false c_2, eq_false c_8, eq_self, Nat.add_zero, decide_false, decide_true, Bool.not_true, Bool.not_false, Bool.and_true, Bool.true_and, Bool.and_false, Bool.false_and, Bool.or_true, Bool.true_or, Bool.or_false, Bool.false_or, ↓reduceIte, cond_true, cond_false, bI, and_true, true_and, and_false, false_and, or_true, true_or, or_false, false_or, not_true_eq_false, not_false_eq_true, if_true, if_false, Bool.false_eq_true, reduceCtorEq, ite_true, ite_false]) ⟨_, rfl⟩)
abbrev r_X5_line (mc ms : Nat) : Room := { frames := 6, cells := mc, slots := ms, locals := 128 }
theorem v_X5_line : yX5_line.cls ≠ "java/lang/invoke/MethodHandle" ∧ yX5_line.cls ≠ "java/lang/invoke/VarHandle" ∧ (parseMethodDescriptor yX5_line.desc).map (fun d => d.parameters.length) = some 4 := by decide +kernel
set_option maxRecDepth 100000 in
set_option maxHeartbeats 4000000 in
theorem c_X5_line {l : Launch} {D : va_G} {cI cZ cF : ClassId} {q : Nat → Nat} {qf : Nat → Nat} {g : Gr} {C R : Nat → Int32} {rw len : Nat} {F : Nat → Int32} {sz : Nat} {X : Nat → Int32} {mk : Int32} {x y v : Int32} {t : Bool} {mcv msv : Nat} (G : Gok g) (h16 : 0 ≤ len) (hlm : len ≤ 401) (hrl : rw ≤ len) (hr1 : rw ≤ 401) (hmc : lineC g x y v t rw = none → gC rw len ≤ mcv ∧ gS rw len ≤ msv) : cI_ l D cI cZ cF yX5_line wsX5_line (r_X5_line mcv msv) [.ref (q 0), .int x, .int y, .int v, .int (bI t)] (wC q qf cI cZ cF g C R rw len F sz X mk) (fun r u => (∀ z, lineC g x y v t rw = some z → r = z ∧ ∃ R', u = wC q qf cI cZ cF g C R' rw len F sz X mk) ∧ (lineC g x y v t rw = none → r = nI (gK g) ∧ actP q cI cZ cF (addG g x.toNatClampNeg y.toNatClampNeg v t) rw len F sz X mk u)) mcv msv := by
  refine cI_of (cc := cX5_line) (maxL := 6) (rt := .int) (plainFor_of_name (by decide +kernel)) rfl (Nat.le_of_ble_eq_true rfl) ?_
  intro p e s m args below meth c A Q ls S hk hW hl hR
  have hl : lv_has ls 6 [(0, .ref (q 0)), (1, .int x), (2, .int y), (3, .int v), (4, .int (bI t))] := hl
  have hwsX50 : ∀ x ∈ wsX50, x ∈ wsX5_line := fun x h => List.mem_cons_of_mem _ (List.mem_append_left _ (List.mem_append_left _ (List.mem_append_left _ (List.mem_append_left _ (List.mem_append_right _ h)))))
  have hwsX20 : ∀ x ∈ wsX20, x ∈ wsX5_line := fun x h => List.mem_cons_of_mem _ (List.mem_append_left _ (List.mem_append_left _ (List.mem_append_left _ (List.mem_append_right _ h))))
  have hwsX40 : ∀ x ∈ wsX40, x ∈ wsX5_line := fun x h => List.mem_cons_of_mem _ (List.mem_append_left _ (List.mem_append_left _ (List.mem_append_right _ h)))
  have hwsX30 : ∀ x ∈ wsX30, x ∈ wsX5_line := fun x h => List.mem_cons_of_mem _ (List.mem_append_left _ (List.mem_append_right _ h))
  have hwsX00 : ∀ x ∈ wsX00, x ∈ wsX5_line := fun x h => List.mem_cons_of_mem _ (List.mem_append_right _ h)
  have hN := Gok_N G; have hN2 := Gok_N2 G; have hKK := Gok_K G
  refine lv_aload_n S.1 S.2.1 dX5_line_0 rfl (lv_at hl 0 rfl) ?_
  refine gf S hk hW 0 rfl rfl hwsX50 0 (by decide) 1 rfl rfl dX5_line_1 ?_
  refine lv_iload_n S.1 S.2.1 dX5_line_4 rfl (lv_at hl 1 rfl) ?_
  refine lv_iload_n S.1 S.2.1 dX5_line_5 rfl (lv_at hl 2 rfl) ?_
  refine kVi S (c_X2_hasPosts (l := l) (D := D) (cI := cI) (cZ := cZ) (cF := cF)) (cwV 2 S.2.2.2.2 gX5_line_X2_hasPosts rfl rfl rfl ⟨rfl, v_X2_hasPosts⟩ ⟨(Nat.le_of_ble_eq_true rfl), (Nat.le_of_ble_eq_true rfl)⟩) hk hW 1 rfl rfl rfl rfl hl rfl (Nat.le_of_ble_eq_true rfl) dX5_line_6 ⟨Nat.zero_le _, Nat.zero_le _⟩ (fun r u H locs hp hW => ?_)
  obtain ⟨rfl, rfl⟩ := hp
  refine ifne_b (tgt := 16) S dX5_line_9 (by decide) (fun c_9 => ?_) (fun c_9 => ?_)
  · skip
    obtain ⟨c9a, c9b⟩ := (Bool.and_eq_true_iff).mp c_9
    obtain ⟨a, ha, rfl⟩ := inb_nat c9a (by omega)
    obtain ⟨b, hb, rfl⟩ := inb_nat c9b (by omega)
    have hca : (nI a).toNatClampNeg = a := nI_clamp (by omega)
    have hcb : (nI b).toNatClampNeg = b := nI_clamp (by omega)
    refine lv_iload_n S.1 S.2.1 dX5_line_16 rfl (lv_at hl 3 rfl) ?_
    refine lv_iload S.1 S.2.1 dX5_line_17 (lv_at hl 4 rfl) ?_
    refine kSi S (c_X5_mayCost (l := l) (D := D) (cI := cI) (cZ := cZ) (cF := cF)) (va_cwS 2 S.2.2.2.2 gX5_line_X5_mayCost rfl rfl rfl v_X5_mayCost ⟨(Nat.le_of_ble_eq_true rfl), (Nat.le_of_ble_eq_true rfl)⟩) hk hW rfl hl rfl (Nat.le_of_ble_eq_true rfl) dX5_line_19 ⟨Nat.zero_le _, Nat.zero_le _⟩ (fun r u H locs hp hW => ?_)
    obtain ⟨rfl, rfl⟩ := hp
    refine ifne_b (tgt := 29) S dX5_line_22 (by decide) (fun c_22 => ?_) (fun c_22 => ?_)
    · skip
      refine lv_iload_n S.1 S.2.1 dX5_line_29 rfl (lv_at hl 1 rfl) ?_
      refine lv_iload_n S.1 S.2.1 dX5_line_30 rfl (lv_at hl 2 rfl) ?_
      refine iceq_n (tgt := 50) S (by omega) (by omega) dX5_line_31 (by decide) (fun c_31 => ?_) (fun c_31 => ?_)
      · skip
        refine lv_sipush (v := (-1003)) S.1 S.2.1 dX5_line_50 (by decide) ?_
        exact hR _ _ _ _ _ _ _ _ dX5_line_53 rfl (Nat.zero_le _) (Nat.zero_le _) hW (ref_post (by simp only [lineC, hca, hcb, c_9, c_22, eq_true c_31, eq_self, Nat.add_zero, decide_false, decide_true, Bool.not_true, Bool.not_false, Bool.and_true, Bool.true_and, Bool.and_false, Bool.false_and, Bool.or_true, Bool.true_or, Bool.or_false, Bool.false_or, ↓reduceIte, cond_true, cond_false, bI, and_true, true_and, and_false, false_and, or_true, true_or, or_false, false_or, not_true_eq_false, not_false_eq_true, if_true, if_false, Bool.false_eq_true, reduceCtorEq, ite_true, ite_false]) ⟨_, rfl⟩)
      · skip
        refine lv_aload_n S.1 S.2.1 dX5_line_34 rfl (lv_at hl 0 rfl) ?_
        refine gf S hk hW 0 rfl rfl hwsX50 1 (by decide) 2 rfl rfl dX5_line_35 ?_
        refine lv_iload_n S.1 S.2.1 dX5_line_38 rfl (lv_at hl 1 rfl) ?_
        refine lv_iload_n S.1 S.2.1 dX5_line_39 rfl (lv_at hl 2 rfl) ?_
        refine lv_iload_n S.1 S.2.1 dX5_line_40 rfl (lv_at hl 3 rfl) ?_
        refine lv_iload S.1 S.2.1 dX5_line_41 (lv_at hl 4 rfl) ?_
        refine lv_iconst (v := (-1)) S.1 S.2.1 dX5_line_43 (by decide) ?_
        refine kVi S (c_X4_wouldSink (l := l) (D := D) (cI := cI) (cZ := cZ) (cF := cF) G (by first | assumption | omega) (by first | assumption | omega)) (cwV 5 S.2.2.2.2 gX5_line_X4_wouldSink rfl rfl rfl ⟨rfl, v_X4_wouldSink⟩ ⟨(Nat.le_of_ble_eq_true rfl), (Nat.le_of_ble_eq_true rfl)⟩) hk hW 2 rfl rfl rfl rfl hl rfl (Nat.le_of_ble_eq_true rfl) dX5_line_44 ⟨Nat.zero_le _, Nat.zero_le _⟩ (fun r u H locs hp hW => ?_)
        obtain ⟨rfl, R'_1, rfl⟩ := hp
        refine ifeq_b (tgt := 54) S dX5_line_47 (by decide) (fun c_47 => ?_) (fun c_47 => ?_)
        · skip
          refine lv_aload_n S.1 S.2.1 dX5_line_54 rfl (lv_at hl 0 rfl) ?_
          refine gf S hk hW 0 rfl rfl hwsX50 0 (by decide) 1 rfl rfl dX5_line_55 ?_
          refine gfN (host := RX5) S hk hW 1 rfl rfl hwsX20 6 (by decide) 1 rfl rfl dX5_line_58 ?_
          refine lv_bipush (v := nI 40) S.1 S.2.1 dX5_line_61 (by decide) ?_
          refine icge_n (tgt := 76) S (by omega) (by omega) dX5_line_63 (by decide) (fun c_63 => ?_) (fun c_63 => ?_)
          · skip
            refine lv_sipush (v := (-1004)) S.1 S.2.1 dX5_line_76 (by decide) ?_
            exact hR _ _ _ _ _ _ _ _ dX5_line_79 rfl (Nat.zero_le _) (Nat.zero_le _) hW (ref_post (by simp only [lineC, hca, hcb, fullO, c_9, c_22, eq_false c_31, c_47, eq_true c_63, eq_self, Nat.add_zero, decide_false, decide_true, Bool.not_true, Bool.not_false, Bool.and_true, Bool.true_and, Bool.and_false, Bool.false_and, Bool.or_true, Bool.true_or, Bool.or_false, Bool.false_or, ↓reduceIte, cond_true, cond_false, bI, and_true, true_and, and_false, false_and, or_true, true_or, or_false, false_or, not_true_eq_false, not_false_eq_true, if_true, if_false, Bool.false_eq_true, reduceCtorEq, ite_true, ite_false]) ⟨_, rfl⟩)
          · skip
            refine lv_aload_n S.1 S.2.1 dX5_line_66 rfl (lv_at hl 0 rfl) ?_
            refine gf S hk hW 0 rfl rfl hwsX50 2 (by decide) 3 rfl rfl dX5_line_67 ?_
            refine kVi S (c_X3_isFull (l := l) (D := D) (cI := cI) (cZ := cZ) (cF := cF) (by first | assumption | omega)) (cwV 0 S.2.2.2.2 gX5_line_X3_isFull rfl rfl rfl ⟨rfl, v_X3_isFull⟩ ⟨(Nat.le_of_ble_eq_true rfl), (Nat.le_of_ble_eq_true rfl)⟩) hk hW 3 rfl rfl rfl rfl hl rfl (Nat.le_of_ble_eq_true rfl) dX5_line_70 ⟨Nat.zero_le _, Nat.zero_le _⟩ (fun r u H locs hp hW => ?_)
            obtain ⟨rfl, rfl⟩ := hp
            refine ifeq_b (tgt := 80) S dX5_line_73 (by decide) (fun c_73 => ?_) (fun c_73 => ?_)
            · skip
              refine lv_aload_n S.1 S.2.1 dX5_line_80 rfl (lv_at hl 0 rfl) ?_
              refine gf S hk hW 0 rfl rfl hwsX50 0 (by decide) 1 rfl rfl dX5_line_81 ?_
              refine lv_iload_n S.1 S.2.1 dX5_line_84 rfl (lv_at hl 1 rfl) ?_
              refine lv_iload_n S.1 S.2.1 dX5_line_85 rfl (lv_at hl 2 rfl) ?_
              refine lv_iload_n S.1 S.2.1 dX5_line_86 rfl (lv_at hl 3 rfl) ?_
              refine lv_iload S.1 S.2.1 dX5_line_87 (lv_at hl 4 rfl) ?_
              refine kVi S (c_X2_add (l := l) (D := D) (cI := cI) (cZ := cZ) (cF := cF) (by first | assumption | omega)) (cwV 4 S.2.2.2.2 gX5_line_X2_add rfl rfl rfl ⟨rfl, v_X2_add⟩ ⟨(Nat.le_of_ble_eq_true rfl), (Nat.le_of_ble_eq_true rfl)⟩) hk hW 1 rfl rfl rfl rfl hl rfl (Nat.le_of_ble_eq_true rfl) dX5_line_89 ⟨Nat.zero_le _, Nat.zero_le _⟩ (fun r u H locs hp hW => ?_)
              obtain ⟨rfl, rfl⟩ := hp
              refine lv_istore (lv' := [(5, .int (nI (gK g))), (0, .ref (q 0)), (1, .int (nI a)), (2, .int (nI b)), (3, .int v), (4, .int (bI t))]) S.1 S.2.1 dX5_line_92 hl (by decide) rfl (fun ls hl => ?_)
              refine lv_aload_n S.1 S.2.1 dX5_line_94 rfl (lv_at hl 1 rfl) ?_
              have hno : lineC g (nI a) (nI b) v t rw = none := by simp only [lineC, hca, hcb, fullO, c_9, c_22, eq_false c_31, c_47, eq_false c_63, c_73, eq_self, Nat.add_zero, decide_false, decide_true, Bool.not_true, Bool.not_false, Bool.and_true, Bool.true_and, Bool.and_false, Bool.false_and, Bool.or_true, Bool.true_or, Bool.or_false, Bool.false_or, ↓reduceIte, cond_true, cond_false, bI, and_true, true_and, and_false, false_and, or_true, true_or, or_false, false_or, not_true_eq_false, not_false_eq_true, if_true, if_false, Bool.false_eq_true, reduceCtorEq, ite_true, ite_false]
              obtain ⟨hm1, hm2⟩ := hmc hno
              refine kVv S (c_X5_keepAct (l := l) (D := D) (cI := cI) (cZ := cZ) (cF := cF) (Gok_add G ha hb c_31 (by omega) c_22) (by simp only [Bool.not_eq_false', decide_eq_true_eq] at c_73; omega) hrl h16 hlm) (cwV 0 S.2.2.2.2 gX5_line_X5_keepAct rfl rfl rfl ⟨rfl, v_X5_keepAct⟩ ⟨(Nat.le_of_ble_eq_true rfl), (Nat.le_of_ble_eq_true rfl)⟩) hk hW 0 rfl rfl rfl rfl hl rfl (Nat.le_of_ble_eq_true rfl) dX5_line_95 ⟨by show 0 + gC rw len ≤ mcv; omega, by show 0 + gS rw len ≤ msv; omega⟩ (fun u H locs hp hW => ?_)
              obtain ⟨qf'_2, C'_3, R'_4, F'_5, hCa, hFo, hFn, rfl⟩ := hp
              refine lv_iload S.1 S.2.1 dX5_line_98 (lv_at hl 0 rfl) ?_
              exact hR _ _ _ _ _ _ _ _ dX5_line_100 rfl (by omega) (by omega) hW (act_post (by simp only [lineC, hca, hcb, fullO, c_9, c_22, eq_false c_31, c_47, eq_false c_63, c_73, eq_self, Nat.add_zero, decide_false, decide_true, Bool.not_true, Bool.not_false, Bool.and_true, Bool.true_and, Bool.and_false, Bool.false_and, Bool.or_true, Bool.true_or, Bool.or_false, Bool.false_or, ↓reduceIte, cond_true, cond_false, bI, and_true, true_and, and_false, false_and, or_true, true_or, or_false, false_or, not_true_eq_false, not_false_eq_true, if_true, if_false, Bool.false_eq_true, reduceCtorEq, ite_true, ite_false]) ⟨rfl, _, _, _, _, by rw [hca, hcb]; exact hCa, hFo, hFn, by rw [hca, hcb]⟩)
            · skip
              refine lv_sipush (v := (-1004)) S.1 S.2.1 dX5_line_76 (by decide) ?_
              exact hR _ _ _ _ _ _ _ _ dX5_line_79 rfl (Nat.zero_le _) (Nat.zero_le _) hW (ref_post (by simp only [lineC, hca, hcb, fullO, c_9, c_22, eq_false c_31, c_47, eq_false c_63, c_73, eq_self, Nat.add_zero, decide_false, decide_true, Bool.not_true, Bool.not_false, Bool.and_true, Bool.true_and, Bool.and_false, Bool.false_and, Bool.or_true, Bool.true_or, Bool.or_false, Bool.false_or, ↓reduceIte, cond_true, cond_false, bI, and_true, true_and, and_false, false_and, or_true, true_or, or_false, false_or, not_true_eq_false, not_false_eq_true, if_true, if_false, Bool.false_eq_true, reduceCtorEq, ite_true, ite_false]) ⟨_, rfl⟩)
        · skip
          refine lv_sipush (v := (-1003)) S.1 S.2.1 dX5_line_50 (by decide) ?_
          exact hR _ _ _ _ _ _ _ _ dX5_line_53 rfl (Nat.zero_le _) (Nat.zero_le _) hW (ref_post (by simp only [lineC, hca, hcb, c_9, c_22, eq_false c_31, c_47, eq_self, Nat.add_zero, decide_false, decide_true, Bool.not_true, Bool.not_false, Bool.and_true, Bool.true_and, Bool.and_false, Bool.false_and, Bool.or_true, Bool.true_or, Bool.or_false, Bool.false_or, ↓reduceIte, cond_true, cond_false, bI, and_true, true_and, and_false, false_and, or_true, true_or, or_false, false_or, not_true_eq_false, not_false_eq_true, if_true, if_false, Bool.false_eq_true, reduceCtorEq, ite_true, ite_false]) ⟨_, rfl⟩)
    · skip
      refine lv_sipush (v := (-1002)) S.1 S.2.1 dX5_line_25 (by decide) ?_
      exact hR _ _ _ _ _ _ _ _ dX5_line_28 rfl (Nat.zero_le _) (Nat.zero_le _) hW (ref_post (by simp only [lineC, hca, hcb, c_9, c_22, eq_self, Nat.add_zero, decide_false, decide_true, Bool.not_true, Bool.not_false, Bool.and_true, Bool.true_and, Bool.and_false, Bool.false_and, Bool.or_true, Bool.true_or, Bool.or_false, Bool.false_or, ↓reduceIte, cond_true, cond_false, bI, and_true, true_and, and_false, false_and, or_true, true_or, or_false, false_or, not_true_eq_false, not_false_eq_true, if_true, if_false, Bool.false_eq_true, reduceCtorEq, ite_true, ite_false]) ⟨_, rfl⟩)
  · skip
    refine lv_sipush (v := (-1001)) S.1 S.2.1 dX5_line_12 (by decide) ?_
    exact hR _ _ _ _ _ _ _ _ dX5_line_15 rfl (Nat.zero_le _) (Nat.zero_le _) hW (ref_post (by simp only [lineC, c_9, eq_self, Nat.add_zero, decide_false, decide_true, Bool.not_true, Bool.not_false, Bool.and_true, Bool.true_and, Bool.and_false, Bool.false_and, Bool.or_true, Bool.true_or, Bool.or_false, Bool.false_or, ↓reduceIte, cond_true, cond_false, bI, and_true, true_and, and_false, false_and, or_true, true_or, or_false, false_or, not_true_eq_false, not_false_eq_true, if_true, if_false, Bool.false_eq_true, reduceCtorEq, ite_true, ite_false]) ⟨_, rfl⟩)
abbrev r_X5_price (mc ms : Nat) : Room := { frames := 6, cells := mc, slots := ms, locals := 145 }
theorem v_X5_price : yX5_price.cls ≠ "java/lang/invoke/MethodHandle" ∧ yX5_price.cls ≠ "java/lang/invoke/VarHandle" ∧ (parseMethodDescriptor yX5_price.desc).map (fun d => d.parameters.length) = some 2 := by decide +kernel
set_option maxRecDepth 100000 in
set_option maxHeartbeats 4000000 in
theorem c_X5_price {l : Launch} {D : va_G} {cI cZ cF : ClassId} {q : Nat → Nat} {qf : Nat → Nat} {g : Gr} {C R : Nat → Int32} {rw len : Nat} {F : Nat → Int32} {sz : Nat} {X : Nat → Int32} {mk : Int32} {x v : Int32} {mcv msv : Nat} (G : Gok g) (h16 : 0 ≤ len) (hlm : len ≤ 401) (hrl : rw ≤ len) (hr1 : rw ≤ 401) (hmc : priceC g x v rw = none → gC rw len ≤ mcv ∧ gS rw len ≤ msv) : cI_ l D cI cZ cF yX5_price wsX5_price (r_X5_price mcv msv) [.ref (q 0), .int x, .int v] (wC q qf cI cZ cF g C R rw len F sz X mk) (fun r u => (∀ z, priceC g x v rw = some z → r = z ∧ ∃ R', u = wC q qf cI cZ cF g C R' rw len F sz X mk) ∧ (priceC g x v rw = none → r = gP g x.toNatClampNeg ∧ actP q cI cZ cF (sP g (upd (gP g) x.toNatClampNeg v)) rw len F sz X mk u)) mcv msv := by
  refine cI_of (cc := cX5_price) (maxL := 4) (rt := .int) (plainFor_of_name (by decide +kernel)) rfl (Nat.le_of_ble_eq_true rfl) ?_
  intro p e s m args below meth c A Q ls S hk hW hl hR
  have hl : lv_has ls 4 [(0, .ref (q 0)), (1, .int x), (2, .int v)] := hl
  have hwsX50 : ∀ x ∈ wsX50, x ∈ wsX5_price := fun x h => List.mem_cons_of_mem _ (List.mem_append_left _ (List.mem_append_left _ (List.mem_append_left _ (List.mem_append_left _ (List.mem_append_right _ h)))))
  have hwsX20 : ∀ x ∈ wsX20, x ∈ wsX5_price := fun x h => List.mem_cons_of_mem _ (List.mem_append_left _ (List.mem_append_left _ (List.mem_append_left _ (List.mem_append_right _ h))))
  have hwsX40 : ∀ x ∈ wsX40, x ∈ wsX5_price := fun x h => List.mem_cons_of_mem _ (List.mem_append_left _ (List.mem_append_left _ (List.mem_append_right _ h)))
  have hwsX30 : ∀ x ∈ wsX30, x ∈ wsX5_price := fun x h => List.mem_cons_of_mem _ (List.mem_append_left _ (List.mem_append_right _ h))
  have hwsX00 : ∀ x ∈ wsX00, x ∈ wsX5_price := fun x h => List.mem_cons_of_mem _ (List.mem_append_right _ h)
  have hN := Gok_N G; have hN2 := Gok_N2 G; have hKK := Gok_K G
  refine lv_aload_n S.1 S.2.1 dX5_price_0 rfl (lv_at hl 0 rfl) ?_
  refine gf S hk hW 0 rfl rfl hwsX50 0 (by decide) 1 rfl rfl dX5_price_1 ?_
  refine lv_iload_n S.1 S.2.1 dX5_price_4 rfl (lv_at hl 1 rfl) ?_
  refine kVi S (c_X2_hasLine (l := l) (D := D) (cI := cI) (cZ := cZ) (cF := cF)) (cwV 1 S.2.2.2.2 gX5_price_X2_hasLine rfl rfl rfl ⟨rfl, v_X2_hasLine⟩ ⟨(Nat.le_of_ble_eq_true rfl), (Nat.le_of_ble_eq_true rfl)⟩) hk hW 1 rfl rfl rfl rfl hl rfl (Nat.le_of_ble_eq_true rfl) dX5_price_5 ⟨Nat.zero_le _, Nat.zero_le _⟩ (fun r u H locs hp hW => ?_)
  obtain ⟨rfl, rfl⟩ := hp
  refine ifne_b (tgt := 15) S dX5_price_8 (by decide) (fun c_8 => ?_) (fun c_8 => ?_)
  · skip
    obtain ⟨j, hj, rfl⟩ := inb_nat c_8 (by omega)
    have hcj : (nI j).toNatClampNeg = j := nI_clamp (by omega)
    refine lv_iload_n S.1 S.2.1 dX5_price_15 rfl (lv_at hl 2 rfl) ?_
    refine lv_aload_n S.1 S.2.1 dX5_price_16 rfl (lv_at hl 0 rfl) ?_
    refine gf S hk hW 0 rfl rfl hwsX50 0 (by decide) 1 rfl rfl dX5_price_17 ?_
    refine gfN (host := RX5) S hk hW 1 rfl rfl hwsX20 3 (by decide) 2 rfl rfl dX5_price_20 ?_
    refine lv_iload_n S.1 S.2.1 dX5_price_23 rfl (lv_at hl 1 rfl) ?_
    refine zld S hk hW 8 rfl j rfl (by omega) (by omega) dX5_price_24 ?_
    refine top_eq (Gok_W G (j := j) (by omega)) ?_
    refine kSi S (c_X5_mayCost (l := l) (D := D) (cI := cI) (cZ := cZ) (cF := cF)) (va_cwS 2 S.2.2.2.2 gX5_price_X5_mayCost rfl rfl rfl v_X5_mayCost ⟨(Nat.le_of_ble_eq_true rfl), (Nat.le_of_ble_eq_true rfl)⟩) hk hW rfl hl rfl (Nat.le_of_ble_eq_true rfl) dX5_price_25 ⟨Nat.zero_le _, Nat.zero_le _⟩ (fun r u H locs hp hW => ?_)
    obtain ⟨rfl, rfl⟩ := hp
    refine ifne_b (tgt := 35) S dX5_price_28 (by decide) (fun c_28 => ?_) (fun c_28 => ?_)
    · skip
      refine lv_aload_n S.1 S.2.1 dX5_price_35 rfl (lv_at hl 0 rfl) ?_
      refine gf S hk hW 0 rfl rfl hwsX50 0 (by decide) 1 rfl rfl dX5_price_36 ?_
      refine gfN (host := RX5) S hk hW 1 rfl rfl hwsX20 2 (by decide) 3 rfl rfl dX5_price_39 ?_
      refine lv_iload_n S.1 S.2.1 dX5_price_42 rfl (lv_at hl 1 rfl) ?_
      refine ild S hk hW 7 rfl j rfl (by omega) (by omega) dX5_price_43 ?_
      refine lv_istore_n (lv' := [(3, .int (gP g j)), (0, .ref (q 0)), (1, .int (nI j)), (2, .int v)]) S.1 S.2.1 dX5_price_44 rfl hl (by decide) rfl (fun ls hl => ?_)
      refine lv_iload_n S.1 S.2.1 dX5_price_45 rfl (lv_at hl 3 rfl) ?_
      refine lv_iload_n S.1 S.2.1 dX5_price_46 rfl (lv_at hl 0 rfl) ?_
      refine lv_icmp_ne (tgt := 52) S.1 S.2.1 dX5_price_47 (by decide) (fun c_47 => ?_) (fun c_47 => ?_)
      · skip
        refine lv_aload_n S.1 S.2.1 dX5_price_52 rfl (lv_at hl 1 rfl) ?_
        refine gf S hk hW 0 rfl rfl hwsX50 0 (by decide) 1 rfl rfl dX5_price_53 ?_
        refine gfN (host := RX5) S hk hW 1 rfl rfl hwsX20 4 (by decide) 4 rfl rfl dX5_price_56 ?_
        refine lv_iload_n S.1 S.2.1 dX5_price_59 rfl (lv_at hl 2 rfl) ?_
        refine zld S hk hW 9 rfl j rfl (by omega) (by omega) dX5_price_60 ?_
        refine top_eq (Gok_T G (j := j) (by omega)) ?_
        refine ifeq_b (tgt := 77) S dX5_price_61 (by decide) (fun c_61 => ?_) (fun c_61 => ?_)
        · skip
          refine lv_aload_n S.1 S.2.1 dX5_price_77 rfl (lv_at hl 1 rfl) ?_
          refine gf S hk hW 0 rfl rfl hwsX50 2 (by decide) 2 rfl rfl dX5_price_78 ?_
          refine kVi S (c_X3_isFull (l := l) (D := D) (cI := cI) (cZ := cZ) (cF := cF) (by first | assumption | omega)) (cwV 0 S.2.2.2.2 gX5_price_X3_isFull rfl rfl rfl ⟨rfl, v_X3_isFull⟩ ⟨(Nat.le_of_ble_eq_true rfl), (Nat.le_of_ble_eq_true rfl)⟩) hk hW 3 rfl rfl rfl rfl hl rfl (Nat.le_of_ble_eq_true rfl) dX5_price_81 ⟨Nat.zero_le _, Nat.zero_le _⟩ (fun r u H locs hp hW => ?_)
          obtain ⟨rfl, rfl⟩ := hp
          refine ifeq_b (tgt := 91) S dX5_price_84 (by decide) (fun c_84 => ?_) (fun c_84 => ?_)
          · skip
            refine lv_aload_n S.1 S.2.1 dX5_price_91 rfl (lv_at hl 1 rfl) ?_
            refine gf S hk hW 0 rfl rfl hwsX50 0 (by decide) 1 rfl rfl dX5_price_92 ?_
            refine gfN (host := RX5) S hk hW 1 rfl rfl hwsX20 2 (by decide) 3 rfl rfl dX5_price_95 ?_
            refine lv_iload_n S.1 S.2.1 dX5_price_98 rfl (lv_at hl 2 rfl) ?_
            refine lv_iload_n S.1 S.2.1 dX5_price_99 rfl (lv_at hl 3 rfl) ?_
            refine ist (w' := wC q qf cI cZ cF (sP g (upd (gP g) j v)) C R rw len F sz X mk) S hk hW 7 rfl j rfl (by omega) (by omega) dX5_price_100 rfl (fun H locs hW => ?_)
            refine lv_aload_n S.1 S.2.1 dX5_price_101 rfl (lv_at hl 1 rfl) ?_
            have hno : priceC g (nI j) v rw = none := by simp only [priceC, hcj, fullO, c_8, c_28, eq_false c_47, c_61, c_84, eq_self, Nat.add_zero, decide_false, decide_true, Bool.not_true, Bool.not_false, Bool.and_true, Bool.true_and, Bool.and_false, Bool.false_and, Bool.or_true, Bool.true_or, Bool.or_false, Bool.false_or, ↓reduceIte, cond_true, cond_false, bI, and_true, true_and, and_false, false_and, or_true, true_or, or_false, false_or, not_true_eq_false, not_false_eq_true, if_true, if_false, Bool.false_eq_true, reduceCtorEq, ite_true, ite_false]
            obtain ⟨hm1, hm2⟩ := hmc hno
            refine kVv S (c_X5_keepAct (l := l) (D := D) (cI := cI) (cZ := cZ) (cF := cF) (Gok_price G hj c_28) (by simp only [Bool.not_eq_false', decide_eq_true_eq] at c_84; omega) hrl h16 hlm) (cwV 0 S.2.2.2.2 gX5_price_X5_keepAct rfl rfl rfl ⟨rfl, v_X5_keepAct⟩ ⟨(Nat.le_of_ble_eq_true rfl), (Nat.le_of_ble_eq_true rfl)⟩) hk hW 0 rfl rfl rfl rfl hl rfl (Nat.le_of_ble_eq_true rfl) dX5_price_102 ⟨by show 0 + gC rw len ≤ mcv; omega, by show 0 + gS rw len ≤ msv; omega⟩ (fun u H locs hp hW => ?_)
            obtain ⟨qf'_1, C'_2, R'_3, F'_4, hCa, hFo, hFn, rfl⟩ := hp
            refine lv_iload_n S.1 S.2.1 dX5_price_105 rfl (lv_at hl 0 rfl) ?_
            exact hR _ _ _ _ _ _ _ _ dX5_price_106 rfl (by omega) (by omega) hW (act_post (by simp only [priceC, hcj, fullO, c_8, c_28, eq_false c_47, c_61, c_84, eq_self, Nat.add_zero, decide_false, decide_true, Bool.not_true, Bool.not_false, Bool.and_true, Bool.true_and, Bool.and_false, Bool.false_and, Bool.or_true, Bool.true_or, Bool.or_false, Bool.false_or, ↓reduceIte, cond_true, cond_false, bI, and_true, true_and, and_false, false_and, or_true, true_or, or_false, false_or, not_true_eq_false, not_false_eq_true, if_true, if_false, Bool.false_eq_true, reduceCtorEq, ite_true, ite_false]) ⟨by rw [hcj], _, _, _, _, by rw [hcj]; exact hCa, hFo, hFn, by rw [hcj]⟩)
          · skip
            refine lv_sipush (v := (-1004)) S.1 S.2.1 dX5_price_87 (by decide) ?_
            exact hR _ _ _ _ _ _ _ _ dX5_price_90 rfl (Nat.zero_le _) (Nat.zero_le _) hW (ref_post (by simp only [priceC, hcj, fullO, c_8, c_28, eq_false c_47, c_61, c_84, eq_self, Nat.add_zero, decide_false, decide_true, Bool.not_true, Bool.not_false, Bool.and_true, Bool.true_and, Bool.and_false, Bool.false_and, Bool.or_true, Bool.true_or, Bool.or_false, Bool.false_or, ↓reduceIte, cond_true, cond_false, bI, and_true, true_and, and_false, false_and, or_true, true_or, or_false, false_or, not_true_eq_false, not_false_eq_true, if_true, if_false, Bool.false_eq_true, reduceCtorEq, ite_true, ite_false]) ⟨_, rfl⟩)
        · skip
          refine lv_aload_n S.1 S.2.1 dX5_price_64 rfl (lv_at hl 1 rfl) ?_
          refine lv_iload_n S.1 S.2.1 dX5_price_65 rfl (lv_at hl 2 rfl) ?_
          refine lv_iload_n S.1 S.2.1 dX5_price_66 rfl (lv_at hl 3 rfl) ?_
          refine kVi S (c_X5_wouldSinkAt (l := l) (D := D) (cI := cI) (cZ := cZ) (cF := cF) G (by first | assumption | omega)) (cwV 2 S.2.2.2.2 gX5_price_X5_wouldSinkAt rfl rfl rfl ⟨rfl, v_X5_wouldSinkAt⟩ ⟨(Nat.le_of_ble_eq_true rfl), (Nat.le_of_ble_eq_true rfl)⟩) hk hW 0 rfl rfl rfl rfl hl rfl (Nat.le_of_ble_eq_true rfl) dX5_price_67 ⟨Nat.zero_le _, Nat.zero_le _⟩ (fun r u H locs hp hW => ?_)
          obtain ⟨rfl, R'_5, rfl⟩ := hp
          refine ifeq_b (tgt := 77) S dX5_price_70 (by decide) (fun c_70 => ?_) (fun c_70 => ?_)
          · skip
            refine lv_aload_n S.1 S.2.1 dX5_price_77 rfl (lv_at hl 1 rfl) ?_
            refine gf S hk hW 0 rfl rfl hwsX50 2 (by decide) 2 rfl rfl dX5_price_78 ?_
            refine kVi S (c_X3_isFull (l := l) (D := D) (cI := cI) (cZ := cZ) (cF := cF) (by first | assumption | omega)) (cwV 0 S.2.2.2.2 gX5_price_X3_isFull rfl rfl rfl ⟨rfl, v_X3_isFull⟩ ⟨(Nat.le_of_ble_eq_true rfl), (Nat.le_of_ble_eq_true rfl)⟩) hk hW 3 rfl rfl rfl rfl hl rfl (Nat.le_of_ble_eq_true rfl) dX5_price_81 ⟨Nat.zero_le _, Nat.zero_le _⟩ (fun r u H locs hp hW => ?_)
            obtain ⟨rfl, rfl⟩ := hp
            refine ifeq_b (tgt := 91) S dX5_price_84 (by decide) (fun c_84 => ?_) (fun c_84 => ?_)
            · skip
              refine lv_aload_n S.1 S.2.1 dX5_price_91 rfl (lv_at hl 1 rfl) ?_
              refine gf S hk hW 0 rfl rfl hwsX50 0 (by decide) 1 rfl rfl dX5_price_92 ?_
              refine gfN (host := RX5) S hk hW 1 rfl rfl hwsX20 2 (by decide) 3 rfl rfl dX5_price_95 ?_
              refine lv_iload_n S.1 S.2.1 dX5_price_98 rfl (lv_at hl 2 rfl) ?_
              refine lv_iload_n S.1 S.2.1 dX5_price_99 rfl (lv_at hl 3 rfl) ?_
              refine ist (w' := wC q qf cI cZ cF (sP g (upd (gP g) j v)) C R'_5 rw len F sz X mk) S hk hW 7 rfl j rfl (by omega) (by omega) dX5_price_100 rfl (fun H locs hW => ?_)
              refine lv_aload_n S.1 S.2.1 dX5_price_101 rfl (lv_at hl 1 rfl) ?_
              have hno : priceC g (nI j) v rw = none := by simp only [priceC, hcj, fullO, c_8, c_28, eq_false c_47, c_61, c_70, c_84, eq_self, Nat.add_zero, decide_false, decide_true, Bool.not_true, Bool.not_false, Bool.and_true, Bool.true_and, Bool.and_false, Bool.false_and, Bool.or_true, Bool.true_or, Bool.or_false, Bool.false_or, ↓reduceIte, cond_true, cond_false, bI, and_true, true_and, and_false, false_and, or_true, true_or, or_false, false_or, not_true_eq_false, not_false_eq_true, if_true, if_false, Bool.false_eq_true, reduceCtorEq, ite_true, ite_false]
              obtain ⟨hm1, hm2⟩ := hmc hno
              refine kVv S (c_X5_keepAct (l := l) (D := D) (cI := cI) (cZ := cZ) (cF := cF) (Gok_price G hj c_28) (by simp only [Bool.not_eq_false', decide_eq_true_eq] at c_84; omega) hrl h16 hlm) (cwV 0 S.2.2.2.2 gX5_price_X5_keepAct rfl rfl rfl ⟨rfl, v_X5_keepAct⟩ ⟨(Nat.le_of_ble_eq_true rfl), (Nat.le_of_ble_eq_true rfl)⟩) hk hW 0 rfl rfl rfl rfl hl rfl (Nat.le_of_ble_eq_true rfl) dX5_price_102 ⟨by show 0 + gC rw len ≤ mcv; omega, by show 0 + gS rw len ≤ msv; omega⟩ (fun u H locs hp hW => ?_)
              obtain ⟨qf'_6, C'_7, R'_8, F'_9, hCa, hFo, hFn, rfl⟩ := hp
              refine lv_iload_n S.1 S.2.1 dX5_price_105 rfl (lv_at hl 0 rfl) ?_
              exact hR _ _ _ _ _ _ _ _ dX5_price_106 rfl (by omega) (by omega) hW (act_post (by simp only [priceC, hcj, fullO, c_8, c_28, eq_false c_47, c_61, c_70, c_84, eq_self, Nat.add_zero, decide_false, decide_true, Bool.not_true, Bool.not_false, Bool.and_true, Bool.true_and, Bool.and_false, Bool.false_and, Bool.or_true, Bool.true_or, Bool.or_false, Bool.false_or, ↓reduceIte, cond_true, cond_false, bI, and_true, true_and, and_false, false_and, or_true, true_or, or_false, false_or, not_true_eq_false, not_false_eq_true, if_true, if_false, Bool.false_eq_true, reduceCtorEq, ite_true, ite_false]) ⟨by rw [hcj], _, _, _, _, by rw [hcj]; exact hCa, hFo, hFn, by rw [hcj]⟩)
            · skip
              refine lv_sipush (v := (-1004)) S.1 S.2.1 dX5_price_87 (by decide) ?_
              exact hR _ _ _ _ _ _ _ _ dX5_price_90 rfl (Nat.zero_le _) (Nat.zero_le _) hW (ref_post (by simp only [priceC, hcj, fullO, c_8, c_28, eq_false c_47, c_61, c_70, c_84, eq_self, Nat.add_zero, decide_false, decide_true, Bool.not_true, Bool.not_false, Bool.and_true, Bool.true_and, Bool.and_false, Bool.false_and, Bool.or_true, Bool.true_or, Bool.or_false, Bool.false_or, ↓reduceIte, cond_true, cond_false, bI, and_true, true_and, and_false, false_and, or_true, true_or, or_false, false_or, not_true_eq_false, not_false_eq_true, if_true, if_false, Bool.false_eq_true, reduceCtorEq, ite_true, ite_false]) ⟨_, rfl⟩)
          · skip
            refine lv_sipush (v := (-1003)) S.1 S.2.1 dX5_price_73 (by decide) ?_
            exact hR _ _ _ _ _ _ _ _ dX5_price_76 rfl (Nat.zero_le _) (Nat.zero_le _) hW (ref_post (by simp only [priceC, hcj, c_8, c_28, eq_false c_47, c_61, c_70, eq_self, Nat.add_zero, decide_false, decide_true, Bool.not_true, Bool.not_false, Bool.and_true, Bool.true_and, Bool.and_false, Bool.false_and, Bool.or_true, Bool.true_or, Bool.or_false, Bool.false_or, ↓reduceIte, cond_true, cond_false, bI, and_true, true_and, and_false, false_and, or_true, true_or, or_false, false_or, not_true_eq_false, not_false_eq_true, if_true, if_false, Bool.false_eq_true, reduceCtorEq, ite_true, ite_false]) ⟨_, rfl⟩)
      · skip
        refine lv_iload_n S.1 S.2.1 dX5_price_50 rfl (lv_at hl 0 rfl) ?_
        exact hR _ _ _ _ _ _ _ _ dX5_price_51 rfl (Nat.zero_le _) (Nat.zero_le _) hW (ref_post (by simp only [priceC, hcj, c_8, c_28, eq_true c_47, eq_self, Nat.add_zero, decide_false, decide_true, Bool.not_true, Bool.not_false, Bool.and_true, Bool.true_and, Bool.and_false, Bool.false_and, Bool.or_true, Bool.true_or, Bool.or_false, Bool.false_or, ↓reduceIte, cond_true, cond_false, bI, and_true, true_and, and_false, false_and, or_true, true_or, or_false, false_or, not_true_eq_false, not_false_eq_true, if_true, if_false, Bool.false_eq_true, reduceCtorEq, ite_true, ite_false]) ⟨_, rfl⟩)
    · skip
      refine lv_sipush (v := (-1002)) S.1 S.2.1 dX5_price_31 (by decide) ?_
      exact hR _ _ _ _ _ _ _ _ dX5_price_34 rfl (Nat.zero_le _) (Nat.zero_le _) hW (ref_post (by simp only [priceC, hcj, c_8, c_28, eq_self, Nat.add_zero, decide_false, decide_true, Bool.not_true, Bool.not_false, Bool.and_true, Bool.true_and, Bool.and_false, Bool.false_and, Bool.or_true, Bool.true_or, Bool.or_false, Bool.false_or, ↓reduceIte, cond_true, cond_false, bI, and_true, true_and, and_false, false_and, or_true, true_or, or_false, false_or, not_true_eq_false, not_false_eq_true, if_true, if_false, Bool.false_eq_true, reduceCtorEq, ite_true, ite_false]) ⟨_, rfl⟩)
  · skip
    refine lv_sipush (v := (-1001)) S.1 S.2.1 dX5_price_11 (by decide) ?_
    exact hR _ _ _ _ _ _ _ _ dX5_price_14 rfl (Nat.zero_le _) (Nat.zero_le _) hW (ref_post (by simp only [priceC, c_8, eq_self, Nat.add_zero, decide_false, decide_true, Bool.not_true, Bool.not_false, Bool.and_true, Bool.true_and, Bool.and_false, Bool.false_and, Bool.or_true, Bool.true_or, Bool.or_false, Bool.false_or, ↓reduceIte, cond_true, cond_false, bI, and_true, true_and, and_false, false_and, or_true, true_or, or_false, false_or, not_true_eq_false, not_false_eq_true, if_true, if_false, Bool.false_eq_true, reduceCtorEq, ite_true, ite_false]) ⟨_, rfl⟩)
abbrev r_X5_cut (mc ms : Nat) : Room := { frames := 6, cells := mc, slots := ms, locals := 128 }
theorem v_X5_cut : yX5_cut.cls ≠ "java/lang/invoke/MethodHandle" ∧ yX5_cut.cls ≠ "java/lang/invoke/VarHandle" ∧ (parseMethodDescriptor yX5_cut.desc).map (fun d => d.parameters.length) = some 1 := by decide +kernel
set_option maxRecDepth 100000 in
set_option maxHeartbeats 4000000 in
theorem c_X5_cut {l : Launch} {D : va_G} {cI cZ cF : ClassId} {q : Nat → Nat} {qf : Nat → Nat} {g : Gr} {C R : Nat → Int32} {rw len : Nat} {F : Nat → Int32} {sz : Nat} {X : Nat → Int32} {mk : Int32} {x : Int32} {mcv msv : Nat} (G : Gok g) (h16 : 0 ≤ len) (hlm : len ≤ 401) (hrl : rw ≤ len) (hr1 : rw ≤ 401) (hmc : cutC g x rw = none → gC rw len ≤ mcv ∧ gS rw len ≤ msv) : cI_ l D cI cZ cF yX5_cut wsX5_cut (r_X5_cut mcv msv) [.ref (q 0), .int x] (wC q qf cI cZ cF g C R rw len F sz X mk) (fun r u => (∀ z, cutC g x rw = some z → r = z ∧ ∃ R', u = wC q qf cI cZ cF g C R' rw len F sz X mk) ∧ (cutC g x rw = none → r = nI (cntT (sT g (upd (gT g) x.toNatClampNeg (nI 0))) (gK g)) ∧ actP q cI cZ cF (sT g (upd (gT g) x.toNatClampNeg (nI 0))) rw len F sz X mk u)) mcv msv := by
  refine cI_of (cc := cX5_cut) (maxL := 2) (rt := .int) (plainFor_of_name (by decide +kernel)) rfl (Nat.le_of_ble_eq_true rfl) ?_
  intro p e s m args below meth c A Q ls S hk hW hl hR
  have hl : lv_has ls 2 [(0, .ref (q 0)), (1, .int x)] := hl
  have hwsX50 : ∀ x ∈ wsX50, x ∈ wsX5_cut := fun x h => List.mem_cons_of_mem _ (List.mem_append_left _ (List.mem_append_left _ (List.mem_append_left _ (List.mem_append_left _ (List.mem_append_right _ h)))))
  have hwsX20 : ∀ x ∈ wsX20, x ∈ wsX5_cut := fun x h => List.mem_cons_of_mem _ (List.mem_append_left _ (List.mem_append_left _ (List.mem_append_left _ (List.mem_append_right _ h))))
  have hwsX30 : ∀ x ∈ wsX30, x ∈ wsX5_cut := fun x h => List.mem_cons_of_mem _ (List.mem_append_left _ (List.mem_append_left _ (List.mem_append_right _ h)))
  have hwsX40 : ∀ x ∈ wsX40, x ∈ wsX5_cut := fun x h => List.mem_cons_of_mem _ (List.mem_append_left _ (List.mem_append_right _ h))
  have hwsX00 : ∀ x ∈ wsX00, x ∈ wsX5_cut := fun x h => List.mem_cons_of_mem _ (List.mem_append_right _ h)
  have hN := Gok_N G; have hN2 := Gok_N2 G; have hKK := Gok_K G
  refine lv_aload_n S.1 S.2.1 dX5_cut_0 rfl (lv_at hl 0 rfl) ?_
  refine gf S hk hW 0 rfl rfl hwsX50 0 (by decide) 1 rfl rfl dX5_cut_1 ?_
  refine lv_iload_n S.1 S.2.1 dX5_cut_4 rfl (lv_at hl 1 rfl) ?_
  refine kVi S (c_X2_hasLine (l := l) (D := D) (cI := cI) (cZ := cZ) (cF := cF)) (cwV 1 S.2.2.2.2 gX5_cut_X2_hasLine rfl rfl rfl ⟨rfl, v_X2_hasLine⟩ ⟨(Nat.le_of_ble_eq_true rfl), (Nat.le_of_ble_eq_true rfl)⟩) hk hW 1 rfl rfl rfl rfl hl rfl (Nat.le_of_ble_eq_true rfl) dX5_cut_5 ⟨Nat.zero_le _, Nat.zero_le _⟩ (fun r u H locs hp hW => ?_)
  obtain ⟨rfl, rfl⟩ := hp
  refine ifne_b (tgt := 15) S dX5_cut_8 (by decide) (fun c_8 => ?_) (fun c_8 => ?_)
  · skip
    obtain ⟨j, hj, rfl⟩ := inb_nat c_8 (by omega)
    have hcj : (nI j).toNatClampNeg = j := nI_clamp (by omega)
    refine lv_aload_n S.1 S.2.1 dX5_cut_15 rfl (lv_at hl 0 rfl) ?_
    refine gf S hk hW 0 rfl rfl hwsX50 0 (by decide) 1 rfl rfl dX5_cut_16 ?_
    refine gfN (host := RX5) S hk hW 1 rfl rfl hwsX20 4 (by decide) 4 rfl rfl dX5_cut_19 ?_
    refine lv_iload_n S.1 S.2.1 dX5_cut_22 rfl (lv_at hl 1 rfl) ?_
    refine zld S hk hW 9 rfl j rfl (by omega) (by omega) dX5_cut_23 ?_
    refine top_eq (Gok_T G (j := j) (by omega)) ?_
    refine ifne_b (tgt := 31) S dX5_cut_24 (by decide) (fun c_24 => ?_) (fun c_24 => ?_)
    · skip
      refine lv_aload_n S.1 S.2.1 dX5_cut_31 rfl (lv_at hl 0 rfl) ?_
      refine gf S hk hW 0 rfl rfl hwsX50 2 (by decide) 2 rfl rfl dX5_cut_32 ?_
      refine kVi S (c_X3_isFull (l := l) (D := D) (cI := cI) (cZ := cZ) (cF := cF) (by first | assumption | omega)) (cwV 0 S.2.2.2.2 gX5_cut_X3_isFull rfl rfl rfl ⟨rfl, v_X3_isFull⟩ ⟨(Nat.le_of_ble_eq_true rfl), (Nat.le_of_ble_eq_true rfl)⟩) hk hW 3 rfl rfl rfl rfl hl rfl (Nat.le_of_ble_eq_true rfl) dX5_cut_35 ⟨Nat.zero_le _, Nat.zero_le _⟩ (fun r u H locs hp hW => ?_)
      obtain ⟨rfl, rfl⟩ := hp
      refine ifeq_b (tgt := 45) S dX5_cut_38 (by decide) (fun c_38 => ?_) (fun c_38 => ?_)
      · skip
        refine lv_aload_n S.1 S.2.1 dX5_cut_45 rfl (lv_at hl 0 rfl) ?_
        refine gf S hk hW 0 rfl rfl hwsX50 0 (by decide) 1 rfl rfl dX5_cut_46 ?_
        refine gfN (host := RX5) S hk hW 1 rfl rfl hwsX20 4 (by decide) 4 rfl rfl dX5_cut_49 ?_
        refine lv_iload_n S.1 S.2.1 dX5_cut_52 rfl (lv_at hl 1 rfl) ?_
        refine lv_iconst (v := nI 0) S.1 S.2.1 dX5_cut_53 (by decide) ?_
        refine zst (w' := wC q qf cI cZ cF (sT g (upd (gT g) j (nI 0))) C R rw len F sz X mk) S hk hW 9 rfl j rfl (by omega) (by omega) (Or.inl rfl) dX5_cut_54 rfl (fun H locs hW => ?_)
        refine lv_aload_n S.1 S.2.1 dX5_cut_55 rfl (lv_at hl 0 rfl) ?_
        have hno : cutC g (nI j) rw = none := by simp only [cutC, hcj, fullO, c_8, c_24, c_38, eq_self, Nat.add_zero, decide_false, decide_true, Bool.not_true, Bool.not_false, Bool.and_true, Bool.true_and, Bool.and_false, Bool.false_and, Bool.or_true, Bool.true_or, Bool.or_false, Bool.false_or, ↓reduceIte, cond_true, cond_false, bI, and_true, true_and, and_false, false_and, or_true, true_or, or_false, false_or, not_true_eq_false, not_false_eq_true, if_true, if_false, Bool.false_eq_true, reduceCtorEq, ite_true, ite_false]
        obtain ⟨hm1, hm2⟩ := hmc hno
        refine kVv S (c_X5_keepAct (l := l) (D := D) (cI := cI) (cZ := cZ) (cF := cF) (Gok_T' G (Or.inl rfl)) (by simp only [Bool.not_eq_false', decide_eq_true_eq] at c_38; omega) hrl h16 hlm) (cwV 0 S.2.2.2.2 gX5_cut_X5_keepAct rfl rfl rfl ⟨rfl, v_X5_keepAct⟩ ⟨(Nat.le_of_ble_eq_true rfl), (Nat.le_of_ble_eq_true rfl)⟩) hk hW 0 rfl rfl rfl rfl hl rfl (Nat.le_of_ble_eq_true rfl) dX5_cut_56 ⟨by show 0 + gC rw len ≤ mcv; omega, by show 0 + gS rw len ≤ msv; omega⟩ (fun u H locs hp hW => ?_)
        obtain ⟨qf'_1, C'_2, R'_3, F'_4, hCa, hFo, hFn, rfl⟩ := hp
        refine lv_aload_n S.1 S.2.1 dX5_cut_59 rfl (lv_at hl 0 rfl) ?_
        refine gf S hk hW 0 rfl rfl hwsX50 0 (by decide) 1 rfl rfl dX5_cut_60 ?_
        refine kVi S (c_X2_countThere (l := l) (D := D) (cI := cI) (cZ := cZ) (cF := cF) (Gok_T' G (Or.inl rfl))) (cwV 0 S.2.2.2.2 gX5_cut_X2_countThere rfl rfl rfl ⟨rfl, v_X2_countThere⟩ ⟨(Nat.le_of_ble_eq_true rfl), (Nat.le_of_ble_eq_true rfl)⟩) hk hW 1 rfl rfl rfl rfl hl rfl (Nat.le_of_ble_eq_true rfl) dX5_cut_63 ⟨by show 0 + (gC rw len) + 0 ≤ mcv; omega, by show 0 + (gS rw len) + 0 ≤ msv; omega⟩ (fun r u H locs hp hW => ?_)
        obtain ⟨rfl, rfl⟩ := hp
        exact hR _ _ _ _ _ _ _ _ dX5_cut_66 rfl (by omega) (by omega) hW (act_post (by simp only [cutC, hcj, fullO, c_8, c_24, c_38, eq_self, Nat.add_zero, decide_false, decide_true, Bool.not_true, Bool.not_false, Bool.and_true, Bool.true_and, Bool.and_false, Bool.false_and, Bool.or_true, Bool.true_or, Bool.or_false, Bool.false_or, ↓reduceIte, cond_true, cond_false, bI, and_true, true_and, and_false, false_and, or_true, true_or, or_false, false_or, not_true_eq_false, not_false_eq_true, if_true, if_false, Bool.false_eq_true, reduceCtorEq, ite_true, ite_false]) ⟨by rw [hcj]; rfl, _, _, _, _, by rw [hcj]; exact hCa, hFo, hFn, by rw [hcj]⟩)
      · skip
        refine lv_sipush (v := (-1004)) S.1 S.2.1 dX5_cut_41 (by decide) ?_
        exact hR _ _ _ _ _ _ _ _ dX5_cut_44 rfl (Nat.zero_le _) (Nat.zero_le _) hW (ref_post (by simp only [cutC, hcj, fullO, c_8, c_24, c_38, eq_self, Nat.add_zero, decide_false, decide_true, Bool.not_true, Bool.not_false, Bool.and_true, Bool.true_and, Bool.and_false, Bool.false_and, Bool.or_true, Bool.true_or, Bool.or_false, Bool.false_or, ↓reduceIte, cond_true, cond_false, bI, and_true, true_and, and_false, false_and, or_true, true_or, or_false, false_or, not_true_eq_false, not_false_eq_true, if_true, if_false, Bool.false_eq_true, reduceCtorEq, ite_true, ite_false]) ⟨_, rfl⟩)
    · skip
      refine lv_sipush (v := (-1003)) S.1 S.2.1 dX5_cut_27 (by decide) ?_
      exact hR _ _ _ _ _ _ _ _ dX5_cut_30 rfl (Nat.zero_le _) (Nat.zero_le _) hW (ref_post (by simp only [cutC, hcj, c_8, c_24, eq_self, Nat.add_zero, decide_false, decide_true, Bool.not_true, Bool.not_false, Bool.and_true, Bool.true_and, Bool.and_false, Bool.false_and, Bool.or_true, Bool.true_or, Bool.or_false, Bool.false_or, ↓reduceIte, cond_true, cond_false, bI, and_true, true_and, and_false, false_and, or_true, true_or, or_false, false_or, not_true_eq_false, not_false_eq_true, if_true, if_false, Bool.false_eq_true, reduceCtorEq, ite_true, ite_false]) ⟨_, rfl⟩)
  · skip
    refine lv_sipush (v := (-1001)) S.1 S.2.1 dX5_cut_11 (by decide) ?_
    exact hR _ _ _ _ _ _ _ _ dX5_cut_14 rfl (Nat.zero_le _) (Nat.zero_le _) hW (ref_post (by simp only [cutC, c_8, eq_self, Nat.add_zero, decide_false, decide_true, Bool.not_true, Bool.not_false, Bool.and_true, Bool.true_and, Bool.and_false, Bool.false_and, Bool.or_true, Bool.true_or, Bool.or_false, Bool.false_or, ↓reduceIte, cond_true, cond_false, bI, and_true, true_and, and_false, false_and, or_true, true_or, or_false, false_or, not_true_eq_false, not_false_eq_true, if_true, if_false, Bool.false_eq_true, reduceCtorEq, ite_true, ite_false]) ⟨_, rfl⟩)
abbrev r_X5_back (mc ms : Nat) : Room := { frames := 6, cells := mc, slots := ms, locals := 145 }
theorem v_X5_back : yX5_back.cls ≠ "java/lang/invoke/MethodHandle" ∧ yX5_back.cls ≠ "java/lang/invoke/VarHandle" ∧ (parseMethodDescriptor yX5_back.desc).map (fun d => d.parameters.length) = some 1 := by decide +kernel
set_option maxRecDepth 100000 in
set_option maxHeartbeats 4000000 in
theorem c_X5_back {l : Launch} {D : va_G} {cI cZ cF : ClassId} {q : Nat → Nat} {qf : Nat → Nat} {g : Gr} {C R : Nat → Int32} {rw len : Nat} {F : Nat → Int32} {sz : Nat} {X : Nat → Int32} {mk : Int32} {x : Int32} {mcv msv : Nat} (G : Gok g) (h16 : 0 ≤ len) (hlm : len ≤ 401) (hrl : rw ≤ len) (hr1 : rw ≤ 401) (hmc : backC g x rw = none → gC rw len ≤ mcv ∧ gS rw len ≤ msv) : cI_ l D cI cZ cF yX5_back wsX5_back (r_X5_back mcv msv) [.ref (q 0), .int x] (wC q qf cI cZ cF g C R rw len F sz X mk) (fun r u => (∀ z, backC g x rw = some z → r = z ∧ ∃ R', u = wC q qf cI cZ cF g C R' rw len F sz X mk) ∧ (backC g x rw = none → r = nI (cntT (sT g (upd (gT g) x.toNatClampNeg (nI 1))) (gK g)) ∧ actP q cI cZ cF (sT g (upd (gT g) x.toNatClampNeg (nI 1))) rw len F sz X mk u)) mcv msv := by
  refine cI_of (cc := cX5_back) (maxL := 2) (rt := .int) (plainFor_of_name (by decide +kernel)) rfl (Nat.le_of_ble_eq_true rfl) ?_
  intro p e s m args below meth c A Q ls S hk hW hl hR
  have hl : lv_has ls 2 [(0, .ref (q 0)), (1, .int x)] := hl
  have hwsX50 : ∀ x ∈ wsX50, x ∈ wsX5_back := fun x h => List.mem_cons_of_mem _ (List.mem_append_left _ (List.mem_append_left _ (List.mem_append_left _ (List.mem_append_left _ (List.mem_append_right _ h)))))
  have hwsX20 : ∀ x ∈ wsX20, x ∈ wsX5_back := fun x h => List.mem_cons_of_mem _ (List.mem_append_left _ (List.mem_append_left _ (List.mem_append_left _ (List.mem_append_right _ h))))
  have hwsX40 : ∀ x ∈ wsX40, x ∈ wsX5_back := fun x h => List.mem_cons_of_mem _ (List.mem_append_left _ (List.mem_append_left _ (List.mem_append_right _ h)))
  have hwsX30 : ∀ x ∈ wsX30, x ∈ wsX5_back := fun x h => List.mem_cons_of_mem _ (List.mem_append_left _ (List.mem_append_right _ h))
  have hwsX00 : ∀ x ∈ wsX00, x ∈ wsX5_back := fun x h => List.mem_cons_of_mem _ (List.mem_append_right _ h)
  have hN := Gok_N G; have hN2 := Gok_N2 G; have hKK := Gok_K G
  refine lv_aload_n S.1 S.2.1 dX5_back_0 rfl (lv_at hl 0 rfl) ?_
  refine gf S hk hW 0 rfl rfl hwsX50 0 (by decide) 1 rfl rfl dX5_back_1 ?_
  refine lv_iload_n S.1 S.2.1 dX5_back_4 rfl (lv_at hl 1 rfl) ?_
  refine kVi S (c_X2_hasLine (l := l) (D := D) (cI := cI) (cZ := cZ) (cF := cF)) (cwV 1 S.2.2.2.2 gX5_back_X2_hasLine rfl rfl rfl ⟨rfl, v_X2_hasLine⟩ ⟨(Nat.le_of_ble_eq_true rfl), (Nat.le_of_ble_eq_true rfl)⟩) hk hW 1 rfl rfl rfl rfl hl rfl (Nat.le_of_ble_eq_true rfl) dX5_back_5 ⟨Nat.zero_le _, Nat.zero_le _⟩ (fun r u H locs hp hW => ?_)
  obtain ⟨rfl, rfl⟩ := hp
  refine ifne_b (tgt := 15) S dX5_back_8 (by decide) (fun c_8 => ?_) (fun c_8 => ?_)
  · skip
    obtain ⟨j, hj, rfl⟩ := inb_nat c_8 (by omega)
    have hcj : (nI j).toNatClampNeg = j := nI_clamp (by omega)
    refine lv_aload_n S.1 S.2.1 dX5_back_15 rfl (lv_at hl 0 rfl) ?_
    refine gf S hk hW 0 rfl rfl hwsX50 0 (by decide) 1 rfl rfl dX5_back_16 ?_
    refine gfN (host := RX5) S hk hW 1 rfl rfl hwsX20 4 (by decide) 4 rfl rfl dX5_back_19 ?_
    refine lv_iload_n S.1 S.2.1 dX5_back_22 rfl (lv_at hl 1 rfl) ?_
    refine zld S hk hW 9 rfl j rfl (by omega) (by omega) dX5_back_23 ?_
    refine top_eq (Gok_T G (j := j) (by omega)) ?_
    refine ifne_b (tgt := 44) S dX5_back_24 (by decide) (fun c_24 => ?_) (fun c_24 => ?_)
    · skip
      refine lv_sipush (v := (-1003)) S.1 S.2.1 dX5_back_44 (by decide) ?_
      exact hR _ _ _ _ _ _ _ _ dX5_back_47 rfl (Nat.zero_le _) (Nat.zero_le _) hW (ref_post (by simp only [backC, hcj, c_8, c_24, eq_self, Nat.add_zero, decide_false, decide_true, Bool.not_true, Bool.not_false, Bool.and_true, Bool.true_and, Bool.and_false, Bool.false_and, Bool.or_true, Bool.true_or, Bool.or_false, Bool.false_or, ↓reduceIte, cond_true, cond_false, bI, and_true, true_and, and_false, false_and, or_true, true_or, or_false, false_or, not_true_eq_false, not_false_eq_true, if_true, if_false, Bool.false_eq_true, reduceCtorEq, ite_true, ite_false]) ⟨_, rfl⟩)
    · skip
      refine lv_aload_n S.1 S.2.1 dX5_back_27 rfl (lv_at hl 0 rfl) ?_
      refine lv_iload_n S.1 S.2.1 dX5_back_28 rfl (lv_at hl 1 rfl) ?_
      refine lv_aload_n S.1 S.2.1 dX5_back_29 rfl (lv_at hl 0 rfl) ?_
      refine gf S hk hW 0 rfl rfl hwsX50 0 (by decide) 1 rfl rfl dX5_back_30 ?_
      refine gfN (host := RX5) S hk hW 1 rfl rfl hwsX20 2 (by decide) 3 rfl rfl dX5_back_33 ?_
      refine lv_iload_n S.1 S.2.1 dX5_back_36 rfl (lv_at hl 1 rfl) ?_
      refine ild S hk hW 7 rfl j rfl (by omega) (by omega) dX5_back_37 ?_
      refine kVi S (c_X5_wouldSinkAt (l := l) (D := D) (cI := cI) (cZ := cZ) (cF := cF) G (by first | assumption | omega)) (cwV 2 S.2.2.2.2 gX5_back_X5_wouldSinkAt rfl rfl rfl ⟨rfl, v_X5_wouldSinkAt⟩ ⟨(Nat.le_of_ble_eq_true rfl), (Nat.le_of_ble_eq_true rfl)⟩) hk hW 0 rfl rfl rfl rfl hl rfl (Nat.le_of_ble_eq_true rfl) dX5_back_38 ⟨Nat.zero_le _, Nat.zero_le _⟩ (fun r u H locs hp hW => ?_)
      obtain ⟨rfl, R'_1, rfl⟩ := hp
      refine ifeq_b (tgt := 48) S dX5_back_41 (by decide) (fun c_41 => ?_) (fun c_41 => ?_)
      · skip
        refine lv_aload_n S.1 S.2.1 dX5_back_48 rfl (lv_at hl 0 rfl) ?_
        refine gf S hk hW 0 rfl rfl hwsX50 2 (by decide) 2 rfl rfl dX5_back_49 ?_
        refine kVi S (c_X3_isFull (l := l) (D := D) (cI := cI) (cZ := cZ) (cF := cF) (by first | assumption | omega)) (cwV 0 S.2.2.2.2 gX5_back_X3_isFull rfl rfl rfl ⟨rfl, v_X3_isFull⟩ ⟨(Nat.le_of_ble_eq_true rfl), (Nat.le_of_ble_eq_true rfl)⟩) hk hW 3 rfl rfl rfl rfl hl rfl (Nat.le_of_ble_eq_true rfl) dX5_back_52 ⟨Nat.zero_le _, Nat.zero_le _⟩ (fun r u H locs hp hW => ?_)
        obtain ⟨rfl, rfl⟩ := hp
        refine ifeq_b (tgt := 62) S dX5_back_55 (by decide) (fun c_55 => ?_) (fun c_55 => ?_)
        · skip
          refine lv_aload_n S.1 S.2.1 dX5_back_62 rfl (lv_at hl 0 rfl) ?_
          refine gf S hk hW 0 rfl rfl hwsX50 0 (by decide) 1 rfl rfl dX5_back_63 ?_
          refine gfN (host := RX5) S hk hW 1 rfl rfl hwsX20 4 (by decide) 4 rfl rfl dX5_back_66 ?_
          refine lv_iload_n S.1 S.2.1 dX5_back_69 rfl (lv_at hl 1 rfl) ?_
          refine lv_iconst (v := nI 1) S.1 S.2.1 dX5_back_70 (by decide) ?_
          refine zst (w' := wC q qf cI cZ cF (sT g (upd (gT g) j (nI 1))) C R'_1 rw len F sz X mk) S hk hW 9 rfl j rfl (by omega) (by omega) (Or.inr rfl) dX5_back_71 rfl (fun H locs hW => ?_)
          refine lv_aload_n S.1 S.2.1 dX5_back_72 rfl (lv_at hl 0 rfl) ?_
          have hno : backC g (nI j) rw = none := by simp only [backC, hcj, fullO, c_8, c_24, c_41, c_55, eq_self, Nat.add_zero, decide_false, decide_true, Bool.not_true, Bool.not_false, Bool.and_true, Bool.true_and, Bool.and_false, Bool.false_and, Bool.or_true, Bool.true_or, Bool.or_false, Bool.false_or, ↓reduceIte, cond_true, cond_false, bI, and_true, true_and, and_false, false_and, or_true, true_or, or_false, false_or, not_true_eq_false, not_false_eq_true, if_true, if_false, Bool.false_eq_true, reduceCtorEq, ite_true, ite_false]
          obtain ⟨hm1, hm2⟩ := hmc hno
          refine kVv S (c_X5_keepAct (l := l) (D := D) (cI := cI) (cZ := cZ) (cF := cF) (Gok_T' G (Or.inr rfl)) (by simp only [Bool.not_eq_false', decide_eq_true_eq] at c_55; omega) hrl h16 hlm) (cwV 0 S.2.2.2.2 gX5_back_X5_keepAct rfl rfl rfl ⟨rfl, v_X5_keepAct⟩ ⟨(Nat.le_of_ble_eq_true rfl), (Nat.le_of_ble_eq_true rfl)⟩) hk hW 0 rfl rfl rfl rfl hl rfl (Nat.le_of_ble_eq_true rfl) dX5_back_73 ⟨by show 0 + gC rw len ≤ mcv; omega, by show 0 + gS rw len ≤ msv; omega⟩ (fun u H locs hp hW => ?_)
          obtain ⟨qf'_2, C'_3, R'_4, F'_5, hCa, hFo, hFn, rfl⟩ := hp
          refine lv_aload_n S.1 S.2.1 dX5_back_76 rfl (lv_at hl 0 rfl) ?_
          refine gf S hk hW 0 rfl rfl hwsX50 0 (by decide) 1 rfl rfl dX5_back_77 ?_
          refine kVi S (c_X2_countThere (l := l) (D := D) (cI := cI) (cZ := cZ) (cF := cF) (Gok_T' G (Or.inr rfl))) (cwV 0 S.2.2.2.2 gX5_back_X2_countThere rfl rfl rfl ⟨rfl, v_X2_countThere⟩ ⟨(Nat.le_of_ble_eq_true rfl), (Nat.le_of_ble_eq_true rfl)⟩) hk hW 1 rfl rfl rfl rfl hl rfl (Nat.le_of_ble_eq_true rfl) dX5_back_80 ⟨by show 0 + (gC rw len) + 0 ≤ mcv; omega, by show 0 + (gS rw len) + 0 ≤ msv; omega⟩ (fun r u H locs hp hW => ?_)
          obtain ⟨rfl, rfl⟩ := hp
          exact hR _ _ _ _ _ _ _ _ dX5_back_83 rfl (by omega) (by omega) hW (act_post (by simp only [backC, hcj, fullO, c_8, c_24, c_41, c_55, eq_self, Nat.add_zero, decide_false, decide_true, Bool.not_true, Bool.not_false, Bool.and_true, Bool.true_and, Bool.and_false, Bool.false_and, Bool.or_true, Bool.true_or, Bool.or_false, Bool.false_or, ↓reduceIte, cond_true, cond_false, bI, and_true, true_and, and_false, false_and, or_true, true_or, or_false, false_or, not_true_eq_false, not_false_eq_true, if_true, if_false, Bool.false_eq_true, reduceCtorEq, ite_true, ite_false]) ⟨by rw [hcj]; rfl, _, _, _, _, by rw [hcj]; exact hCa, hFo, hFn, by rw [hcj]⟩)
        · skip
          refine lv_sipush (v := (-1004)) S.1 S.2.1 dX5_back_58 (by decide) ?_
          exact hR _ _ _ _ _ _ _ _ dX5_back_61 rfl (Nat.zero_le _) (Nat.zero_le _) hW (ref_post (by simp only [backC, hcj, fullO, c_8, c_24, c_41, c_55, eq_self, Nat.add_zero, decide_false, decide_true, Bool.not_true, Bool.not_false, Bool.and_true, Bool.true_and, Bool.and_false, Bool.false_and, Bool.or_true, Bool.true_or, Bool.or_false, Bool.false_or, ↓reduceIte, cond_true, cond_false, bI, and_true, true_and, and_false, false_and, or_true, true_or, or_false, false_or, not_true_eq_false, not_false_eq_true, if_true, if_false, Bool.false_eq_true, reduceCtorEq, ite_true, ite_false]) ⟨_, rfl⟩)
      · skip
        refine lv_sipush (v := (-1003)) S.1 S.2.1 dX5_back_44 (by decide) ?_
        exact hR _ _ _ _ _ _ _ _ dX5_back_47 rfl (Nat.zero_le _) (Nat.zero_le _) hW (ref_post (by simp only [backC, hcj, c_8, c_24, c_41, eq_self, Nat.add_zero, decide_false, decide_true, Bool.not_true, Bool.not_false, Bool.and_true, Bool.true_and, Bool.and_false, Bool.false_and, Bool.or_true, Bool.true_or, Bool.or_false, Bool.false_or, ↓reduceIte, cond_true, cond_false, bI, and_true, true_and, and_false, false_and, or_true, true_or, or_false, false_or, not_true_eq_false, not_false_eq_true, if_true, if_false, Bool.false_eq_true, reduceCtorEq, ite_true, ite_false]) ⟨_, rfl⟩)
  · skip
    refine lv_sipush (v := (-1001)) S.1 S.2.1 dX5_back_11 (by decide) ?_
    exact hR _ _ _ _ _ _ _ _ dX5_back_14 rfl (Nat.zero_le _) (Nat.zero_le _) hW (ref_post (by simp only [backC, c_8, eq_self, Nat.add_zero, decide_false, decide_true, Bool.not_true, Bool.not_false, Bool.and_true, Bool.true_and, Bool.and_false, Bool.false_and, Bool.or_true, Bool.true_or, Bool.or_false, Bool.false_or, ↓reduceIte, cond_true, cond_false, bI, and_true, true_and, and_false, false_and, or_true, true_or, or_false, false_or, not_true_eq_false, not_false_eq_true, if_true, if_false, Bool.false_eq_true, reduceCtorEq, ite_true, ite_false]) ⟨_, rfl⟩)
