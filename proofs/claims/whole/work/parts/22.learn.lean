abbrev r_X6_learn : Room := { frames := 0, cells := 0, slots := 0, locals := 0 }
theorem v_X6_learn : yX6_learn.cls ≠ "java/lang/invoke/MethodHandle" ∧ yX6_learn.cls ≠ "java/lang/invoke/VarHandle" ∧ (parseMethodDescriptor yX6_learn.desc).map (fun d => d.parameters.length) = some 2 := by decide +kernel
set_option maxRecDepth 100000 in
set_option maxHeartbeats 4000000 in
theorem c_X6_learn {l : Launch} {D : va_G} {cI cZ cF : ClassId} {q : Nat → Nat} {g : Gr} {fi ke : Nat → Int32} {ac : Nat} {mk : Int32} {iv : Nat → Int32} {x y : Int32} (G : Gok g) : cI_ l D cI cZ cF yX6_learn wsX6_learn r_X6_learn [.ref (q 0), .int x, .int y] (wM q cI cZ cF g fi ke ac mk iv) (fun r u => r = bI ((lrn g x y).2) ∧ u = wM q cI cZ cF g ((lrn g x y).1) ke ac mk iv) 0 0 := by
  refine cI_of (cc := cX6_learn) (maxL := 8) (rt := .boolean) (plainFor_of_name (by decide +kernel)) rfl (Nat.le_of_ble_eq_true rfl) ?_
  intro p e s m args below meth c A Q ls S hk hW hl hR
  have hl : lv_has ls 8 [(0, .ref (q 0)), (1, .int x), (2, .int y)] := hl
  have hwsX60 : ∀ x ∈ wsX60, x ∈ wsX6_learn := fun x h => List.mem_cons_of_mem _ (List.mem_append_right _ h)
  have hN := Gok_N G; have hN2 := Gok_N2 G; have hKK := Gok_K G
  refine lv_iconst (v := nI 0) S.1 S.2.1 dX6_learn_0 (by decide) ?_
  refine lv_istore_n (lv' := [(3, .int (nI 0)), (0, .ref (q 0)), (1, .int x), (2, .int y)]) S.1 S.2.1 dX6_learn_1 rfl hl (by decide) rfl (fun ls hl => ?_)
  have L2 : ∀ (dd : Nat), ∀ (k : Nat), ∀ (f1 : Nat → Int32), (∀ i, i < k → f1 i = fi0 i) → (k ≤ 100) → 100 < k + dd → ∀ (H : Heap) (locs : List Loc) (ls : Array Slot), wd D A s H locs (wM q cI cZ cF g f1 ke ac mk iv) → lv_has ls 8 [(0, .ref (q 0)), (1, .int x), (2, .int y), (3, .int (nI k))] → W p l e r_X6_learn s m args below meth c H locs 0 0 Q (F0 m 2 ls []) := by
    intro dd
    induction dd with
    | zero => intros; omega
    | succ dd ih2 =>
      intro k f1 hf1 hk1 hdd H locs ls hW hl
      refine lv_iload_n S.1 S.2.1 dX6_learn_2 rfl (lv_at hl 3 rfl) ?_
      refine lv_bipush (v := nI 100) S.1 S.2.1 dX6_learn_3 (by decide) ?_
      refine icge_n (tgt := 37) S (by omega) (by omega) dX6_learn_5 (by decide) (fun c_5 => ?_) (fun c_5 => ?_)
      · skip
        have hW := wM_fi hW (fi' := fi0) (fun k hk2 => hf1 k (by omega))
        refine lv_iconst (v := nI 0) S.1 S.2.1 dX6_learn_37 (by decide) ?_
        refine lv_istore_n (lv' := [(3, .int (nI 0)), (0, .ref (q 0)), (1, .int x), (2, .int y)]) S.1 S.2.1 dX6_learn_38 rfl hl (by decide) rfl (fun ls hl => ?_)
        have L39 : ∀ (dd : Nat), ∀ (l1 : Nat), ∀ (f2 : Nat → Int32), (f2 = p2 g x y l1) → (l1 ≤ gK g) → gK g < l1 + dd → ∀ (H : Heap) (locs : List Loc) (ls : Array Slot), wd D A s H locs (wM q cI cZ cF g f2 ke ac mk iv) → lv_has ls 8 [(0, .ref (q 0)), (1, .int x), (2, .int y), (3, .int (nI l1))] → W p l e r_X6_learn s m args below meth c H locs 0 0 Q (F0 m 39 ls []) := by
          intro dd
          induction dd with
          | zero => intros; omega
          | succ dd ih39 =>
            intro l1 f2 hf2 hl1 hdd H locs ls hW hl
            refine lv_iload_n S.1 S.2.1 dX6_learn_39 rfl (lv_at hl 3 rfl) ?_
            refine lv_aload_n S.1 S.2.1 dX6_learn_40 rfl (lv_at hl 0 rfl) ?_
            refine gf S hk hW 0 rfl rfl hwsX60 2 (by decide) 3 rfl rfl dX6_learn_41 ?_
            refine icge_n (tgt := 207) S (by omega) (by omega) dX6_learn_44 (by decide) (fun c_44 => ?_) (fun c_44 => ?_)
            · skip
              refine lv_iconst (v := nI 1) S.1 S.2.1 dX6_learn_207 (by decide) ?_
              refine lv_istore_n (lv' := [(3, .int (nI 1)), (0, .ref (q 0)), (1, .int x), (2, .int y)]) S.1 S.2.1 dX6_learn_208 rfl hl (by decide) rfl (fun ls hl => ?_)
              refine lv_iconst (v := nI 0) S.1 S.2.1 dX6_learn_209 (by decide) ?_
              refine lv_istore (lv' := [(4, .int (nI 0)), (3, .int (nI 1)), (0, .ref (q 0)), (1, .int x), (2, .int y)]) S.1 S.2.1 dX6_learn_210 hl (by decide) rfl (fun ls hl => ?_)
              have L212 : ∀ (dd : Nat), ∀ (m1 : Nat), ∀ (g3 : Bool), ∀ (f3 : Nat → Int32), (f3 = (f3m (gN g) (p2 g x y (gK g)) m1).1) → (g3 = (f3m (gN g) (p2 g x y (gK g)) m1).2) → (m1 ≤ gN g) → gN g < m1 + dd → ∀ (H : Heap) (locs : List Loc) (ls : Array Slot), wd D A s H locs (wM q cI cZ cF g f3 ke ac mk iv) → lv_has ls 8 [(0, .ref (q 0)), (1, .int x), (2, .int y), (3, .int (bI g3)), (4, .int (nI m1))] → W p l e r_X6_learn s m args below meth c H locs 0 0 Q (F0 m 212 ls []) := by
                intro dd
                induction dd with
                | zero => intros; omega
                | succ dd ih212 =>
                  intro m1 g3 f3 hf3 hg3 hm1 hdd H locs ls hW hl
                  refine lv_iload S.1 S.2.1 dX6_learn_212 (lv_at hl 4 rfl) ?_
                  refine lv_aload_n S.1 S.2.1 dX6_learn_214 rfl (lv_at hl 0 rfl) ?_
                  refine gf S hk hW 0 rfl rfl hwsX60 1 (by decide) 9 rfl rfl dX6_learn_215 ?_
                  refine icge_n (tgt := 435) S (by omega) (by omega) dX6_learn_218 (by decide) (fun c_218 => ?_) (fun c_218 => ?_)
                  · skip
                    have em : m1 = gN g := by omega
                    subst em
                    rw [hf3] at hW
                    rw [hg3] at hl
                    refine lv_iload_n S.1 S.2.1 dX6_learn_435 rfl (lv_at hl 3 rfl) ?_
                    exact hR _ _ _ _ _ _ _ _ dX6_learn_436 (bI_nar _) (Nat.le_of_ble_eq_true rfl) (Nat.le_of_ble_eq_true rfl) hW ⟨rfl, rfl⟩
                  · skip
                    refine lv_iconst (v := nI 0) S.1 S.2.1 dX6_learn_221 (by decide) ?_
                    refine lv_istore (lv' := [(5, .int (nI 0)), (0, .ref (q 0)), (1, .int x), (2, .int y), (3, .int (bI g3)), (4, .int (nI m1))]) S.1 S.2.1 dX6_learn_222 hl (by decide) rfl (fun ls hl => ?_)
                    have L224 : ∀ (dd : Nat), ∀ (a4 : Nat), ∀ (f4 : Nat → Int32), (f4 = f3a (gN g) m1 (f3m (gN g) (p2 g x y (gK g)) m1).1 a4) → (a4 ≤ gN g) → gN g < a4 + dd → ∀ (H : Heap) (locs : List Loc) (ls : Array Slot), wd D A s H locs (wM q cI cZ cF g f4 ke ac mk iv) → lv_has ls 8 [(0, .ref (q 0)), (1, .int x), (2, .int y), (3, .int (bI g3)), (4, .int (nI m1)), (5, .int (nI a4))] → W p l e r_X6_learn s m args below meth c H locs 0 0 Q (F0 m 224 ls []) := by
                      intro dd
                      induction dd with
                      | zero => intros; omega
                      | succ dd ih224 =>
                        intro a4 f4 hf4 ha4 hdd H locs ls hW hl
                        refine lv_iload S.1 S.2.1 dX6_learn_224 (lv_at hl 5 rfl) ?_
                        refine lv_aload_n S.1 S.2.1 dX6_learn_226 rfl (lv_at hl 0 rfl) ?_
                        refine gf S hk hW 0 rfl rfl hwsX60 1 (by decide) 9 rfl rfl dX6_learn_227 ?_
                        refine icge_n (tgt := 371) S (by omega) (by omega) dX6_learn_230 (by decide) (fun c_230 => ?_) (fun c_230 => ?_)
                        · skip
                          refine lv_iconst (v := nI 0) S.1 S.2.1 dX6_learn_371 (by decide) ?_
                          refine lv_istore (lv' := [(5, .int (nI 0)), (0, .ref (q 0)), (1, .int x), (2, .int y), (3, .int (bI g3)), (4, .int (nI m1))]) S.1 S.2.1 dX6_learn_372 hl (by decide) rfl (fun ls hl => ?_)
                          have L374 : ∀ (dd : Nat), ∀ (a6 : Nat), ∀ (g6 : Bool), ∀ (f6 : Nat → Int32), (f6 = (d3 (f3a (gN g) m1 (f3m (gN g) (p2 g x y (gK g)) m1).1 (gN g)) (f3m (gN g) (p2 g x y (gK g)) m1).2 a6).1) → (g6 = (d3 (f3a (gN g) m1 (f3m (gN g) (p2 g x y (gK g)) m1).1 (gN g)) (f3m (gN g) (p2 g x y (gK g)) m1).2 a6).2) → (a6 ≤ gN g) → gN g < a6 + dd → ∀ (H : Heap) (locs : List Loc) (ls : Array Slot), wd D A s H locs (wM q cI cZ cF g f6 ke ac mk iv) → lv_has ls 8 [(0, .ref (q 0)), (1, .int x), (2, .int y), (3, .int (bI g6)), (4, .int (nI m1)), (5, .int (nI a6))] → W p l e r_X6_learn s m args below meth c H locs 0 0 Q (F0 m 374 ls []) := by
                            intro dd
                            induction dd with
                            | zero => intros; omega
                            | succ dd ih374 =>
                              intro a6 g6 f6 hf6 hg6 ha6 hdd H locs ls hW hl
                              refine lv_iload S.1 S.2.1 dX6_learn_374 (lv_at hl 5 rfl) ?_
                              refine lv_aload_n S.1 S.2.1 dX6_learn_376 rfl (lv_at hl 0 rfl) ?_
                              refine gf S hk hW 0 rfl rfl hwsX60 1 (by decide) 9 rfl rfl dX6_learn_377 ?_
                              refine icge_n (tgt := 429) S (by omega) (by omega) dX6_learn_380 (by decide) (fun c_380 => ?_) (fun c_380 => ?_)
                              · skip
                                refine lv_iinc (v := nI (m1 + 1)) (lv' := [(4, .int (nI (m1 + 1))), (0, .ref (q 0)), (1, .int x), (2, .int y), (3, .int (bI g6)), (5, .int (nI a6))]) (k := 4) S.1 S.2.1 dX6_learn_429 hl rfl (nI_1 _) (by decide) rfl (fun ls hl => ?_)
                                refine lv_goto (tgt := 212) S.1 S.2.1 dX6_learn_432 (by decide) ?_
                                exact ih212 (m1 + 1) g6 f6 (by rw [hf6, show a6 = gN g by omega]; rfl) (by rw [hg6, show a6 = gN g by omega]; rfl) (by omega) (by omega) _ _ _ hW (lv_sub hl [1, 2, 3, 4, 0] rfl)
                              · skip
                                refine lv_iload_n S.1 S.2.1 dX6_learn_383 rfl (lv_at hl 3 rfl) ?_
                                refine ifeq_b (tgt := 407) S dX6_learn_384 (by decide) (fun c_384 => ?_) (fun c_384 => ?_)
                                · skip
                                  refine lv_iconst (v := nI 0) S.1 S.2.1 dX6_learn_407 (by decide) ?_
                                  refine lv_istore_n (lv' := [(3, .int (nI 0)), (0, .ref (q 0)), (1, .int x), (2, .int y), (4, .int (nI m1)), (5, .int (nI a6))]) S.1 S.2.1 dX6_learn_408 rfl hl (by decide) rfl (fun ls hl => ?_)
                                  refine lv_aload_n S.1 S.2.1 dX6_learn_409 rfl (lv_at hl 1 rfl) ?_
                                  refine gf S hk hW 0 rfl rfl hwsX60 8 (by decide) 1 rfl rfl dX6_learn_410 ?_
                                  refine lv_bipush (v := nI 10) S.1 S.2.1 dX6_learn_413 (by decide) ?_
                                  refine lv_iload S.1 S.2.1 dX6_learn_415 (lv_at hl 5 rfl) ?_
                                  refine lv_imul S.1 S.2.1 dX6_learn_417 (top_eq (pk_mul _ _) ?_)
                                  refine lv_iload S.1 S.2.1 dX6_learn_418 (lv_at hl 5 rfl) ?_
                                  refine lv_iadd S.1 S.2.1 dX6_learn_420 (top_eq (nI_add _ _) ?_)
                                  refine lv_iconst (v := nI 0) S.1 S.2.1 dX6_learn_421 (by decide) ?_
                                  refine ist (w' := wM q cI cZ cF g (upd f6 ((10 * a6) + a6) (nI 0)) ke ac mk iv) S hk hW 6 rfl ((10 * a6) + a6) rfl (by omega) (by omega) dX6_learn_422 rfl (fun H locs hW => ?_)
                                  refine lv_iinc (v := nI (a6 + 1)) (lv' := [(5, .int (nI (a6 + 1))), (3, .int (nI 0)), (0, .ref (q 0)), (1, .int x), (2, .int y), (4, .int (nI m1))]) (k := 5) S.1 S.2.1 dX6_learn_423 hl rfl (nI_1 _) (by decide) rfl (fun ls hl => ?_)
                                  refine lv_goto (tgt := 374) S.1 S.2.1 dX6_learn_426 (by decide) ?_
                                  exact ih374 (a6 + 1) false (upd f6 ((10 * a6) + a6) (nI 0)) (by simp only [d3, ← hf6, ← hg6, c_384, eq_self, Nat.add_zero, decide_false, decide_true, Bool.not_true, Bool.not_false, Bool.and_true, Bool.true_and, Bool.and_false, Bool.false_and, Bool.or_true, Bool.true_or, Bool.or_false, Bool.false_or, ↓reduceIte, cond_true, cond_false, bI, and_true, true_and, and_false, false_and, or_true, true_or, or_false, false_or, not_true_eq_false, not_false_eq_true, if_true, if_false, Bool.false_eq_true, reduceCtorEq, ite_true, ite_false]) (by simp only [d3, ← hf6, ← hg6, c_384, eq_self, Nat.add_zero, decide_false, decide_true, Bool.not_true, Bool.not_false, Bool.and_true, Bool.true_and, Bool.and_false, Bool.false_and, Bool.or_true, Bool.true_or, Bool.or_false, Bool.false_or, ↓reduceIte, cond_true, cond_false, bI, and_true, true_and, and_false, false_and, or_true, true_or, or_false, false_or, not_true_eq_false, not_false_eq_true, if_true, if_false, Bool.false_eq_true, reduceCtorEq, ite_true, ite_false]) (by omega) (by omega) _ _ _ hW (lv_sub hl [2, 3, 4, 1, 5, 0] rfl)
                                · skip
                                  refine lv_aload_n S.1 S.2.1 dX6_learn_387 rfl (lv_at hl 0 rfl) ?_
                                  refine gf S hk hW 0 rfl rfl hwsX60 8 (by decide) 1 rfl rfl dX6_learn_388 ?_
                                  refine lv_bipush (v := nI 10) S.1 S.2.1 dX6_learn_391 (by decide) ?_
                                  refine lv_iload S.1 S.2.1 dX6_learn_393 (lv_at hl 5 rfl) ?_
                                  refine lv_imul S.1 S.2.1 dX6_learn_395 (top_eq (pk_mul _ _) ?_)
                                  refine lv_iload S.1 S.2.1 dX6_learn_396 (lv_at hl 5 rfl) ?_
                                  refine lv_iadd S.1 S.2.1 dX6_learn_398 (top_eq (nI_add _ _) ?_)
                                  refine ild S hk hW 6 rfl ((10 * a6) + a6) rfl (by omega) (by omega) dX6_learn_399 ?_
                                  refine lv_if_lt (tgt := 407) S.1 S.2.1 dX6_learn_400 (by decide) (fun c_400 => ?_) (fun c_400 => ?_)
                                  · skip
                                    refine lv_iconst (v := nI 0) S.1 S.2.1 dX6_learn_407 (by decide) ?_
                                    refine lv_istore_n (lv' := [(3, .int (nI 0)), (0, .ref (q 0)), (1, .int x), (2, .int y), (4, .int (nI m1)), (5, .int (nI a6))]) S.1 S.2.1 dX6_learn_408 rfl hl (by decide) rfl (fun ls hl => ?_)
                                    refine lv_aload_n S.1 S.2.1 dX6_learn_409 rfl (lv_at hl 1 rfl) ?_
                                    refine gf S hk hW 0 rfl rfl hwsX60 8 (by decide) 1 rfl rfl dX6_learn_410 ?_
                                    refine lv_bipush (v := nI 10) S.1 S.2.1 dX6_learn_413 (by decide) ?_
                                    refine lv_iload S.1 S.2.1 dX6_learn_415 (lv_at hl 5 rfl) ?_
                                    refine lv_imul S.1 S.2.1 dX6_learn_417 (top_eq (pk_mul _ _) ?_)
                                    refine lv_iload S.1 S.2.1 dX6_learn_418 (lv_at hl 5 rfl) ?_
                                    refine lv_iadd S.1 S.2.1 dX6_learn_420 (top_eq (nI_add _ _) ?_)
                                    refine lv_iconst (v := nI 0) S.1 S.2.1 dX6_learn_421 (by decide) ?_
                                    refine ist (w' := wM q cI cZ cF g (upd f6 ((10 * a6) + a6) (nI 0)) ke ac mk iv) S hk hW 6 rfl ((10 * a6) + a6) rfl (by omega) (by omega) dX6_learn_422 rfl (fun H locs hW => ?_)
                                    refine lv_iinc (v := nI (a6 + 1)) (lv' := [(5, .int (nI (a6 + 1))), (3, .int (nI 0)), (0, .ref (q 0)), (1, .int x), (2, .int y), (4, .int (nI m1))]) (k := 5) S.1 S.2.1 dX6_learn_423 hl rfl (nI_1 _) (by decide) rfl (fun ls hl => ?_)
                                    refine lv_goto (tgt := 374) S.1 S.2.1 dX6_learn_426 (by decide) ?_
                                    exact ih374 (a6 + 1) false (upd f6 ((10 * a6) + a6) (nI 0)) (by simp only [d3, ← hf6, ← hg6, c_384, eq_true c_400, eq_self, Nat.add_zero, decide_false, decide_true, Bool.not_true, Bool.not_false, Bool.and_true, Bool.true_and, Bool.and_false, Bool.false_and, Bool.or_true, Bool.true_or, Bool.or_false, Bool.false_or, ↓reduceIte, cond_true, cond_false, bI, and_true, true_and, and_false, false_and, or_true, true_or, or_false, false_or, not_true_eq_false, not_false_eq_true, if_true, if_false, Bool.false_eq_true, reduceCtorEq, ite_true, ite_false]) (by simp only [d3, ← hf6, ← hg6, c_384, eq_true c_400, eq_self, Nat.add_zero, decide_false, decide_true, Bool.not_true, Bool.not_false, Bool.and_true, Bool.true_and, Bool.and_false, Bool.false_and, Bool.or_true, Bool.true_or, Bool.or_false, Bool.false_or, ↓reduceIte, cond_true, cond_false, bI, and_true, true_and, and_false, false_and, or_true, true_or, or_false, false_or, not_true_eq_false, not_false_eq_true, if_true, if_false, Bool.false_eq_true, reduceCtorEq, ite_true, ite_false]) (by omega) (by omega) _ _ _ hW (lv_sub hl [2, 3, 4, 1, 5, 0] rfl)
                                  · skip
                                    refine lv_iconst (v := nI 1) S.1 S.2.1 dX6_learn_403 (by decide) ?_
                                    refine lv_goto (tgt := 408) S.1 S.2.1 dX6_learn_404 (by decide) ?_
                                    refine lv_istore_n (lv' := [(3, .int (nI 1)), (0, .ref (q 0)), (1, .int x), (2, .int y), (4, .int (nI m1)), (5, .int (nI a6))]) S.1 S.2.1 dX6_learn_408 rfl hl (by decide) rfl (fun ls hl => ?_)
                                    refine lv_aload_n S.1 S.2.1 dX6_learn_409 rfl (lv_at hl 1 rfl) ?_
                                    refine gf S hk hW 0 rfl rfl hwsX60 8 (by decide) 1 rfl rfl dX6_learn_410 ?_
                                    refine lv_bipush (v := nI 10) S.1 S.2.1 dX6_learn_413 (by decide) ?_
                                    refine lv_iload S.1 S.2.1 dX6_learn_415 (lv_at hl 5 rfl) ?_
                                    refine lv_imul S.1 S.2.1 dX6_learn_417 (top_eq (pk_mul _ _) ?_)
                                    refine lv_iload S.1 S.2.1 dX6_learn_418 (lv_at hl 5 rfl) ?_
                                    refine lv_iadd S.1 S.2.1 dX6_learn_420 (top_eq (nI_add _ _) ?_)
                                    refine lv_iconst (v := nI 0) S.1 S.2.1 dX6_learn_421 (by decide) ?_
                                    refine ist (w' := wM q cI cZ cF g (upd f6 ((10 * a6) + a6) (nI 0)) ke ac mk iv) S hk hW 6 rfl ((10 * a6) + a6) rfl (by omega) (by omega) dX6_learn_422 rfl (fun H locs hW => ?_)
                                    refine lv_iinc (v := nI (a6 + 1)) (lv' := [(5, .int (nI (a6 + 1))), (3, .int (nI 1)), (0, .ref (q 0)), (1, .int x), (2, .int y), (4, .int (nI m1))]) (k := 5) S.1 S.2.1 dX6_learn_423 hl rfl (nI_1 _) (by decide) rfl (fun ls hl => ?_)
                                    refine lv_goto (tgt := 374) S.1 S.2.1 dX6_learn_426 (by decide) ?_
                                    exact ih374 (a6 + 1) true (upd f6 ((10 * a6) + a6) (nI 0)) (by simp only [d3, ← hf6, ← hg6, c_384, eq_false c_400, eq_self, Nat.add_zero, decide_false, decide_true, Bool.not_true, Bool.not_false, Bool.and_true, Bool.true_and, Bool.and_false, Bool.false_and, Bool.or_true, Bool.true_or, Bool.or_false, Bool.false_or, ↓reduceIte, cond_true, cond_false, bI, and_true, true_and, and_false, false_and, or_true, true_or, or_false, false_or, not_true_eq_false, not_false_eq_true, if_true, if_false, Bool.false_eq_true, reduceCtorEq, ite_true, ite_false]) (by simp only [d3, ← hf6, ← hg6, c_384, eq_false c_400, eq_self, Nat.add_zero, decide_false, decide_true, Bool.not_true, Bool.not_false, Bool.and_true, Bool.true_and, Bool.and_false, Bool.false_and, Bool.or_true, Bool.true_or, Bool.or_false, Bool.false_or, ↓reduceIte, cond_true, cond_false, bI, and_true, true_and, and_false, false_and, or_true, true_or, or_false, false_or, not_true_eq_false, not_false_eq_true, if_true, if_false, Bool.false_eq_true, reduceCtorEq, ite_true, ite_false]) (by omega) (by omega) _ _ _ hW (lv_sub hl [2, 3, 4, 1, 5, 0] rfl)
                          exact L374 ((gN g) + 1) 0 g3 f4 (by rw [hf4, show a4 = gN g by omega]; rfl) hg3 (by omega) (by omega) _ _ _ hW (lv_sub hl [1, 2, 3, 4, 5, 0] rfl)
                        · skip
                          refine lv_iconst (v := nI 0) S.1 S.2.1 dX6_learn_233 (by decide) ?_
                          refine lv_istore (lv' := [(6, .int (nI 0)), (0, .ref (q 0)), (1, .int x), (2, .int y), (3, .int (bI g3)), (4, .int (nI m1)), (5, .int (nI a4))]) S.1 S.2.1 dX6_learn_234 hl (by decide) rfl (fun ls hl => ?_)
                          have L236 : ∀ (dd : Nat), ∀ (b5 : Nat), ∀ (f5 : Nat → Int32), (f5 = f3b m1 a4 (f3a (gN g) m1 (f3m (gN g) (p2 g x y (gK g)) m1).1 a4) b5) → (b5 ≤ gN g) → gN g < b5 + dd → ∀ (H : Heap) (locs : List Loc) (ls : Array Slot), wd D A s H locs (wM q cI cZ cF g f5 ke ac mk iv) → lv_has ls 8 [(0, .ref (q 0)), (1, .int x), (2, .int y), (3, .int (bI g3)), (4, .int (nI m1)), (5, .int (nI a4)), (6, .int (nI b5))] → W p l e r_X6_learn s m args below meth c H locs 0 0 Q (F0 m 236 ls []) := by
                            intro dd
                            induction dd with
                            | zero => intros; omega
                            | succ dd ih236 =>
                              intro b5 f5 hf5 hb5 hdd H locs ls hW hl
                              refine lv_iload S.1 S.2.1 dX6_learn_236 (lv_at hl 6 rfl) ?_
                              refine lv_aload_n S.1 S.2.1 dX6_learn_238 rfl (lv_at hl 0 rfl) ?_
                              refine gf S hk hW 0 rfl rfl hwsX60 1 (by decide) 9 rfl rfl dX6_learn_239 ?_
                              refine icge_n (tgt := 365) S (by omega) (by omega) dX6_learn_242 (by decide) (fun c_242 => ?_) (fun c_242 => ?_)
                              · skip
                                refine lv_iinc (v := nI (a4 + 1)) (lv' := [(5, .int (nI (a4 + 1))), (0, .ref (q 0)), (1, .int x), (2, .int y), (3, .int (bI g3)), (4, .int (nI m1)), (6, .int (nI b5))]) (k := 5) S.1 S.2.1 dX6_learn_365 hl rfl (nI_1 _) (by decide) rfl (fun ls hl => ?_)
                                refine lv_goto (tgt := 224) S.1 S.2.1 dX6_learn_368 (by decide) ?_
                                exact ih224 (a4 + 1) f5 (by rw [hf5, show b5 = gN g by omega]; rfl) (by omega) (by omega) _ _ _ hW (lv_sub hl [1, 2, 3, 4, 5, 0] rfl)
                              · skip
                                refine lv_aload_n S.1 S.2.1 dX6_learn_245 rfl (lv_at hl 0 rfl) ?_
                                refine gf S hk hW 0 rfl rfl hwsX60 8 (by decide) 1 rfl rfl dX6_learn_246 ?_
                                refine lv_bipush (v := nI 10) S.1 S.2.1 dX6_learn_249 (by decide) ?_
                                refine lv_iload S.1 S.2.1 dX6_learn_251 (lv_at hl 5 rfl) ?_
                                refine lv_imul S.1 S.2.1 dX6_learn_253 (top_eq (pk_mul _ _) ?_)
                                refine lv_iload S.1 S.2.1 dX6_learn_254 (lv_at hl 4 rfl) ?_
                                refine lv_iadd S.1 S.2.1 dX6_learn_256 (top_eq (nI_add _ _) ?_)
                                refine ild S hk hW 6 rfl ((10 * a4) + m1) rfl (by omega) (by omega) dX6_learn_257 ?_
                                refine lv_ldc (v := nI 10000000) S.1 S.2.1 S.2.2.2.1 (S.2.2.2.2 _ (List.mem_of_getElem? (i := 2) rfl)) dX6_learn_258 ?_
                                refine lv_icmp_ge (tgt := 359) S.1 S.2.1 dX6_learn_260 (by decide) (fun c_260 => ?_) (fun c_260 => ?_)
                                · skip
                                  refine lv_iinc (v := nI (b5 + 1)) (lv' := [(6, .int (nI (b5 + 1))), (0, .ref (q 0)), (1, .int x), (2, .int y), (3, .int (bI g3)), (4, .int (nI m1)), (5, .int (nI a4))]) (k := 6) S.1 S.2.1 dX6_learn_359 hl rfl (nI_1 _) (by decide) rfl (fun ls hl => ?_)
                                  refine lv_goto (tgt := 236) S.1 S.2.1 dX6_learn_362 (by decide) ?_
                                  exact ih236 (b5 + 1) f5 (by simp only [f3b, ← hf5, eq_true c_260, eq_self, Nat.add_zero, decide_false, decide_true, Bool.not_true, Bool.not_false, Bool.and_true, Bool.true_and, Bool.and_false, Bool.false_and, Bool.or_true, Bool.true_or, Bool.or_false, Bool.false_or, ↓reduceIte, cond_true, cond_false, bI, and_true, true_and, and_false, false_and, or_true, true_or, or_false, false_or, not_true_eq_false, not_false_eq_true, if_true, if_false, Bool.false_eq_true, reduceCtorEq, ite_true, ite_false]) (by omega) (by omega) _ _ _ hW (lv_sub hl [1, 2, 3, 4, 5, 6, 0] rfl)
                                · skip
                                  refine lv_aload_n S.1 S.2.1 dX6_learn_263 rfl (lv_at hl 0 rfl) ?_
                                  refine gf S hk hW 0 rfl rfl hwsX60 8 (by decide) 1 rfl rfl dX6_learn_264 ?_
                                  refine lv_bipush (v := nI 10) S.1 S.2.1 dX6_learn_267 (by decide) ?_
                                  refine lv_iload S.1 S.2.1 dX6_learn_269 (lv_at hl 4 rfl) ?_
                                  refine lv_imul S.1 S.2.1 dX6_learn_271 (top_eq (pk_mul _ _) ?_)
                                  refine lv_iload S.1 S.2.1 dX6_learn_272 (lv_at hl 6 rfl) ?_
                                  refine lv_iadd S.1 S.2.1 dX6_learn_274 (top_eq (nI_add _ _) ?_)
                                  refine ild S hk hW 6 rfl ((10 * m1) + b5) rfl (by omega) (by omega) dX6_learn_275 ?_
                                  refine lv_ldc (v := nI 10000000) S.1 S.2.1 S.2.2.2.1 (S.2.2.2.2 _ (List.mem_of_getElem? (i := 2) rfl)) dX6_learn_276 ?_
                                  refine lv_icmp_ge (tgt := 359) S.1 S.2.1 dX6_learn_278 (by decide) (fun c_278 => ?_) (fun c_278 => ?_)
                                  · skip
                                    refine lv_iinc (v := nI (b5 + 1)) (lv' := [(6, .int (nI (b5 + 1))), (0, .ref (q 0)), (1, .int x), (2, .int y), (3, .int (bI g3)), (4, .int (nI m1)), (5, .int (nI a4))]) (k := 6) S.1 S.2.1 dX6_learn_359 hl rfl (nI_1 _) (by decide) rfl (fun ls hl => ?_)
                                    refine lv_goto (tgt := 236) S.1 S.2.1 dX6_learn_362 (by decide) ?_
                                    exact ih236 (b5 + 1) f5 (by simp only [f3b, ← hf5, eq_false c_260, eq_true c_278, eq_self, Nat.add_zero, decide_false, decide_true, Bool.not_true, Bool.not_false, Bool.and_true, Bool.true_and, Bool.and_false, Bool.false_and, Bool.or_true, Bool.true_or, Bool.or_false, Bool.false_or, ↓reduceIte, cond_true, cond_false, bI, and_true, true_and, and_false, false_and, or_true, true_or, or_false, false_or, not_true_eq_false, not_false_eq_true, if_true, if_false, Bool.false_eq_true, reduceCtorEq, ite_true, ite_false]) (by omega) (by omega) _ _ _ hW (lv_sub hl [1, 2, 3, 4, 5, 6, 0] rfl)
                                  · skip
                                    refine lv_aload_n S.1 S.2.1 dX6_learn_281 rfl (lv_at hl 0 rfl) ?_
                                    refine gf S hk hW 0 rfl rfl hwsX60 8 (by decide) 1 rfl rfl dX6_learn_282 ?_
                                    refine lv_bipush (v := nI 10) S.1 S.2.1 dX6_learn_285 (by decide) ?_
                                    refine lv_iload S.1 S.2.1 dX6_learn_287 (lv_at hl 5 rfl) ?_
                                    refine lv_imul S.1 S.2.1 dX6_learn_289 (top_eq (pk_mul _ _) ?_)
                                    refine lv_iload S.1 S.2.1 dX6_learn_290 (lv_at hl 4 rfl) ?_
                                    refine lv_iadd S.1 S.2.1 dX6_learn_292 (top_eq (nI_add _ _) ?_)
                                    refine ild S hk hW 6 rfl ((10 * a4) + m1) rfl (by omega) (by omega) dX6_learn_293 ?_
                                    refine lv_aload_n S.1 S.2.1 dX6_learn_294 rfl (lv_at hl 0 rfl) ?_
                                    refine gf S hk hW 0 rfl rfl hwsX60 8 (by decide) 1 rfl rfl dX6_learn_295 ?_
                                    refine lv_bipush (v := nI 10) S.1 S.2.1 dX6_learn_298 (by decide) ?_
                                    refine lv_iload S.1 S.2.1 dX6_learn_300 (lv_at hl 4 rfl) ?_
                                    refine lv_imul S.1 S.2.1 dX6_learn_302 (top_eq (pk_mul _ _) ?_)
                                    refine lv_iload S.1 S.2.1 dX6_learn_303 (lv_at hl 6 rfl) ?_
                                    refine lv_iadd S.1 S.2.1 dX6_learn_305 (top_eq (nI_add _ _) ?_)
                                    refine ild S hk hW 6 rfl ((10 * m1) + b5) rfl (by omega) (by omega) dX6_learn_306 ?_
                                    refine lv_iadd S.1 S.2.1 dX6_learn_307 ?_
                                    refine lv_istore (lv' := [(7, .int ((f5 ((10 * a4) + m1)) + (f5 ((10 * m1) + b5)))), (0, .ref (q 0)), (1, .int x), (2, .int y), (3, .int (bI g3)), (4, .int (nI m1)), (5, .int (nI a4)), (6, .int (nI b5))]) S.1 S.2.1 dX6_learn_308 hl (by decide) rfl (fun ls hl => ?_)
                                    refine lv_aload_n S.1 S.2.1 dX6_learn_310 rfl (lv_at hl 1 rfl) ?_
                                    refine gf S hk hW 0 rfl rfl hwsX60 8 (by decide) 1 rfl rfl dX6_learn_311 ?_
                                    refine lv_bipush (v := nI 10) S.1 S.2.1 dX6_learn_314 (by decide) ?_
                                    refine lv_iload S.1 S.2.1 dX6_learn_316 (lv_at hl 6 rfl) ?_
                                    refine lv_imul S.1 S.2.1 dX6_learn_318 (top_eq (pk_mul _ _) ?_)
                                    refine lv_iload S.1 S.2.1 dX6_learn_319 (lv_at hl 7 rfl) ?_
                                    refine lv_iadd S.1 S.2.1 dX6_learn_321 (top_eq (nI_add _ _) ?_)
                                    refine lv_iload S.1 S.2.1 dX6_learn_322 (lv_at hl 0 rfl) ?_
                                    refine lv_aload_n S.1 S.2.1 dX6_learn_324 rfl (lv_at hl 1 rfl) ?_
                                    refine gf S hk hW 0 rfl rfl hwsX60 8 (by decide) 1 rfl rfl dX6_learn_325 ?_
                                    refine lv_bipush (v := nI 10) S.1 S.2.1 dX6_learn_328 (by decide) ?_
                                    refine lv_iload S.1 S.2.1 dX6_learn_330 (lv_at hl 6 rfl) ?_
                                    refine lv_imul S.1 S.2.1 dX6_learn_332 (top_eq (pk_mul _ _) ?_)
                                    refine lv_iload S.1 S.2.1 dX6_learn_333 (lv_at hl 7 rfl) ?_
                                    refine lv_iadd S.1 S.2.1 dX6_learn_335 (top_eq (nI_add _ _) ?_)
                                    refine ild S hk hW 6 rfl ((10 * a4) + b5) rfl (by omega) (by omega) dX6_learn_336 ?_
                                    refine lv_icmp_ge (tgt := 345) S.1 S.2.1 dX6_learn_337 (by decide) (fun c_337 => ?_) (fun c_337 => ?_)
                                    · skip
                                      refine lv_aload_n S.1 S.2.1 dX6_learn_345 rfl (lv_at hl 1 rfl) ?_
                                      refine gf S hk hW 0 rfl rfl hwsX60 8 (by decide) 1 rfl rfl dX6_learn_346 ?_
                                      refine lv_bipush (v := nI 10) S.1 S.2.1 dX6_learn_349 (by decide) ?_
                                      refine lv_iload S.1 S.2.1 dX6_learn_351 (lv_at hl 6 rfl) ?_
                                      refine lv_imul S.1 S.2.1 dX6_learn_353 (top_eq (pk_mul _ _) ?_)
                                      refine lv_iload S.1 S.2.1 dX6_learn_354 (lv_at hl 7 rfl) ?_
                                      refine lv_iadd S.1 S.2.1 dX6_learn_356 (top_eq (nI_add _ _) ?_)
                                      refine ild S hk hW 6 rfl ((10 * a4) + b5) rfl (by omega) (by omega) dX6_learn_357 ?_
                                      refine ist (w' := wM q cI cZ cF g (upd f5 ((10 * a4) + b5) (f5 ((10 * a4) + b5))) ke ac mk iv) S hk hW 6 rfl ((10 * a4) + b5) rfl (by omega) (by omega) dX6_learn_358 rfl (fun H locs hW => ?_)
                                      refine lv_iinc (v := nI (b5 + 1)) (lv' := [(6, .int (nI (b5 + 1))), (7, .int ((f5 ((10 * a4) + m1)) + (f5 ((10 * m1) + b5)))), (0, .ref (q 0)), (1, .int x), (2, .int y), (3, .int (bI g3)), (4, .int (nI m1)), (5, .int (nI a4))]) (k := 7) S.1 S.2.1 dX6_learn_359 hl rfl (nI_1 _) (by decide) rfl (fun ls hl => ?_)
                                      refine lv_goto (tgt := 236) S.1 S.2.1 dX6_learn_362 (by decide) ?_
                                      exact ih236 (b5 + 1) (upd f5 ((10 * a4) + b5) (f5 ((10 * a4) + b5))) (by simp only [f3b, ← hf5, eq_false c_260, eq_false c_278, eq_true c_337, eq_self, Nat.add_zero, decide_false, decide_true, Bool.not_true, Bool.not_false, Bool.and_true, Bool.true_and, Bool.and_false, Bool.false_and, Bool.or_true, Bool.true_or, Bool.or_false, Bool.false_or, ↓reduceIte, cond_true, cond_false, bI, and_true, true_and, and_false, false_and, or_true, true_or, or_false, false_or, not_true_eq_false, not_false_eq_true, if_true, if_false, Bool.false_eq_true, reduceCtorEq, ite_true, ite_false]) (by omega) (by omega) _ _ _ hW (lv_sub hl [2, 3, 4, 5, 6, 7, 0] rfl)
                                    · skip
                                      refine lv_iload S.1 S.2.1 dX6_learn_340 (lv_at hl 0 rfl) ?_
                                      refine lv_goto (tgt := 358) S.1 S.2.1 dX6_learn_342 (by decide) ?_
                                      refine ist (w' := wM q cI cZ cF g (upd f5 ((10 * a4) + b5) ((f5 ((10 * a4) + m1)) + (f5 ((10 * m1) + b5)))) ke ac mk iv) S hk hW 6 rfl ((10 * a4) + b5) rfl (by omega) (by omega) dX6_learn_358 rfl (fun H locs hW => ?_)
                                      refine lv_iinc (v := nI (b5 + 1)) (lv' := [(6, .int (nI (b5 + 1))), (7, .int ((f5 ((10 * a4) + m1)) + (f5 ((10 * m1) + b5)))), (0, .ref (q 0)), (1, .int x), (2, .int y), (3, .int (bI g3)), (4, .int (nI m1)), (5, .int (nI a4))]) (k := 7) S.1 S.2.1 dX6_learn_359 hl rfl (nI_1 _) (by decide) rfl (fun ls hl => ?_)
                                      refine lv_goto (tgt := 236) S.1 S.2.1 dX6_learn_362 (by decide) ?_
                                      exact ih236 (b5 + 1) (upd f5 ((10 * a4) + b5) ((f5 ((10 * a4) + m1)) + (f5 ((10 * m1) + b5)))) (by simp only [f3b, ← hf5, eq_false c_260, eq_false c_278, eq_false c_337, eq_self, Nat.add_zero, decide_false, decide_true, Bool.not_true, Bool.not_false, Bool.and_true, Bool.true_and, Bool.and_false, Bool.false_and, Bool.or_true, Bool.true_or, Bool.or_false, Bool.false_or, ↓reduceIte, cond_true, cond_false, bI, and_true, true_and, and_false, false_and, or_true, true_or, or_false, false_or, not_true_eq_false, not_false_eq_true, if_true, if_false, Bool.false_eq_true, reduceCtorEq, ite_true, ite_false]) (by omega) (by omega) _ _ _ hW (lv_sub hl [2, 3, 4, 5, 6, 7, 0] rfl)
                          exact L236 ((gN g) + 1) 0 f4 hf4 (by omega) (by omega) _ _ _ hW (lv_sub hl [1, 2, 3, 4, 5, 6, 0] rfl)
                    exact L224 ((gN g) + 1) 0 f3 hf3 (by omega) (by omega) _ _ _ hW (lv_sub hl [1, 2, 3, 4, 5, 0] rfl)
              exact L212 ((gN g) + 1) 0 true f2 (by rw [hf2, show l1 = gK g by omega]; rfl) rfl (by omega) (by omega) _ _ _ hW (lv_sub hl [2, 3, 4, 1, 0] rfl)
            · skip
              refine lv_aload_n S.1 S.2.1 dX6_learn_47 rfl (lv_at hl 0 rfl) ?_
              refine gf S hk hW 0 rfl rfl hwsX60 7 (by decide) 4 rfl rfl dX6_learn_48 ?_
              refine lv_iload_n S.1 S.2.1 dX6_learn_51 rfl (lv_at hl 3 rfl) ?_
              refine zld S hk hW 5 rfl l1 rfl (by omega) (by omega) dX6_learn_52 ?_
              refine top_eq (Gok_T G (j := l1) (by omega)) ?_
              refine ifeq_b (tgt := 201) S dX6_learn_53 (by decide) (fun c_53 => ?_) (fun c_53 => ?_)
              · skip
                refine lv_iinc (v := nI (l1 + 1)) (lv' := [(3, .int (nI (l1 + 1))), (0, .ref (q 0)), (1, .int x), (2, .int y)]) (k := 3) S.1 S.2.1 dX6_learn_201 hl rfl (nI_1 _) (by decide) rfl (fun ls hl => ?_)
                refine lv_goto (tgt := 39) S.1 S.2.1 dX6_learn_204 (by decide) ?_
                exact ih39 (l1 + 1) f2 (by simp only [p2, okM, in1, mnU, cwM, ← hf2, c_53, eq_self, Nat.add_zero, decide_false, decide_true, Bool.not_true, Bool.not_false, Bool.and_true, Bool.true_and, Bool.and_false, Bool.false_and, Bool.or_true, Bool.true_or, Bool.or_false, Bool.false_or, ↓reduceIte, cond_true, cond_false, bI, and_true, true_and, and_false, false_and, or_true, true_or, or_false, false_or, not_true_eq_false, not_false_eq_true, if_true, if_false, Bool.false_eq_true, reduceCtorEq, ite_true, ite_false]) (by omega) (by omega) _ _ _ hW (lv_sub hl [1, 2, 3, 0] rfl)
              · skip
                refine lv_iload_n S.1 S.2.1 dX6_learn_56 rfl (lv_at hl 3 rfl) ?_
                refine lv_iload_n S.1 S.2.1 dX6_learn_57 rfl (lv_at hl 1 rfl) ?_
                refine lv_icmp_eq (tgt := 201) S.1 S.2.1 dX6_learn_58 (by decide) (fun c_58 => ?_) (fun c_58 => ?_)
                · skip
                  refine lv_iinc (v := nI (l1 + 1)) (lv' := [(3, .int (nI (l1 + 1))), (0, .ref (q 0)), (1, .int x), (2, .int y)]) (k := 3) S.1 S.2.1 dX6_learn_201 hl rfl (nI_1 _) (by decide) rfl (fun ls hl => ?_)
                  refine lv_goto (tgt := 39) S.1 S.2.1 dX6_learn_204 (by decide) ?_
                  exact ih39 (l1 + 1) f2 (by simp only [p2, okM, in1, mnU, cwM, ← hf2, c_53, eq_true c_58, eq_self, Nat.add_zero, decide_false, decide_true, Bool.not_true, Bool.not_false, Bool.and_true, Bool.true_and, Bool.and_false, Bool.false_and, Bool.or_true, Bool.true_or, Bool.or_false, Bool.false_or, ↓reduceIte, cond_true, cond_false, bI, and_true, true_and, and_false, false_and, or_true, true_or, or_false, false_or, not_true_eq_false, not_false_eq_true, if_true, if_false, Bool.false_eq_true, reduceCtorEq, ite_true, ite_false]) (by omega) (by omega) _ _ _ hW (lv_sub hl [1, 2, 3, 0] rfl)
                · skip
                  refine lv_aload_n S.1 S.2.1 dX6_learn_61 rfl (lv_at hl 0 rfl) ?_
                  refine gf S hk hW 0 rfl rfl hwsX60 3 (by decide) 5 rfl rfl dX6_learn_62 ?_
                  refine lv_iload_n S.1 S.2.1 dX6_learn_65 rfl (lv_at hl 3 rfl) ?_
                  refine ild S hk hW 1 rfl l1 rfl (by omega) (by omega) dX6_learn_66 ?_
                  refine top_eq (Gok_B G (j := l1) (by omega)) ?_
                  have hb66 := Gok_B2 G (j := l1) (by omega)
                  refine lv_iload_n S.1 S.2.1 dX6_learn_67 rfl (lv_at hl 2 rfl) ?_
                  refine lv_icmp_eq (tgt := 201) S.1 S.2.1 dX6_learn_68 (by decide) (fun c_68 => ?_) (fun c_68 => ?_)
                  · skip
                    refine lv_iinc (v := nI (l1 + 1)) (lv' := [(3, .int (nI (l1 + 1))), (0, .ref (q 0)), (1, .int x), (2, .int y)]) (k := 3) S.1 S.2.1 dX6_learn_201 hl rfl (nI_1 _) (by decide) rfl (fun ls hl => ?_)
                    refine lv_goto (tgt := 39) S.1 S.2.1 dX6_learn_204 (by decide) ?_
                    exact ih39 (l1 + 1) f2 (by simp only [p2, okM, in1, mnU, cwM, ← hf2, c_53, eq_false c_58, eq_true c_68, eq_self, Nat.add_zero, decide_false, decide_true, Bool.not_true, Bool.not_false, Bool.and_true, Bool.true_and, Bool.and_false, Bool.false_and, Bool.or_true, Bool.true_or, Bool.or_false, Bool.false_or, ↓reduceIte, cond_true, cond_false, bI, and_true, true_and, and_false, false_and, or_true, true_or, or_false, false_or, not_true_eq_false, not_false_eq_true, if_true, if_false, Bool.false_eq_true, reduceCtorEq, ite_true, ite_false]) (by omega) (by omega) _ _ _ hW (lv_sub hl [1, 2, 3, 0] rfl)
                  · skip
                    refine lv_aload_n S.1 S.2.1 dX6_learn_71 rfl (lv_at hl 0 rfl) ?_
                    refine gf S hk hW 0 rfl rfl hwsX60 4 (by decide) 6 rfl rfl dX6_learn_72 ?_
                    refine lv_iload_n S.1 S.2.1 dX6_learn_75 rfl (lv_at hl 3 rfl) ?_
                    refine ild S hk hW 2 rfl l1 rfl (by omega) (by omega) dX6_learn_76 ?_
                    refine top_eq (Gok_E G (j := l1) (by omega)) ?_
                    have hb76 := Gok_E2 G (j := l1) (by omega)
                    refine lv_iload_n S.1 S.2.1 dX6_learn_77 rfl (lv_at hl 2 rfl) ?_
                    refine lv_icmp_eq (tgt := 201) S.1 S.2.1 dX6_learn_78 (by decide) (fun c_78 => ?_) (fun c_78 => ?_)
                    · skip
                      refine lv_iinc (v := nI (l1 + 1)) (lv' := [(3, .int (nI (l1 + 1))), (0, .ref (q 0)), (1, .int x), (2, .int y)]) (k := 3) S.1 S.2.1 dX6_learn_201 hl rfl (nI_1 _) (by decide) rfl (fun ls hl => ?_)
                      refine lv_goto (tgt := 39) S.1 S.2.1 dX6_learn_204 (by decide) ?_
                      exact ih39 (l1 + 1) f2 (by simp only [p2, okM, in1, mnU, cwM, ← hf2, c_53, eq_false c_58, eq_false c_68, eq_true c_78, eq_self, Nat.add_zero, decide_false, decide_true, Bool.not_true, Bool.not_false, Bool.and_true, Bool.true_and, Bool.and_false, Bool.false_and, Bool.or_true, Bool.true_or, Bool.or_false, Bool.false_or, ↓reduceIte, cond_true, cond_false, bI, and_true, true_and, and_false, false_and, or_true, true_or, or_false, false_or, not_true_eq_false, not_false_eq_true, if_true, if_false, Bool.false_eq_true, reduceCtorEq, ite_true, ite_false]) (by omega) (by omega) _ _ _ hW (lv_sub hl [1, 2, 3, 0] rfl)
                    · skip
                      refine lv_bipush (v := nI 64) S.1 S.2.1 dX6_learn_81 (by decide) ?_
                      refine lv_aload_n S.1 S.2.1 dX6_learn_83 rfl (lv_at hl 0 rfl) ?_
                      refine gf S hk hW 0 rfl rfl hwsX60 5 (by decide) 7 rfl rfl dX6_learn_84 ?_
                      refine lv_iload_n S.1 S.2.1 dX6_learn_87 rfl (lv_at hl 3 rfl) ?_
                      refine ild S hk hW 3 rfl l1 rfl (by omega) (by omega) dX6_learn_88 ?_
                      refine lv_imul S.1 S.2.1 dX6_learn_89 ?_
                      refine lv_iconst (v := nI 1) S.1 S.2.1 dX6_learn_90 (by decide) ?_
                      refine lv_iadd S.1 S.2.1 dX6_learn_91 ?_
                      refine lv_istore (lv' := [(4, .int (((nI 64) * (gP g l1)) + (nI 1))), (0, .ref (q 0)), (1, .int x), (2, .int y), (3, .int (nI l1))]) S.1 S.2.1 dX6_learn_92 hl (by decide) rfl (fun ls hl => ?_)
                      refine lv_bipush (v := nI 10) S.1 S.2.1 dX6_learn_94 (by decide) ?_
                      refine lv_aload_n S.1 S.2.1 dX6_learn_96 rfl (lv_at hl 1 rfl) ?_
                      refine gf S hk hW 0 rfl rfl hwsX60 3 (by decide) 5 rfl rfl dX6_learn_97 ?_
                      refine lv_iload_n S.1 S.2.1 dX6_learn_100 rfl (lv_at hl 4 rfl) ?_
                      refine ild S hk hW 1 rfl l1 rfl (by omega) (by omega) dX6_learn_101 ?_
                      refine top_eq (Gok_B G (j := l1) (by omega)) ?_
                      have hb101 := Gok_B2 G (j := l1) (by omega)
                      refine lv_imul S.1 S.2.1 dX6_learn_102 (top_eq (pk_mul _ _) ?_)
                      refine lv_aload_n S.1 S.2.1 dX6_learn_103 rfl (lv_at hl 1 rfl) ?_
                      refine gf S hk hW 0 rfl rfl hwsX60 4 (by decide) 6 rfl rfl dX6_learn_104 ?_
                      refine lv_iload_n S.1 S.2.1 dX6_learn_107 rfl (lv_at hl 4 rfl) ?_
                      refine ild S hk hW 2 rfl l1 rfl (by omega) (by omega) dX6_learn_108 ?_
                      refine top_eq (Gok_E G (j := l1) (by omega)) ?_
                      have hb108 := Gok_E2 G (j := l1) (by omega)
                      refine lv_iadd S.1 S.2.1 dX6_learn_109 (top_eq (nI_add _ _) ?_)
                      refine lv_istore (lv' := [(5, .int (nI ((10 * (e1 g l1)) + (e2 g l1)))), (4, .int (((nI 64) * (gP g l1)) + (nI 1))), (0, .ref (q 0)), (1, .int x), (2, .int y), (3, .int (nI l1))]) S.1 S.2.1 dX6_learn_110 hl (by decide) rfl (fun ls hl => ?_)
                      refine lv_aload_n S.1 S.2.1 dX6_learn_112 rfl (lv_at hl 2 rfl) ?_
                      refine gf S hk hW 0 rfl rfl hwsX60 8 (by decide) 1 rfl rfl dX6_learn_113 ?_
                      refine lv_iload S.1 S.2.1 dX6_learn_116 (lv_at hl 0 rfl) ?_
                      refine lv_iload S.1 S.2.1 dX6_learn_118 (lv_at hl 1 rfl) ?_
                      refine lv_aload_n S.1 S.2.1 dX6_learn_120 rfl (lv_at hl 2 rfl) ?_
                      refine gf S hk hW 0 rfl rfl hwsX60 8 (by decide) 1 rfl rfl dX6_learn_121 ?_
                      refine lv_iload S.1 S.2.1 dX6_learn_124 (lv_at hl 0 rfl) ?_
                      refine ild S hk hW 6 rfl ((10 * (e1 g l1)) + (e2 g l1)) rfl (by omega) (by omega) dX6_learn_126 ?_
                      refine lv_icmp_ge (tgt := 135) S.1 S.2.1 dX6_learn_127 (by decide) (fun c_127 => ?_) (fun c_127 => ?_)
                      · skip
                        refine lv_aload_n S.1 S.2.1 dX6_learn_135 rfl (lv_at hl 2 rfl) ?_
                        refine gf S hk hW 0 rfl rfl hwsX60 8 (by decide) 1 rfl rfl dX6_learn_136 ?_
                        refine lv_iload S.1 S.2.1 dX6_learn_139 (lv_at hl 0 rfl) ?_
                        refine ild S hk hW 6 rfl ((10 * (e1 g l1)) + (e2 g l1)) rfl (by omega) (by omega) dX6_learn_141 ?_
                        refine ist (w' := wM q cI cZ cF g (upd f2 ((10 * (e1 g l1)) + (e2 g l1)) (f2 ((10 * (e1 g l1)) + (e2 g l1)))) ke ac mk iv) S hk hW 6 rfl ((10 * (e1 g l1)) + (e2 g l1)) rfl (by omega) (by omega) dX6_learn_142 rfl (fun H locs hW => ?_)
                        refine lv_bipush (v := nI 10) S.1 S.2.1 dX6_learn_143 (by decide) ?_
                        refine lv_aload_n S.1 S.2.1 dX6_learn_145 rfl (lv_at hl 2 rfl) ?_
                        refine gf S hk hW 0 rfl rfl hwsX60 4 (by decide) 6 rfl rfl dX6_learn_146 ?_
                        refine lv_iload_n S.1 S.2.1 dX6_learn_149 rfl (lv_at hl 5 rfl) ?_
                        refine ild S hk hW 2 rfl l1 rfl (by omega) (by omega) dX6_learn_150 ?_
                        refine top_eq (Gok_E G (j := l1) (by omega)) ?_
                        have hb150 := Gok_E2 G (j := l1) (by omega)
                        refine lv_imul S.1 S.2.1 dX6_learn_151 (top_eq (pk_mul _ _) ?_)
                        refine lv_aload_n S.1 S.2.1 dX6_learn_152 rfl (lv_at hl 2 rfl) ?_
                        refine gf S hk hW 0 rfl rfl hwsX60 3 (by decide) 5 rfl rfl dX6_learn_153 ?_
                        refine lv_iload_n S.1 S.2.1 dX6_learn_156 rfl (lv_at hl 5 rfl) ?_
                        refine ild S hk hW 1 rfl l1 rfl (by omega) (by omega) dX6_learn_157 ?_
                        refine top_eq (Gok_B G (j := l1) (by omega)) ?_
                        have hb157 := Gok_B2 G (j := l1) (by omega)
                        refine lv_iadd S.1 S.2.1 dX6_learn_158 (top_eq (nI_add _ _) ?_)
                        refine lv_istore (lv' := [(5, .int (nI ((10 * (e2 g l1)) + (e1 g l1)))), (4, .int (((nI 64) * (gP g l1)) + (nI 1))), (0, .ref (q 0)), (1, .int x), (2, .int y), (3, .int (nI l1))]) S.1 S.2.1 dX6_learn_159 hl (by decide) rfl (fun ls hl => ?_)
                        refine lv_aload_n S.1 S.2.1 dX6_learn_161 rfl (lv_at hl 2 rfl) ?_
                        refine gf S hk hW 0 rfl rfl hwsX60 8 (by decide) 1 rfl rfl dX6_learn_162 ?_
                        refine lv_iload S.1 S.2.1 dX6_learn_165 (lv_at hl 0 rfl) ?_
                        refine lv_aload_n S.1 S.2.1 dX6_learn_167 rfl (lv_at hl 2 rfl) ?_
                        refine gf S hk hW 0 rfl rfl hwsX60 6 (by decide) 8 rfl rfl dX6_learn_168 ?_
                        refine lv_iload_n S.1 S.2.1 dX6_learn_171 rfl (lv_at hl 5 rfl) ?_
                        refine zld S hk hW 4 rfl l1 rfl (by omega) (by omega) dX6_learn_172 ?_
                        refine top_eq (Gok_W G (j := l1) (by omega)) ?_
                        refine ifeq_b (tgt := 193) S dX6_learn_173 (by decide) (fun c_173 => ?_) (fun c_173 => ?_)
                        · skip
                          refine lv_aload_n S.1 S.2.1 dX6_learn_193 rfl (lv_at hl 2 rfl) ?_
                          refine gf S hk hW 0 rfl rfl hwsX60 8 (by decide) 1 rfl rfl dX6_learn_194 ?_
                          refine lv_iload S.1 S.2.1 dX6_learn_197 (lv_at hl 0 rfl) ?_
                          refine ild S hk hW 6 rfl ((10 * (e2 g l1)) + (e1 g l1)) rfl (by omega) (by omega) dX6_learn_199 ?_
                          refine ist (w' := wM q cI cZ cF g (upd (upd f2 ((10 * (e1 g l1)) + (e2 g l1)) (f2 ((10 * (e1 g l1)) + (e2 g l1)))) ((10 * (e2 g l1)) + (e1 g l1)) ((upd f2 ((10 * (e1 g l1)) + (e2 g l1)) (f2 ((10 * (e1 g l1)) + (e2 g l1)))) ((10 * (e2 g l1)) + (e1 g l1)))) ke ac mk iv) S hk hW 6 rfl ((10 * (e2 g l1)) + (e1 g l1)) rfl (by omega) (by omega) dX6_learn_200 rfl (fun H locs hW => ?_)
                          refine lv_iinc (v := nI (l1 + 1)) (lv' := [(3, .int (nI (l1 + 1))), (5, .int (nI ((10 * (e2 g l1)) + (e1 g l1)))), (4, .int (((nI 64) * (gP g l1)) + (nI 1))), (0, .ref (q 0)), (1, .int x), (2, .int y)]) (k := 5) S.1 S.2.1 dX6_learn_201 hl rfl (nI_1 _) (by decide) rfl (fun ls hl => ?_)
                          refine lv_goto (tgt := 39) S.1 S.2.1 dX6_learn_204 (by decide) ?_
                          exact ih39 (l1 + 1) (upd (upd f2 ((10 * (e1 g l1)) + (e2 g l1)) (f2 ((10 * (e1 g l1)) + (e2 g l1)))) ((10 * (e2 g l1)) + (e1 g l1)) ((upd f2 ((10 * (e1 g l1)) + (e2 g l1)) (f2 ((10 * (e1 g l1)) + (e2 g l1)))) ((10 * (e2 g l1)) + (e1 g l1)))) (by simp only [p2, okM, in1, mnU, cwM, ← hf2, c_53, eq_false c_58, eq_false c_68, eq_false c_78, eq_true c_127, c_173, eq_self, Nat.add_zero, decide_false, decide_true, Bool.not_true, Bool.not_false, Bool.and_true, Bool.true_and, Bool.and_false, Bool.false_and, Bool.or_true, Bool.true_or, Bool.or_false, Bool.false_or, ↓reduceIte, cond_true, cond_false, bI, and_true, true_and, and_false, false_and, or_true, true_or, or_false, false_or, not_true_eq_false, not_false_eq_true, if_true, if_false, Bool.false_eq_true, reduceCtorEq, ite_true, ite_false]) (by omega) (by omega) _ _ _ hW (lv_sub hl [3, 4, 5, 0] rfl)
                        · skip
                          refine lv_iload S.1 S.2.1 dX6_learn_176 (lv_at hl 1 rfl) ?_
                          refine lv_aload_n S.1 S.2.1 dX6_learn_178 rfl (lv_at hl 2 rfl) ?_
                          refine gf S hk hW 0 rfl rfl hwsX60 8 (by decide) 1 rfl rfl dX6_learn_179 ?_
                          refine lv_iload S.1 S.2.1 dX6_learn_182 (lv_at hl 0 rfl) ?_
                          refine ild S hk hW 6 rfl ((10 * (e2 g l1)) + (e1 g l1)) rfl (by omega) (by omega) dX6_learn_184 ?_
                          refine lv_icmp_ge (tgt := 193) S.1 S.2.1 dX6_learn_185 (by decide) (fun c_185 => ?_) (fun c_185 => ?_)
                          · skip
                            refine lv_aload_n S.1 S.2.1 dX6_learn_193 rfl (lv_at hl 2 rfl) ?_
                            refine gf S hk hW 0 rfl rfl hwsX60 8 (by decide) 1 rfl rfl dX6_learn_194 ?_
                            refine lv_iload S.1 S.2.1 dX6_learn_197 (lv_at hl 0 rfl) ?_
                            refine ild S hk hW 6 rfl ((10 * (e2 g l1)) + (e1 g l1)) rfl (by omega) (by omega) dX6_learn_199 ?_
                            refine ist (w' := wM q cI cZ cF g (upd (upd f2 ((10 * (e1 g l1)) + (e2 g l1)) (f2 ((10 * (e1 g l1)) + (e2 g l1)))) ((10 * (e2 g l1)) + (e1 g l1)) ((upd f2 ((10 * (e1 g l1)) + (e2 g l1)) (f2 ((10 * (e1 g l1)) + (e2 g l1)))) ((10 * (e2 g l1)) + (e1 g l1)))) ke ac mk iv) S hk hW 6 rfl ((10 * (e2 g l1)) + (e1 g l1)) rfl (by omega) (by omega) dX6_learn_200 rfl (fun H locs hW => ?_)
                            refine lv_iinc (v := nI (l1 + 1)) (lv' := [(3, .int (nI (l1 + 1))), (5, .int (nI ((10 * (e2 g l1)) + (e1 g l1)))), (4, .int (((nI 64) * (gP g l1)) + (nI 1))), (0, .ref (q 0)), (1, .int x), (2, .int y)]) (k := 5) S.1 S.2.1 dX6_learn_201 hl rfl (nI_1 _) (by decide) rfl (fun ls hl => ?_)
                            refine lv_goto (tgt := 39) S.1 S.2.1 dX6_learn_204 (by decide) ?_
                            exact ih39 (l1 + 1) (upd (upd f2 ((10 * (e1 g l1)) + (e2 g l1)) (f2 ((10 * (e1 g l1)) + (e2 g l1)))) ((10 * (e2 g l1)) + (e1 g l1)) ((upd f2 ((10 * (e1 g l1)) + (e2 g l1)) (f2 ((10 * (e1 g l1)) + (e2 g l1)))) ((10 * (e2 g l1)) + (e1 g l1)))) (by simp only [p2, okM, in1, mnU, cwM, ← hf2, c_53, eq_false c_58, eq_false c_68, eq_false c_78, eq_true c_127, c_173, eq_true c_185, eq_self, Nat.add_zero, decide_false, decide_true, Bool.not_true, Bool.not_false, Bool.and_true, Bool.true_and, Bool.and_false, Bool.false_and, Bool.or_true, Bool.true_or, Bool.or_false, Bool.false_or, ↓reduceIte, cond_true, cond_false, bI, and_true, true_and, and_false, false_and, or_true, true_or, or_false, false_or, not_true_eq_false, not_false_eq_true, if_true, if_false, Bool.false_eq_true, reduceCtorEq, ite_true, ite_false]) (by omega) (by omega) _ _ _ hW (lv_sub hl [3, 4, 5, 0] rfl)
                          · skip
                            refine lv_iload S.1 S.2.1 dX6_learn_188 (lv_at hl 1 rfl) ?_
                            refine lv_goto (tgt := 200) S.1 S.2.1 dX6_learn_190 (by decide) ?_
                            refine ist (w' := wM q cI cZ cF g (upd (upd f2 ((10 * (e1 g l1)) + (e2 g l1)) (f2 ((10 * (e1 g l1)) + (e2 g l1)))) ((10 * (e2 g l1)) + (e1 g l1)) (((nI 64) * (gP g l1)) + (nI 1))) ke ac mk iv) S hk hW 6 rfl ((10 * (e2 g l1)) + (e1 g l1)) rfl (by omega) (by omega) dX6_learn_200 rfl (fun H locs hW => ?_)
                            refine lv_iinc (v := nI (l1 + 1)) (lv' := [(3, .int (nI (l1 + 1))), (5, .int (nI ((10 * (e2 g l1)) + (e1 g l1)))), (4, .int (((nI 64) * (gP g l1)) + (nI 1))), (0, .ref (q 0)), (1, .int x), (2, .int y)]) (k := 5) S.1 S.2.1 dX6_learn_201 hl rfl (nI_1 _) (by decide) rfl (fun ls hl => ?_)
                            refine lv_goto (tgt := 39) S.1 S.2.1 dX6_learn_204 (by decide) ?_
                            exact ih39 (l1 + 1) (upd (upd f2 ((10 * (e1 g l1)) + (e2 g l1)) (f2 ((10 * (e1 g l1)) + (e2 g l1)))) ((10 * (e2 g l1)) + (e1 g l1)) (((nI 64) * (gP g l1)) + (nI 1))) (by simp only [p2, okM, in1, mnU, cwM, ← hf2, c_53, eq_false c_58, eq_false c_68, eq_false c_78, eq_true c_127, c_173, eq_false c_185, eq_self, Nat.add_zero, decide_false, decide_true, Bool.not_true, Bool.not_false, Bool.and_true, Bool.true_and, Bool.and_false, Bool.false_and, Bool.or_true, Bool.true_or, Bool.or_false, Bool.false_or, ↓reduceIte, cond_true, cond_false, bI, and_true, true_and, and_false, false_and, or_true, true_or, or_false, false_or, not_true_eq_false, not_false_eq_true, if_true, if_false, Bool.false_eq_true, reduceCtorEq, ite_true, ite_false]) (by omega) (by omega) _ _ _ hW (lv_sub hl [3, 4, 5, 0] rfl)
                      · skip
                        refine lv_iload S.1 S.2.1 dX6_learn_130 (lv_at hl 1 rfl) ?_
                        refine lv_goto (tgt := 142) S.1 S.2.1 dX6_learn_132 (by decide) ?_
                        refine ist (w' := wM q cI cZ cF g (upd f2 ((10 * (e1 g l1)) + (e2 g l1)) (((nI 64) * (gP g l1)) + (nI 1))) ke ac mk iv) S hk hW 6 rfl ((10 * (e1 g l1)) + (e2 g l1)) rfl (by omega) (by omega) dX6_learn_142 rfl (fun H locs hW => ?_)
                        refine lv_bipush (v := nI 10) S.1 S.2.1 dX6_learn_143 (by decide) ?_
                        refine lv_aload_n S.1 S.2.1 dX6_learn_145 rfl (lv_at hl 2 rfl) ?_
                        refine gf S hk hW 0 rfl rfl hwsX60 4 (by decide) 6 rfl rfl dX6_learn_146 ?_
                        refine lv_iload_n S.1 S.2.1 dX6_learn_149 rfl (lv_at hl 5 rfl) ?_
                        refine ild S hk hW 2 rfl l1 rfl (by omega) (by omega) dX6_learn_150 ?_
                        refine top_eq (Gok_E G (j := l1) (by omega)) ?_
                        have hb150 := Gok_E2 G (j := l1) (by omega)
                        refine lv_imul S.1 S.2.1 dX6_learn_151 (top_eq (pk_mul _ _) ?_)
                        refine lv_aload_n S.1 S.2.1 dX6_learn_152 rfl (lv_at hl 2 rfl) ?_
                        refine gf S hk hW 0 rfl rfl hwsX60 3 (by decide) 5 rfl rfl dX6_learn_153 ?_
                        refine lv_iload_n S.1 S.2.1 dX6_learn_156 rfl (lv_at hl 5 rfl) ?_
                        refine ild S hk hW 1 rfl l1 rfl (by omega) (by omega) dX6_learn_157 ?_
                        refine top_eq (Gok_B G (j := l1) (by omega)) ?_
                        have hb157 := Gok_B2 G (j := l1) (by omega)
                        refine lv_iadd S.1 S.2.1 dX6_learn_158 (top_eq (nI_add _ _) ?_)
                        refine lv_istore (lv' := [(5, .int (nI ((10 * (e2 g l1)) + (e1 g l1)))), (4, .int (((nI 64) * (gP g l1)) + (nI 1))), (0, .ref (q 0)), (1, .int x), (2, .int y), (3, .int (nI l1))]) S.1 S.2.1 dX6_learn_159 hl (by decide) rfl (fun ls hl => ?_)
                        refine lv_aload_n S.1 S.2.1 dX6_learn_161 rfl (lv_at hl 2 rfl) ?_
                        refine gf S hk hW 0 rfl rfl hwsX60 8 (by decide) 1 rfl rfl dX6_learn_162 ?_
                        refine lv_iload S.1 S.2.1 dX6_learn_165 (lv_at hl 0 rfl) ?_
                        refine lv_aload_n S.1 S.2.1 dX6_learn_167 rfl (lv_at hl 2 rfl) ?_
                        refine gf S hk hW 0 rfl rfl hwsX60 6 (by decide) 8 rfl rfl dX6_learn_168 ?_
                        refine lv_iload_n S.1 S.2.1 dX6_learn_171 rfl (lv_at hl 5 rfl) ?_
                        refine zld S hk hW 4 rfl l1 rfl (by omega) (by omega) dX6_learn_172 ?_
                        refine top_eq (Gok_W G (j := l1) (by omega)) ?_
                        refine ifeq_b (tgt := 193) S dX6_learn_173 (by decide) (fun c_173 => ?_) (fun c_173 => ?_)
                        · skip
                          refine lv_aload_n S.1 S.2.1 dX6_learn_193 rfl (lv_at hl 2 rfl) ?_
                          refine gf S hk hW 0 rfl rfl hwsX60 8 (by decide) 1 rfl rfl dX6_learn_194 ?_
                          refine lv_iload S.1 S.2.1 dX6_learn_197 (lv_at hl 0 rfl) ?_
                          refine ild S hk hW 6 rfl ((10 * (e2 g l1)) + (e1 g l1)) rfl (by omega) (by omega) dX6_learn_199 ?_
                          refine ist (w' := wM q cI cZ cF g (upd (upd f2 ((10 * (e1 g l1)) + (e2 g l1)) (((nI 64) * (gP g l1)) + (nI 1))) ((10 * (e2 g l1)) + (e1 g l1)) ((upd f2 ((10 * (e1 g l1)) + (e2 g l1)) (((nI 64) * (gP g l1)) + (nI 1))) ((10 * (e2 g l1)) + (e1 g l1)))) ke ac mk iv) S hk hW 6 rfl ((10 * (e2 g l1)) + (e1 g l1)) rfl (by omega) (by omega) dX6_learn_200 rfl (fun H locs hW => ?_)
                          refine lv_iinc (v := nI (l1 + 1)) (lv' := [(3, .int (nI (l1 + 1))), (5, .int (nI ((10 * (e2 g l1)) + (e1 g l1)))), (4, .int (((nI 64) * (gP g l1)) + (nI 1))), (0, .ref (q 0)), (1, .int x), (2, .int y)]) (k := 5) S.1 S.2.1 dX6_learn_201 hl rfl (nI_1 _) (by decide) rfl (fun ls hl => ?_)
                          refine lv_goto (tgt := 39) S.1 S.2.1 dX6_learn_204 (by decide) ?_
                          exact ih39 (l1 + 1) (upd (upd f2 ((10 * (e1 g l1)) + (e2 g l1)) (((nI 64) * (gP g l1)) + (nI 1))) ((10 * (e2 g l1)) + (e1 g l1)) ((upd f2 ((10 * (e1 g l1)) + (e2 g l1)) (((nI 64) * (gP g l1)) + (nI 1))) ((10 * (e2 g l1)) + (e1 g l1)))) (by simp only [p2, okM, in1, mnU, cwM, ← hf2, c_53, eq_false c_58, eq_false c_68, eq_false c_78, eq_false c_127, c_173, eq_self, Nat.add_zero, decide_false, decide_true, Bool.not_true, Bool.not_false, Bool.and_true, Bool.true_and, Bool.and_false, Bool.false_and, Bool.or_true, Bool.true_or, Bool.or_false, Bool.false_or, ↓reduceIte, cond_true, cond_false, bI, and_true, true_and, and_false, false_and, or_true, true_or, or_false, false_or, not_true_eq_false, not_false_eq_true, if_true, if_false, Bool.false_eq_true, reduceCtorEq, ite_true, ite_false]) (by omega) (by omega) _ _ _ hW (lv_sub hl [3, 4, 5, 0] rfl)
                        · skip
                          refine lv_iload S.1 S.2.1 dX6_learn_176 (lv_at hl 1 rfl) ?_
                          refine lv_aload_n S.1 S.2.1 dX6_learn_178 rfl (lv_at hl 2 rfl) ?_
                          refine gf S hk hW 0 rfl rfl hwsX60 8 (by decide) 1 rfl rfl dX6_learn_179 ?_
                          refine lv_iload S.1 S.2.1 dX6_learn_182 (lv_at hl 0 rfl) ?_
                          refine ild S hk hW 6 rfl ((10 * (e2 g l1)) + (e1 g l1)) rfl (by omega) (by omega) dX6_learn_184 ?_
                          refine lv_icmp_ge (tgt := 193) S.1 S.2.1 dX6_learn_185 (by decide) (fun c_185 => ?_) (fun c_185 => ?_)
                          · skip
                            refine lv_aload_n S.1 S.2.1 dX6_learn_193 rfl (lv_at hl 2 rfl) ?_
                            refine gf S hk hW 0 rfl rfl hwsX60 8 (by decide) 1 rfl rfl dX6_learn_194 ?_
                            refine lv_iload S.1 S.2.1 dX6_learn_197 (lv_at hl 0 rfl) ?_
                            refine ild S hk hW 6 rfl ((10 * (e2 g l1)) + (e1 g l1)) rfl (by omega) (by omega) dX6_learn_199 ?_
                            refine ist (w' := wM q cI cZ cF g (upd (upd f2 ((10 * (e1 g l1)) + (e2 g l1)) (((nI 64) * (gP g l1)) + (nI 1))) ((10 * (e2 g l1)) + (e1 g l1)) ((upd f2 ((10 * (e1 g l1)) + (e2 g l1)) (((nI 64) * (gP g l1)) + (nI 1))) ((10 * (e2 g l1)) + (e1 g l1)))) ke ac mk iv) S hk hW 6 rfl ((10 * (e2 g l1)) + (e1 g l1)) rfl (by omega) (by omega) dX6_learn_200 rfl (fun H locs hW => ?_)
                            refine lv_iinc (v := nI (l1 + 1)) (lv' := [(3, .int (nI (l1 + 1))), (5, .int (nI ((10 * (e2 g l1)) + (e1 g l1)))), (4, .int (((nI 64) * (gP g l1)) + (nI 1))), (0, .ref (q 0)), (1, .int x), (2, .int y)]) (k := 5) S.1 S.2.1 dX6_learn_201 hl rfl (nI_1 _) (by decide) rfl (fun ls hl => ?_)
                            refine lv_goto (tgt := 39) S.1 S.2.1 dX6_learn_204 (by decide) ?_
                            exact ih39 (l1 + 1) (upd (upd f2 ((10 * (e1 g l1)) + (e2 g l1)) (((nI 64) * (gP g l1)) + (nI 1))) ((10 * (e2 g l1)) + (e1 g l1)) ((upd f2 ((10 * (e1 g l1)) + (e2 g l1)) (((nI 64) * (gP g l1)) + (nI 1))) ((10 * (e2 g l1)) + (e1 g l1)))) (by simp only [p2, okM, in1, mnU, cwM, ← hf2, c_53, eq_false c_58, eq_false c_68, eq_false c_78, eq_false c_127, c_173, eq_true c_185, eq_self, Nat.add_zero, decide_false, decide_true, Bool.not_true, Bool.not_false, Bool.and_true, Bool.true_and, Bool.and_false, Bool.false_and, Bool.or_true, Bool.true_or, Bool.or_false, Bool.false_or, ↓reduceIte, cond_true, cond_false, bI, and_true, true_and, and_false, false_and, or_true, true_or, or_false, false_or, not_true_eq_false, not_false_eq_true, if_true, if_false, Bool.false_eq_true, reduceCtorEq, ite_true, ite_false]) (by omega) (by omega) _ _ _ hW (lv_sub hl [3, 4, 5, 0] rfl)
                          · skip
                            refine lv_iload S.1 S.2.1 dX6_learn_188 (lv_at hl 1 rfl) ?_
                            refine lv_goto (tgt := 200) S.1 S.2.1 dX6_learn_190 (by decide) ?_
                            refine ist (w' := wM q cI cZ cF g (upd (upd f2 ((10 * (e1 g l1)) + (e2 g l1)) (((nI 64) * (gP g l1)) + (nI 1))) ((10 * (e2 g l1)) + (e1 g l1)) (((nI 64) * (gP g l1)) + (nI 1))) ke ac mk iv) S hk hW 6 rfl ((10 * (e2 g l1)) + (e1 g l1)) rfl (by omega) (by omega) dX6_learn_200 rfl (fun H locs hW => ?_)
                            refine lv_iinc (v := nI (l1 + 1)) (lv' := [(3, .int (nI (l1 + 1))), (5, .int (nI ((10 * (e2 g l1)) + (e1 g l1)))), (4, .int (((nI 64) * (gP g l1)) + (nI 1))), (0, .ref (q 0)), (1, .int x), (2, .int y)]) (k := 5) S.1 S.2.1 dX6_learn_201 hl rfl (nI_1 _) (by decide) rfl (fun ls hl => ?_)
                            refine lv_goto (tgt := 39) S.1 S.2.1 dX6_learn_204 (by decide) ?_
                            exact ih39 (l1 + 1) (upd (upd f2 ((10 * (e1 g l1)) + (e2 g l1)) (((nI 64) * (gP g l1)) + (nI 1))) ((10 * (e2 g l1)) + (e1 g l1)) (((nI 64) * (gP g l1)) + (nI 1))) (by simp only [p2, okM, in1, mnU, cwM, ← hf2, c_53, eq_false c_58, eq_false c_68, eq_false c_78, eq_false c_127, c_173, eq_false c_185, eq_self, Nat.add_zero, decide_false, decide_true, Bool.not_true, Bool.not_false, Bool.and_true, Bool.true_and, Bool.and_false, Bool.false_and, Bool.or_true, Bool.true_or, Bool.or_false, Bool.false_or, ↓reduceIte, cond_true, cond_false, bI, and_true, true_and, and_false, false_and, or_true, true_or, or_false, false_or, not_true_eq_false, not_false_eq_true, if_true, if_false, Bool.false_eq_true, reduceCtorEq, ite_true, ite_false]) (by omega) (by omega) _ _ _ hW (lv_sub hl [3, 4, 5, 0] rfl)
        exact L39 ((gK g) + 1) 0 fi0 rfl (by omega) (by omega) _ _ _ hW (lv_sub hl [1, 2, 3, 0] rfl)
      · skip
        refine lv_aload_n S.1 S.2.1 dX6_learn_8 rfl (lv_at hl 0 rfl) ?_
        refine gf S hk hW 0 rfl rfl hwsX60 8 (by decide) 1 rfl rfl dX6_learn_9 ?_
        refine lv_iload_n S.1 S.2.1 dX6_learn_12 rfl (lv_at hl 3 rfl) ?_
        refine lv_iload_n S.1 S.2.1 dX6_learn_13 rfl (lv_at hl 3 rfl) ?_
        refine lv_bipush (v := nI 10) S.1 S.2.1 dX6_learn_14 (by decide) ?_
        refine lv_idiv S.1 S.2.1 dX6_learn_16 (by decide) (top_eq (pk_div (by omega) (by omega) (by omega)) ?_)
        refine lv_iload_n S.1 S.2.1 dX6_learn_17 rfl (lv_at hl 3 rfl) ?_
        refine lv_bipush (v := nI 10) S.1 S.2.1 dX6_learn_18 (by decide) ?_
        refine lv_irem S.1 S.2.1 dX6_learn_20 (by decide) (top_eq (pk_rem (by omega) (by omega) (by omega)) ?_)
        refine icne_n (tgt := 28) S (by omega) (by omega) dX6_learn_21 (by decide) (fun c_21 => ?_) (fun c_21 => ?_)
        · skip
          refine lv_ldc (v := nI 10000000) S.1 S.2.1 S.2.2.2.1 (S.2.2.2.2 _ (List.mem_of_getElem? (i := 2) rfl)) dX6_learn_28 ?_
          refine ist (w' := wM q cI cZ cF g (upd f1 k (nI 10000000)) ke ac mk iv) S hk hW 6 rfl k rfl (by omega) (by omega) dX6_learn_30 rfl (fun H locs hW => ?_)
          refine lv_iinc (v := nI (k + 1)) (lv' := [(3, .int (nI (k + 1))), (0, .ref (q 0)), (1, .int x), (2, .int y)]) (k := 3) S.1 S.2.1 dX6_learn_31 hl rfl (nI_1 _) (by decide) rfl (fun ls hl => ?_)
          refine lv_goto (tgt := 2) S.1 S.2.1 dX6_learn_34 (by decide) ?_
          exact ih2 (k + 1) (upd f1 k (nI 10000000)) (fi0_step hf1 (by simp only [fi0, eq_false c_21, eq_self, Nat.add_zero, decide_false, decide_true, Bool.not_true, Bool.not_false, Bool.and_true, Bool.true_and, Bool.and_false, Bool.false_and, Bool.or_true, Bool.true_or, Bool.or_false, Bool.false_or, ↓reduceIte, cond_true, cond_false, bI, and_true, true_and, and_false, false_and, or_true, true_or, or_false, false_or, not_true_eq_false, not_false_eq_true, if_true, if_false, Bool.false_eq_true, reduceCtorEq, ite_true, ite_false])) (by omega) (by omega) _ _ _ hW (lv_sub hl [1, 2, 3, 0] rfl)
        · skip
          refine lv_iconst (v := nI 0) S.1 S.2.1 dX6_learn_24 (by decide) ?_
          refine lv_goto (tgt := 30) S.1 S.2.1 dX6_learn_25 (by decide) ?_
          refine ist (w' := wM q cI cZ cF g (upd f1 k (nI 0)) ke ac mk iv) S hk hW 6 rfl k rfl (by omega) (by omega) dX6_learn_30 rfl (fun H locs hW => ?_)
          refine lv_iinc (v := nI (k + 1)) (lv' := [(3, .int (nI (k + 1))), (0, .ref (q 0)), (1, .int x), (2, .int y)]) (k := 3) S.1 S.2.1 dX6_learn_31 hl rfl (nI_1 _) (by decide) rfl (fun ls hl => ?_)
          refine lv_goto (tgt := 2) S.1 S.2.1 dX6_learn_34 (by decide) ?_
          exact ih2 (k + 1) (upd f1 k (nI 0)) (fi0_step hf1 (by simp only [fi0, eq_true c_21, eq_self, Nat.add_zero, decide_false, decide_true, Bool.not_true, Bool.not_false, Bool.and_true, Bool.true_and, Bool.and_false, Bool.false_and, Bool.or_true, Bool.true_or, Bool.or_false, Bool.false_or, ↓reduceIte, cond_true, cond_false, bI, and_true, true_and, and_false, false_and, or_true, true_or, or_false, false_or, not_true_eq_false, not_false_eq_true, if_true, if_false, Bool.false_eq_true, reduceCtorEq, ite_true, ite_false])) (by omega) (by omega) _ _ _ hW (lv_sub hl [1, 2, 3, 0] rfl)
  exact L2 (100 + 1) 0 fi (fun i hi => absurd hi (Nat.not_lt_zero i)) (by omega) (by omega) _ _ _ hW (lv_sub hl [1, 2, 3, 0] rfl)
