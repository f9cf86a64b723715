theorem hs_fin {i2 h : Bool} {P : Nat → Bool} {p n : Nat} (hi : i2 = (h && allN P p)) (h0 : i2 = false) (hp : p ≤ n) : i2 = (h && allN P n) := by
  rw [h0]
  rw [h0] at hi
  cases h
  · rfl
  · have h1 : allN P p = false := by simpa using hi.symm
    have h2 := allN_mono h1 (n - p)
    rw [show p + (n - p) = n by omega] at h2
    rw [h2]
    rfl
abbrev r_X6_hits : Room := { frames := 1, cells := 0, slots := 0, locals := 27 }
theorem v_X6_hits : yX6_hits.cls ≠ "java/lang/invoke/MethodHandle" ∧ yX6_hits.cls ≠ "java/lang/invoke/VarHandle" ∧ (parseMethodDescriptor yX6_hits.desc).map (fun d => d.parameters.length) = some 1 := by decide +kernel
set_option maxRecDepth 100000 in
set_option maxHeartbeats 4000000 in
theorem c_X6_hits {l : Launch} {D : va_G} {cI cZ cF : ClassId} {q : Nat → Nat} {g : Gr} {fi ke : Nat → Int32} {ac : Nat} {mk : Int32} {iv : Nat → Int32} {x : Int32} (G : Gok g) (hNx : Nxt g (lrn g (-1000) (-1000)).1) : cI_ l D cI cZ cF yX6_hits wsX6_hits r_X6_hits [.ref (q 0), .int x] (wM q cI cZ cF g fi ke ac mk iv) (fun r u => r = hitM g iv x ∧ ∃ fi', ∃ iv', u = wM q cI cZ cF g fi' ke ac mk iv') 0 0 := by
  refine cI_of (cc := cX6_hits) (maxL := 9) (rt := .int) (plainFor_of_name (by decide +kernel)) rfl (Nat.le_of_ble_eq_true rfl) ?_
  intro p e s m args below meth c A Q ls S hk hW hl hR
  have hl : lv_has ls 9 [(0, .ref (q 0)), (1, .int x)] := hl
  have hwsX60 : ∀ x ∈ wsX60, x ∈ wsX6_hits := fun x h => List.mem_cons_of_mem _ (List.mem_append_right _ h)
  have hN := Gok_N G; have hN2 := Gok_N2 G; have hKK := Gok_K G
  obtain ⟨M, hM, hM2⟩ : ∃ M, M = 2 ^ gN g ∧ M ≤ 1024 := ⟨_, rfl, Nat.pow_le_pow_right (by decide) hN⟩
  refine lv_aload_n S.1 S.2.1 dX6_hits_0 rfl (lv_at hl 0 rfl) ?_
  refine lv_iconst (v := nI 0) S.1 S.2.1 dX6_hits_1 (by decide) ?_
  refine pf (ty := .int) (w' := wM q cI cZ cF g fi ke ac mk iv) S hk hW 0 rfl rfl hwsX60 tyX6 tyX6_ok nmX6 0 (by decide) 1 rfl rfl (by decide +kernel) rfl rfl (Nat.le_of_ble_eq_true rfl) dX6_hits_2 rfl (fun H locs hW => ?_)
  refine lv_iload_n S.1 S.2.1 dX6_hits_5 rfl (lv_at hl 1 rfl) ?_
  refine lv_i2l S.1 S.2.1 dX6_hits_6 rfl ?_
  refine lv_lconst (v := 1) S.1 S.2.1 dX6_hits_7 (by decide) ?_
  refine lv_ldc2 (v := 9) S.1 S.2.1 S.2.2.2.1 (S.2.2.2.2 _ (List.mem_of_getElem? (i := 2) rfl)) dX6_hits_8 ?_
  refine kSi S (c_X6_in (l := l) (D := D) (cI := cI) (cZ := cZ) (cF := cF)) (va_cwS 3 S.2.2.2.2 gX6_hits_X6_in rfl rfl rfl v_X6_in ⟨(Nat.le_of_ble_eq_true rfl), (Nat.le_of_ble_eq_true rfl)⟩) hk hW rfl hl rfl (Nat.le_of_ble_eq_true rfl) dX6_hits_11 ⟨(Nat.le_of_ble_eq_true rfl), (Nat.le_of_ble_eq_true rfl)⟩ (fun r u H locs hp hW => ?_)
  obtain ⟨rfl, rfl⟩ := hp
  refine ifne_b (tgt := 21) S dX6_hits_14 (by decide) (fun c_14 => ?_) (fun c_14 => ?_)
  · skip
    refine lv_aload_n S.1 S.2.1 dX6_hits_21 rfl (lv_at hl 0 rfl) ?_
    refine lv_sipush (v := (-1000)) S.1 S.2.1 dX6_hits_22 (by decide) ?_
    refine lv_sipush (v := (-1000)) S.1 S.2.1 dX6_hits_25 (by decide) ?_
    refine kVi S (c_X6_learn (l := l) (D := D) (cI := cI) (cZ := cZ) (cF := cF) G) (cwV 2 S.2.2.2.2 gX6_hits_X6_learn rfl rfl rfl ⟨rfl, v_X6_learn⟩ ⟨(Nat.le_of_ble_eq_true rfl), (Nat.le_of_ble_eq_true rfl)⟩) hk hW 0 rfl rfl rfl rfl hl rfl (Nat.le_of_ble_eq_true rfl) dX6_hits_28 ⟨(Nat.le_of_ble_eq_true rfl), (Nat.le_of_ble_eq_true rfl)⟩ (fun r u H locs hp hW => ?_)
    obtain ⟨rfl, rfl⟩ := hp
    refine lv_pop S.1 S.2.1 dX6_hits_31 rfl ?_
    refine lv_iconst (v := nI 0) S.1 S.2.1 dX6_hits_32 (by decide) ?_
    refine lv_istore_n (lv' := [(2, .int (nI 0)), (0, .ref (q 0)), (1, .int x)]) S.1 S.2.1 dX6_hits_33 rfl hl (by decide) rfl (fun ls hl => ?_)
    refine lv_iconst (v := nI 0) S.1 S.2.1 dX6_hits_34 (by decide) ?_
    refine lv_istore_n (lv' := [(3, .int (nI 0)), (2, .int (nI 0)), (0, .ref (q 0)), (1, .int x)]) S.1 S.2.1 dX6_hits_35 rfl hl (by decide) rfl (fun ls hl => ?_)
    have L36 : ∀ (dd : Nat), ∀ (a : Nat), ∀ (pn : Nat), ∀ (iv1 : Nat → Int32), (pn = (hiO g (lrn g (-1000) (-1000)).1 (gN g) x iv a).1) → (iv1 = (hiO g (lrn g (-1000) (-1000)).1 (gN g) x iv a).2) → (pn ≤ a * 10) → (a ≤ gN g) → gN g < a + dd → ∀ (H : Heap) (locs : List Loc) (ls : Array Slot), wd D A s H locs (wM q cI cZ cF g ((lrn g (-1000) (-1000)).1) ke ac mk iv1) → lv_has ls 9 [(0, .ref (q 0)), (1, .int x), (2, .int (nI pn)), (3, .int (nI a))] → W p l e r_X6_hits s m args below meth c H locs 0 0 Q (F0 m 36 ls []) := by
      intro dd
      induction dd with
      | zero => intros; omega
      | succ dd ih36 =>
        intro a pn iv1 hp1 hv1 hpb ha hdd H locs ls hW hl
        refine lv_iload_n S.1 S.2.1 dX6_hits_36 rfl (lv_at hl 3 rfl) ?_
        refine lv_aload_n S.1 S.2.1 dX6_hits_37 rfl (lv_at hl 0 rfl) ?_
        refine gf S hk hW 0 rfl rfl hwsX60 1 (by decide) 3 rfl rfl dX6_hits_38 ?_
        refine icge_n (tgt := 177) S (by omega) (by omega) dX6_hits_41 (by decide) (fun c_41 => ?_) (fun c_41 => ?_)
        · skip
          refine lv_sipush (v := (-1000)) S.1 S.2.1 dX6_hits_177 (by decide) ?_
          refine lv_istore_n (lv' := [(3, .int (-1000)), (0, .ref (q 0)), (1, .int x), (2, .int (nI pn))]) S.1 S.2.1 dX6_hits_180 rfl hl (by decide) rfl (fun ls hl => ?_)
          refine lv_iconst (v := nI 0) S.1 S.2.1 dX6_hits_181 (by decide) ?_
          refine lv_istore (lv' := [(4, .int (nI 0)), (3, .int (-1000)), (0, .ref (q 0)), (1, .int x), (2, .int (nI pn))]) S.1 S.2.1 dX6_hits_182 hl (by decide) rfl (fun ls hl => ?_)
          have L184 : ∀ (dd : Nat), ∀ (z : Int32), ∀ (s4 : Nat), (z = hsM iv1 pn s4) → (s4 ≤ M) → M < s4 + dd → ∀ (H : Heap) (locs : List Loc) (ls : Array Slot), wd D A s H locs (wM q cI cZ cF g ((lrn g (-1000) (-1000)).1) ke ac mk iv1) → lv_has ls 9 [(0, .ref (q 0)), (1, .int x), (2, .int (nI pn)), (3, .int z), (4, .int (nI s4))] → W p l e r_X6_hits s m args below meth c H locs 0 0 Q (F0 m 184 ls []) := by
            intro dd
            induction dd with
            | zero => intros; omega
            | succ dd ih184 =>
              intro z s4 hz hs4 hdd H locs ls hW hl
              refine lv_iload S.1 S.2.1 dX6_hits_184 (lv_at hl 4 rfl) ?_
              refine lv_iconst (v := nI 1) S.1 S.2.1 dX6_hits_186 (by decide) ?_
              refine lv_aload_n S.1 S.2.1 dX6_hits_187 rfl (lv_at hl 0 rfl) ?_
              refine gf S hk hW 0 rfl rfl hwsX60 1 (by decide) 3 rfl rfl dX6_hits_188 ?_
              refine lv_ishl S.1 S.2.1 dX6_hits_191 ?_
              refine top_eq ((shl1 hN).trans (congrArg nI hM.symm)) ?_
              refine icge_n (tgt := 279) S (by omega) (by omega) dX6_hits_192 (by decide) (fun c_192 => ?_) (fun c_192 => ?_)
              · skip
                refine lv_iload_n S.1 S.2.1 dX6_hits_279 rfl (lv_at hl 3 rfl) ?_
                exact hR _ _ _ _ _ _ _ _ dX6_hits_280 rfl (Nat.le_of_ble_eq_true rfl) (Nat.le_of_ble_eq_true rfl) hW ⟨(by simp only [hitM, c_14, if_true]; rw [hz, show s4 = M by omega, hM, hp1, hv1, show a = gN g by omega]), ⟨_, ⟨_, rfl⟩⟩⟩
              · skip
                refine lv_iload_n S.1 S.2.1 dX6_hits_195 rfl (lv_at hl 3 rfl) ?_
                refine lv_sipush (v := (-1000)) S.1 S.2.1 dX6_hits_196 (by decide) ?_
                refine lv_icmp_eq (tgt := 214) S.1 S.2.1 dX6_hits_199 (by decide) (fun c_199 => ?_) (fun c_199 => ?_)
                · skip
                  refine lv_iconst (v := nI 1) S.1 S.2.1 dX6_hits_214 (by decide) ?_
                  refine lv_goto (tgt := 219) S.1 S.2.1 dX6_hits_215 (by decide) ?_
                  refine lv_istore (lv' := [(5, .int (nI 1)), (0, .ref (q 0)), (1, .int x), (2, .int (nI pn)), (3, .int z), (4, .int (nI s4))]) S.1 S.2.1 dX6_hits_219 hl (by decide) rfl (fun ls hl => ?_)
                  refine lv_iconst (v := nI 0) S.1 S.2.1 dX6_hits_221 (by decide) ?_
                  refine lv_istore (lv' := [(6, .int (nI 0)), (5, .int (nI 1)), (0, .ref (q 0)), (1, .int x), (2, .int (nI pn)), (3, .int z), (4, .int (nI s4))]) S.1 S.2.1 dX6_hits_222 hl (by decide) rfl (fun ls hl => ?_)
                  have L224 : ∀ (dd : Nat), ∀ (is2 : Bool), ∀ (p6 : Nat), (is2 = (h0M z (nI s4) && allN (fun i => !decide (iv1 i &&& nI s4 = 0)) p6)) → (p6 ≤ pn) → pn < p6 + dd → ∀ (H : Heap) (locs : List Loc) (ls : Array Slot), wd D A s H locs (wM q cI cZ cF g ((lrn g (-1000) (-1000)).1) ke ac mk iv1) → lv_has ls 9 [(0, .ref (q 0)), (1, .int x), (2, .int (nI pn)), (3, .int z), (4, .int (nI s4)), (5, .int (bI is2)), (6, .int (nI p6))] → W p l e r_X6_hits s m args below meth c H locs 0 0 Q (F0 m 224 ls []) := by
                    intro dd
                    induction dd with
                    | zero => intros; omega
                    | succ dd ih224 =>
                      intro is2 p6 his hp6 hdd H locs ls hW hl
                      refine lv_iload S.1 S.2.1 dX6_hits_224 (lv_at hl 6 rfl) ?_
                      refine lv_iload_n S.1 S.2.1 dX6_hits_226 rfl (lv_at hl 2 rfl) ?_
                      refine icge_n (tgt := 261) S (by omega) (by omega) dX6_hits_227 (by decide) (fun c_227 => ?_) (fun c_227 => ?_)
                      · skip
                        have hfin : is2 = (h0M z (nI s4) && mtB iv1 (nI s4) pn) := by rw [his, show p6 = pn by omega]; rfl
                        refine lv_iload S.1 S.2.1 dX6_hits_261 (lv_at hl 5 rfl) ?_
                        refine ifeq_b (tgt := 271) S dX6_hits_263 (by decide) (fun c_263 => ?_) (fun c_263 => ?_)
                        · skip
                          refine lv_iload_n S.1 S.2.1 dX6_hits_271 rfl (lv_at hl 3 rfl) ?_
                          refine lv_istore_n (lv' := [(3, .int z), (0, .ref (q 0)), (1, .int x), (2, .int (nI pn)), (4, .int (nI s4)), (5, .int (bI is2)), (6, .int (nI p6))]) S.1 S.2.1 dX6_hits_272 rfl hl (by decide) rfl (fun ls hl => ?_)
                          refine lv_iinc (v := nI (s4 + 1)) (lv' := [(4, .int (nI (s4 + 1))), (3, .int z), (0, .ref (q 0)), (1, .int x), (2, .int (nI pn)), (5, .int (bI is2)), (6, .int (nI p6))]) (k := 4) S.1 S.2.1 dX6_hits_273 hl rfl (nI_1 _) (by decide) rfl (fun ls hl => ?_)
                          refine lv_goto (tgt := 184) S.1 S.2.1 dX6_hits_276 (by decide) ?_
                          exact ih184 z (s4 + 1) (by simp only [hsM, ← hz, ← hfin, c_263, eq_self, Nat.add_zero, decide_false, decide_true, Bool.not_true, Bool.not_false, Bool.and_true, Bool.true_and, Bool.and_false, Bool.false_and, Bool.or_true, Bool.true_or, Bool.or_false, Bool.false_or, ↓reduceIte, cond_true, cond_false, bI, and_true, true_and, and_false, false_and, or_true, true_or, or_false, false_or, not_true_eq_false, not_false_eq_true, if_true, if_false, Bool.false_eq_true, reduceCtorEq, ite_true, ite_false]) (by omega) (by omega) _ _ _ hW (lv_sub hl [2, 3, 4, 1, 0] rfl)
                        · skip
                          refine lv_iload S.1 S.2.1 dX6_hits_266 (lv_at hl 4 rfl) ?_
                          refine lv_goto (tgt := 272) S.1 S.2.1 dX6_hits_268 (by decide) ?_
                          refine lv_istore_n (lv' := [(3, .int (nI s4)), (0, .ref (q 0)), (1, .int x), (2, .int (nI pn)), (4, .int (nI s4)), (5, .int (bI is2)), (6, .int (nI p6))]) S.1 S.2.1 dX6_hits_272 rfl hl (by decide) rfl (fun ls hl => ?_)
                          refine lv_iinc (v := nI (s4 + 1)) (lv' := [(4, .int (nI (s4 + 1))), (3, .int (nI s4)), (0, .ref (q 0)), (1, .int x), (2, .int (nI pn)), (5, .int (bI is2)), (6, .int (nI p6))]) (k := 4) S.1 S.2.1 dX6_hits_273 hl rfl (nI_1 _) (by decide) rfl (fun ls hl => ?_)
                          refine lv_goto (tgt := 184) S.1 S.2.1 dX6_hits_276 (by decide) ?_
                          exact ih184 (nI s4) (s4 + 1) (by simp only [hsM, ← hz, ← hfin, c_263, eq_self, Nat.add_zero, decide_false, decide_true, Bool.not_true, Bool.not_false, Bool.and_true, Bool.true_and, Bool.and_false, Bool.false_and, Bool.or_true, Bool.true_or, Bool.or_false, Bool.false_or, ↓reduceIte, cond_true, cond_false, bI, and_true, true_and, and_false, false_and, or_true, true_or, or_false, false_or, not_true_eq_false, not_false_eq_true, if_true, if_false, Bool.false_eq_true, reduceCtorEq, ite_true, ite_false]) (by omega) (by omega) _ _ _ hW (lv_sub hl [2, 3, 4, 1, 0] rfl)
                      · skip
                        refine lv_iload S.1 S.2.1 dX6_hits_230 (lv_at hl 5 rfl) ?_
                        refine ifeq_b (tgt := 261) S dX6_hits_232 (by decide) (fun c_232 => ?_) (fun c_232 => ?_)
                        · skip
                          have hfin : is2 = (h0M z (nI s4) && mtB iv1 (nI s4) pn) := hs_fin his c_232 hp6
                          refine lv_iload S.1 S.2.1 dX6_hits_261 (lv_at hl 5 rfl) ?_
                          refine ifeq_b (tgt := 271) S dX6_hits_263 (by decide) (fun c_263 => ?_) (fun c_263 => ?_)
                          · skip
                            refine lv_iload_n S.1 S.2.1 dX6_hits_271 rfl (lv_at hl 3 rfl) ?_
                            refine lv_istore_n (lv' := [(3, .int z), (0, .ref (q 0)), (1, .int x), (2, .int (nI pn)), (4, .int (nI s4)), (5, .int (bI is2)), (6, .int (nI p6))]) S.1 S.2.1 dX6_hits_272 rfl hl (by decide) rfl (fun ls hl => ?_)
                            refine lv_iinc (v := nI (s4 + 1)) (lv' := [(4, .int (nI (s4 + 1))), (3, .int z), (0, .ref (q 0)), (1, .int x), (2, .int (nI pn)), (5, .int (bI is2)), (6, .int (nI p6))]) (k := 4) S.1 S.2.1 dX6_hits_273 hl rfl (nI_1 _) (by decide) rfl (fun ls hl => ?_)
                            refine lv_goto (tgt := 184) S.1 S.2.1 dX6_hits_276 (by decide) ?_
                            exact ih184 z (s4 + 1) (by simp only [hsM, ← hz, ← hfin, c_263, eq_self, Nat.add_zero, decide_false, decide_true, Bool.not_true, Bool.not_false, Bool.and_true, Bool.true_and, Bool.and_false, Bool.false_and, Bool.or_true, Bool.true_or, Bool.or_false, Bool.false_or, ↓reduceIte, cond_true, cond_false, bI, and_true, true_and, and_false, false_and, or_true, true_or, or_false, false_or, not_true_eq_false, not_false_eq_true, if_true, if_false, Bool.false_eq_true, reduceCtorEq, ite_true, ite_false]) (by omega) (by omega) _ _ _ hW (lv_sub hl [2, 3, 4, 1, 0] rfl)
                          · skip
                            exact absurd (c_232.symm.trans c_263) (by decide)
                        · skip
                          refine lv_aload_n S.1 S.2.1 dX6_hits_235 rfl (lv_at hl 0 rfl) ?_
                          refine gf S hk hW 0 rfl rfl hwsX60 12 (by decide) 6 rfl rfl dX6_hits_236 ?_
                          refine lv_iload S.1 S.2.1 dX6_hits_239 (lv_at hl 6 rfl) ?_
                          refine ild S hk hW 8 rfl p6 rfl (by omega) (by omega) dX6_hits_241 ?_
                          refine lv_iload S.1 S.2.1 dX6_hits_242 (lv_at hl 4 rfl) ?_
                          refine lv_iand S.1 S.2.1 dX6_hits_244 ?_
                          refine lv_if_eq (tgt := 252) S.1 S.2.1 dX6_hits_245 (by decide) (fun c_245 => ?_) (fun c_245 => ?_)
                          · skip
                            refine lv_iconst (v := nI 0) S.1 S.2.1 dX6_hits_252 (by decide) ?_
                            refine lv_istore (lv' := [(5, .int (nI 0)), (0, .ref (q 0)), (1, .int x), (2, .int (nI pn)), (3, .int z), (4, .int (nI s4)), (6, .int (nI p6))]) S.1 S.2.1 dX6_hits_253 hl (by decide) rfl (fun ls hl => ?_)
                            refine lv_iinc (v := nI (p6 + 1)) (lv' := [(6, .int (nI (p6 + 1))), (5, .int (nI 0)), (0, .ref (q 0)), (1, .int x), (2, .int (nI pn)), (3, .int z), (4, .int (nI s4))]) (k := 6) S.1 S.2.1 dX6_hits_255 hl rfl (nI_1 _) (by decide) rfl (fun ls hl => ?_)
                            refine lv_goto (tgt := 224) S.1 S.2.1 dX6_hits_258 (by decide) ?_
                            exact ih224 false (p6 + 1) (by rw [c_232] at his; simp only [allN, ← Bool.and_assoc, ← his, eq_true c_245, eq_self, Nat.add_zero, decide_false, decide_true, Bool.not_true, Bool.not_false, Bool.and_true, Bool.true_and, Bool.and_false, Bool.false_and, Bool.or_true, Bool.true_or, Bool.or_false, Bool.false_or, ↓reduceIte, cond_true, cond_false, bI, and_true, true_and, and_false, false_and, or_true, true_or, or_false, false_or, not_true_eq_false, not_false_eq_true, if_true, if_false, Bool.false_eq_true, reduceCtorEq, ite_true, ite_false]) (by omega) (by omega) _ _ _ hW (lv_sub hl [2, 3, 4, 5, 6, 1, 0] rfl)
                          · skip
                            refine lv_iconst (v := nI 1) S.1 S.2.1 dX6_hits_248 (by decide) ?_
                            refine lv_goto (tgt := 253) S.1 S.2.1 dX6_hits_249 (by decide) ?_
                            refine lv_istore (lv' := [(5, .int (nI 1)), (0, .ref (q 0)), (1, .int x), (2, .int (nI pn)), (3, .int z), (4, .int (nI s4)), (6, .int (nI p6))]) S.1 S.2.1 dX6_hits_253 hl (by decide) rfl (fun ls hl => ?_)
                            refine lv_iinc (v := nI (p6 + 1)) (lv' := [(6, .int (nI (p6 + 1))), (5, .int (nI 1)), (0, .ref (q 0)), (1, .int x), (2, .int (nI pn)), (3, .int z), (4, .int (nI s4))]) (k := 6) S.1 S.2.1 dX6_hits_255 hl rfl (nI_1 _) (by decide) rfl (fun ls hl => ?_)
                            refine lv_goto (tgt := 224) S.1 S.2.1 dX6_hits_258 (by decide) ?_
                            exact ih224 true (p6 + 1) (by rw [c_232] at his; simp only [allN, ← Bool.and_assoc, ← his, eq_false c_245, eq_self, Nat.add_zero, decide_false, decide_true, Bool.not_true, Bool.not_false, Bool.and_true, Bool.true_and, Bool.and_false, Bool.false_and, Bool.or_true, Bool.true_or, Bool.or_false, Bool.false_or, ↓reduceIte, cond_true, cond_false, bI, and_true, true_and, and_false, false_and, or_true, true_or, or_false, false_or, not_true_eq_false, not_false_eq_true, if_true, if_false, Bool.false_eq_true, reduceCtorEq, ite_true, ite_false]) (by omega) (by omega) _ _ _ hW (lv_sub hl [2, 3, 4, 5, 6, 1, 0] rfl)
                  exact L224 (pn + 1) true 0 (by simp only [h0M, allN, eq_true c_199, eq_self, Nat.add_zero, decide_false, decide_true, Bool.not_true, Bool.not_false, Bool.and_true, Bool.true_and, Bool.and_false, Bool.false_and, Bool.or_true, Bool.true_or, Bool.or_false, Bool.false_or, ↓reduceIte, cond_true, cond_false, bI, and_true, true_and, and_false, false_and, or_true, true_or, or_false, false_or, not_true_eq_false, not_false_eq_true, if_true, if_false, Bool.false_eq_true, reduceCtorEq, ite_true, ite_false]) (by omega) (by omega) _ _ _ hW (lv_sub hl [2, 3, 4, 5, 6, 1, 0] rfl)
                · skip
                  refine lv_iload S.1 S.2.1 dX6_hits_202 (lv_at hl 4 rfl) ?_
                  refine kSi S (c_X6_bits (l := l) (D := D) (cI := cI) (cZ := cZ) (cF := cF)) (va_cwS 1 S.2.2.2.2 gX6_hits_X6_bits rfl rfl rfl v_X6_bits ⟨(Nat.le_of_ble_eq_true rfl), (Nat.le_of_ble_eq_true rfl)⟩) hk hW rfl hl rfl (Nat.le_of_ble_eq_true rfl) dX6_hits_204 ⟨(Nat.le_of_ble_eq_true rfl), (Nat.le_of_ble_eq_true rfl)⟩ (fun r u H locs hp hW => ?_)
                  obtain ⟨rfl, rfl⟩ := hp
                  refine lv_iload_n S.1 S.2.1 dX6_hits_207 rfl (lv_at hl 3 rfl) ?_
                  refine kSi S (c_X6_bits (l := l) (D := D) (cI := cI) (cZ := cZ) (cF := cF)) (va_cwS 1 S.2.2.2.2 gX6_hits_X6_bits rfl rfl rfl v_X6_bits ⟨(Nat.le_of_ble_eq_true rfl), (Nat.le_of_ble_eq_true rfl)⟩) hk hW rfl hl rfl (Nat.le_of_ble_eq_true rfl) dX6_hits_208 ⟨(Nat.le_of_ble_eq_true rfl), (Nat.le_of_ble_eq_true rfl)⟩ (fun r u H locs hp hW => ?_)
                  obtain ⟨rfl, rfl⟩ := hp
                  refine lv_icmp_ge (tgt := 218) S.1 S.2.1 dX6_hits_211 (by decide) (fun c_211 => ?_) (fun c_211 => ?_)
                  · skip
                    refine lv_iconst (v := nI 0) S.1 S.2.1 dX6_hits_218 (by decide) ?_
                    refine lv_istore (lv' := [(5, .int (nI 0)), (0, .ref (q 0)), (1, .int x), (2, .int (nI pn)), (3, .int z), (4, .int (nI s4))]) S.1 S.2.1 dX6_hits_219 hl (by decide) rfl (fun ls hl => ?_)
                    refine lv_iconst (v := nI 0) S.1 S.2.1 dX6_hits_221 (by decide) ?_
                    refine lv_istore (lv' := [(6, .int (nI 0)), (5, .int (nI 0)), (0, .ref (q 0)), (1, .int x), (2, .int (nI pn)), (3, .int z), (4, .int (nI s4))]) S.1 S.2.1 dX6_hits_222 hl (by decide) rfl (fun ls hl => ?_)
                    have L224 : ∀ (dd : Nat), ∀ (is2 : Bool), ∀ (p6 : Nat), (is2 = (h0M z (nI s4) && allN (fun i => !decide (iv1 i &&& nI s4 = 0)) p6)) → (p6 ≤ pn) → pn < p6 + dd → ∀ (H : Heap) (locs : List Loc) (ls : Array Slot), wd D A s H locs (wM q cI cZ cF g ((lrn g (-1000) (-1000)).1) ke ac mk iv1) → lv_has ls 9 [(0, .ref (q 0)), (1, .int x), (2, .int (nI pn)), (3, .int z), (4, .int (nI s4)), (5, .int (bI is2)), (6, .int (nI p6))] → W p l e r_X6_hits s m args below meth c H locs 0 0 Q (F0 m 224 ls []) := by
                      intro dd
                      induction dd with
                      | zero => intros; omega
                      | succ dd ih224 =>
                        intro is2 p6 his hp6 hdd H locs ls hW hl
                        refine lv_iload S.1 S.2.1 dX6_hits_224 (lv_at hl 6 rfl) ?_
                        refine lv_iload_n S.1 S.2.1 dX6_hits_226 rfl (lv_at hl 2 rfl) ?_
                        refine icge_n (tgt := 261) S (by omega) (by omega) dX6_hits_227 (by decide) (fun c_227 => ?_) (fun c_227 => ?_)
                        · skip
                          have hfin : is2 = (h0M z (nI s4) && mtB iv1 (nI s4) pn) := by rw [his, show p6 = pn by omega]; rfl
                          refine lv_iload S.1 S.2.1 dX6_hits_261 (lv_at hl 5 rfl) ?_
                          refine ifeq_b (tgt := 271) S dX6_hits_263 (by decide) (fun c_263 => ?_) (fun c_263 => ?_)
                          · skip
                            refine lv_iload_n S.1 S.2.1 dX6_hits_271 rfl (lv_at hl 3 rfl) ?_
                            refine lv_istore_n (lv' := [(3, .int z), (0, .ref (q 0)), (1, .int x), (2, .int (nI pn)), (4, .int (nI s4)), (5, .int (bI is2)), (6, .int (nI p6))]) S.1 S.2.1 dX6_hits_272 rfl hl (by decide) rfl (fun ls hl => ?_)
                            refine lv_iinc (v := nI (s4 + 1)) (lv' := [(4, .int (nI (s4 + 1))), (3, .int z), (0, .ref (q 0)), (1, .int x), (2, .int (nI pn)), (5, .int (bI is2)), (6, .int (nI p6))]) (k := 4) S.1 S.2.1 dX6_hits_273 hl rfl (nI_1 _) (by decide) rfl (fun ls hl => ?_)
                            refine lv_goto (tgt := 184) S.1 S.2.1 dX6_hits_276 (by decide) ?_
                            exact ih184 z (s4 + 1) (by simp only [hsM, ← hz, ← hfin, c_263, eq_self, Nat.add_zero, decide_false, decide_true, Bool.not_true, Bool.not_false, Bool.and_true, Bool.true_and, Bool.and_false, Bool.false_and, Bool.or_true, Bool.true_or, Bool.or_false, Bool.false_or, ↓reduceIte, cond_true, cond_false, bI, and_true, true_and, and_false, false_and, or_true, true_or, or_false, false_or, not_true_eq_false, not_false_eq_true, if_true, if_false, Bool.false_eq_true, reduceCtorEq, ite_true, ite_false]) (by omega) (by omega) _ _ _ hW (lv_sub hl [2, 3, 4, 1, 0] rfl)
                          · skip
                            refine lv_iload S.1 S.2.1 dX6_hits_266 (lv_at hl 4 rfl) ?_
                            refine lv_goto (tgt := 272) S.1 S.2.1 dX6_hits_268 (by decide) ?_
                            refine lv_istore_n (lv' := [(3, .int (nI s4)), (0, .ref (q 0)), (1, .int x), (2, .int (nI pn)), (4, .int (nI s4)), (5, .int (bI is2)), (6, .int (nI p6))]) S.1 S.2.1 dX6_hits_272 rfl hl (by decide) rfl (fun ls hl => ?_)
                            refine lv_iinc (v := nI (s4 + 1)) (lv' := [(4, .int (nI (s4 + 1))), (3, .int (nI s4)), (0, .ref (q 0)), (1, .int x), (2, .int (nI pn)), (5, .int (bI is2)), (6, .int (nI p6))]) (k := 4) S.1 S.2.1 dX6_hits_273 hl rfl (nI_1 _) (by decide) rfl (fun ls hl => ?_)
                            refine lv_goto (tgt := 184) S.1 S.2.1 dX6_hits_276 (by decide) ?_
                            exact ih184 (nI s4) (s4 + 1) (by simp only [hsM, ← hz, ← hfin, c_263, eq_self, Nat.add_zero, decide_false, decide_true, Bool.not_true, Bool.not_false, Bool.and_true, Bool.true_and, Bool.and_false, Bool.false_and, Bool.or_true, Bool.true_or, Bool.or_false, Bool.false_or, ↓reduceIte, cond_true, cond_false, bI, and_true, true_and, and_false, false_and, or_true, true_or, or_false, false_or, not_true_eq_false, not_false_eq_true, if_true, if_false, Bool.false_eq_true, reduceCtorEq, ite_true, ite_false]) (by omega) (by omega) _ _ _ hW (lv_sub hl [2, 3, 4, 1, 0] rfl)
                        · skip
                          refine lv_iload S.1 S.2.1 dX6_hits_230 (lv_at hl 5 rfl) ?_
                          refine ifeq_b (tgt := 261) S dX6_hits_232 (by decide) (fun c_232 => ?_) (fun c_232 => ?_)
                          · skip
                            have hfin : is2 = (h0M z (nI s4) && mtB iv1 (nI s4) pn) := hs_fin his c_232 hp6
                            refine lv_iload S.1 S.2.1 dX6_hits_261 (lv_at hl 5 rfl) ?_
                            refine ifeq_b (tgt := 271) S dX6_hits_263 (by decide) (fun c_263 => ?_) (fun c_263 => ?_)
                            · skip
                              refine lv_iload_n S.1 S.2.1 dX6_hits_271 rfl (lv_at hl 3 rfl) ?_
                              refine lv_istore_n (lv' := [(3, .int z), (0, .ref (q 0)), (1, .int x), (2, .int (nI pn)), (4, .int (nI s4)), (5, .int (bI is2)), (6, .int (nI p6))]) S.1 S.2.1 dX6_hits_272 rfl hl (by decide) rfl (fun ls hl => ?_)
                              refine lv_iinc (v := nI (s4 + 1)) (lv' := [(4, .int (nI (s4 + 1))), (3, .int z), (0, .ref (q 0)), (1, .int x), (2, .int (nI pn)), (5, .int (bI is2)), (6, .int (nI p6))]) (k := 4) S.1 S.2.1 dX6_hits_273 hl rfl (nI_1 _) (by decide) rfl (fun ls hl => ?_)
                              refine lv_goto (tgt := 184) S.1 S.2.1 dX6_hits_276 (by decide) ?_
                              exact ih184 z (s4 + 1) (by simp only [hsM, ← hz, ← hfin, c_263, eq_self, Nat.add_zero, decide_false, decide_true, Bool.not_true, Bool.not_false, Bool.and_true, Bool.true_and, Bool.and_false, Bool.false_and, Bool.or_true, Bool.true_or, Bool.or_false, Bool.false_or, ↓reduceIte, cond_true, cond_false, bI, and_true, true_and, and_false, false_and, or_true, true_or, or_false, false_or, not_true_eq_false, not_false_eq_true, if_true, if_false, Bool.false_eq_true, reduceCtorEq, ite_true, ite_false]) (by omega) (by omega) _ _ _ hW (lv_sub hl [2, 3, 4, 1, 0] rfl)
                            · skip
                              exact absurd (c_232.symm.trans c_263) (by decide)
                          · skip
                            refine lv_aload_n S.1 S.2.1 dX6_hits_235 rfl (lv_at hl 0 rfl) ?_
                            refine gf S hk hW 0 rfl rfl hwsX60 12 (by decide) 6 rfl rfl dX6_hits_236 ?_
                            refine lv_iload S.1 S.2.1 dX6_hits_239 (lv_at hl 6 rfl) ?_
                            refine ild S hk hW 8 rfl p6 rfl (by omega) (by omega) dX6_hits_241 ?_
                            refine lv_iload S.1 S.2.1 dX6_hits_242 (lv_at hl 4 rfl) ?_
                            refine lv_iand S.1 S.2.1 dX6_hits_244 ?_
                            refine lv_if_eq (tgt := 252) S.1 S.2.1 dX6_hits_245 (by decide) (fun c_245 => ?_) (fun c_245 => ?_)
                            · skip
                              refine lv_iconst (v := nI 0) S.1 S.2.1 dX6_hits_252 (by decide) ?_
                              refine lv_istore (lv' := [(5, .int (nI 0)), (0, .ref (q 0)), (1, .int x), (2, .int (nI pn)), (3, .int z), (4, .int (nI s4)), (6, .int (nI p6))]) S.1 S.2.1 dX6_hits_253 hl (by decide) rfl (fun ls hl => ?_)
                              refine lv_iinc (v := nI (p6 + 1)) (lv' := [(6, .int (nI (p6 + 1))), (5, .int (nI 0)), (0, .ref (q 0)), (1, .int x), (2, .int (nI pn)), (3, .int z), (4, .int (nI s4))]) (k := 6) S.1 S.2.1 dX6_hits_255 hl rfl (nI_1 _) (by decide) rfl (fun ls hl => ?_)
                              refine lv_goto (tgt := 224) S.1 S.2.1 dX6_hits_258 (by decide) ?_
                              exact ih224 false (p6 + 1) (by rw [c_232] at his; simp only [allN, ← Bool.and_assoc, ← his, eq_true c_245, eq_self, Nat.add_zero, decide_false, decide_true, Bool.not_true, Bool.not_false, Bool.and_true, Bool.true_and, Bool.and_false, Bool.false_and, Bool.or_true, Bool.true_or, Bool.or_false, Bool.false_or, ↓reduceIte, cond_true, cond_false, bI, and_true, true_and, and_false, false_and, or_true, true_or, or_false, false_or, not_true_eq_false, not_false_eq_true, if_true, if_false, Bool.false_eq_true, reduceCtorEq, ite_true, ite_false]) (by omega) (by omega) _ _ _ hW (lv_sub hl [2, 3, 4, 5, 6, 1, 0] rfl)
                            · skip
                              refine lv_iconst (v := nI 1) S.1 S.2.1 dX6_hits_248 (by decide) ?_
                              refine lv_goto (tgt := 253) S.1 S.2.1 dX6_hits_249 (by decide) ?_
                              refine lv_istore (lv' := [(5, .int (nI 1)), (0, .ref (q 0)), (1, .int x), (2, .int (nI pn)), (3, .int z), (4, .int (nI s4)), (6, .int (nI p6))]) S.1 S.2.1 dX6_hits_253 hl (by decide) rfl (fun ls hl => ?_)
                              refine lv_iinc (v := nI (p6 + 1)) (lv' := [(6, .int (nI (p6 + 1))), (5, .int (nI 1)), (0, .ref (q 0)), (1, .int x), (2, .int (nI pn)), (3, .int z), (4, .int (nI s4))]) (k := 6) S.1 S.2.1 dX6_hits_255 hl rfl (nI_1 _) (by decide) rfl (fun ls hl => ?_)
                              refine lv_goto (tgt := 224) S.1 S.2.1 dX6_hits_258 (by decide) ?_
                              exact ih224 true (p6 + 1) (by rw [c_232] at his; simp only [allN, ← Bool.and_assoc, ← his, eq_false c_245, eq_self, Nat.add_zero, decide_false, decide_true, Bool.not_true, Bool.not_false, Bool.and_true, Bool.true_and, Bool.and_false, Bool.false_and, Bool.or_true, Bool.true_or, Bool.or_false, Bool.false_or, ↓reduceIte, cond_true, cond_false, bI, and_true, true_and, and_false, false_and, or_true, true_or, or_false, false_or, not_true_eq_false, not_false_eq_true, if_true, if_false, Bool.false_eq_true, reduceCtorEq, ite_true, ite_false]) (by omega) (by omega) _ _ _ hW (lv_sub hl [2, 3, 4, 5, 6, 1, 0] rfl)
                    exact L224 (pn + 1) false 0 (by simp only [h0M, allN, eq_false c_199, eq_true c_211, eq_self, Nat.add_zero, decide_false, decide_true, Bool.not_true, Bool.not_false, Bool.and_true, Bool.true_and, Bool.and_false, Bool.false_and, Bool.or_true, Bool.true_or, Bool.or_false, Bool.false_or, ↓reduceIte, cond_true, cond_false, bI, and_true, true_and, and_false, false_and, or_true, true_or, or_false, false_or, not_true_eq_false, not_false_eq_true, if_true, if_false, Bool.false_eq_true, reduceCtorEq, ite_true, ite_false]) (by omega) (by omega) _ _ _ hW (lv_sub hl [2, 3, 4, 5, 6, 1, 0] rfl)
                  · skip
                    refine lv_iconst (v := nI 1) S.1 S.2.1 dX6_hits_214 (by decide) ?_
                    refine lv_goto (tgt := 219) S.1 S.2.1 dX6_hits_215 (by decide) ?_
                    refine lv_istore (lv' := [(5, .int (nI 1)), (0, .ref (q 0)), (1, .int x), (2, .int (nI pn)), (3, .int z), (4, .int (nI s4))]) S.1 S.2.1 dX6_hits_219 hl (by decide) rfl (fun ls hl => ?_)
                    refine lv_iconst (v := nI 0) S.1 S.2.1 dX6_hits_221 (by decide) ?_
                    refine lv_istore (lv' := [(6, .int (nI 0)), (5, .int (nI 1)), (0, .ref (q 0)), (1, .int x), (2, .int (nI pn)), (3, .int z), (4, .int (nI s4))]) S.1 S.2.1 dX6_hits_222 hl (by decide) rfl (fun ls hl => ?_)
                    have L224 : ∀ (dd : Nat), ∀ (is2 : Bool), ∀ (p6 : Nat), (is2 = (h0M z (nI s4) && allN (fun i => !decide (iv1 i &&& nI s4 = 0)) p6)) → (p6 ≤ pn) → pn < p6 + dd → ∀ (H : Heap) (locs : List Loc) (ls : Array Slot), wd D A s H locs (wM q cI cZ cF g ((lrn g (-1000) (-1000)).1) ke ac mk iv1) → lv_has ls 9 [(0, .ref (q 0)), (1, .int x), (2, .int (nI pn)), (3, .int z), (4, .int (nI s4)), (5, .int (bI is2)), (6, .int (nI p6))] → W p l e r_X6_hits s m args below meth c H locs 0 0 Q (F0 m 224 ls []) := by
                      intro dd
                      induction dd with
                      | zero => intros; omega
                      | succ dd ih224 =>
                        intro is2 p6 his hp6 hdd H locs ls hW hl
                        refine lv_iload S.1 S.2.1 dX6_hits_224 (lv_at hl 6 rfl) ?_
                        refine lv_iload_n S.1 S.2.1 dX6_hits_226 rfl (lv_at hl 2 rfl) ?_
                        refine icge_n (tgt := 261) S (by omega) (by omega) dX6_hits_227 (by decide) (fun c_227 => ?_) (fun c_227 => ?_)
                        · skip
                          have hfin : is2 = (h0M z (nI s4) && mtB iv1 (nI s4) pn) := by rw [his, show p6 = pn by omega]; rfl
                          refine lv_iload S.1 S.2.1 dX6_hits_261 (lv_at hl 5 rfl) ?_
                          refine ifeq_b (tgt := 271) S dX6_hits_263 (by decide) (fun c_263 => ?_) (fun c_263 => ?_)
                          · skip
                            refine lv_iload_n S.1 S.2.1 dX6_hits_271 rfl (lv_at hl 3 rfl) ?_
                            refine lv_istore_n (lv' := [(3, .int z), (0, .ref (q 0)), (1, .int x), (2, .int (nI pn)), (4, .int (nI s4)), (5, .int (bI is2)), (6, .int (nI p6))]) S.1 S.2.1 dX6_hits_272 rfl hl (by decide) rfl (fun ls hl => ?_)
                            refine lv_iinc (v := nI (s4 + 1)) (lv' := [(4, .int (nI (s4 + 1))), (3, .int z), (0, .ref (q 0)), (1, .int x), (2, .int (nI pn)), (5, .int (bI is2)), (6, .int (nI p6))]) (k := 4) S.1 S.2.1 dX6_hits_273 hl rfl (nI_1 _) (by decide) rfl (fun ls hl => ?_)
                            refine lv_goto (tgt := 184) S.1 S.2.1 dX6_hits_276 (by decide) ?_
                            exact ih184 z (s4 + 1) (by simp only [hsM, ← hz, ← hfin, c_263, eq_self, Nat.add_zero, decide_false, decide_true, Bool.not_true, Bool.not_false, Bool.and_true, Bool.true_and, Bool.and_false, Bool.false_and, Bool.or_true, Bool.true_or, Bool.or_false, Bool.false_or, ↓reduceIte, cond_true, cond_false, bI, and_true, true_and, and_false, false_and, or_true, true_or, or_false, false_or, not_true_eq_false, not_false_eq_true, if_true, if_false, Bool.false_eq_true, reduceCtorEq, ite_true, ite_false]) (by omega) (by omega) _ _ _ hW (lv_sub hl [2, 3, 4, 1, 0] rfl)
                          · skip
                            refine lv_iload S.1 S.2.1 dX6_hits_266 (lv_at hl 4 rfl) ?_
                            refine lv_goto (tgt := 272) S.1 S.2.1 dX6_hits_268 (by decide) ?_
                            refine lv_istore_n (lv' := [(3, .int (nI s4)), (0, .ref (q 0)), (1, .int x), (2, .int (nI pn)), (4, .int (nI s4)), (5, .int (bI is2)), (6, .int (nI p6))]) S.1 S.2.1 dX6_hits_272 rfl hl (by decide) rfl (fun ls hl => ?_)
                            refine lv_iinc (v := nI (s4 + 1)) (lv' := [(4, .int (nI (s4 + 1))), (3, .int (nI s4)), (0, .ref (q 0)), (1, .int x), (2, .int (nI pn)), (5, .int (bI is2)), (6, .int (nI p6))]) (k := 4) S.1 S.2.1 dX6_hits_273 hl rfl (nI_1 _) (by decide) rfl (fun ls hl => ?_)
                            refine lv_goto (tgt := 184) S.1 S.2.1 dX6_hits_276 (by decide) ?_
                            exact ih184 (nI s4) (s4 + 1) (by simp only [hsM, ← hz, ← hfin, c_263, eq_self, Nat.add_zero, decide_false, decide_true, Bool.not_true, Bool.not_false, Bool.and_true, Bool.true_and, Bool.and_false, Bool.false_and, Bool.or_true, Bool.true_or, Bool.or_false, Bool.false_or, ↓reduceIte, cond_true, cond_false, bI, and_true, true_and, and_false, false_and, or_true, true_or, or_false, false_or, not_true_eq_false, not_false_eq_true, if_true, if_false, Bool.false_eq_true, reduceCtorEq, ite_true, ite_false]) (by omega) (by omega) _ _ _ hW (lv_sub hl [2, 3, 4, 1, 0] rfl)
                        · skip
                          refine lv_iload S.1 S.2.1 dX6_hits_230 (lv_at hl 5 rfl) ?_
                          refine ifeq_b (tgt := 261) S dX6_hits_232 (by decide) (fun c_232 => ?_) (fun c_232 => ?_)
                          · skip
                            have hfin : is2 = (h0M z (nI s4) && mtB iv1 (nI s4) pn) := hs_fin his c_232 hp6
                            refine lv_iload S.1 S.2.1 dX6_hits_261 (lv_at hl 5 rfl) ?_
                            refine ifeq_b (tgt := 271) S dX6_hits_263 (by decide) (fun c_263 => ?_) (fun c_263 => ?_)
                            · skip
                              refine lv_iload_n S.1 S.2.1 dX6_hits_271 rfl (lv_at hl 3 rfl) ?_
                              refine lv_istore_n (lv' := [(3, .int z), (0, .ref (q 0)), (1, .int x), (2, .int (nI pn)), (4, .int (nI s4)), (5, .int (bI is2)), (6, .int (nI p6))]) S.1 S.2.1 dX6_hits_272 rfl hl (by decide) rfl (fun ls hl => ?_)
                              refine lv_iinc (v := nI (s4 + 1)) (lv' := [(4, .int (nI (s4 + 1))), (3, .int z), (0, .ref (q 0)), (1, .int x), (2, .int (nI pn)), (5, .int (bI is2)), (6, .int (nI p6))]) (k := 4) S.1 S.2.1 dX6_hits_273 hl rfl (nI_1 _) (by decide) rfl (fun ls hl => ?_)
                              refine lv_goto (tgt := 184) S.1 S.2.1 dX6_hits_276 (by decide) ?_
                              exact ih184 z (s4 + 1) (by simp only [hsM, ← hz, ← hfin, c_263, eq_self, Nat.add_zero, decide_false, decide_true, Bool.not_true, Bool.not_false, Bool.and_true, Bool.true_and, Bool.and_false, Bool.false_and, Bool.or_true, Bool.true_or, Bool.or_false, Bool.false_or, ↓reduceIte, cond_true, cond_false, bI, and_true, true_and, and_false, false_and, or_true, true_or, or_false, false_or, not_true_eq_false, not_false_eq_true, if_true, if_false, Bool.false_eq_true, reduceCtorEq, ite_true, ite_false]) (by omega) (by omega) _ _ _ hW (lv_sub hl [2, 3, 4, 1, 0] rfl)
                            · skip
                              exact absurd (c_232.symm.trans c_263) (by decide)
                          · skip
                            refine lv_aload_n S.1 S.2.1 dX6_hits_235 rfl (lv_at hl 0 rfl) ?_
                            refine gf S hk hW 0 rfl rfl hwsX60 12 (by decide) 6 rfl rfl dX6_hits_236 ?_
                            refine lv_iload S.1 S.2.1 dX6_hits_239 (lv_at hl 6 rfl) ?_
                            refine ild S hk hW 8 rfl p6 rfl (by omega) (by omega) dX6_hits_241 ?_
                            refine lv_iload S.1 S.2.1 dX6_hits_242 (lv_at hl 4 rfl) ?_
                            refine lv_iand S.1 S.2.1 dX6_hits_244 ?_
                            refine lv_if_eq (tgt := 252) S.1 S.2.1 dX6_hits_245 (by decide) (fun c_245 => ?_) (fun c_245 => ?_)
                            · skip
                              refine lv_iconst (v := nI 0) S.1 S.2.1 dX6_hits_252 (by decide) ?_
                              refine lv_istore (lv' := [(5, .int (nI 0)), (0, .ref (q 0)), (1, .int x), (2, .int (nI pn)), (3, .int z), (4, .int (nI s4)), (6, .int (nI p6))]) S.1 S.2.1 dX6_hits_253 hl (by decide) rfl (fun ls hl => ?_)
                              refine lv_iinc (v := nI (p6 + 1)) (lv' := [(6, .int (nI (p6 + 1))), (5, .int (nI 0)), (0, .ref (q 0)), (1, .int x), (2, .int (nI pn)), (3, .int z), (4, .int (nI s4))]) (k := 6) S.1 S.2.1 dX6_hits_255 hl rfl (nI_1 _) (by decide) rfl (fun ls hl => ?_)
                              refine lv_goto (tgt := 224) S.1 S.2.1 dX6_hits_258 (by decide) ?_
                              exact ih224 false (p6 + 1) (by rw [c_232] at his; simp only [allN, ← Bool.and_assoc, ← his, eq_true c_245, eq_self, Nat.add_zero, decide_false, decide_true, Bool.not_true, Bool.not_false, Bool.and_true, Bool.true_and, Bool.and_false, Bool.false_and, Bool.or_true, Bool.true_or, Bool.or_false, Bool.false_or, ↓reduceIte, cond_true, cond_false, bI, and_true, true_and, and_false, false_and, or_true, true_or, or_false, false_or, not_true_eq_false, not_false_eq_true, if_true, if_false, Bool.false_eq_true, reduceCtorEq, ite_true, ite_false]) (by omega) (by omega) _ _ _ hW (lv_sub hl [2, 3, 4, 5, 6, 1, 0] rfl)
                            · skip
                              refine lv_iconst (v := nI 1) S.1 S.2.1 dX6_hits_248 (by decide) ?_
                              refine lv_goto (tgt := 253) S.1 S.2.1 dX6_hits_249 (by decide) ?_
                              refine lv_istore (lv' := [(5, .int (nI 1)), (0, .ref (q 0)), (1, .int x), (2, .int (nI pn)), (3, .int z), (4, .int (nI s4)), (6, .int (nI p6))]) S.1 S.2.1 dX6_hits_253 hl (by decide) rfl (fun ls hl => ?_)
                              refine lv_iinc (v := nI (p6 + 1)) (lv' := [(6, .int (nI (p6 + 1))), (5, .int (nI 1)), (0, .ref (q 0)), (1, .int x), (2, .int (nI pn)), (3, .int z), (4, .int (nI s4))]) (k := 6) S.1 S.2.1 dX6_hits_255 hl rfl (nI_1 _) (by decide) rfl (fun ls hl => ?_)
                              refine lv_goto (tgt := 224) S.1 S.2.1 dX6_hits_258 (by decide) ?_
                              exact ih224 true (p6 + 1) (by rw [c_232] at his; simp only [allN, ← Bool.and_assoc, ← his, eq_false c_245, eq_self, Nat.add_zero, decide_false, decide_true, Bool.not_true, Bool.not_false, Bool.and_true, Bool.true_and, Bool.and_false, Bool.false_and, Bool.or_true, Bool.true_or, Bool.or_false, Bool.false_or, ↓reduceIte, cond_true, cond_false, bI, and_true, true_and, and_false, false_and, or_true, true_or, or_false, false_or, not_true_eq_false, not_false_eq_true, if_true, if_false, Bool.false_eq_true, reduceCtorEq, ite_true, ite_false]) (by omega) (by omega) _ _ _ hW (lv_sub hl [2, 3, 4, 5, 6, 1, 0] rfl)
                    exact L224 (pn + 1) true 0 (by simp only [h0M, allN, eq_false c_199, eq_false c_211, eq_self, Nat.add_zero, decide_false, decide_true, Bool.not_true, Bool.not_false, Bool.and_true, Bool.true_and, Bool.and_false, Bool.false_and, Bool.or_true, Bool.true_or, Bool.or_false, Bool.false_or, ↓reduceIte, cond_true, cond_false, bI, and_true, true_and, and_false, false_and, or_true, true_or, or_false, false_or, not_true_eq_false, not_false_eq_true, if_true, if_false, Bool.false_eq_true, reduceCtorEq, ite_true, ite_false]) (by omega) (by omega) _ _ _ hW (lv_sub hl [2, 3, 4, 5, 6, 1, 0] rfl)
          exact L184 (M + 1) (-1000) 0 rfl (by omega) (by omega) _ _ _ hW (lv_sub hl [2, 3, 4, 1, 0] rfl)
        · skip
          refine lv_iconst (v := nI 0) S.1 S.2.1 dX6_hits_44 (by decide) ?_
          refine lv_istore (lv' := [(4, .int (nI 0)), (0, .ref (q 0)), (1, .int x), (2, .int (nI pn)), (3, .int (nI a))]) S.1 S.2.1 dX6_hits_45 hl (by decide) rfl (fun ls hl => ?_)
          have L47 : ∀ (dd : Nat), ∀ (b : Nat), ∀ (pn2 : Nat), ∀ (iv2 : Nat → Int32), (pn2 = (hiI g (lrn g (-1000) (-1000)).1 a x (hiO g (lrn g (-1000) (-1000)).1 (gN g) x iv a) b).1) → (iv2 = (hiI g (lrn g (-1000) (-1000)).1 a x (hiO g (lrn g (-1000) (-1000)).1 (gN g) x iv a) b).2) → (pn2 ≤ a * 10 + b) → (b ≤ gN g) → gN g < b + dd → ∀ (H : Heap) (locs : List Loc) (ls : Array Slot), wd D A s H locs (wM q cI cZ cF g ((lrn g (-1000) (-1000)).1) ke ac mk iv2) → lv_has ls 9 [(0, .ref (q 0)), (1, .int x), (2, .int (nI pn2)), (3, .int (nI a)), (4, .int (nI b))] → W p l e r_X6_hits s m args below meth c H locs 0 0 Q (F0 m 47 ls []) := by
            intro dd
            induction dd with
            | zero => intros; omega
            | succ dd ih47 =>
              intro b pn2 iv2 hp3 hv3 hpb2 hb hdd H locs ls hW hl
              refine lv_iload S.1 S.2.1 dX6_hits_47 (lv_at hl 4 rfl) ?_
              refine lv_aload_n S.1 S.2.1 dX6_hits_49 rfl (lv_at hl 0 rfl) ?_
              refine gf S hk hW 0 rfl rfl hwsX60 1 (by decide) 3 rfl rfl dX6_hits_50 ?_
              refine icge_n (tgt := 171) S (by omega) (by omega) dX6_hits_53 (by decide) (fun c_53 => ?_) (fun c_53 => ?_)
              · skip
                refine lv_iinc (v := nI (a + 1)) (lv' := [(3, .int (nI (a + 1))), (0, .ref (q 0)), (1, .int x), (2, .int (nI pn2)), (4, .int (nI b))]) (k := 3) S.1 S.2.1 dX6_hits_171 hl rfl (nI_1 _) (by decide) rfl (fun ls hl => ?_)
                refine lv_goto (tgt := 36) S.1 S.2.1 dX6_hits_174 (by decide) ?_
                exact ih36 (a + 1) pn2 iv2 (by rw [hp3, show b = gN g by omega]; rfl) (by rw [hv3, show b = gN g by omega]; rfl) (by omega) (by omega) (by omega) _ _ _ hW (lv_sub hl [1, 2, 3, 0] rfl)
              · skip
                refine lv_aload_n S.1 S.2.1 dX6_hits_56 rfl (lv_at hl 0 rfl) ?_
                refine gf S hk hW 0 rfl rfl hwsX60 8 (by decide) 4 rfl rfl dX6_hits_57 ?_
                refine lv_bipush (v := nI 10) S.1 S.2.1 dX6_hits_60 (by decide) ?_
                refine lv_iload_n S.1 S.2.1 dX6_hits_62 rfl (lv_at hl 3 rfl) ?_
                refine lv_imul S.1 S.2.1 dX6_hits_63 (top_eq (pk_mul _ _) ?_)
                refine lv_iload S.1 S.2.1 dX6_hits_64 (lv_at hl 4 rfl) ?_
                refine lv_iadd S.1 S.2.1 dX6_hits_66 (top_eq (nI_add _ _) ?_)
                refine ild S hk hW 6 rfl ((10 * a) + b) rfl (by omega) (by omega) dX6_hits_67 ?_
                refine lv_istore (lv' := [(5, .int (((lrn g (-1000) (-1000)).1) ((10 * a) + b))), (0, .ref (q 0)), (1, .int x), (2, .int (nI pn2)), (3, .int (nI a)), (4, .int (nI b))]) S.1 S.2.1 dX6_hits_68 hl (by decide) rfl (fun ls hl => ?_)
                refine lv_iload_n S.1 S.2.1 dX6_hits_70 rfl (lv_at hl 4 rfl) ?_
                refine lv_iload S.1 S.2.1 dX6_hits_71 (lv_at hl 5 rfl) ?_
                refine iceq_n (tgt := 165) S (by omega) (by omega) dX6_hits_73 (by decide) (fun c_73 => ?_) (fun c_73 => ?_)
                · skip
                  refine lv_iinc (v := nI (b + 1)) (lv' := [(4, .int (nI (b + 1))), (5, .int (((lrn g (-1000) (-1000)).1) ((10 * a) + b))), (0, .ref (q 0)), (1, .int x), (2, .int (nI pn2)), (3, .int (nI a))]) (k := 5) S.1 S.2.1 dX6_hits_165 hl rfl (nI_1 _) (by decide) rfl (fun ls hl => ?_)
                  refine lv_goto (tgt := 47) S.1 S.2.1 dX6_hits_168 (by decide) ?_
                  exact ih47 (b + 1) pn2 iv2 (by simp only [hiI, if_pos c_73, ← hp3]) (by simp only [hiI, if_pos c_73, ← hv3]) (by omega) (by omega) (by omega) _ _ _ hW (lv_sub hl [2, 3, 4, 5, 0] rfl)
                · skip
                  refine lv_iload S.1 S.2.1 dX6_hits_76 (lv_at hl 0 rfl) ?_
                  refine lv_ldc (v := nI 10000000) S.1 S.2.1 S.2.2.2.1 (S.2.2.2.2 _ (List.mem_of_getElem? (i := 5) rfl)) dX6_hits_78 ?_
                  refine lv_icmp_ge (tgt := 165) S.1 S.2.1 dX6_hits_80 (by decide) (fun c_80 => ?_) (fun c_80 => ?_)
                  · skip
                    refine lv_iinc (v := nI (b + 1)) (lv' := [(4, .int (nI (b + 1))), (5, .int (((lrn g (-1000) (-1000)).1) ((10 * a) + b))), (0, .ref (q 0)), (1, .int x), (2, .int (nI pn2)), (3, .int (nI a))]) (k := 5) S.1 S.2.1 dX6_hits_165 hl rfl (nI_1 _) (by decide) rfl (fun ls hl => ?_)
                    refine lv_goto (tgt := 47) S.1 S.2.1 dX6_hits_168 (by decide) ?_
                    exact ih47 (b + 1) pn2 iv2 (by simp only [hiI, if_neg c_73, if_pos c_80, ← hp3]) (by simp only [hiI, if_neg c_73, if_pos c_80, ← hv3]) (by omega) (by omega) (by omega) _ _ _ hW (lv_sub hl [2, 3, 4, 5, 0] rfl)
                  · skip
                    have hfar := Int32.not_le.mp c_80
                    have ha2 : a < gN g := (by omega)
                    have hb2 : b < gN g := (by omega)
                    obtain ⟨S9, hS9, hS, -⟩ := hNx a b ha2 hb2 hfar
                    have hst := (stM_lt hfar).symm.trans hS
                    refine lv_iload S.1 S.2.1 dX6_hits_83 (lv_at hl 0 rfl) ?_
                    refine lv_bipush (v := nI 64) S.1 S.2.1 dX6_hits_85 (by decide) ?_
                    refine lv_iload S.1 S.2.1 dX6_hits_87 (lv_at hl 0 rfl) ?_
                    refine kSi S (c_X6_coarse (l := l) (D := D) (cI := cI) (cZ := cZ) (cF := cF)) (va_cwS 1 S.2.2.2.2 gX6_hits_X6_coarse rfl rfl rfl v_X6_coarse ⟨(Nat.le_of_ble_eq_true rfl), (Nat.le_of_ble_eq_true rfl)⟩) hk hW rfl hl rfl (Nat.le_of_ble_eq_true rfl) dX6_hits_89 ⟨(Nat.le_of_ble_eq_true rfl), (Nat.le_of_ble_eq_true rfl)⟩ (fun r u H locs hp hW => ?_)
                    obtain ⟨rfl, rfl⟩ := hp
                    refine lv_imul S.1 S.2.1 dX6_hits_92 ?_
                    refine lv_isub S.1 S.2.1 dX6_hits_93 ?_
                    refine lv_iload_n S.1 S.2.1 dX6_hits_94 rfl (lv_at hl 2 rfl) ?_
                    refine lv_icmp_lt (tgt := 165) S.1 S.2.1 dX6_hits_95 (by decide) (fun c_95 => ?_) (fun c_95 => ?_)
                    · skip
                      refine lv_iinc (v := nI (b + 1)) (lv' := [(4, .int (nI (b + 1))), (5, .int (((lrn g (-1000) (-1000)).1) ((10 * a) + b))), (0, .ref (q 0)), (1, .int x), (2, .int (nI pn2)), (3, .int (nI a))]) (k := 5) S.1 S.2.1 dX6_hits_165 hl rfl (nI_1 _) (by decide) rfl (fun ls hl => ?_)
                      refine lv_goto (tgt := 47) S.1 S.2.1 dX6_hits_168 (by decide) ?_
                      exact ih47 (b + 1) pn2 iv2 (by simp only [hiI, if_neg c_73, if_neg c_80, if_pos c_95, ← hp3]) (by simp only [hiI, if_neg c_73, if_neg c_80, if_pos c_95, ← hv3]) (by omega) (by omega) (by omega) _ _ _ hW (lv_sub hl [2, 3, 4, 5, 0] rfl)
                    · skip
                      refine lv_iconst (v := nI 0) S.1 S.2.1 dX6_hits_98 (by decide) ?_
                      refine lv_istore (lv' := [(6, .int (nI 0)), (5, .int (((lrn g (-1000) (-1000)).1) ((10 * a) + b))), (0, .ref (q 0)), (1, .int x), (2, .int (nI pn2)), (3, .int (nI a)), (4, .int (nI b))]) S.1 S.2.1 dX6_hits_99 hl (by decide) rfl (fun ls hl => ?_)
                      refine lv_iload_n S.1 S.2.1 dX6_hits_101 rfl (lv_at hl 5 rfl) ?_
                      refine lv_istore (lv' := [(7, .int (nI a)), (6, .int (nI 0)), (5, .int (((lrn g (-1000) (-1000)).1) ((10 * a) + b))), (0, .ref (q 0)), (1, .int x), (2, .int (nI pn2)), (3, .int (nI a)), (4, .int (nI b))]) S.1 S.2.1 dX6_hits_102 hl (by decide) rfl (fun ls hl => ?_)
                      refine lv_iconst (v := nI 1) S.1 S.2.1 dX6_hits_104 (by decide) ?_
                      refine lv_istore (lv' := [(8, .int (nI 1)), (7, .int (nI a)), (6, .int (nI 0)), (5, .int (((lrn g (-1000) (-1000)).1) ((10 * a) + b))), (0, .ref (q 0)), (1, .int x), (2, .int (nI pn2)), (3, .int (nI a)), (4, .int (nI b))]) S.1 S.2.1 dX6_hits_105 hl (by decide) rfl (fun ls hl => ?_)
                      have L107 : ∀ (dd : Nat), ∀ (s6 : Int32), ∀ (a1 : Nat), ∀ (t1 : Nat), (s6 = bbM g (lrn g (-1000) (-1000)).1 a b t1) → (a1 = atM g (lrn g (-1000) (-1000)).1 a b t1) → (a1 < gN g) → ((lrn g (-1000) (-1000)).1 (10 * a1 + b) < nI 10000000) → (stM ((lrn g (-1000) (-1000)).1 (10 * a1 + b)) = nI (S9 - t1)) → (t1 ≤ S9 - 1) → S9 - 1 < t1 + dd → ∀ (H : Heap) (locs : List Loc) (ls : Array Slot), wd D A s H locs (wM q cI cZ cF g ((lrn g (-1000) (-1000)).1) ke ac mk iv2) → lv_has ls 9 [(0, .ref (q 0)), (1, .int x), (2, .int (nI pn2)), (3, .int (nI a)), (4, .int (nI b)), (5, .int (((lrn g (-1000) (-1000)).1) ((10 * a) + b))), (6, .int s6), (7, .int (nI a1)), (8, .int (nI (t1 + 1)))] → W p l e r_X6_hits s m args below meth c H locs 0 0 Q (F0 m 107 ls []) := by
                        intro dd
                        induction dd with
                        | zero => intros; omega
                        | succ dd ih107 =>
                          intro s6 a1 t1 hs6 hat ha1 hfa1 hsa1 ht1 hdd H locs ls hW hl
                          refine lv_iload S.1 S.2.1 dX6_hits_107 (lv_at hl 8 rfl) ?_
                          refine lv_iload S.1 S.2.1 dX6_hits_109 (lv_at hl 5 rfl) ?_
                          refine lv_bipush (v := nI 64) S.1 S.2.1 dX6_hits_111 (by decide) ?_
                          refine lv_iload S.1 S.2.1 dX6_hits_113 (lv_at hl 5 rfl) ?_
                          refine kSi S (c_X6_coarse (l := l) (D := D) (cI := cI) (cZ := cZ) (cF := cF)) (va_cwS 1 S.2.2.2.2 gX6_hits_X6_coarse rfl rfl rfl v_X6_coarse ⟨(Nat.le_of_ble_eq_true rfl), (Nat.le_of_ble_eq_true rfl)⟩) hk hW rfl hl rfl (Nat.le_of_ble_eq_true rfl) dX6_hits_115 ⟨(Nat.le_of_ble_eq_true rfl), (Nat.le_of_ble_eq_true rfl)⟩ (fun r u H locs hp hW => ?_)
                          obtain ⟨rfl, rfl⟩ := hp
                          refine lv_imul S.1 S.2.1 dX6_hits_118 ?_
                          refine lv_isub S.1 S.2.1 dX6_hits_119 ?_
                          refine lv_icmp_ge (tgt := 154) S.1 S.2.1 dX6_hits_120 (by decide) (fun c_120 => ?_) (fun c_120 => ?_)
                          · skip
                            have c120 : S9 ≤ t1 + 1 := by
                              have h9 := c_120
                              rw [hst] at h9
                              exact (nI_leI (by omega) (by omega)).mp h9
                            refine lv_aload_n S.1 S.2.1 dX6_hits_154 rfl (lv_at hl 0 rfl) ?_
                            refine gf S hk hW 0 rfl rfl hwsX60 12 (by decide) 6 rfl rfl dX6_hits_155 ?_
                            refine lv_iload_n S.1 S.2.1 dX6_hits_158 rfl (lv_at hl 2 rfl) ?_
                            refine lv_iload S.1 S.2.1 dX6_hits_159 (lv_at hl 6 rfl) ?_
                            refine ist (w' := wM q cI cZ cF g ((lrn g (-1000) (-1000)).1) ke ac mk (upd iv2 pn2 s6)) S hk hW 8 rfl pn2 rfl (by omega) (by omega) dX6_hits_161 rfl (fun H locs hW => ?_)
                            refine lv_iinc (v := nI (pn2 + 1)) (lv' := [(2, .int (nI (pn2 + 1))), (0, .ref (q 0)), (1, .int x), (3, .int (nI a)), (4, .int (nI b)), (5, .int (((lrn g (-1000) (-1000)).1) ((10 * a) + b))), (6, .int s6), (7, .int (nI a1)), (8, .int (nI (t1 + 1)))]) (k := 2) S.1 S.2.1 dX6_hits_162 hl rfl (nI_1 _) (by decide) rfl (fun ls hl => ?_)
                            refine lv_iinc (v := nI (b + 1)) (lv' := [(4, .int (nI (b + 1))), (2, .int (nI (pn2 + 1))), (0, .ref (q 0)), (1, .int x), (3, .int (nI a)), (5, .int (((lrn g (-1000) (-1000)).1) ((10 * a) + b))), (6, .int s6), (7, .int (nI a1)), (8, .int (nI (t1 + 1)))]) (k := 4) S.1 S.2.1 dX6_hits_165 hl rfl (nI_1 _) (by decide) rfl (fun ls hl => ?_)
                            refine lv_goto (tgt := 47) S.1 S.2.1 dX6_hits_168 (by decide) ?_
                            exact ih47 (b + 1) (pn2 + 1) (upd iv2 pn2 s6) (by simp only [hiI, if_neg c_73, if_neg c_80, if_neg c_95, ← hp3]) (by simp only [hiI, if_neg c_73, if_neg c_80, if_neg c_95, ← hp3, ← hv3]; rw [hst, nI_clamp (by omega), hs6, show t1 = S9 - 1 by omega]) (by omega) (by omega) (by omega) _ _ _ hW (lv_sub hl [2, 3, 1, 4, 0] rfl)
                          · skip
                            have c120 : ¬ S9 ≤ t1 + 1 := by
                              intro h9
                              apply c_120
                              rw [hst]
                              exact (nI_leI (by omega) (by omega)).mpr h9
                            refine lv_aload_n S.1 S.2.1 dX6_hits_123 rfl (lv_at hl 0 rfl) ?_
                            refine lv_aload_n S.1 S.2.1 dX6_hits_124 rfl (lv_at hl 0 rfl) ?_
                            refine lv_iload S.1 S.2.1 dX6_hits_125 (lv_at hl 7 rfl) ?_
                            refine lv_iload S.1 S.2.1 dX6_hits_127 (lv_at hl 4 rfl) ?_
                            refine kVi S (c_X6_nextOf (l := l) (D := D) (cI := cI) (cZ := cZ) (cF := cF) G (by first | assumption | omega) (by first | assumption | omega)) (cwV 2 S.2.2.2.2 gX6_hits_X6_nextOf rfl rfl rfl ⟨rfl, v_X6_nextOf⟩ ⟨(Nat.le_of_ble_eq_true rfl), (Nat.le_of_ble_eq_true rfl)⟩) hk hW 0 rfl rfl rfl rfl hl rfl (Nat.le_of_ble_eq_true rfl) dX6_hits_129 ⟨(Nat.le_of_ble_eq_true rfl), (Nat.le_of_ble_eq_true rfl)⟩ (fun r u H locs hp hW => ?_)
                            obtain ⟨rfl, rfl⟩ := hp
                            obtain ⟨h2j, h2l, h2f, h2s⟩ := Nxt_at hNx ha1 hb2 hfa1 hsa1 (by omega) (by omega)
                            refine top_eq (y := nI (nlM g (lrn g (-1000) (-1000)).1 b a1)) (by rw [h2j]; rfl) ?_
                            refine lv_iload S.1 S.2.1 dX6_hits_132 (lv_at hl 7 rfl) ?_
                            refine kVi S (c_X6_other (l := l) (D := D) (cI := cI) (cZ := cZ) (cF := cF) G (by first | assumption | omega) (by first | assumption | omega)) (cwV 2 S.2.2.2.2 gX6_hits_X6_other rfl rfl rfl ⟨rfl, v_X6_other⟩ ⟨(Nat.le_of_ble_eq_true rfl), (Nat.le_of_ble_eq_true rfl)⟩) hk hW 0 rfl rfl rfl rfl hl rfl (Nat.le_of_ble_eq_true rfl) dX6_hits_134 ⟨(Nat.le_of_ble_eq_true rfl), (Nat.le_of_ble_eq_true rfl)⟩ (fun r u H locs hp hW => ?_)
                            obtain ⟨rfl, rfl⟩ := hp
                            refine lv_istore (lv' := [(7, .int (nI (otM g (nlM g (lrn g (-1000) (-1000)).1 b a1) a1))), (0, .ref (q 0)), (1, .int x), (2, .int (nI pn2)), (3, .int (nI a)), (4, .int (nI b)), (5, .int (((lrn g (-1000) (-1000)).1) ((10 * a) + b))), (6, .int s6), (8, .int (nI (t1 + 1)))]) S.1 S.2.1 dX6_hits_137 hl (by decide) rfl (fun ls hl => ?_)
                            refine lv_iload S.1 S.2.1 dX6_hits_139 (lv_at hl 7 rfl) ?_
                            refine lv_iconst (v := nI 1) S.1 S.2.1 dX6_hits_141 (by decide) ?_
                            refine lv_iload S.1 S.2.1 dX6_hits_142 (lv_at hl 0 rfl) ?_
                            refine lv_ishl S.1 S.2.1 dX6_hits_144 ?_
                            refine lv_ior S.1 S.2.1 dX6_hits_145 ?_
                            refine lv_istore (lv' := [(6, .int (s6 ||| ((nI 1) <<< ((nI (otM g (nlM g (lrn g (-1000) (-1000)).1 b a1) a1)) &&& 31)))), (7, .int (nI (otM g (nlM g (lrn g (-1000) (-1000)).1 b a1) a1))), (0, .ref (q 0)), (1, .int x), (2, .int (nI pn2)), (3, .int (nI a)), (4, .int (nI b)), (5, .int (((lrn g (-1000) (-1000)).1) ((10 * a) + b))), (8, .int (nI (t1 + 1)))]) S.1 S.2.1 dX6_hits_146 hl (by decide) rfl (fun ls hl => ?_)
                            refine lv_iinc (v := nI (t1 + 1 + 1)) (lv' := [(8, .int (nI (t1 + 1 + 1))), (6, .int (s6 ||| ((nI 1) <<< ((nI (otM g (nlM g (lrn g (-1000) (-1000)).1 b a1) a1)) &&& 31)))), (7, .int (nI (otM g (nlM g (lrn g (-1000) (-1000)).1 b a1) a1))), (0, .ref (q 0)), (1, .int x), (2, .int (nI pn2)), (3, .int (nI a)), (4, .int (nI b)), (5, .int (((lrn g (-1000) (-1000)).1) ((10 * a) + b)))]) (k := 8) S.1 S.2.1 dX6_hits_148 hl rfl (nI_1 _) (by decide) rfl (fun ls hl => ?_)
                            refine lv_goto (tgt := 107) S.1 S.2.1 dX6_hits_151 (by decide) ?_
                            exact ih107 (s6 ||| ((nI 1) <<< ((nI (otM g (nlM g (lrn g (-1000) (-1000)).1 b a1) a1)) &&& 31))) (otM g (nlM g (lrn g (-1000) (-1000)).1 b a1) a1) (t1 + 1) (by rw [hs6, hat]; rfl) (by rw [hat]; rfl) (otM_lt G h2l) h2f (by rw [h2s]; exact congrArg nI (by omega)) (by omega) (by omega) _ _ _ hW (lv_sub hl [3, 4, 5, 6, 7, 8, 1, 2, 0] rfl)
                      exact L107 ((S9 - 1) + 1) (nI 0) a 0 rfl rfl ha2 hfar hS (by omega) (by omega) _ _ _ hW (lv_sub hl [4, 5, 6, 7, 8, 3, 2, 1, 0] rfl)
          exact L47 ((gN g) + 1) 0 pn iv1 hp1 hv1 (by omega) (by omega) (by omega) _ _ _ hW (lv_sub hl [1, 2, 3, 4, 0] rfl)
    exact L36 ((gN g) + 1) 0 0 iv rfl rfl (by omega) (by omega) (by omega) _ _ _ hW (lv_sub hl [2, 3, 1, 0] rfl)
  · skip
    refine lv_sipush (v := (-1002)) S.1 S.2.1 dX6_hits_17 (by decide) ?_
    exact hR _ _ _ _ _ _ _ _ dX6_hits_20 rfl (Nat.le_of_ble_eq_true rfl) (Nat.le_of_ble_eq_true rfl) hW ⟨(by simp only [hitM, c_14, eq_self, Nat.add_zero, decide_false, decide_true, Bool.not_true, Bool.not_false, Bool.and_true, Bool.true_and, Bool.and_false, Bool.false_and, Bool.or_true, Bool.true_or, Bool.or_false, Bool.false_or, ↓reduceIte, cond_true, cond_false, bI, and_true, true_and, and_false, false_and, or_true, true_or, or_false, false_or, not_true_eq_false, not_false_eq_true, if_true, if_false, Bool.false_eq_true, reduceCtorEq, ite_true, ite_false]), ⟨_, ⟨_, rfl⟩⟩⟩
abbrev r_X6_told : Room := { frames := 3, cells := 0, slots := 0, locals := 66 }
theorem v_X6_told : yX6_told.cls ≠ "java/lang/invoke/MethodHandle" ∧ yX6_told.cls ≠ "java/lang/invoke/VarHandle" ∧ (parseMethodDescriptor yX6_told.desc).map (fun d => d.parameters.length) = some 2 := by decide +kernel
set_option maxRecDepth 100000 in
set_option maxHeartbeats 4000000 in
theorem c_X6_told {l : Launch} {D : va_G} {cI cZ cF : ClassId} {q : Nat → Nat} {g : Gr} {fi ke : Nat → Int32} {ac : Nat} {mk : Int32} {iv : Nat → Int32} {x y : Int32} (G : Gok g) : cI_ l D cI cZ cF yX6_told wsX6_told r_X6_told [.ref (q 0), .int x, .int y] (wM q cI cZ cF g fi ke ac mk iv) (fun r u => (inb x (gK g) = false → r = (-1001)) ∧ (inb x (gK g) = true → (y = nI 0 → r = nI (e1 g x.toNatClampNeg)) ∧ (y = nI 1 → r = nI (e2 g x.toNatClampNeg)) ∧ (y = nI 2 → r = gP g x.toNatClampNeg) ∧ (y = nI 3 → r = bI (bW g x.toNatClampNeg)) ∧ (y = nI 4 → r = bI (bT g x.toNatClampNeg)) ∧ (y = nI 5 → r = if bT g x.toNatClampNeg = true then liM g (lrn g (-1000) (-1000)).1 x.toNatClampNeg else (-1000)) ∧ ((y.toInt < 0 ∨ 5 < y.toInt) → r = (-1002))) ∧ ∃ fi', u = wM q cI cZ cF g fi' ke ac mk iv) 0 0 := by
  refine cI_of (cc := cX6_told) (maxL := 4) (rt := .int) (plainFor_of_name (by decide +kernel)) rfl (Nat.le_of_ble_eq_true rfl) ?_
  intro p e s m args below meth c A Q ls S hk hW hl hR
  have hl : lv_has ls 4 [(0, .ref (q 0)), (1, .int x), (2, .int y)] := hl
  have hwsX60 : ∀ x ∈ wsX60, x ∈ wsX6_told := fun x h => List.mem_cons_of_mem _ (List.mem_append_right _ h)
  have hN := Gok_N G; have hN2 := Gok_N2 G; have hKK := Gok_K G
  refine lv_aload_n S.1 S.2.1 dX6_told_0 rfl (lv_at hl 0 rfl) ?_
  refine lv_iconst (v := nI 0) S.1 S.2.1 dX6_told_1 (by decide) ?_
  refine pf (ty := .int) (w' := wM q cI cZ cF g fi ke ac mk iv) S hk hW 0 rfl rfl hwsX60 tyX6 tyX6_ok nmX6 0 (by decide) 1 rfl rfl (by decide +kernel) rfl rfl (Nat.le_of_ble_eq_true rfl) dX6_told_2 rfl (fun H locs hW => ?_)
  refine lv_aload_n S.1 S.2.1 dX6_told_5 rfl (lv_at hl 0 rfl) ?_
  refine lv_iload_n S.1 S.2.1 dX6_told_6 rfl (lv_at hl 1 rfl) ?_
  refine kVi S (c_X6_noLine (l := l) (D := D) (cI := cI) (cZ := cZ) (cF := cF) G) (cwV 1 S.2.2.2.2 gX6_told_X6_noLine rfl rfl rfl ⟨rfl, v_X6_noLine⟩ ⟨(Nat.le_of_ble_eq_true rfl), (Nat.le_of_ble_eq_true rfl)⟩) hk hW 0 rfl rfl rfl rfl hl rfl (Nat.le_of_ble_eq_true rfl) dX6_told_7 ⟨(Nat.le_of_ble_eq_true rfl), (Nat.le_of_ble_eq_true rfl)⟩ (fun r u H locs hp hW => ?_)
  obtain ⟨rfl, rfl⟩ := hp
  refine ifeq_nb (tgt := 17) S dX6_told_10 (by decide) (fun c_10 => ?_) (fun c_10 => ?_)
  · skip
    obtain ⟨j, hj, rfl⟩ := inb_nat c_10 (by omega)
    have hcj : (nI j).toNatClampNeg = j := nI_clamp (by omega)
    refine lv_iload_n S.1 S.2.1 dX6_told_17 rfl (lv_at hl 2 rfl) ?_
    rcases sw6 y with rfl | rfl | rfl | rfl | rfl | rfl | hsw
    · refine lv_tableIn (tgt := 56) (off := 38) S.1 S.2.1 dX6_told_18 (by decide) (by decide) (by decide) (by decide) ?_
      refine lv_aload_n S.1 S.2.1 dX6_told_56 rfl (lv_at hl 0 rfl) ?_
      refine gf S hk hW 0 rfl rfl hwsX60 3 (by decide) 2 rfl rfl dX6_told_57 ?_
      refine lv_iload_n S.1 S.2.1 dX6_told_60 rfl (lv_at hl 1 rfl) ?_
      refine ild S hk hW 1 rfl j rfl (by omega) (by omega) dX6_told_61 ?_
      refine top_eq (Gok_B G (j := j) (by omega)) ?_
      have hb61 := Gok_B2 G (j := j) (by omega)
      exact hR _ _ _ _ _ _ _ _ dX6_told_62 rfl (Nat.le_of_ble_eq_true rfl) (Nat.le_of_ble_eq_true rfl) hW ⟨fun h => absurd (c_10.symm.trans h) (by decide), fun _ => ⟨fun _ => (by rw [hcj]), fun h => absurd h (by decide), fun h => absurd h (by decide), fun h => absurd h (by decide), fun h => absurd h (by decide), fun h => absurd h (by decide), fun h => absurd h (by decide)⟩, ⟨_, rfl⟩⟩
    · refine lv_tableIn (tgt := 63) (off := 45) S.1 S.2.1 dX6_told_18 (by decide) (by decide) (by decide) (by decide) ?_
      refine lv_aload_n S.1 S.2.1 dX6_told_63 rfl (lv_at hl 0 rfl) ?_
      refine gf S hk hW 0 rfl rfl hwsX60 4 (by decide) 3 rfl rfl dX6_told_64 ?_
      refine lv_iload_n S.1 S.2.1 dX6_told_67 rfl (lv_at hl 1 rfl) ?_
      refine ild S hk hW 2 rfl j rfl (by omega) (by omega) dX6_told_68 ?_
      refine top_eq (Gok_E G (j := j) (by omega)) ?_
      have hb68 := Gok_E2 G (j := j) (by omega)
      exact hR _ _ _ _ _ _ _ _ dX6_told_69 rfl (Nat.le_of_ble_eq_true rfl) (Nat.le_of_ble_eq_true rfl) hW ⟨fun h => absurd (c_10.symm.trans h) (by decide), fun _ => ⟨fun h => absurd h (by decide), fun _ => (by rw [hcj]), fun h => absurd h (by decide), fun h => absurd h (by decide), fun h => absurd h (by decide), fun h => absurd h (by decide), fun h => absurd h (by decide)⟩, ⟨_, rfl⟩⟩
    · refine lv_tableIn (tgt := 70) (off := 52) S.1 S.2.1 dX6_told_18 (by decide) (by decide) (by decide) (by decide) ?_
      refine lv_aload_n S.1 S.2.1 dX6_told_70 rfl (lv_at hl 0 rfl) ?_
      refine gf S hk hW 0 rfl rfl hwsX60 5 (by decide) 4 rfl rfl dX6_told_71 ?_
      refine lv_iload_n S.1 S.2.1 dX6_told_74 rfl (lv_at hl 1 rfl) ?_
      refine ild S hk hW 3 rfl j rfl (by omega) (by omega) dX6_told_75 ?_
      exact hR _ _ _ _ _ _ _ _ dX6_told_76 rfl (Nat.le_of_ble_eq_true rfl) (Nat.le_of_ble_eq_true rfl) hW ⟨fun h => absurd (c_10.symm.trans h) (by decide), fun _ => ⟨fun h => absurd h (by decide), fun h => absurd h (by decide), fun _ => (by rw [hcj]), fun h => absurd h (by decide), fun h => absurd h (by decide), fun h => absurd h (by decide), fun h => absurd h (by decide)⟩, ⟨_, rfl⟩⟩
    · refine lv_tableIn (tgt := 77) (off := 59) S.1 S.2.1 dX6_told_18 (by decide) (by decide) (by decide) (by decide) ?_
      refine lv_aload_n S.1 S.2.1 dX6_told_77 rfl (lv_at hl 0 rfl) ?_
      refine gf S hk hW 0 rfl rfl hwsX60 6 (by decide) 5 rfl rfl dX6_told_78 ?_
      refine lv_iload_n S.1 S.2.1 dX6_told_81 rfl (lv_at hl 1 rfl) ?_
      refine zld S hk hW 4 rfl j rfl (by omega) (by omega) dX6_told_82 ?_
      refine top_eq (Gok_W G (j := j) (by omega)) ?_
      refine ifeq_b (tgt := 90) S dX6_told_83 (by decide) (fun c_83 => ?_) (fun c_83 => ?_)
      · skip
        refine lv_iconst (v := nI 0) S.1 S.2.1 dX6_told_90 (by decide) ?_
        exact hR _ _ _ _ _ _ _ _ dX6_told_91 rfl (Nat.le_of_ble_eq_true rfl) (Nat.le_of_ble_eq_true rfl) hW ⟨fun h => absurd (c_10.symm.trans h) (by decide), fun _ => ⟨fun h => absurd h (by decide), fun h => absurd h (by decide), fun h => absurd h (by decide), fun _ => (by rw [hcj]; simp only [c_83, eq_self, Nat.add_zero, decide_false, decide_true, Bool.not_true, Bool.not_false, Bool.and_true, Bool.true_and, Bool.and_false, Bool.false_and, Bool.or_true, Bool.true_or, Bool.or_false, Bool.false_or, ↓reduceIte, cond_true, cond_false, bI, and_true, true_and, and_false, false_and, or_true, true_or, or_false, false_or, not_true_eq_false, not_false_eq_true, if_true, if_false, Bool.false_eq_true, reduceCtorEq, ite_true, ite_false]), fun h => absurd h (by decide), fun h => absurd h (by decide), fun h => absurd h (by decide)⟩, ⟨_, rfl⟩⟩
      · skip
        refine lv_iconst (v := nI 1) S.1 S.2.1 dX6_told_86 (by decide) ?_
        refine lv_goto (tgt := 91) S.1 S.2.1 dX6_told_87 (by decide) ?_
        exact hR _ _ _ _ _ _ _ _ dX6_told_91 rfl (Nat.le_of_ble_eq_true rfl) (Nat.le_of_ble_eq_true rfl) hW ⟨fun h => absurd (c_10.symm.trans h) (by decide), fun _ => ⟨fun h => absurd h (by decide), fun h => absurd h (by decide), fun h => absurd h (by decide), fun _ => (by rw [hcj]; simp only [c_83, eq_self, Nat.add_zero, decide_false, decide_true, Bool.not_true, Bool.not_false, Bool.and_true, Bool.true_and, Bool.and_false, Bool.false_and, Bool.or_true, Bool.true_or, Bool.or_false, Bool.false_or, ↓reduceIte, cond_true, cond_false, bI, and_true, true_and, and_false, false_and, or_true, true_or, or_false, false_or, not_true_eq_false, not_false_eq_true, if_true, if_false, Bool.false_eq_true, reduceCtorEq, ite_true, ite_false]), fun h => absurd h (by decide), fun h => absurd h (by decide), fun h => absurd h (by decide)⟩, ⟨_, rfl⟩⟩
    · refine lv_tableIn (tgt := 92) (off := 74) S.1 S.2.1 dX6_told_18 (by decide) (by decide) (by decide) (by decide) ?_
      refine lv_aload_n S.1 S.2.1 dX6_told_92 rfl (lv_at hl 0 rfl) ?_
      refine gf S hk hW 0 rfl rfl hwsX60 7 (by decide) 6 rfl rfl dX6_told_93 ?_
      refine lv_iload_n S.1 S.2.1 dX6_told_96 rfl (lv_at hl 1 rfl) ?_
      refine zld S hk hW 5 rfl j rfl (by omega) (by omega) dX6_told_97 ?_
      refine top_eq (Gok_T G (j := j) (by omega)) ?_
      refine ifeq_b (tgt := 105) S dX6_told_98 (by decide) (fun c_98 => ?_) (fun c_98 => ?_)
      · skip
        refine lv_iconst (v := nI 0) S.1 S.2.1 dX6_told_105 (by decide) ?_
        exact hR _ _ _ _ _ _ _ _ dX6_told_106 rfl (Nat.le_of_ble_eq_true rfl) (Nat.le_of_ble_eq_true rfl) hW ⟨fun h => absurd (c_10.symm.trans h) (by decide), fun _ => ⟨fun h => absurd h (by decide), fun h => absurd h (by decide), fun h => absurd h (by decide), fun h => absurd h (by decide), fun _ => (by rw [hcj]; simp only [c_98, eq_self, Nat.add_zero, decide_false, decide_true, Bool.not_true, Bool.not_false, Bool.and_true, Bool.true_and, Bool.and_false, Bool.false_and, Bool.or_true, Bool.true_or, Bool.or_false, Bool.false_or, ↓reduceIte, cond_true, cond_false, bI, and_true, true_and, and_false, false_and, or_true, true_or, or_false, false_or, not_true_eq_false, not_false_eq_true, if_true, if_false, Bool.false_eq_true, reduceCtorEq, ite_true, ite_false]), fun h => absurd h (by decide), fun h => absurd h (by decide)⟩, ⟨_, rfl⟩⟩
      · skip
        refine lv_iconst (v := nI 1) S.1 S.2.1 dX6_told_101 (by decide) ?_
        refine lv_goto (tgt := 106) S.1 S.2.1 dX6_told_102 (by decide) ?_
        exact hR _ _ _ _ _ _ _ _ dX6_told_106 rfl (Nat.le_of_ble_eq_true rfl) (Nat.le_of_ble_eq_true rfl) hW ⟨fun h => absurd (c_10.symm.trans h) (by decide), fun _ => ⟨fun h => absurd h (by decide), fun h => absurd h (by decide), fun h => absurd h (by decide), fun h => absurd h (by decide), fun _ => (by rw [hcj]; simp only [c_98, eq_self, Nat.add_zero, decide_false, decide_true, Bool.not_true, Bool.not_false, Bool.and_true, Bool.true_and, Bool.and_false, Bool.false_and, Bool.or_true, Bool.true_or, Bool.or_false, Bool.false_or, ↓reduceIte, cond_true, cond_false, bI, and_true, true_and, and_false, false_and, or_true, true_or, or_false, false_or, not_true_eq_false, not_false_eq_true, if_true, if_false, Bool.false_eq_true, reduceCtorEq, ite_true, ite_false]), fun h => absurd h (by decide), fun h => absurd h (by decide)⟩, ⟨_, rfl⟩⟩
    · refine lv_tableIn (tgt := 107) (off := 89) S.1 S.2.1 dX6_told_18 (by decide) (by decide) (by decide) (by decide) ?_
      refine lv_aload_n S.1 S.2.1 dX6_told_107 rfl (lv_at hl 0 rfl) ?_
      refine lv_sipush (v := (-1000)) S.1 S.2.1 dX6_told_108 (by decide) ?_
      refine lv_sipush (v := (-1000)) S.1 S.2.1 dX6_told_111 (by decide) ?_
      refine kVi S (c_X6_learn (l := l) (D := D) (cI := cI) (cZ := cZ) (cF := cF) G) (cwV 2 S.2.2.2.2 gX6_told_X6_learn rfl rfl rfl ⟨rfl, v_X6_learn⟩ ⟨(Nat.le_of_ble_eq_true rfl), (Nat.le_of_ble_eq_true rfl)⟩) hk hW 0 rfl rfl rfl rfl hl rfl (Nat.le_of_ble_eq_true rfl) dX6_told_114 ⟨(Nat.le_of_ble_eq_true rfl), (Nat.le_of_ble_eq_true rfl)⟩ (fun r u H locs hp hW => ?_)
      obtain ⟨rfl, rfl⟩ := hp
      refine lv_pop S.1 S.2.1 dX6_told_117 rfl ?_
      refine lv_aload_n S.1 S.2.1 dX6_told_118 rfl (lv_at hl 0 rfl) ?_
      refine lv_aload_n S.1 S.2.1 dX6_told_119 rfl (lv_at hl 0 rfl) ?_
      refine gf S hk hW 0 rfl rfl hwsX60 3 (by decide) 2 rfl rfl dX6_told_120 ?_
      refine lv_iload_n S.1 S.2.1 dX6_told_123 rfl (lv_at hl 1 rfl) ?_
      refine ild S hk hW 1 rfl j rfl (by omega) (by omega) dX6_told_124 ?_
      refine top_eq (Gok_B G (j := j) (by omega)) ?_
      have hb124 := Gok_B2 G (j := j) (by omega)
      refine kVi S (c_X6_heightOf (l := l) (D := D) (cI := cI) (cZ := cZ) (cF := cF) G (by first | assumption | omega)) (cwV 1 S.2.2.2.2 gX6_told_X6_heightOf rfl rfl rfl ⟨rfl, v_X6_heightOf⟩ ⟨(Nat.le_of_ble_eq_true rfl), (Nat.le_of_ble_eq_true rfl)⟩) hk hW 0 rfl rfl rfl rfl hl rfl (Nat.le_of_ble_eq_true rfl) dX6_told_125 ⟨(Nat.le_of_ble_eq_true rfl), (Nat.le_of_ble_eq_true rfl)⟩ (fun r u H locs hp hW => ?_)
      obtain ⟨rfl, rfl⟩ := hp
      refine lv_aload_n S.1 S.2.1 dX6_told_128 rfl (lv_at hl 0 rfl) ?_
      refine lv_aload_n S.1 S.2.1 dX6_told_129 rfl (lv_at hl 0 rfl) ?_
      refine gf S hk hW 0 rfl rfl hwsX60 4 (by decide) 3 rfl rfl dX6_told_130 ?_
      refine lv_iload_n S.1 S.2.1 dX6_told_133 rfl (lv_at hl 1 rfl) ?_
      refine ild S hk hW 2 rfl j rfl (by omega) (by omega) dX6_told_134 ?_
      refine top_eq (Gok_E G (j := j) (by omega)) ?_
      have hb134 := Gok_E2 G (j := j) (by omega)
      refine kVi S (c_X6_heightOf (l := l) (D := D) (cI := cI) (cZ := cZ) (cF := cF) G (by first | assumption | omega)) (cwV 1 S.2.2.2.2 gX6_told_X6_heightOf rfl rfl rfl ⟨rfl, v_X6_heightOf⟩ ⟨(Nat.le_of_ble_eq_true rfl), (Nat.le_of_ble_eq_true rfl)⟩) hk hW 0 rfl rfl rfl rfl hl rfl (Nat.le_of_ble_eq_true rfl) dX6_told_135 ⟨(Nat.le_of_ble_eq_true rfl), (Nat.le_of_ble_eq_true rfl)⟩ (fun r u H locs hp hW => ?_)
      obtain ⟨rfl, rfl⟩ := hp
      refine lv_isub S.1 S.2.1 dX6_told_138 ?_
      refine lv_istore_n (lv' := [(3, .int ((hgM ((lrn g (-1000) (-1000)).1) (e1 g j) (gN g)) - (hgM ((lrn g (-1000) (-1000)).1) (e2 g j) (gN g)))), (0, .ref (q 0)), (1, .int (nI j)), (2, .int (nI 5))]) S.1 S.2.1 dX6_told_139 rfl hl (by decide) rfl (fun ls hl => ?_)
      refine lv_aload_n S.1 S.2.1 dX6_told_140 rfl (lv_at hl 1 rfl) ?_
      refine gf S hk hW 0 rfl rfl hwsX60 7 (by decide) 6 rfl rfl dX6_told_141 ?_
      refine lv_iload_n S.1 S.2.1 dX6_told_144 rfl (lv_at hl 2 rfl) ?_
      refine zld S hk hW 5 rfl j rfl (by omega) (by omega) dX6_told_145 ?_
      refine top_eq (Gok_T G (j := j) (by omega)) ?_
      refine ifne_b (tgt := 155) S dX6_told_146 (by decide) (fun c_146 => ?_) (fun c_146 => ?_)
      · skip
        refine lv_aload_n S.1 S.2.1 dX6_told_155 rfl (lv_at hl 1 rfl) ?_
        refine gf S hk hW 0 rfl rfl hwsX60 5 (by decide) 4 rfl rfl dX6_told_156 ?_
        refine lv_iload_n S.1 S.2.1 dX6_told_159 rfl (lv_at hl 2 rfl) ?_
        refine ild S hk hW 3 rfl j rfl (by omega) (by omega) dX6_told_160 ?_
        refine lv_aload_n S.1 S.2.1 dX6_told_161 rfl (lv_at hl 1 rfl) ?_
        refine gf S hk hW 0 rfl rfl hwsX60 6 (by decide) 5 rfl rfl dX6_told_162 ?_
        refine lv_iload_n S.1 S.2.1 dX6_told_165 rfl (lv_at hl 2 rfl) ?_
        refine zld S hk hW 4 rfl j rfl (by omega) (by omega) dX6_told_166 ?_
        refine top_eq (Gok_W G (j := j) (by omega)) ?_
        refine ifeq_b (tgt := 179) S dX6_told_167 (by decide) (fun c_167 => ?_) (fun c_167 => ?_)
        · skip
          refine lv_iload_n S.1 S.2.1 dX6_told_179 rfl (lv_at hl 0 rfl) ?_
          refine lv_iadd S.1 S.2.1 dX6_told_180 ?_
          exact hR _ _ _ _ _ _ _ _ dX6_told_181 rfl (Nat.le_of_ble_eq_true rfl) (Nat.le_of_ble_eq_true rfl) hW ⟨fun h => absurd (c_10.symm.trans h) (by decide), fun _ => ⟨fun h => absurd h (by decide), fun h => absurd h (by decide), fun h => absurd h (by decide), fun h => absurd h (by decide), fun h => absurd h (by decide), fun _ => (by rw [hcj]; simp only [liM, upM, c_146, c_167, eq_self, Nat.add_zero, decide_false, decide_true, Bool.not_true, Bool.not_false, Bool.and_true, Bool.true_and, Bool.and_false, Bool.false_and, Bool.or_true, Bool.true_or, Bool.or_false, Bool.false_or, ↓reduceIte, cond_true, cond_false, bI, and_true, true_and, and_false, false_and, or_true, true_or, or_false, false_or, not_true_eq_false, not_false_eq_true, if_true, if_false, Bool.false_eq_true, reduceCtorEq, ite_true, ite_false]), fun h => absurd h (by decide)⟩, ⟨_, rfl⟩⟩
        · skip
          refine lv_iload_n S.1 S.2.1 dX6_told_170 rfl (lv_at hl 0 rfl) ?_
          refine lv_if_le (tgt := 179) S.1 S.2.1 dX6_told_171 (by decide) (fun c_171 => ?_) (fun c_171 => ?_)
          · skip
            refine lv_iload_n S.1 S.2.1 dX6_told_179 rfl (lv_at hl 0 rfl) ?_
            refine lv_iadd S.1 S.2.1 dX6_told_180 ?_
            exact hR _ _ _ _ _ _ _ _ dX6_told_181 rfl (Nat.le_of_ble_eq_true rfl) (Nat.le_of_ble_eq_true rfl) hW ⟨fun h => absurd (c_10.symm.trans h) (by decide), fun _ => ⟨fun h => absurd h (by decide), fun h => absurd h (by decide), fun h => absurd h (by decide), fun h => absurd h (by decide), fun h => absurd h (by decide), fun _ => (by rw [hcj]; simp only [liM, upM, c_146, c_167, eq_true c_171, eq_self, Nat.add_zero, decide_false, decide_true, Bool.not_true, Bool.not_false, Bool.and_true, Bool.true_and, Bool.and_false, Bool.false_and, Bool.or_true, Bool.true_or, Bool.or_false, Bool.false_or, ↓reduceIte, cond_true, cond_false, bI, and_true, true_and, and_false, false_and, or_true, true_or, or_false, false_or, not_true_eq_false, not_false_eq_true, if_true, if_false, Bool.false_eq_true, reduceCtorEq, ite_true, ite_false]), fun h => absurd h (by decide)⟩, ⟨_, rfl⟩⟩
          · skip
            refine lv_iload_n S.1 S.2.1 dX6_told_174 rfl (lv_at hl 0 rfl) ?_
            refine lv_ineg S.1 S.2.1 dX6_told_175 ?_
            refine lv_goto (tgt := 180) S.1 S.2.1 dX6_told_176 (by decide) ?_
            refine lv_iadd S.1 S.2.1 dX6_told_180 ?_
            exact hR _ _ _ _ _ _ _ _ dX6_told_181 rfl (Nat.le_of_ble_eq_true rfl) (Nat.le_of_ble_eq_true rfl) hW ⟨fun h => absurd (c_10.symm.trans h) (by decide), fun _ => ⟨fun h => absurd h (by decide), fun h => absurd h (by decide), fun h => absurd h (by decide), fun h => absurd h (by decide), fun h => absurd h (by decide), fun _ => (by rw [hcj]; simp only [liM, upM, c_146, c_167, eq_false c_171, eq_self, Nat.add_zero, decide_false, decide_true, Bool.not_true, Bool.not_false, Bool.and_true, Bool.true_and, Bool.and_false, Bool.false_and, Bool.or_true, Bool.true_or, Bool.or_false, Bool.false_or, ↓reduceIte, cond_true, cond_false, bI, and_true, true_and, and_false, false_and, or_true, true_or, or_false, false_or, not_true_eq_false, not_false_eq_true, if_true, if_false, Bool.false_eq_true, reduceCtorEq, ite_true, ite_false]), fun h => absurd h (by decide)⟩, ⟨_, rfl⟩⟩
      · skip
        refine lv_sipush (v := (-1000)) S.1 S.2.1 dX6_told_149 (by decide) ?_
        refine lv_goto (tgt := 181) S.1 S.2.1 dX6_told_152 (by decide) ?_
        exact hR _ _ _ _ _ _ _ _ dX6_told_181 rfl (Nat.le_of_ble_eq_true rfl) (Nat.le_of_ble_eq_true rfl) hW ⟨fun h => absurd (c_10.symm.trans h) (by decide), fun _ => ⟨fun h => absurd h (by decide), fun h => absurd h (by decide), fun h => absurd h (by decide), fun h => absurd h (by decide), fun h => absurd h (by decide), fun _ => (by rw [hcj]; simp only [liM, upM, c_146, eq_self, Nat.add_zero, decide_false, decide_true, Bool.not_true, Bool.not_false, Bool.and_true, Bool.true_and, Bool.and_false, Bool.false_and, Bool.or_true, Bool.true_or, Bool.or_false, Bool.false_or, ↓reduceIte, cond_true, cond_false, bI, and_true, true_and, and_false, false_and, or_true, true_or, or_false, false_or, not_true_eq_false, not_false_eq_true, if_true, if_false, Bool.false_eq_true, reduceCtorEq, ite_true, ite_false]), fun h => absurd h (by decide)⟩, ⟨_, rfl⟩⟩
    · refine lv_tableOut (tgt := 182) S.1 S.2.1 dX6_told_18 hsw (by decide) ?_
      refine lv_sipush (v := (-1002)) S.1 S.2.1 dX6_told_182 (by decide) ?_
      exact hR _ _ _ _ _ _ _ _ dX6_told_185 rfl (Nat.le_of_ble_eq_true rfl) (Nat.le_of_ble_eq_true rfl) hW ⟨fun h => absurd (c_10.symm.trans h) (by decide), fun _ => ⟨fun h => absurd hsw (by rw [h]; decide), fun h => absurd hsw (by rw [h]; decide), fun h => absurd hsw (by rw [h]; decide), fun h => absurd hsw (by rw [h]; decide), fun h => absurd hsw (by rw [h]; decide), fun h => absurd hsw (by rw [h]; decide), fun _ => rfl⟩, ⟨_, rfl⟩⟩
  · skip
    refine lv_sipush (v := (-1001)) S.1 S.2.1 dX6_told_13 (by decide) ?_
    exact hR _ _ _ _ _ _ _ _ dX6_told_16 rfl (Nat.le_of_ble_eq_true rfl) (Nat.le_of_ble_eq_true rfl) hW ⟨fun _ => rfl, fun h => absurd (c_10.symm.trans h) (by decide), ⟨_, rfl⟩⟩
