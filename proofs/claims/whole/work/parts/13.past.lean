abbrev va_E_row (cI : ClassId) (k : Nat) (f : Nat → Int32) : va_E := .inl (cI, k, .inl f)
/-! ===== rows of objects; constructors ===== -/
section MYI
variable {p : Program} {l : Launch} {e : Env} {R : Room} {s : State} {m : MethodId} {args : Array Value} {below : List Frame} {meth : Method} {c : Code} {H : Heap} {locs : List Loc} {cells slots : Nat} {Q : State → Prop}
variable {pc nL mc ms n index maxL : Nat} {ls : Array Slot} {rest st As : List Value} {cc bytes : ByteArray} {Ts ws : List Cond} {own C host : String} {y : MethodName} {rm : Room} {D : va_G} {cI cZ cF : ClassId} {A : Nat → Prop} {w : va_W} {b : Nat} {lv : List (Nat × Value)}
/-- a row of objects, read -/
theorem qld {f : Nat → Option Nat} (S : CallFix p m c cc nL s args Ts own) (hk : kn D cI cZ cF A s) (hW : wd D A s H locs w) (q0 : Nat) (ha : w[q0]? = some (b, .inl (cF, n, .inr (.inr (.inr (.inr f)))))) {i : Int32} (j : Nat) (hi : i = nI j) (hj : j < n) (hn : n < 65536) {v : Value} (hv : va_rf (f j) = v) (hdg : decode cc pc = .ok (.aaload, 1))
    (kk : W p l e R s m args below meth c H locs cells slots Q (F0 m (pc + 1) ls (v :: rest))) : W p l e R s m args below meth c H locs cells slots Q (F0 m pc ls (.int i :: .ref b :: rest)) := by
  subst hi; subst hv
  exact va_aldq (C := RX0) S.1 S.2.1 hk.1 hW.1 q0 2 ha rfl (vp_in_nI hj (by omega)) hdg (by rw [nI_clamp (by omega)]; exact kk)
/-- a row of objects, written -/
theorem qst {f : Nat → Option Nat} {v : Nat} {vs : List Value} (S : CallFix p m c cc nL s args Ts own) (hk : kn D cI cZ cF A s) (hW : wd D A s H locs w) (q0 : Nat) (ha : w[q0]? = some (b, .inl (cF, n, .inr (.inr (.inr (.inr f)))))) (qk : Nat) (hv : w[qk]? = some (v, .inr (0, vs))) {i : Int32} (j : Nat) (hi : i = nI j) (hj : j < n) (hn : n < 65536) (hdg : decode cc pc = .ok (.aastore, 1)) {w' : va_W} (hw' : w.set q0 (b, .inl (cF, n, .inr (.inr (.inr (.inr (va_up f j (some v))))))) = w')
    (kk : ∀ (H1 : Heap) (locs1 : List Loc), wd D A s H1 locs1 w' → W p l e R s m args below meth c H1 locs1 cells slots Q (F0 m (pc + 1) ls rest)) : W p l e R s m args below meth c H locs cells slots Q (F0 m pc ls (.ref v :: .int i :: .ref b :: rest)) := by
  subst hi; subst hw'
  refine va_astq (r := (RX0, TX0, 1)) S.1 S.2.1 hk.1 hW.1 hW.2.1 hW.2.2 q0 2 qk 0 ha rfl hv rfl (vp_in_nI hj (by omega)) hdg (fun H1 locs1 h1 h2 h3 => ?_)
  rw [nI_clamp (by omega)] at h1 h2
  exact kk H1 locs1 ⟨h1, h2, h3⟩
/-- a new row of objects -/
theorem newQ (S : CallFix p m c cc nL s args Ts own) (hk : kn D cI cZ cF A s) (hW : wd D A s H locs w) (i : Nat) (hcl : Ts[i]? = some (.classLink own index RX0)) (hn : n < 65536) (hcells : cells + 1 ≤ R.cells) (hslots : slots + n ≤ R.slots) (hdg : decode cc pc = .ok (.anewarray index, 3))
    (kk : ∀ (x : Nat) (H1 : Heap), wd D A s H1 locs (w ++ [(x, .inl (cF, n, .inr (.inr (.inr (.inr (fun _ => none))))))]) → W p l e R s m args below meth c H1 locs (cells + 1) (slots + n) Q (F0 m (pc + 3) ls (.ref x :: rest))) : W p l e R s m args below meth c H locs cells slots Q (F0 m pc ls (.int (nI n) :: rest)) := by
  refine va_newq (C := RX0) S.1 S.2.1 S.2.2.2.1 (S.2.2.2.2 _ (List.mem_of_getElem? hcl)) hk.2.1.2 hk.1 hW.1 hW.2.1 hW.2.2 hk.2.2 (nI_pos (by omega)) (nI_clamp (by omega)) (by omega) hcells hslots hdg (fun x cA H1 hK1 hP1 hD1 hS1 => ?_)
  obtain ⟨_, _, _, _, _, h1⟩ := (hK1.2 3 (cA, .object RX0) rfl).2
  obtain ⟨_, _, _, _, _, h2⟩ := (hk.1.2 2 (cF, .object RX0) rfl).2
  have h3 : cA = cF := Option.some.inj (h1.symm.trans h2)
  subst h3
  exact kk x H1 ⟨hP1, hD1, hS1⟩
theorem pfF {T : u_T} {N ci : Nat} {fs : List Value} (S : CallFix p m c cc nL s args Ts own) (hk : kn D cI cZ cF A s) (hW : wd D A s H locs w) (q0 : Nat) (he : w[q0]? = some (b, .inr (ci, fs))) (hc : vwCl[ci]? = some (C, T, N)) (hin : ∀ x ∈ u_ws C T N, x ∈ Ts) (ty0 : Nat → FieldType) (hty : ∀ k, k < N → parseFieldDescriptor (T k).2.2.1 = some (ty0 k)) (hnm : ∀ a, a < N → ∀ b, b < N → a ≠ b → (T a).2.1 ≠ (T b).2.1) (k : Nat) (hkN : k < N) (i : Nat) (hlink : Ts[i]? = some (.fieldLink own index (T k).1 (T k).2.1 (T k).2.2.1)) (hfin : (T k).2.2.2 = true) (hin2 : meth.name = "<init>") (hdecl : (T k).1 = own) {ty : FieldType} {v : Value} (hd : parseFieldDescriptor (T k).2.2.1 = some ty) (hn : narrow ty v = v) (hfit : fits ty v = true) (hlk : k < fs.length) (hdg : decode cc pc = .ok (.putfield index, 3)) {w' : va_W} (hw' : w.set q0 (b, .inr (ci, fs.set k v)) = w')
    (kk : ∀ (H1 : Heap) (locs1 : List Loc), wd D A s H1 locs1 w' → W p l e R s m args below meth c H1 locs1 cells slots Q (F0 m (pc + 3) ls rest)) : W p l e R s m args below meth c H locs cells slots Q (F0 m pc ls (v :: .ref b :: rest)) := by
  subst hw'
  exact va_putF S.1 S.2.1 S.2.2.2.2 hin ty0 hty hnm S.2.2.2.1 hk.1 hW.1 hW.2.1 hW.2.2 q0 he hc k hkN (S.2.2.2.2 _ (List.mem_of_getElem? hlink)) (fun _ h => h) hfin hin2 hdecl hd hn hfit hlk hdg (fun H1 locs1 h1 h2 h3 => kk H1 locs1 ⟨h1, h2, h3⟩)
theorem newO {T : u_T} {N ci : Nat} {fs : List Value} (S : CallFix p m c cc nL s args Ts own) (hk : kn D cI cZ cF A s) (hW : wd D A s H locs w) (hin : ∀ x ∈ u_ws C T N, x ∈ Ts) (ty0 : Nat → FieldType) (hty : ∀ k, k < N → parseFieldDescriptor (T k).2.2.1 = some (ty0 k)) (i1 i2 i3 : Nat) (h1 : Ts[i1]? = some (.classLink own index C)) (h2 : Ts[i2]? = some (.instantiable C N)) (h3 : Ts[i3]? = some (.initialized C)) (hc : vwCl[ci]? = some (C, T, N)) (hfs : ∀ j, j < N → defaultValue (ty0 j) = vp_V fs j) (hcells : cells + 1 ≤ R.cells) (hslots : slots + N ≤ R.slots) (hdg : decode cc pc = .ok (.new index, 3))
    (kk : ∀ (x : Nat) (H1 : Heap), wd D A s H1 locs (w ++ [(x, .inr (ci, fs))]) → W p l e R s m args below meth c H1 locs (cells + 1) (slots + N) Q (F0 m (pc + 3) ls (.ref x :: rest))) : W p l e R s m args below meth c H locs cells slots Q (F0 m pc ls rest) :=
  va_new S.1 S.2.1 S.2.2.2.2 hin ty0 hty S.2.2.2.1 (S.2.2.2.2 _ (List.mem_of_getElem? h1)) (S.2.2.2.2 _ (List.mem_of_getElem? h2)) (S.2.2.2.2 _ (List.mem_of_getElem? h3)) hk.1 hW.1 hW.2.1 hW.2.2 hk.2.2 hc hfs hcells hslots hdg (fun x H1 g1 g2 g3 => kk x H1 ⟨g1, g2, g3⟩)
theorem kNIv {Post : va_W → Prop} (S : CallFix p m c cc nL s args Ts own) (hM : cV_ l D cI cZ cF y ws rm (.ref b :: As) w Post mc ms) (cw : va_CN R s args own index y host bytes maxL none ws rm mc ms n ∧ y.name = "<init>" ∧ (Cond.instanceMethod y).before args s = true) (hk : kn D cI cZ cF A s) (hW : wd D A s H locs w) (hn : As.length = n) (hl : lv_has ls nL lv) (hst : st = As.reverse ++ .ref b :: rest) (hcat : (rest.map fun v => v.category).sum ≤ 8) (hdg : decode cc pc = .ok (.invokespecial index, 3)) (hf : cells + mc ≤ R.cells ∧ slots + ms ≤ R.slots)
    (kk : ∀ (u : va_W) (H1 : Heap) (locs1 : List Loc), Post u → wd D A s H1 locs1 u → W p l e R s m args below meth c H1 locs1 (cells + mc) (slots + ms) Q (F0 m (pc + 3) ls rest)) : W p l e R s m args below meth c H locs cells slots Q (F0 m pc ls st) :=
  k_void (va_runIN S (hM H.size) cw (k_pre hk hW) rfl hn hl.1 hst (lv_room hcat) hdg hf) hk hW kk
theorem kIv {Post : va_W → Prop} (S : CallFix p m c cc nL s args Ts own) (hM : cV_ l D cI cZ cF y ws rm (.ref b :: As) w Post mc ms) (cw : CallB R s args own index y bytes maxL none ws rm mc ms n ∧ y.name = "<init>" ∧ (Cond.instanceMethod y).before args s = true) (hk : kn D cI cZ cF A s) (hW : wd D A s H locs w) (hn : As.length = n) (hl : lv_has ls nL lv) (hst : st = As.reverse ++ .ref b :: rest) (hcat : (rest.map fun v => v.category).sum ≤ 8) (hdg : decode cc pc = .ok (.invokespecial index, 3)) (hf : cells + mc ≤ R.cells ∧ slots + ms ≤ R.slots)
    (kk : ∀ (u : va_W) (H1 : Heap) (locs1 : List Loc), Post u → wd D A s H1 locs1 u → W p l e R s m args below meth c H1 locs1 (cells + mc) (slots + ms) Q (F0 m (pc + 3) ls rest)) : W p l e R s m args below meth c H locs cells slots Q (F0 m pc ls st) :=
  k_void (va_runI S (hM H.size) cw (k_pre hk hW) rfl hn hl.1 hst (lv_room hcat) hdg hf) hk hW kk
end MYI
abbrev r_X3_clear : Room := { frames := 0, cells := 0, slots := 0, locals := 0 }
theorem v_X3_clear : yX3_clear.cls ≠ "java/lang/invoke/MethodHandle" ∧ yX3_clear.cls ≠ "java/lang/invoke/VarHandle" ∧ (parseMethodDescriptor yX3_clear.desc).map (fun d => d.parameters.length) = some 0 := by decide +kernel
set_option maxRecDepth 100000 in
set_option maxHeartbeats 4000000 in
theorem c_X3_clear {l : Launch} {D : va_G} {cI cZ cF : ClassId} {q : Nat → Nat} {qf : Nat → Nat} {g : Gr} {C R : Nat → Int32} {rw len : Nat} {F : Nat → Int32} {sz : Nat} {X : Nat → Int32} {mk : Int32}   : cV_ l D cI cZ cF yX3_clear wsX3_clear r_X3_clear [.ref (q 3)] (wC q qf cI cZ cF g C R rw len F sz X mk) (fun u => u = wC q qf cI cZ cF g C R 0 len F sz X mk) 0 0 := by
  refine cV_of (cc := cX3_clear) (maxL := 1) (plainFor_of_name (by decide +kernel)) rfl (Nat.le_of_ble_eq_true rfl) ?_
  intro p e s m args below meth c A Q ls S hnm hk hW hl hR
  have hl : lv_has ls 1 [(0, .ref (q 3))] := hl
  have hwsX30 : ∀ x ∈ wsX30, x ∈ wsX3_clear := fun x h => List.mem_cons_of_mem _ (List.mem_append_right _ h)
  refine lv_aload_n S.1 S.2.1 dX3_clear_0 rfl (lv_at hl 0 rfl) ?_
  refine lv_iconst (v := nI 0) S.1 S.2.1 dX3_clear_1 (by decide) ?_
  refine pf (ty := .int) (w' := wC q qf cI cZ cF g C R 0 len F sz X mk) S hk hW 3 rfl rfl hwsX30 tyX3 tyX3_ok nmX3 1 (by decide) 1 rfl rfl (by decide +kernel) rfl rfl (Nat.le_of_ble_eq_true rfl) dX3_clear_2 rfl (fun H locs hW => ?_)
  exact hR _ _ _ _ _ _ _ dX3_clear_5 (Nat.le_of_ble_eq_true rfl) (Nat.le_of_ble_eq_true rfl) hW rfl
abbrev r_X3_countActs : Room := { frames := 0, cells := 0, slots := 0, locals := 0 }
theorem v_X3_countActs : yX3_countActs.cls ≠ "java/lang/invoke/MethodHandle" ∧ yX3_countActs.cls ≠ "java/lang/invoke/VarHandle" ∧ (parseMethodDescriptor yX3_countActs.desc).map (fun d => d.parameters.length) = some 0 := by decide +kernel
set_option maxRecDepth 100000 in
set_option maxHeartbeats 4000000 in
theorem c_X3_countActs {l : Launch} {D : va_G} {cI cZ cF : ClassId} {q : Nat → Nat} {qf : Nat → Nat} {g : Gr} {C R : Nat → Int32} {rw len : Nat} {F : Nat → Int32} {sz : Nat} {X : Nat → Int32} {mk : Int32}  (h1 : 1 ≤ rw) : cI_ l D cI cZ cF yX3_countActs wsX3_countActs r_X3_countActs [.ref (q 3)] (wC q qf cI cZ cF g C R rw len F sz X mk) (fun r u => r = nI (rw - 1) ∧ u = wC q qf cI cZ cF g C R rw len F sz X mk) 0 0 := by
  refine cI_of (cc := cX3_countActs) (maxL := 1) (rt := .int) (plainFor_of_name (by decide +kernel)) rfl (Nat.le_of_ble_eq_true rfl) ?_
  intro p e s m args below meth c A Q ls S hk hW hl hR
  have hl : lv_has ls 1 [(0, .ref (q 3))] := hl
  have hwsX30 : ∀ x ∈ wsX30, x ∈ wsX3_countActs := fun x h => List.mem_cons_of_mem _ (List.mem_append_right _ h)
  refine lv_aload_n S.1 S.2.1 dX3_countActs_0 rfl (lv_at hl 0 rfl) ?_
  refine gf S hk hW 3 rfl rfl hwsX30 1 (by decide) 1 rfl rfl dX3_countActs_1 ?_
  refine lv_iconst (v := nI 1) S.1 S.2.1 dX3_countActs_4 (by decide) ?_
  refine lv_isub S.1 S.2.1 dX3_countActs_5 (top_eq (pk_sub (by omega)) ?_)
  exact hR _ _ _ _ _ _ _ _ dX3_countActs_6 rfl (Nat.le_of_ble_eq_true rfl) (Nat.le_of_ble_eq_true rfl) hW ⟨rfl, rfl⟩
abbrev r_X3_isFull : Room := { frames := 0, cells := 0, slots := 0, locals := 0 }
theorem v_X3_isFull : yX3_isFull.cls ≠ "java/lang/invoke/MethodHandle" ∧ yX3_isFull.cls ≠ "java/lang/invoke/VarHandle" ∧ (parseMethodDescriptor yX3_isFull.desc).map (fun d => d.parameters.length) = some 0 := by decide +kernel
set_option maxRecDepth 100000 in
set_option maxHeartbeats 4000000 in
theorem c_X3_isFull {l : Launch} {D : va_G} {cI cZ cF : ClassId} {q : Nat → Nat} {qf : Nat → Nat} {g : Gr} {C R : Nat → Int32} {rw len : Nat} {F : Nat → Int32} {sz : Nat} {X : Nat → Int32} {mk : Int32}  (hr : rw ≤ 401) : cI_ l D cI cZ cF yX3_isFull wsX3_isFull r_X3_isFull [.ref (q 3)] (wC q qf cI cZ cF g C R rw len F sz X mk) (fun r u => r = bI (!decide (rw < 401)) ∧ u = wC q qf cI cZ cF g C R rw len F sz X mk) 0 0 := by
  refine cI_of (cc := cX3_isFull) (maxL := 1) (rt := .boolean) (plainFor_of_name (by decide +kernel)) rfl (Nat.le_of_ble_eq_true rfl) ?_
  intro p e s m args below meth c A Q ls S hk hW hl hR
  have hl : lv_has ls 1 [(0, .ref (q 3))] := hl
  have hwsX30 : ∀ x ∈ wsX30, x ∈ wsX3_isFull := fun x h => List.mem_cons_of_mem _ (List.mem_append_right _ h)
  refine lv_aload_n S.1 S.2.1 dX3_isFull_0 rfl (lv_at hl 0 rfl) ?_
  refine gf S hk hW 3 rfl rfl hwsX30 1 (by decide) 1 rfl rfl dX3_isFull_1 ?_
  refine lv_sipush (v := nI 401) S.1 S.2.1 dX3_isFull_4 (by decide) ?_
  refine iclt_n (tgt := 14) S (by omega) (by omega) dX3_isFull_7 (by decide) (fun c_7 => ?_) (fun c_7 => ?_)
  · skip
    refine lv_iconst (v := nI 0) S.1 S.2.1 dX3_isFull_14 (by decide) ?_
    exact hR _ _ _ _ _ _ _ _ dX3_isFull_15 rfl (Nat.le_of_ble_eq_true rfl) (Nat.le_of_ble_eq_true rfl) hW ⟨(by simp only [eq_true c_7, eq_self, Nat.add_zero, decide_false, decide_true, Bool.not_true, Bool.not_false, Bool.and_true, Bool.true_and, Bool.and_false, Bool.false_and, Bool.or_true, Bool.true_or, Bool.or_false, Bool.false_or, ↓reduceIte, cond_true, cond_false, bI, and_true, true_and, and_false, false_and, or_true, true_or, or_false, false_or, not_true_eq_false, not_false_eq_true, if_true, if_false, Bool.false_eq_true, reduceCtorEq, ite_true, ite_false]), rfl⟩
  · skip
    refine lv_iconst (v := nI 1) S.1 S.2.1 dX3_isFull_10 (by decide) ?_
    refine lv_goto (tgt := 15) S.1 S.2.1 dX3_isFull_11 (by decide) ?_
    exact hR _ _ _ _ _ _ _ _ dX3_isFull_15 rfl (Nat.le_of_ble_eq_true rfl) (Nat.le_of_ble_eq_true rfl) hW ⟨(by simp only [eq_false c_7, eq_self, Nat.add_zero, decide_false, decide_true, Bool.not_true, Bool.not_false, Bool.and_true, Bool.true_and, Bool.and_false, Bool.false_and, Bool.or_true, Bool.true_or, Bool.or_false, Bool.false_or, ↓reduceIte, cond_true, cond_false, bI, and_true, true_and, and_false, false_and, or_true, true_or, or_false, false_or, not_true_eq_false, not_false_eq_true, if_true, if_false, Bool.false_eq_true, reduceCtorEq, ite_true, ite_false]), rfl⟩
abbrev r_X3_hasAct : Room := { frames := 0, cells := 0, slots := 0, locals := 0 }
theorem v_X3_hasAct : yX3_hasAct.cls ≠ "java/lang/invoke/MethodHandle" ∧ yX3_hasAct.cls ≠ "java/lang/invoke/VarHandle" ∧ (parseMethodDescriptor yX3_hasAct.desc).map (fun d => d.parameters.length) = some 1 := by decide +kernel
set_option maxRecDepth 100000 in
set_option maxHeartbeats 4000000 in
theorem c_X3_hasAct {l : Launch} {D : va_G} {cI cZ cF : ClassId} {q : Nat → Nat} {qf : Nat → Nat} {g : Gr} {C R : Nat → Int32} {rw len : Nat} {F : Nat → Int32} {sz : Nat} {X : Nat → Int32} {mk : Int32} {x : Int32}  : cI_ l D cI cZ cF yX3_hasAct wsX3_hasAct r_X3_hasAct [.ref (q 3), .int x] (wC q qf cI cZ cF g C R rw len F sz X mk) (fun r u => r = bI (hasB x rw) ∧ u = wC q qf cI cZ cF g C R rw len F sz X mk) 0 0 := by
  refine cI_of (cc := cX3_hasAct) (maxL := 2) (rt := .boolean) (plainFor_of_name (by decide +kernel)) rfl (Nat.le_of_ble_eq_true rfl) ?_
  intro p e s m args below meth c A Q ls S hk hW hl hR
  have hl : lv_has ls 2 [(0, .ref (q 3)), (1, .int x)] := hl
  have hwsX30 : ∀ x ∈ wsX30, x ∈ wsX3_hasAct := fun x h => List.mem_cons_of_mem _ (List.mem_append_right _ h)
  refine lv_iload_n S.1 S.2.1 dX3_hasAct_0 rfl (lv_at hl 1 rfl) ?_
  refine lv_iconst (v := nI 1) S.1 S.2.1 dX3_hasAct_1 (by decide) ?_
  refine lv_icmp_lt (tgt := 17) S.1 S.2.1 dX3_hasAct_2 (by decide) (fun c_2 => ?_) (fun c_2 => ?_)
  · skip
    refine lv_iconst (v := nI 0) S.1 S.2.1 dX3_hasAct_17 (by decide) ?_
    exact hR _ _ _ _ _ _ _ _ dX3_hasAct_18 rfl (Nat.le_of_ble_eq_true rfl) (Nat.le_of_ble_eq_true rfl) hW ⟨(by simp only [hasB, eq_true c_2, eq_self, Nat.add_zero, decide_false, decide_true, Bool.not_true, Bool.not_false, Bool.and_true, Bool.true_and, Bool.and_false, Bool.false_and, Bool.or_true, Bool.true_or, Bool.or_false, Bool.false_or, ↓reduceIte, cond_true, cond_false, bI, and_true, true_and, and_false, false_and, or_true, true_or, or_false, false_or, not_true_eq_false, not_false_eq_true, if_true, if_false, Bool.false_eq_true, reduceCtorEq, ite_true, ite_false]), rfl⟩
  · skip
    refine lv_iload_n S.1 S.2.1 dX3_hasAct_5 rfl (lv_at hl 1 rfl) ?_
    refine lv_aload_n S.1 S.2.1 dX3_hasAct_6 rfl (lv_at hl 0 rfl) ?_
    refine gf S hk hW 3 rfl rfl hwsX30 1 (by decide) 1 rfl rfl dX3_hasAct_7 ?_
    refine lv_icmp_ge (tgt := 17) S.1 S.2.1 dX3_hasAct_10 (by decide) (fun c_10 => ?_) (fun c_10 => ?_)
    · skip
      refine lv_iconst (v := nI 0) S.1 S.2.1 dX3_hasAct_17 (by decide) ?_
      exact hR _ _ _ _ _ _ _ _ dX3_hasAct_18 rfl (Nat.le_of_ble_eq_true rfl) (Nat.le_of_ble_eq_true rfl) hW ⟨(by simp only [hasB, eq_false c_2, eq_true c_10, eq_self, Nat.add_zero, decide_false, decide_true, Bool.not_true, Bool.not_false, Bool.and_true, Bool.true_and, Bool.and_false, Bool.false_and, Bool.or_true, Bool.true_or, Bool.or_false, Bool.false_or, ↓reduceIte, cond_true, cond_false, bI, and_true, true_and, and_false, false_and, or_true, true_or, or_false, false_or, not_true_eq_false, not_false_eq_true, if_true, if_false, Bool.false_eq_true, reduceCtorEq, ite_true, ite_false]), rfl⟩
    · skip
      refine lv_iconst (v := nI 1) S.1 S.2.1 dX3_hasAct_13 (by decide) ?_
      refine lv_goto (tgt := 18) S.1 S.2.1 dX3_hasAct_14 (by decide) ?_
      exact hR _ _ _ _ _ _ _ _ dX3_hasAct_18 rfl (Nat.le_of_ble_eq_true rfl) (Nat.le_of_ble_eq_true rfl) hW ⟨(by simp only [hasB, eq_false c_2, eq_false c_10, eq_self, Nat.add_zero, decide_false, decide_true, Bool.not_true, Bool.not_false, Bool.and_true, Bool.true_and, Bool.and_false, Bool.false_and, Bool.or_true, Bool.true_or, Bool.or_false, Bool.false_or, ↓reduceIte, cond_true, cond_false, bI, and_true, true_and, and_false, false_and, or_true, true_or, or_false, false_or, not_true_eq_false, not_false_eq_true, if_true, if_false, Bool.false_eq_true, reduceCtorEq, ite_true, ite_false]), rfl⟩
abbrev r_X3_leastAsOf : Room := { frames := 0, cells := 0, slots := 0, locals := 0 }
theorem v_X3_leastAsOf : yX3_leastAsOf.cls ≠ "java/lang/invoke/MethodHandle" ∧ yX3_leastAsOf.cls ≠ "java/lang/invoke/VarHandle" ∧ (parseMethodDescriptor yX3_leastAsOf.desc).map (fun d => d.parameters.length) = some 2 := by decide +kernel
set_option maxRecDepth 100000 in
set_option maxHeartbeats 4000000 in
theorem c_X3_leastAsOf {l : Launch} {D : va_G} {cI cZ cF : ClassId} {q : Nat → Nat} {qf : Nat → Nat} {g : Gr} {C R : Nat → Int32} {rw len : Nat} {F : Nat → Int32} {sz : Nat} {X : Nat → Int32} {mk : Int32} {a b : Nat} (ha : a < len) (hb : b < 100) (hlm : len ≤ 401) : cI_ l D cI cZ cF yX3_leastAsOf wsX3_leastAsOf r_X3_leastAsOf [.ref (q 3), .int (nI a), .int (nI b)] (wC q qf cI cZ cF g C R rw len F sz X mk) (fun r u => r = F (a * 100 + b) ∧ u = wC q qf cI cZ cF g C R rw len F sz X mk) 0 0 := by
  refine cI_of (cc := cX3_leastAsOf) (maxL := 4) (rt := .int) (plainFor_of_name (by decide +kernel)) rfl (Nat.le_of_ble_eq_true rfl) ?_
  intro p e s m args below meth c A Q ls S hk hW hl hR
  have hl : lv_has ls 4 [(0, .ref (q 3)), (1, .int (nI a)), (2, .int (nI b))] := hl
  have hwsX30 : ∀ x ∈ wsX30, x ∈ wsX3_leastAsOf := fun x h => List.mem_cons_of_mem _ (List.mem_append_left _ (List.mem_append_right _ h))
  have hwsX00 : ∀ x ∈ wsX00, x ∈ wsX3_leastAsOf := fun x h => List.mem_cons_of_mem _ (List.mem_append_right _ h)
  refine lv_aload_n S.1 S.2.1 dX3_leastAsOf_0 rfl (lv_at hl 0 rfl) ?_
  refine gf S hk hW 3 rfl rfl hwsX30 0 (by decide) 1 rfl rfl dX3_leastAsOf_1 ?_
  refine lv_iload_n S.1 S.2.1 dX3_leastAsOf_4 rfl (lv_at hl 1 rfl) ?_
  refine qld S hk hW 12 rfl a rfl (by omega) (by omega) (v := .ref (qf (2 * a))) (by rw [aF_lt ha]; rfl) dX3_leastAsOf_5 ?_
  refine lv_astore_n (lv' := [(3, .ref (qf (2 * a))), (0, .ref (q 3)), (1, .int (nI a)), (2, .int (nI b))]) S.1 S.2.1 dX3_leastAsOf_6 rfl hl (by decide) rfl (fun ls hl => ?_)
  refine lv_aload_n S.1 S.2.1 dX3_leastAsOf_7 rfl (lv_at hl 0 rfl) ?_
  refine lv_ifnonnull (tgt := 17) S.1 S.2.1 dX3_leastAsOf_8 (by decide) ?_
  refine lv_aload_n S.1 S.2.1 dX3_leastAsOf_17 rfl (lv_at hl 0 rfl) ?_
  refine gfN (host := RX5) S hk hW (2 * a + 14) (wC_o ha) rfl hwsX00 0 (by decide) 18 rfl rfl dX3_leastAsOf_18 ?_
  refine lv_iload_n S.1 S.2.1 dX3_leastAsOf_21 rfl (lv_at hl 3 rfl) ?_
  refine ild S hk hW (2 * a + 1 + 14) (wC_r ha) b rfl hb (by omega) dX3_leastAsOf_22 ?_
  refine top_eq (y := F (a * 100 + b)) (if_pos hb) ?_
  exact hR _ _ _ _ _ _ _ _ dX3_leastAsOf_23 rfl (Nat.le_of_ble_eq_true rfl) (Nat.le_of_ble_eq_true rfl) hW ⟨rfl, rfl⟩
abbrev r_X3_isMoved : Room := { frames := 1, cells := 0, slots := 0, locals := 23 }
theorem v_X3_isMoved : yX3_isMoved.cls ≠ "java/lang/invoke/MethodHandle" ∧ yX3_isMoved.cls ≠ "java/lang/invoke/VarHandle" ∧ (parseMethodDescriptor yX3_isMoved.desc).map (fun d => d.parameters.length) = some 2 := by decide +kernel
set_option maxRecDepth 100000 in
set_option maxHeartbeats 4000000 in
theorem c_X3_isMoved {l : Launch} {D : va_G} {cI cZ cF : ClassId} {q : Nat → Nat} {qf : Nat → Nat} {g : Gr} {C R : Nat → Int32} {rw len : Nat} {F : Nat → Int32} {sz : Nat} {X : Nat → Int32} {mk : Int32} {a b : Nat} (h1a : 1 ≤ a) (ha : a < len) (hb : b < 100) (hlm : len ≤ 401) : cI_ l D cI cZ cF yX3_isMoved wsX3_isMoved r_X3_isMoved [.ref (q 3), .int (nI a), .int (nI b)] (wC q qf cI cZ cF g C R rw len F sz X mk) (fun r u => r = bI (mvB F a b) ∧ u = wC q qf cI cZ cF g C R rw len F sz X mk) 0 0 := by
  refine cI_of (cc := cX3_isMoved) (maxL := 3) (rt := .boolean) (plainFor_of_name (by decide +kernel)) rfl (Nat.le_of_ble_eq_true rfl) ?_
  intro p e s m args below meth c A Q ls S hk hW hl hR
  have hl : lv_has ls 3 [(0, .ref (q 3)), (1, .int (nI a)), (2, .int (nI b))] := hl
  have hwsX30 : ∀ x ∈ wsX30, x ∈ wsX3_isMoved := fun x h => List.mem_cons_of_mem _ (List.mem_append_left _ (List.mem_append_right _ h))
  have hwsX00 : ∀ x ∈ wsX00, x ∈ wsX3_isMoved := fun x h => List.mem_cons_of_mem _ (List.mem_append_right _ h)
  refine lv_aload_n S.1 S.2.1 dX3_isMoved_0 rfl (lv_at hl 0 rfl) ?_
  refine lv_iload_n S.1 S.2.1 dX3_isMoved_1 rfl (lv_at hl 1 rfl) ?_
  refine lv_iload_n S.1 S.2.1 dX3_isMoved_2 rfl (lv_at hl 2 rfl) ?_
  refine kVi S (c_X3_leastAsOf (l := l) (D := D) (cI := cI) (cZ := cZ) (cF := cF) (by first | assumption | omega) (by first | assumption | omega) (by first | assumption | omega)) (cwV 2 S.2.2.2.2 gX3_isMoved_X3_leastAsOf rfl rfl rfl ⟨rfl, v_X3_leastAsOf⟩ ⟨(Nat.le_of_ble_eq_true rfl), (Nat.le_of_ble_eq_true rfl)⟩) hk hW 3 rfl rfl rfl rfl hl rfl (Nat.le_of_ble_eq_true rfl) dX3_isMoved_3 ⟨(Nat.le_of_ble_eq_true rfl), (Nat.le_of_ble_eq_true rfl)⟩ (fun r u H locs hp hW => ?_)
  obtain ⟨rfl, rfl⟩ := hp
  refine lv_aload_n S.1 S.2.1 dX3_isMoved_6 rfl (lv_at hl 0 rfl) ?_
  refine lv_iload_n S.1 S.2.1 dX3_isMoved_7 rfl (lv_at hl 1 rfl) ?_
  refine lv_iconst (v := nI 1) S.1 S.2.1 dX3_isMoved_8 (by decide) ?_
  refine lv_isub S.1 S.2.1 dX3_isMoved_9 (top_eq (pk_sub (by omega)) ?_)
  refine lv_iload_n S.1 S.2.1 dX3_isMoved_10 rfl (lv_at hl 2 rfl) ?_
  refine kVi S (c_X3_leastAsOf (l := l) (D := D) (cI := cI) (cZ := cZ) (cF := cF) (by first | assumption | omega) (by first | assumption | omega) (by first | assumption | omega)) (cwV 2 S.2.2.2.2 gX3_isMoved_X3_leastAsOf rfl rfl rfl ⟨rfl, v_X3_leastAsOf⟩ ⟨(Nat.le_of_ble_eq_true rfl), (Nat.le_of_ble_eq_true rfl)⟩) hk hW 3 rfl rfl rfl rfl hl rfl (Nat.le_of_ble_eq_true rfl) dX3_isMoved_11 ⟨(Nat.le_of_ble_eq_true rfl), (Nat.le_of_ble_eq_true rfl)⟩ (fun r u H locs hp hW => ?_)
  obtain ⟨rfl, rfl⟩ := hp
  refine lv_icmp_eq (tgt := 21) S.1 S.2.1 dX3_isMoved_14 (by decide) (fun c_14 => ?_) (fun c_14 => ?_)
  · skip
    refine lv_iconst (v := nI 0) S.1 S.2.1 dX3_isMoved_21 (by decide) ?_
    exact hR _ _ _ _ _ _ _ _ dX3_isMoved_22 rfl (Nat.le_of_ble_eq_true rfl) (Nat.le_of_ble_eq_true rfl) hW ⟨(by simp only [mvB, eq_true c_14, eq_self, Nat.add_zero, decide_false, decide_true, Bool.not_true, Bool.not_false, Bool.and_true, Bool.true_and, Bool.and_false, Bool.false_and, Bool.or_true, Bool.true_or, Bool.or_false, Bool.false_or, ↓reduceIte, cond_true, cond_false, bI, and_true, true_and, and_false, false_and, or_true, true_or, or_false, false_or, not_true_eq_false, not_false_eq_true, if_true, if_false, Bool.false_eq_true, reduceCtorEq, ite_true, ite_false]), rfl⟩
  · skip
    refine lv_iconst (v := nI 1) S.1 S.2.1 dX3_isMoved_17 (by decide) ?_
    refine lv_goto (tgt := 22) S.1 S.2.1 dX3_isMoved_18 (by decide) ?_
    exact hR _ _ _ _ _ _ _ _ dX3_isMoved_22 rfl (Nat.le_of_ble_eq_true rfl) (Nat.le_of_ble_eq_true rfl) hW ⟨(by simp only [mvB, eq_false c_14, eq_self, Nat.add_zero, decide_false, decide_true, Bool.not_true, Bool.not_false, Bool.and_true, Bool.true_and, Bool.and_false, Bool.false_and, Bool.or_true, Bool.true_or, Bool.or_false, Bool.false_or, ↓reduceIte, cond_true, cond_false, bI, and_true, true_and, and_false, false_and, or_true, true_or, or_false, false_or, not_true_eq_false, not_false_eq_true, if_true, if_false, Bool.false_eq_true, reduceCtorEq, ite_true, ite_false]), rfl⟩
abbrev r_X3_countMoved : Room := { frames := 2, cells := 0, slots := 0, locals := 45 }
theorem v_X3_countMoved : yX3_countMoved.cls ≠ "java/lang/invoke/MethodHandle" ∧ yX3_countMoved.cls ≠ "java/lang/invoke/VarHandle" ∧ (parseMethodDescriptor yX3_countMoved.desc).map (fun d => d.parameters.length) = some 1 := by decide +kernel
set_option maxRecDepth 100000 in
set_option maxHeartbeats 4000000 in
theorem c_X3_countMoved {l : Launch} {D : va_G} {cI cZ cF : ClassId} {q : Nat → Nat} {qf : Nat → Nat} {g : Gr} {C R : Nat → Int32} {rw len : Nat} {F : Nat → Int32} {sz : Nat} {X : Nat → Int32} {mk : Int32} {a : Nat} (h1a : 1 ≤ a) (ha : a < len) (hlm : len ≤ 401) : cI_ l D cI cZ cF yX3_countMoved wsX3_countMoved r_X3_countMoved [.ref (q 3), .int (nI a)] (wC q qf cI cZ cF g C R rw len F sz X mk) (fun r u => r = nI (cmv F a 100) ∧ u = wC q qf cI cZ cF g C R rw len F sz X mk) 0 0 := by
  refine cI_of (cc := cX3_countMoved) (maxL := 4) (rt := .int) (plainFor_of_name (by decide +kernel)) rfl (Nat.le_of_ble_eq_true rfl) ?_
  intro p e s m args below meth c A Q ls S hk hW hl hR
  have hl : lv_has ls 4 [(0, .ref (q 3)), (1, .int (nI a))] := hl
  have hwsX30 : ∀ x ∈ wsX30, x ∈ wsX3_countMoved := fun x h => List.mem_cons_of_mem _ (List.mem_append_left _ (List.mem_append_right _ h))
  have hwsX00 : ∀ x ∈ wsX00, x ∈ wsX3_countMoved := fun x h => List.mem_cons_of_mem _ (List.mem_append_right _ h)
  refine lv_iconst (v := nI 0) S.1 S.2.1 dX3_countMoved_0 (by decide) ?_
  refine lv_istore_n (lv' := [(2, .int (nI 0)), (0, .ref (q 3)), (1, .int (nI a))]) S.1 S.2.1 dX3_countMoved_1 rfl hl (by decide) rfl (fun ls hl => ?_)
  refine lv_iconst (v := nI 0) S.1 S.2.1 dX3_countMoved_2 (by decide) ?_
  refine lv_istore_n (lv' := [(3, .int (nI 0)), (2, .int (nI 0)), (0, .ref (q 3)), (1, .int (nI a))]) S.1 S.2.1 dX3_countMoved_3 rfl hl (by decide) rfl (fun ls hl => ?_)
  have L4 : ∀ (dd : Nat), ∀ (n : Nat), ∀ (i : Nat), (n = cmv F a i) → (i ≤ 100) → 100 < i + dd → ∀ (H : Heap) (locs : List Loc) (ls : Array Slot), wd D A s H locs (wC q qf cI cZ cF g C R rw len F sz X mk) → lv_has ls 4 [(0, .ref (q 3)), (1, .int (nI a)), (2, .int (nI n)), (3, .int (nI i))] → W p l e r_X3_countMoved s m args below meth c H locs 0 0 Q (F0 m 4 ls []) := by
    intro dd
    induction dd with
    | zero => intros; omega
    | succ dd ih4 =>
      intro n i hn hi hdd H locs ls hW hl
      refine lv_iload_n S.1 S.2.1 dX3_countMoved_4 rfl (lv_at hl 3 rfl) ?_
      refine lv_bipush (v := nI 100) S.1 S.2.1 dX3_countMoved_5 (by decide) ?_
      refine icge_n (tgt := 28) S (by omega) (by omega) dX3_countMoved_7 (by decide) (fun c_7 => ?_) (fun c_7 => ?_)
      · skip
        refine lv_iload_n S.1 S.2.1 dX3_countMoved_28 rfl (lv_at hl 2 rfl) ?_
        exact hR _ _ _ _ _ _ _ _ dX3_countMoved_29 rfl (Nat.le_of_ble_eq_true rfl) (Nat.le_of_ble_eq_true rfl) hW ⟨by rw [hn, show i = 100 by omega], rfl⟩
      · skip
        refine lv_aload_n S.1 S.2.1 dX3_countMoved_10 rfl (lv_at hl 0 rfl) ?_
        refine lv_iload_n S.1 S.2.1 dX3_countMoved_11 rfl (lv_at hl 1 rfl) ?_
        refine lv_iload_n S.1 S.2.1 dX3_countMoved_12 rfl (lv_at hl 3 rfl) ?_
        refine kVi S (c_X3_isMoved (l := l) (D := D) (cI := cI) (cZ := cZ) (cF := cF) (by first | assumption | omega) (by first | assumption | omega) (by first | assumption | omega) (by first | assumption | omega)) (cwV 2 S.2.2.2.2 gX3_countMoved_X3_isMoved rfl rfl rfl ⟨rfl, v_X3_isMoved⟩ ⟨(Nat.le_of_ble_eq_true rfl), (Nat.le_of_ble_eq_true rfl)⟩) hk hW 3 rfl rfl rfl rfl hl rfl (Nat.le_of_ble_eq_true rfl) dX3_countMoved_13 ⟨(Nat.le_of_ble_eq_true rfl), (Nat.le_of_ble_eq_true rfl)⟩ (fun r u H locs hp hW => ?_)
        obtain ⟨rfl, rfl⟩ := hp
        refine ifeq_b (tgt := 22) S dX3_countMoved_16 (by decide) (fun c_16 => ?_) (fun c_16 => ?_)
        · skip
          refine lv_iinc (v := nI (i + 1)) (lv' := [(3, .int (nI (i + 1))), (0, .ref (q 3)), (1, .int (nI a)), (2, .int (nI n))]) (k := 3) S.1 S.2.1 dX3_countMoved_22 hl rfl (nI_1 _) (by decide) rfl (fun ls hl => ?_)
          refine lv_goto (tgt := 4) S.1 S.2.1 dX3_countMoved_25 (by decide) ?_
          exact ih4 n (i + 1) (by simp only [cmv, hn, c_16, eq_self, Nat.add_zero, decide_false, decide_true, Bool.not_true, Bool.not_false, Bool.and_true, Bool.true_and, Bool.and_false, Bool.false_and, Bool.or_true, Bool.true_or, Bool.or_false, Bool.false_or, ↓reduceIte, cond_true, cond_false, bI, and_true, true_and, and_false, false_and, or_true, true_or, or_false, false_or, not_true_eq_false, not_false_eq_true, if_true, if_false, Bool.false_eq_true, reduceCtorEq, ite_true, ite_false]) (by omega) (by omega) _ _ _ hW (lv_sub hl [1, 2, 3, 0] rfl)
        · skip
          refine lv_iinc (v := nI (n + 1)) (lv' := [(2, .int (nI (n + 1))), (0, .ref (q 3)), (1, .int (nI a)), (3, .int (nI i))]) (k := 2) S.1 S.2.1 dX3_countMoved_19 hl rfl (nI_1 _) (by decide) rfl (fun ls hl => ?_)
          refine lv_iinc (v := nI (i + 1)) (lv' := [(3, .int (nI (i + 1))), (2, .int (nI (n + 1))), (0, .ref (q 3)), (1, .int (nI a))]) (k := 3) S.1 S.2.1 dX3_countMoved_22 hl rfl (nI_1 _) (by decide) rfl (fun ls hl => ?_)
          refine lv_goto (tgt := 4) S.1 S.2.1 dX3_countMoved_25 (by decide) ?_
          exact ih4 (n + 1) (i + 1) (by simp only [cmv, hn, c_16, eq_self, Nat.add_zero, decide_false, decide_true, Bool.not_true, Bool.not_false, Bool.and_true, Bool.true_and, Bool.and_false, Bool.false_and, Bool.or_true, Bool.true_or, Bool.or_false, Bool.false_or, ↓reduceIte, cond_true, cond_false, bI, and_true, true_and, and_false, false_and, or_true, true_or, or_false, false_or, not_true_eq_false, not_false_eq_true, if_true, if_false, Bool.false_eq_true, reduceCtorEq, ite_true, ite_false]) (by omega) (by omega) _ _ _ hW (lv_sub hl [2, 3, 1, 0] rfl)
  exact L4 (100 + 1) 0 0 rfl (by omega) (by omega) _ _ _ hW (lv_sub hl [2, 3, 1, 0] rfl)
abbrev r_X3_movedPair : Room := { frames := 2, cells := 0, slots := 0, locals := 45 }
theorem v_X3_movedPair : yX3_movedPair.cls ≠ "java/lang/invoke/MethodHandle" ∧ yX3_movedPair.cls ≠ "java/lang/invoke/VarHandle" ∧ (parseMethodDescriptor yX3_movedPair.desc).map (fun d => d.parameters.length) = some 2 := by decide +kernel
set_option maxRecDepth 100000 in
set_option maxHeartbeats 4000000 in
theorem c_X3_movedPair {l : Launch} {D : va_G} {cI cZ cF : ClassId} {q : Nat → Nat} {qf : Nat → Nat} {g : Gr} {C R : Nat → Int32} {rw len : Nat} {F : Nat → Int32} {sz : Nat} {X : Nat → Int32} {mk : Int32} {a : Nat} {x : Int32} (h1a : 1 ≤ a) (ha : a < len) (hlm : len ≤ 401) : cI_ l D cI cZ cF yX3_movedPair wsX3_movedPair r_X3_movedPair [.ref (q 3), .int (nI a), .int x] (wC q qf cI cZ cF g C R rw len F sz X mk) (fun r u => r = oI (-1000) (fj (mpP F a x) 100 0) ∧ u = wC q qf cI cZ cF g C R rw len F sz X mk) 0 0 := by
  refine cI_of (cc := cX3_movedPair) (maxL := 5) (rt := .int) (plainFor_of_name (by decide +kernel)) rfl (Nat.le_of_ble_eq_true rfl) ?_
  intro p e s m args below meth c A Q ls S hk hW hl hR
  have hl : lv_has ls 5 [(0, .ref (q 3)), (1, .int (nI a)), (2, .int x)] := hl
  have hwsX30 : ∀ x ∈ wsX30, x ∈ wsX3_movedPair := fun x h => List.mem_cons_of_mem _ (List.mem_append_left _ (List.mem_append_right _ h))
  have hwsX00 : ∀ x ∈ wsX00, x ∈ wsX3_movedPair := fun x h => List.mem_cons_of_mem _ (List.mem_append_right _ h)
  refine lv_iconst (v := nI 0) S.1 S.2.1 dX3_movedPair_0 (by decide) ?_
  refine lv_istore_n (lv' := [(3, .int (nI 0)), (0, .ref (q 3)), (1, .int (nI a)), (2, .int x)]) S.1 S.2.1 dX3_movedPair_1 rfl hl (by decide) rfl (fun ls hl => ?_)
  refine lv_iconst (v := nI 0) S.1 S.2.1 dX3_movedPair_2 (by decide) ?_
  refine lv_istore (lv' := [(4, .int (nI 0)), (3, .int (nI 0)), (0, .ref (q 3)), (1, .int (nI a)), (2, .int x)]) S.1 S.2.1 dX3_movedPair_3 hl (by decide) rfl (fun ls hl => ?_)
  have L5 : ∀ (dd : Nat), ∀ (n : Nat), ∀ (i : Nat), (n = cmv F a i) → (fj (mpP F a x) 100 0 = fj (mpP F a x) (100 - i) i) → (i ≤ 100) → 100 < i + dd → ∀ (H : Heap) (locs : List Loc) (ls : Array Slot), wd D A s H locs (wC q qf cI cZ cF g C R rw len F sz X mk) → lv_has ls 5 [(0, .ref (q 3)), (1, .int (nI a)), (2, .int x), (3, .int (nI n)), (4, .int (nI i))] → W p l e r_X3_movedPair s m args below meth c H locs 0 0 Q (F0 m 5 ls []) := by
    intro dd
    induction dd with
    | zero => intros; omega
    | succ dd ih5 =>
      intro n i hn hf hi hdd H locs ls hW hl
      refine lv_iload S.1 S.2.1 dX3_movedPair_5 (lv_at hl 4 rfl) ?_
      refine lv_bipush (v := nI 100) S.1 S.2.1 dX3_movedPair_7 (by decide) ?_
      refine icge_n (tgt := 39) S (by omega) (by omega) dX3_movedPair_9 (by decide) (fun c_9 => ?_) (fun c_9 => ?_)
      · skip
        refine lv_sipush (v := (-1000)) S.1 S.2.1 dX3_movedPair_39 (by decide) ?_
        exact hR _ _ _ _ _ _ _ _ dX3_movedPair_42 rfl (Nat.le_of_ble_eq_true rfl) (Nat.le_of_ble_eq_true rfl) hW ⟨by rw [fj_none hf (by omega)]; rfl, rfl⟩
      · skip
        refine lv_aload_n S.1 S.2.1 dX3_movedPair_12 rfl (lv_at hl 0 rfl) ?_
        refine lv_iload_n S.1 S.2.1 dX3_movedPair_13 rfl (lv_at hl 1 rfl) ?_
        refine lv_iload S.1 S.2.1 dX3_movedPair_14 (lv_at hl 4 rfl) ?_
        refine kVi S (c_X3_isMoved (l := l) (D := D) (cI := cI) (cZ := cZ) (cF := cF) (by first | assumption | omega) (by first | assumption | omega) (by first | assumption | omega) (by first | assumption | omega)) (cwV 2 S.2.2.2.2 gX3_movedPair_X3_isMoved rfl rfl rfl ⟨rfl, v_X3_isMoved⟩ ⟨(Nat.le_of_ble_eq_true rfl), (Nat.le_of_ble_eq_true rfl)⟩) hk hW 3 rfl rfl rfl rfl hl rfl (Nat.le_of_ble_eq_true rfl) dX3_movedPair_16 ⟨(Nat.le_of_ble_eq_true rfl), (Nat.le_of_ble_eq_true rfl)⟩ (fun r u H locs hp hW => ?_)
        obtain ⟨rfl, rfl⟩ := hp
        refine ifeq_b (tgt := 33) S dX3_movedPair_19 (by decide) (fun c_19 => ?_) (fun c_19 => ?_)
        · skip
          refine lv_iinc (v := nI (i + 1)) (lv' := [(4, .int (nI (i + 1))), (0, .ref (q 3)), (1, .int (nI a)), (2, .int x), (3, .int (nI n))]) (k := 4) S.1 S.2.1 dX3_movedPair_33 hl rfl (nI_1 _) (by decide) rfl (fun ls hl => ?_)
          refine lv_goto (tgt := 5) S.1 S.2.1 dX3_movedPair_36 (by decide) ?_
          exact ih5 n (i + 1) (by simp only [cmv, hn, c_19, eq_self, Nat.add_zero, decide_false, decide_true, Bool.not_true, Bool.not_false, Bool.and_true, Bool.true_and, Bool.and_false, Bool.false_and, Bool.or_true, Bool.true_or, Bool.or_false, Bool.false_or, ↓reduceIte, cond_true, cond_false, bI, and_true, true_and, and_false, false_and, or_true, true_or, or_false, false_or, not_true_eq_false, not_false_eq_true, if_true, if_false, Bool.false_eq_true, reduceCtorEq, ite_true, ite_false]) (fj_step hf (by omega) (by simp only [mpP, ← hn, c_19, eq_self, Nat.add_zero, decide_false, decide_true, Bool.not_true, Bool.not_false, Bool.and_true, Bool.true_and, Bool.and_false, Bool.false_and, Bool.or_true, Bool.true_or, Bool.or_false, Bool.false_or, ↓reduceIte, cond_true, cond_false, bI, and_true, true_and, and_false, false_and, or_true, true_or, or_false, false_or, not_true_eq_false, not_false_eq_true, if_true, if_false, Bool.false_eq_true, reduceCtorEq, ite_true, ite_false])) (by omega) (by omega) _ _ _ hW (lv_sub hl [1, 2, 3, 4, 0] rfl)
        · skip
          refine lv_iload_n S.1 S.2.1 dX3_movedPair_22 rfl (lv_at hl 3 rfl) ?_
          refine lv_iload_n S.1 S.2.1 dX3_movedPair_23 rfl (lv_at hl 2 rfl) ?_
          refine lv_icmp_ne (tgt := 30) S.1 S.2.1 dX3_movedPair_24 (by decide) (fun c_24 => ?_) (fun c_24 => ?_)
          · skip
            refine lv_iinc (v := nI (n + 1)) (lv' := [(3, .int (nI (n + 1))), (0, .ref (q 3)), (1, .int (nI a)), (2, .int x), (4, .int (nI i))]) (k := 3) S.1 S.2.1 dX3_movedPair_30 hl rfl (nI_1 _) (by decide) rfl (fun ls hl => ?_)
            refine lv_iinc (v := nI (i + 1)) (lv' := [(4, .int (nI (i + 1))), (3, .int (nI (n + 1))), (0, .ref (q 3)), (1, .int (nI a)), (2, .int x)]) (k := 4) S.1 S.2.1 dX3_movedPair_33 hl rfl (nI_1 _) (by decide) rfl (fun ls hl => ?_)
            refine lv_goto (tgt := 5) S.1 S.2.1 dX3_movedPair_36 (by decide) ?_
            exact ih5 (n + 1) (i + 1) (by simp only [cmv, hn, c_19, eq_self, Nat.add_zero, decide_false, decide_true, Bool.not_true, Bool.not_false, Bool.and_true, Bool.true_and, Bool.and_false, Bool.false_and, Bool.or_true, Bool.true_or, Bool.or_false, Bool.false_or, ↓reduceIte, cond_true, cond_false, bI, and_true, true_and, and_false, false_and, or_true, true_or, or_false, false_or, not_true_eq_false, not_false_eq_true, if_true, if_false, Bool.false_eq_true, reduceCtorEq, ite_true, ite_false]) (fj_step hf (by omega) (by simp only [mpP, ← hn, c_19, c_24, eq_self, Nat.add_zero, decide_false, decide_true, Bool.not_true, Bool.not_false, Bool.and_true, Bool.true_and, Bool.and_false, Bool.false_and, Bool.or_true, Bool.true_or, Bool.or_false, Bool.false_or, ↓reduceIte, cond_true, cond_false, bI, and_true, true_and, and_false, false_and, or_true, true_or, or_false, false_or, not_true_eq_false, not_false_eq_true, if_true, if_false, Bool.false_eq_true, reduceCtorEq, ite_true, ite_false])) (by omega) (by omega) _ _ _ hW (lv_sub hl [2, 3, 4, 1, 0] rfl)
          · skip
            refine lv_iload S.1 S.2.1 dX3_movedPair_27 (lv_at hl 4 rfl) ?_
            exact hR _ _ _ _ _ _ _ _ dX3_movedPair_29 rfl (Nat.le_of_ble_eq_true rfl) (Nat.le_of_ble_eq_true rfl) hW ⟨by rw [fj_found hf (by omega) (by simp only [mpP, ← hn, c_19, c_24, eq_self, Nat.add_zero, decide_false, decide_true, Bool.not_true, Bool.not_false, Bool.and_true, Bool.true_and, Bool.and_false, Bool.false_and, Bool.or_true, Bool.true_or, Bool.or_false, Bool.false_or, ↓reduceIte, cond_true, cond_false, bI, and_true, true_and, and_false, false_and, or_true, true_or, or_false, false_or, not_true_eq_false, not_false_eq_true, if_true, if_false, Bool.false_eq_true, reduceCtorEq, ite_true, ite_false])]; rfl, rfl⟩
  exact L5 (100 + 1) 0 0 rfl rfl (by omega) (by omega) _ _ _ hW (lv_sub hl [2, 3, 4, 1, 0] rfl)
abbrev r_X3_firstWithin : Room := { frames := 1, cells := 0, slots := 0, locals := 23 }
theorem v_X3_firstWithin : yX3_firstWithin.cls ≠ "java/lang/invoke/MethodHandle" ∧ yX3_firstWithin.cls ≠ "java/lang/invoke/VarHandle" ∧ (parseMethodDescriptor yX3_firstWithin.desc).map (fun d => d.parameters.length) = some 3 := by decide +kernel
set_option maxRecDepth 100000 in
set_option maxHeartbeats 4000000 in
theorem c_X3_firstWithin {l : Launch} {D : va_G} {cI cZ cF : ClassId} {q : Nat → Nat} {qf : Nat → Nat} {g : Gr} {C R : Nat → Int32} {rw len : Nat} {F : Nat → Int32} {sz : Nat} {X : Nat → Int32} {mk : Int32} {a b : Nat} {v : Int32} (hrl : rw ≤ len) (hlm : len ≤ 401) (har : a ≤ rw) (hb : b < 100) : cI_ l D cI cZ cF yX3_firstWithin wsX3_firstWithin r_X3_firstWithin [.ref (q 3), .int (nI a), .int (nI b), .int v] (wC q qf cI cZ cF g C R rw len F sz X mk) (fun r u => r = oI (-1000) (fj (fwP F b v) (rw - a) a) ∧ u = wC q qf cI cZ cF g C R rw len F sz X mk) 0 0 := by
  refine cI_of (cc := cX3_firstWithin) (maxL := 6) (rt := .int) (plainFor_of_name (by decide +kernel)) rfl (Nat.le_of_ble_eq_true rfl) ?_
  intro p e s m args below meth c A Q ls S hk hW hl hR
  have hl : lv_has ls 6 [(0, .ref (q 3)), (1, .int (nI a)), (2, .int (nI b)), (3, .int v)] := hl
  have hwsX30 : ∀ x ∈ wsX30, x ∈ wsX3_firstWithin := fun x h => List.mem_cons_of_mem _ (List.mem_append_left _ (List.mem_append_right _ h))
  have hwsX00 : ∀ x ∈ wsX00, x ∈ wsX3_firstWithin := fun x h => List.mem_cons_of_mem _ (List.mem_append_right _ h)
  refine lv_iload_n S.1 S.2.1 dX3_firstWithin_0 rfl (lv_at hl 1 rfl) ?_
  refine lv_istore (lv' := [(4, .int (nI a)), (0, .ref (q 3)), (1, .int (nI a)), (2, .int (nI b)), (3, .int v)]) S.1 S.2.1 dX3_firstWithin_1 hl (by decide) rfl (fun ls hl => ?_)
  have L3 : ∀ (dd : Nat), ∀ (t : Nat), (fj (fwP F b v) (rw - a) a = fj (fwP F b v) (rw - t) t) → (t ≤ rw) → rw < t + dd → ∀ (H : Heap) (locs : List Loc) (ls : Array Slot), wd D A s H locs (wC q qf cI cZ cF g C R rw len F sz X mk) → lv_has ls 6 [(0, .ref (q 3)), (1, .int (nI a)), (2, .int (nI b)), (3, .int v), (4, .int (nI t))] → W p l e r_X3_firstWithin s m args below meth c H locs 0 0 Q (F0 m 3 ls []) := by
    intro dd
    induction dd with
    | zero => intros; omega
    | succ dd ih3 =>
      intro t hf ht hdd H locs ls hW hl
      refine lv_iload S.1 S.2.1 dX3_firstWithin_3 (lv_at hl 4 rfl) ?_
      refine lv_aload_n S.1 S.2.1 dX3_firstWithin_5 rfl (lv_at hl 0 rfl) ?_
      refine gf S hk hW 3 rfl rfl hwsX30 1 (by decide) 1 rfl rfl dX3_firstWithin_6 ?_
      refine icge_n (tgt := 44) S (by omega) (by omega) dX3_firstWithin_9 (by decide) (fun c_9 => ?_) (fun c_9 => ?_)
      · skip
        refine lv_sipush (v := (-1000)) S.1 S.2.1 dX3_firstWithin_44 (by decide) ?_
        exact hR _ _ _ _ _ _ _ _ dX3_firstWithin_47 rfl (Nat.le_of_ble_eq_true rfl) (Nat.le_of_ble_eq_true rfl) hW ⟨by rw [fj_none hf (by omega)]; rfl, rfl⟩
      · skip
        refine lv_aload_n S.1 S.2.1 dX3_firstWithin_12 rfl (lv_at hl 0 rfl) ?_
        refine lv_iload S.1 S.2.1 dX3_firstWithin_13 (lv_at hl 4 rfl) ?_
        refine lv_iload_n S.1 S.2.1 dX3_firstWithin_15 rfl (lv_at hl 2 rfl) ?_
        refine kVi S (c_X3_leastAsOf (l := l) (D := D) (cI := cI) (cZ := cZ) (cF := cF) (by first | assumption | omega) (by first | assumption | omega) (by first | assumption | omega)) (cwV 2 S.2.2.2.2 gX3_firstWithin_X3_leastAsOf rfl rfl rfl ⟨rfl, v_X3_leastAsOf⟩ ⟨(Nat.le_of_ble_eq_true rfl), (Nat.le_of_ble_eq_true rfl)⟩) hk hW 3 rfl rfl rfl rfl hl rfl (Nat.le_of_ble_eq_true rfl) dX3_firstWithin_16 ⟨(Nat.le_of_ble_eq_true rfl), (Nat.le_of_ble_eq_true rfl)⟩ (fun r u H locs hp hW => ?_)
        obtain ⟨rfl, rfl⟩ := hp
        refine lv_istore (lv' := [(5, .int (F (t * 100 + b))), (0, .ref (q 3)), (1, .int (nI a)), (2, .int (nI b)), (3, .int v), (4, .int (nI t))]) S.1 S.2.1 dX3_firstWithin_19 hl (by decide) rfl (fun ls hl => ?_)
        refine lv_iload S.1 S.2.1 dX3_firstWithin_21 (lv_at hl 0 rfl) ?_
        refine lv_sipush (v := (-1000)) S.1 S.2.1 dX3_firstWithin_23 (by decide) ?_
        refine lv_icmp_eq (tgt := 38) S.1 S.2.1 dX3_firstWithin_26 (by decide) (fun c_26 => ?_) (fun c_26 => ?_)
        · skip
          refine lv_iinc (v := nI (t + 1)) (lv' := [(4, .int (nI (t + 1))), (5, .int (F (t * 100 + b))), (0, .ref (q 3)), (1, .int (nI a)), (2, .int (nI b)), (3, .int v)]) (k := 5) S.1 S.2.1 dX3_firstWithin_38 hl rfl (nI_1 _) (by decide) rfl (fun ls hl => ?_)
          refine lv_goto (tgt := 3) S.1 S.2.1 dX3_firstWithin_41 (by decide) ?_
          exact ih3 (t + 1) (fj_step hf (by omega) (by simp only [fwP, c_26, eq_self, Nat.add_zero, decide_false, decide_true, Bool.not_true, Bool.not_false, Bool.and_true, Bool.true_and, Bool.and_false, Bool.false_and, Bool.or_true, Bool.true_or, Bool.or_false, Bool.false_or, ↓reduceIte, cond_true, cond_false, bI, and_true, true_and, and_false, false_and, or_true, true_or, or_false, false_or, not_true_eq_false, not_false_eq_true, if_true, if_false, Bool.false_eq_true, reduceCtorEq, ite_true, ite_false])) (by omega) (by omega) _ _ _ hW (lv_sub hl [2, 3, 4, 5, 0] rfl)
        · skip
          refine lv_iload S.1 S.2.1 dX3_firstWithin_29 (lv_at hl 0 rfl) ?_
          refine lv_iload_n S.1 S.2.1 dX3_firstWithin_31 rfl (lv_at hl 4 rfl) ?_
          refine lv_icmp_gt (tgt := 38) S.1 S.2.1 dX3_firstWithin_32 (by decide) (fun c_32 => ?_) (fun c_32 => ?_)
          · skip
            refine lv_iinc (v := nI (t + 1)) (lv' := [(4, .int (nI (t + 1))), (5, .int (F (t * 100 + b))), (0, .ref (q 3)), (1, .int (nI a)), (2, .int (nI b)), (3, .int v)]) (k := 5) S.1 S.2.1 dX3_firstWithin_38 hl rfl (nI_1 _) (by decide) rfl (fun ls hl => ?_)
            refine lv_goto (tgt := 3) S.1 S.2.1 dX3_firstWithin_41 (by decide) ?_
            exact ih3 (t + 1) (fj_step hf (by omega) (by simp only [fwP, c_26, c_32, eq_self, Nat.add_zero, decide_false, decide_true, Bool.not_true, Bool.not_false, Bool.and_true, Bool.true_and, Bool.and_false, Bool.false_and, Bool.or_true, Bool.true_or, Bool.or_false, Bool.false_or, ↓reduceIte, cond_true, cond_false, bI, and_true, true_and, and_false, false_and, or_true, true_or, or_false, false_or, not_true_eq_false, not_false_eq_true, if_true, if_false, Bool.false_eq_true, reduceCtorEq, ite_true, ite_false])) (by omega) (by omega) _ _ _ hW (lv_sub hl [2, 3, 4, 5, 0] rfl)
          · skip
            refine lv_iload S.1 S.2.1 dX3_firstWithin_35 (lv_at hl 5 rfl) ?_
            exact hR _ _ _ _ _ _ _ _ dX3_firstWithin_37 rfl (Nat.le_of_ble_eq_true rfl) (Nat.le_of_ble_eq_true rfl) hW ⟨by rw [fj_found hf (by omega) (by simp only [fwP, c_26, c_32, eq_self, Nat.add_zero, decide_false, decide_true, Bool.not_true, Bool.not_false, Bool.and_true, Bool.true_and, Bool.and_false, Bool.false_and, Bool.or_true, Bool.true_or, Bool.or_false, Bool.false_or, ↓reduceIte, cond_true, cond_false, bI, and_true, true_and, and_false, false_and, or_true, true_or, or_false, false_or, not_true_eq_false, not_false_eq_true, if_true, if_false, Bool.false_eq_true, reduceCtorEq, ite_true, ite_false])]; rfl, rfl⟩
  exact L3 (rw + 1) a rfl (by omega) (by omega) _ _ _ hW (lv_sub hl [1, 2, 3, 4, 0] rfl)
abbrev r_X0_init : Room := { frames := 1, cells := 1, slots := 100, locals := 16 }
theorem v_X0_init : yX0_init.cls ≠ "java/lang/invoke/MethodHandle" ∧ yX0_init.cls ≠ "java/lang/invoke/VarHandle" ∧ (parseMethodDescriptor yX0_init.desc).map (fun d => d.parameters.length) = some 0 := by decide +kernel
set_option maxRecDepth 100000 in
set_option maxHeartbeats 4000000 in
/-- new Fars(): behind any world -/
theorem c_X0_init {l : Launch} {D : va_G} {cI cZ cF : ClassId} {w : va_W} {x : Nat} : cV_ l D cI cZ cF yX0_init wsX0_init r_X0_init [.ref x] (w ++ [(x, .inr (0, [.null]))]) (fun u => ∃ y : Nat, u = w ++ [(x, .inr (0, [.ref y])), (y, .inl (cI, 100, .inl (fun _ => 0)))]) 1 100 := by
  refine cV_of (cc := cX0_init) (maxL := 1) (plainFor_of_name (by decide +kernel)) rfl (Nat.le_of_ble_eq_true rfl) ?_
  intro p e s m args below meth c A Q ls S hnm hk hW hl hR
  have hl : lv_has ls 1 [(0, .ref x)] := hl
  have hwsX00 : ∀ x ∈ wsX00, x ∈ wsX0_init := fun x h => List.mem_cons_of_mem _ (List.mem_append_right _ h)
  refine lv_aload_n S.1 S.2.1 dX0_init_0 rfl (lv_at hl 0 rfl) ?_
  refine W.objInit S.1 S.2.1 S.2.2.2.1 (S.2.2.2.2 _ (List.mem_of_getElem? (i := 1) rfl)) (S.2.2.2.2 _ (List.mem_of_getElem? (i := 2) rfl)) (S.2.2.2.2 _ (List.mem_of_getElem? (i := 3) rfl)) rfl (hl.1.trans S.2.2.1.symm) rfl dX0_init_1 (Nat.le_of_ble_eq_true rfl) (Nat.le_of_ble_eq_true rfl) ?_
  refine W.eq (g2 := F0 m 4 ls []) rfl ?_
  refine lv_aload_n S.1 S.2.1 dX0_init_4 rfl (lv_at hl 0 rfl) ?_
  refine lv_bipush (v := nI 100) S.1 S.2.1 dX0_init_5 (by decide) ?_
  refine newI S hk hW 4 rfl (by omega) (Nat.le_of_ble_eq_true rfl) (Nat.le_of_ble_eq_true rfl) dX0_init_7 (fun y H hW => ?_)
  rw [List.append_assoc] at hW
  have hW : wd D A s H _ (w ++ [(x, .inr (0, [.null])), (y, .inl (cI, 100, .inl (fun _ => 0)))]) := hW
  have g0 : (w ++ [(x, .inr (0, [.null])), (y, .inl (cI, 100, .inl (fun _ => 0)))] : va_W)[w.length]? = some (x, .inr (0, [.null])) := by rw [List.getElem?_append_right (Nat.le_refl _), Nat.sub_self]; rfl
  refine pfF (ty := .array .int) (w' := w ++ [(x, .inr (0, [.ref y])), (y, .inl (cI, 100, .inl (fun _ => 0)))]) S hk hW w.length g0 rfl hwsX00 tyX0 tyX0_ok nmX0 0 (by decide) 5 rfl rfl hnm rfl (by decide +kernel) rfl rfl (Nat.le_of_ble_eq_true rfl) dX0_init_9 (by rw [List.set_append_right _ _ (Nat.le_refl _), Nat.sub_self]; rfl) (fun H locs hW => ?_)
  exact hR _ _ _ _ _ _ _ dX0_init_12 (Nat.le_of_ble_eq_true rfl) (Nat.le_of_ble_eq_true rfl) hW ⟨y, rfl⟩
abbrev r_X0_take : Room := { frames := 3, cells := 0, slots := 0, locals := 64 }
theorem v_X0_take : yX0_take.cls ≠ "java/lang/invoke/MethodHandle" ∧ yX0_take.cls ≠ "java/lang/invoke/VarHandle" ∧ (parseMethodDescriptor yX0_take.desc).map (fun d => d.parameters.length) = some 1 := by decide +kernel
set_option maxRecDepth 100000 in
set_option maxHeartbeats 4000000 in
theorem c_X0_take {l : Launch} {D : va_G} {cI cZ cF : ClassId} {q : Nat → Nat} {qf : Nat → Nat} {g : Gr} {C R : Nat → Int32} {rw len : Nat} {F : Nat → Int32} {sz : Nat} {X : Nat → Int32} {mk : Int32} {r : Nat} (hr : r < len) (hlm : len ≤ 401) : cV_ l D cI cZ cF yX0_take wsX0_take r_X0_take [.ref (qf (2 * r)), .ref (q 2)] (wC q qf cI cZ cF g C R rw len F sz X mk) (fun u => ∃ F', ((∀ p, (p < r * 100 ∨ r * 100 + 100 ≤ p) → F' p = F p) ∧ ∀ p, p < 100 → F' (r * 100 + p) = prI (C p)) ∧ u = wC q qf cI cZ cF g C R rw len F' sz X mk) 0 0 := by
  refine cV_of (cc := cX0_take) (maxL := 3) (plainFor_of_name (by decide +kernel)) rfl (Nat.le_of_ble_eq_true rfl) ?_
  intro p e s m args below meth c A Q ls S hnm hk hW hl hR
  have hl : lv_has ls 3 [(0, .ref (qf (2 * r))), (1, .ref (q 2))] := hl
  have hwsX00 : ∀ x ∈ wsX00, x ∈ wsX0_take := fun x h => List.mem_cons_of_mem _ (List.mem_append_left _ (List.mem_append_right _ h))
  refine lv_iconst (v := nI 0) S.1 S.2.1 dX0_take_0 (by decide) ?_
  refine lv_istore_n (lv' := [(2, .int (nI 0)), (0, .ref (qf (2 * r))), (1, .ref (q 2))]) S.1 S.2.1 dX0_take_1 rfl hl (by decide) rfl (fun ls hl => ?_)
  have L2 : ∀ (dd : Nat), ∀ (i : Nat), ∀ (F1 : Nat → Int32), ((∀ p, (p < r * 100 ∨ r * 100 + 100 ≤ p) → F1 p = F p) ∧ ∀ p, p < i → F1 (r * 100 + p) = prI (C p)) → (i ≤ 100) → 100 < i + dd → ∀ (H : Heap) (locs : List Loc) (ls : Array Slot), wd D A s H locs (wC q qf cI cZ cF g C R rw len F1 sz X mk) → lv_has ls 3 [(0, .ref (qf (2 * r))), (1, .ref (q 2)), (2, .int (nI i))] → W p l e r_X0_take s m args below meth c H locs 0 0 Q (F0 m 2 ls []) := by
    intro dd
    induction dd with
    | zero => intros; omega
    | succ dd ih2 =>
      intro i F1 hF hi hdd H locs ls hW hl
      refine lv_iload_n S.1 S.2.1 dX0_take_2 rfl (lv_at hl 2 rfl) ?_
      refine lv_bipush (v := nI 100) S.1 S.2.1 dX0_take_3 (by decide) ?_
      refine icge_n (tgt := 32) S (by omega) (by omega) dX0_take_5 (by decide) (fun c_5 => ?_) (fun c_5 => ?_)
      · exact hR _ _ _ _ _ _ _ dX0_take_32 (Nat.le_of_ble_eq_true rfl) (Nat.le_of_ble_eq_true rfl) hW ⟨F1, ⟨hF.1, (by have e : i = 100 := (by omega); subst e; exact hF.2)⟩, rfl⟩
      · refine lv_aload_n S.1 S.2.1 dX0_take_8 rfl (lv_at hl 0 rfl) ?_
        refine gf S hk hW (2 * r + 14) (wC_o hr) rfl hwsX00 0 (by decide) 1 rfl rfl dX0_take_9 ?_
        refine lv_iload_n S.1 S.2.1 dX0_take_12 rfl (lv_at hl 2 rfl) ?_
        refine lv_aload_n S.1 S.2.1 dX0_take_13 rfl (lv_at hl 1 rfl) ?_
        refine lv_iload_n S.1 S.2.1 dX0_take_14 rfl (lv_at hl 2 rfl) ?_
        refine lv_bipush (v := nI 10) S.1 S.2.1 dX0_take_15 (by decide) ?_
        refine lv_idiv S.1 S.2.1 dX0_take_17 (by decide) (top_eq (pk_div (by omega) (by omega) (by omega)) ?_)
        refine lv_iload_n S.1 S.2.1 dX0_take_18 rfl (lv_at hl 2 rfl) ?_
        refine lv_bipush (v := nI 10) S.1 S.2.1 dX0_take_19 (by decide) ?_
        refine lv_irem S.1 S.2.1 dX0_take_21 (by decide) (top_eq (pk_rem (by omega) (by omega) (by omega)) ?_)
        refine kVi S (c_X4_leastPrice (l := l) (D := D) (cI := cI) (cZ := cZ) (cF := cF) (by first | assumption | omega) (by first | assumption | omega)) (cwV 2 S.2.2.2.2 gX0_take_X4_leastPrice rfl rfl rfl ⟨rfl, v_X4_leastPrice⟩ ⟨(Nat.le_of_ble_eq_true rfl), (Nat.le_of_ble_eq_true rfl)⟩) hk hW 2 rfl rfl rfl rfl hl rfl (Nat.le_of_ble_eq_true rfl) dX0_take_22 ⟨(Nat.le_of_ble_eq_true rfl), (Nat.le_of_ble_eq_true rfl)⟩ (fun r u H locs hp hW => ?_)
        obtain ⟨rfl, rfl⟩ := hp
        refine ist (w' := wC q qf cI cZ cF g C R rw len (upd F1 (r * 100 + i) (prI (C (i / 10 * 10 + i % 10)))) sz X mk) S hk hW (2 * r + 1 + 14) (wC_r hr) i rfl (by omega) (by omega) dX0_take_25 (wC_set hr (by omega)) (fun H locs hW => ?_)
        refine lv_iinc (v := nI (i + 1)) (lv' := [(2, .int (nI (i + 1))), (0, .ref (qf (2 * r))), (1, .ref (q 2))]) (k := 2) S.1 S.2.1 dX0_take_26 hl rfl (nI_1 _) (by decide) rfl (fun ls hl => ?_)
        refine lv_goto (tgt := 2) S.1 S.2.1 dX0_take_29 (by decide) ?_
        exact ih2 (i + 1) _ (takeF_step hF (by omega)) (by omega) (by omega) _ _ _ hW (lv_sub hl [1, 2, 0] rfl)
  exact L2 (100 + 1) 0 F ⟨fun p hp => rfl, fun p hp => absurd hp (Nat.not_lt_zero p)⟩ (by omega) (by omega) _ _ _ hW (lv_sub hl [1, 2, 0] rfl)
abbrev r_X3_keep (mc ms : Nat) : Room := { frames := 4, cells := mc, slots := ms, locals := 86 }
theorem v_X3_keep : yX3_keep.cls ≠ "java/lang/invoke/MethodHandle" ∧ yX3_keep.cls ≠ "java/lang/invoke/VarHandle" ∧ (parseMethodDescriptor yX3_keep.desc).map (fun d => d.parameters.length) = some 1 := by decide +kernel
set_option maxRecDepth 100000 in
set_option maxHeartbeats 4000000 in
theorem c_X3_keep {l : Launch} {D : va_G} {cI cZ cF : ClassId} {q : Nat → Nat} {qf : Nat → Nat} {g : Gr} {C R : Nat → Int32} {rw len : Nat} {F : Nat → Int32} {sz : Nat} {X : Nat → Int32} {mk : Int32} (hr : rw ≤ 400) (hrl : rw ≤ len) (h16 : 0 ≤ len) (hlm : len ≤ 401) : cV_ l D cI cZ cF yX3_keep wsX3_keep (r_X3_keep (gC rw len) (gS rw len)) [.ref (q 3), .ref (q 2)] (wC q qf cI cZ cF g C R rw len F sz X mk) (fun u => ∃ qf' F', (∀ p, p < rw * 100 → F' p = F p) ∧ (∀ p, p < 100 → F' (rw * 100 + p) = prI (C p)) ∧ u = wC q qf' cI cZ cF g C R (rw + 1) (gL rw len) F' sz X mk) (gC rw len) (gS rw len) := by
  refine cV_of (cc := cX3_keep) (maxL := 3) (plainFor_of_name (by decide +kernel)) rfl (Nat.le_of_ble_eq_true rfl) ?_
  intro p e s m args below meth c A Q ls S hnm hk hW hl hR
  have hl : lv_has ls 3 [(0, .ref (q 3)), (1, .ref (q 2))] := hl
  have hwsX30 : ∀ x ∈ wsX30, x ∈ wsX3_keep := fun x h => List.mem_cons_of_mem _ (List.mem_append_left _ (List.mem_append_left _ (List.mem_append_right _ h)))
  have hwsX00 : ∀ x ∈ wsX00, x ∈ wsX3_keep := fun x h => List.mem_cons_of_mem _ (List.mem_append_left _ (List.mem_append_right _ h))
  have L40 : ∀ (qf' : Nat → Nat) (len' : Nat) (F1 : Nat → Int32) (k n : Nat), rw < len' → len' ≤ 401 → len' = gL rw len → (∀ p, p < rw * 100 → F1 p = F p) → k ≤ gC rw len → n ≤ gS rw len → ∀ (H : Heap) (locs : List Loc) (ls : Array Slot), wd D A s H locs (wC q qf' cI cZ cF g C R rw len' F1 sz X mk) → lv_has ls 3 [(0, .ref (q 3)), (1, .ref (q 2)), (2, .ref (qf' (2 * rw)))] → W p l e (r_X3_keep (gC rw len) (gS rw len)) s m args below meth c H locs k n Q (F0 m 40 ls []) := by
    intro qf' len' F1 k n h1 h2 h3 hF hk1 hn1 H locs ls hW hl
    refine lv_aload_n S.1 S.2.1 dX3_keep_40 rfl (lv_at hl 2 rfl) ?_
    refine lv_aload_n S.1 S.2.1 dX3_keep_41 rfl (lv_at hl 1 rfl) ?_
    refine kVv S (c_X0_take (l := l) (D := D) (cI := cI) (cZ := cZ) (cF := cF) h1 h2) (cwV 1 S.2.2.2.2 gX3_keep_X0_take rfl rfl rfl ⟨rfl, v_X0_take⟩ ⟨(Nat.le_of_ble_eq_true rfl), (Nat.le_of_ble_eq_true rfl)⟩) hk hW (2 * rw + 14) (wC_o h1) rfl rfl rfl hl rfl (Nat.le_of_ble_eq_true rfl) dX3_keep_42 ⟨hk1, hn1⟩ (fun u H locs hp hW => ?_)
    obtain ⟨F2, hF2, rfl⟩ := hp
    refine lv_aload_n S.1 S.2.1 dX3_keep_45 rfl (lv_at hl 0 rfl) ?_
    refine lv_dup S.1 S.2.1 dX3_keep_46 rfl ?_
    refine gf S hk hW 3 rfl rfl hwsX30 1 (by decide) 2 rfl rfl dX3_keep_47 ?_
    refine lv_iconst (v := nI 1) S.1 S.2.1 dX3_keep_50 (by decide) ?_
    refine lv_iadd S.1 S.2.1 dX3_keep_51 (top_eq (nI_add _ _) ?_)
    refine pf (ty := .int) (w' := wC q qf' cI cZ cF g C R (rw + 1) len' F2 sz X mk) S hk hW 3 rfl rfl hwsX30 tyX3 tyX3_ok nmX3 1 (by decide) 2 rfl rfl (by decide +kernel) rfl rfl (Nat.le_of_ble_eq_true rfl) dX3_keep_52 rfl (fun H locs hW => ?_)
    subst h3
    exact hR _ _ _ _ _ _ _ dX3_keep_55 hk1 hn1 hW ⟨qf', F2, fun p hp => (hF2.1 p (Or.inl hp)).trans (hF p hp), hF2.2, rfl⟩
  refine lv_aload_n S.1 S.2.1 dX3_keep_0 rfl (lv_at hl 0 rfl) ?_
  refine kVi S (c_X3_isFull (l := l) (D := D) (cI := cI) (cZ := cZ) (cF := cF) (by first | assumption | omega)) (cwV 0 S.2.2.2.2 gX3_keep_X3_isFull rfl rfl rfl ⟨rfl, v_X3_isFull⟩ ⟨(Nat.le_of_ble_eq_true rfl), (Nat.le_of_ble_eq_true rfl)⟩) hk hW 3 rfl rfl rfl rfl hl rfl (Nat.le_of_ble_eq_true rfl) dX3_keep_1 ⟨Nat.zero_le _, Nat.zero_le _⟩ (fun r u H locs hp hW => ?_)
  obtain ⟨rfl, rfl⟩ := hp
  refine ifeq_b (tgt := 8) S dX3_keep_4 (by decide) (fun c_4 => ?_) (fun c_4 => ?_)
  · refine lv_aload_n S.1 S.2.1 dX3_keep_8 rfl (lv_at hl 0 rfl) ?_
    refine gf S hk hW 3 rfl rfl hwsX30 0 (by decide) 1 rfl rfl dX3_keep_9 ?_
    refine lv_aload_n S.1 S.2.1 dX3_keep_12 rfl (lv_at hl 0 rfl) ?_
    refine gf S hk hW 3 rfl rfl hwsX30 1 (by decide) 2 rfl rfl dX3_keep_13 ?_
    by_cases hm : rw + 1 ≤ len
    · have e1 : gL rw len = len := if_pos hm
      refine qld S hk hW 12 rfl rw rfl (by omega) (by omega) (v := .ref (qf (2 * rw))) (by rw [aF_lt hm]; rfl) dX3_keep_16 ?_
      refine lv_astore_n (lv' := [(2, .ref (qf (2 * rw))), (0, .ref (q 3)), (1, .ref (q 2))]) S.1 S.2.1 dX3_keep_17 rfl hl (by decide) rfl (fun ls hl => ?_)
      refine lv_aload_n S.1 S.2.1 dX3_keep_18 rfl (lv_at hl 0 rfl) ?_
      refine lv_ifnonnull (tgt := 40) S.1 S.2.1 dX3_keep_19 (by decide) ?_
      exact L40 qf len F _ _ hm hlm e1.symm (fun _ _ => rfl) (Nat.zero_le _) (Nat.zero_le _) _ _ _ hW (lv_sub hl [1, 2, 0] rfl)
    · obtain rfl : rw = len := by omega
      have e1 : gL rw rw = rw + 1 := if_neg hm
      have e2 : gC rw rw = 2 := if_neg hm
      have e3 : gS rw rw = 101 := if_neg hm
      refine qld S hk hW 12 rfl rw rfl (by omega) (by omega) (v := .null) (by rw [aF_ge (Nat.le_refl _)]; rfl) dX3_keep_16 ?_
      refine lv_astore_nN (lv' := [(2, .null), (0, .ref (q 3)), (1, .ref (q 2))]) S.1 S.2.1 dX3_keep_17 rfl hl (by decide) rfl (fun ls hl => ?_)
      refine lv_aload_nN S.1 S.2.1 dX3_keep_18 rfl (lv_at hl 0 rfl) ?_
      refine lv_ifnonnullN S.1 S.2.1 dX3_keep_19 ?_
      refine newO (ci := 0) (fs := [.null]) S hk hW hwsX00 tyX0 tyX0_ok 3 4 5 rfl rfl rfl rfl (fun j hj => by rcases (show j = 0 by omega) with rfl; rfl) (by rw [e2]; exact (Nat.le_of_ble_eq_true rfl)) (by rw [e3]; exact (Nat.le_of_ble_eq_true rfl)) dX3_keep_22 (fun x H hW => ?_)
      refine lv_dup S.1 S.2.1 dX3_keep_25 rfl ?_
      refine kNIv (As := []) S (c_X0_init (l := l) (D := D) (cI := cI) (cZ := cZ) (cF := cF)) ⟨va_cnB (host := RX5) 0 S.2.2.2.2 gX3_keep_X0_init_n25 rfl rfl rfl (hk.2.1.1 _ (List.mem_of_getElem? (i := 19) rfl)) (S.2.2.2.2 _ (List.mem_of_getElem? (i := 5) rfl)) v_X0_init ⟨(Nat.le_of_ble_eq_true rfl), (Nat.le_of_ble_eq_true rfl)⟩, rfl, S.2.2.2.2 _ (List.mem_of_getElem? (i := 11) rfl)⟩ hk hW rfl hl rfl (Nat.le_of_ble_eq_true rfl) dX3_keep_26 ⟨by rw [e2]; exact (Nat.le_of_ble_eq_true rfl), by rw [e3]; exact (Nat.le_of_ble_eq_true rfl)⟩ (fun u H locs hp hW => ?_)
      obtain ⟨y, rfl⟩ := hp
      refine lv_astore_n (lv' := [(2, .ref x), (0, .ref (q 3)), (1, .ref (q 2))]) S.1 S.2.1 dX3_keep_29 rfl hl (by decide) rfl (fun ls hl => ?_)
      refine lv_aload_n S.1 S.2.1 dX3_keep_30 rfl (lv_at hl 1 rfl) ?_
      refine gf S hk hW 3 rfl rfl hwsX30 0 (by decide) 1 rfl rfl dX3_keep_31 ?_
      refine lv_aload_n S.1 S.2.1 dX3_keep_34 rfl (lv_at hl 1 rfl) ?_
      refine gf S hk hW 3 rfl rfl hwsX30 1 (by decide) 2 rfl rfl dX3_keep_35 ?_
      refine lv_aload_n S.1 S.2.1 dX3_keep_38 rfl (lv_at hl 0 rfl) ?_
      refine qst (w' := wC q (nQ qf rw x y) cI cZ cF g C R rw (rw + 1) (nF F rw) sz X mk) S hk hW 12 rfl (wC q qf cI cZ cF g C R rw rw F sz X mk).length (vs := [.ref y]) (by rw [List.getElem?_append_right (Nat.le_refl _), Nat.sub_self]; rfl) rw rfl (by omega) (by omega) dX3_keep_39 wC_push (fun H locs hW => ?_)
      have e0 : nQ qf rw x y (2 * rw) = x := by unfold nQ; rw [if_neg (by omega), if_pos rfl]
      exact L40 (nQ qf rw x y) (rw + 1) (nF F rw) _ _ (Nat.lt_succ_self _) (by omega) e1.symm (fun p hp => if_pos hp) (by rw [e2]; exact (Nat.le_of_ble_eq_true rfl)) (by rw [e3]; exact (Nat.le_of_ble_eq_true rfl)) _ _ _ hW (by rw [e0]; exact lv_sub hl [1, 2, 0] rfl)
  · exact absurd c_4 (by simp only [Bool.not_eq_true', decide_eq_false_iff_not]; omega)
