/-! ===== MY KIT: contracts over whole worlds, calls, rows with numbers ===== -/
def nwl : List Cond := [.fieldLinkNest RX5 43 RX2 "posts" "I" RX5, .fieldLinkNest RX5 59 RX2 "lines" "I" RX5, .fieldLinkNest RX5 77 RX2 "bothWays" "[Z" RX5, .fieldLinkNest RX5 81 RX2 "prices" "[I" RX5, .fieldLinkNest RX5 85 RX2 "there" "[Z" RX5, .fieldLinkNest RX5 95 RX2 "begins" "[I" RX5, .fieldLinkNest RX5 98 RX2 "ends" "[I" RX5, .fieldLinkNest RX4 29 RX2 "posts" "I" RX5, .fieldLinkNest RX4 82 RX2 "lines" "I" RX5, .fieldLinkNest RX4 94 RX2 "prices" "[I" RX5, .fieldLinkNest RX4 97 RX2 "begins" "[I" RX5, .fieldLinkNest RX4 103 RX2 "ends" "[I" RX5, .fieldLinkNest RX4 106 RX2 "bothWays" "[Z" RX5, .fieldLinkNest RX4 110 RX2 "there" "[Z" RX5, .methodLinkNest RX4 39 yX5_pairOf RX5, .methodLinkNest RX5 11 yX2_init RX5, .methodLinkNest RX5 27 yX3_init RX5, .methodLinkNest RX5 34 yX1_init RX5, .fieldLinkNest RX3 30 RX0 "least" "[I" RX5, .methodLinkNest RX3 25 yX0_init RX5]
def nw (U : State) : Prop := (∀ w ∈ nwl, va_Nw w U) ∧ va_AO RX0 U
theorem nw_warm {s U : State} (hW : s.WarmedH U.vm) (h : nw s) : nw U := by
  refine ⟨?_, va_AO.moved hW.alike h.2⟩
  intro w hw
  have h0 := h.1 w hw
  simp only [nwl, List.mem_cons, List.not_mem_nil, or_false] at hw
  rcases hw with rfl | rfl | rfl | rfl | rfl | rfl | rfl | rfl | rfl | rfl | rfl | rfl | rfl | rfl | rfl | rfl | rfl | rfl | rfl | rfl
  all_goals first | exact va_Nw.warmF hW h0 | exact va_Nw.warmM hW h0
theorem nw_same {u U : State} (hv : u.vm = U.vm) (h : nw u) : nw U := by
  refine ⟨?_, va_AO.moved (by rw [hv]; exact Vm.Alike.refl U.vm) h.2⟩
  intro w hw
  have h0 := h.1 w hw
  have ht : ∀ w ∈ nwl, w.onTables = true := by
    intro w hw
    simp only [nwl, List.mem_cons, List.not_mem_nil, or_false] at hw
    rcases hw with rfl | rfl | rfl | rfl | rfl | rfl | rfl | rfl | rfl | rfl | rfl | rfl | rfl | rfl | rfl | rfl | rfl | rfl | rfl | rfl
    all_goals rfl
  exact va_Nw.same (ht w hw) hv h0
/-- what holds of the machine all through a method -/
def kn (D : va_G) (cI cZ cF : ClassId) (A : Nat → Prop) (s : State) : Prop := va_K D vwCl [(cI, .int), (cZ, .boolean), (cF, .object RX0)] s ∧ nw s ∧ ∀ q, s.heap.size ≤ q → A q
/-- the world now -/
def wd (D : va_G) (A : Nat → Prop) (s : State) (H : Heap) (locs : List Loc) (w : va_W) : Prop := va_P D vwCl w H ∧ va_D A w ∧ va_S A s.heap H locs
def cB (D : va_G) (cI cZ cF : ClassId) (sz : Nat) (w : va_W) : State → Prop := fun U => U.heap.size = sz ∧ va_P D vwCl w U.heap ∧ va_K D vwCl [(cI, .int), (cZ, .boolean), (cF, .object RX0)] U ∧ nw U ∧ va_D (fun _ => True) w
def cE (D : va_G) (A : Nat → Prop) : va_W → State → Prop := fun u t => va_P D vwCl u t.heap ∧ va_D A u
/-- a contract: an int (or a boolean) comes back -/
def cI_ (l : Launch) (D : va_G) (cI cZ cF : ClassId) (y : MethodName) (ws : List Cond) (rm : Room) (av : List Value) (w : va_W) (Post : Int32 → va_W → Prop) (mc ms : Nat) : Prop :=
  ∀ sz, Met l y ws rm (va_Pc av (cB D cI cZ cF sz w)) (va_Qi Post (cE D (va_A w sz)) (va_A w sz)) mc ms (va_A w sz)
/-- a contract: nothing comes back -/
def cV_ (l : Launch) (D : va_G) (cI cZ cF : ClassId) (y : MethodName) (ws : List Cond) (rm : Room) (av : List Value) (w : va_W) (Post : va_W → Prop) (mc ms : Nat) : Prop :=
  ∀ sz, Met l y ws rm (va_Pc av (cB D cI cZ cF sz w)) (va_Qv Post (cE D (va_A w sz)) (va_A w sz)) mc ms (va_A w sz)
/-- a contract: a cell comes back -/
def cR_ (l : Launch) (D : va_G) (cI cZ cF : ClassId) (y : MethodName) (ws : List Cond) (rm : Room) (av : List Value) (w : va_W) (Post : Nat → va_W → Prop) (mc ms : Nat) : Prop :=
  ∀ sz, Met l y ws rm (va_Pc av (cB D cI cZ cF sz w)) (va_Qr (fun _ : va_W => True) (fun u a t => Post a u ∧ cE D (va_A w sz) u t) (va_A w sz)) mc ms (va_A w sz)
theorem cB_blind {D : va_G} {cI cZ cF : ClassId} {sz : Nat} {w : va_W} {av : List Value} : FrameBlind (va_Pc av (cB D cI cZ cF sz w)) := fun a U g mk q => by
  obtain ⟨q0, q1, qP, qK, qN, qD⟩ := q
  exact ⟨q0, q1, qP, va_K.moved (u := U) (U := U.calling g mk a) (Vm.Alike.refl U.vm) qK, nw_same (u := U) (U := U.calling g mk a) rfl qN, qD⟩
theorem wd_free {D : va_G} {cI cZ cF : ClassId} {A : Nat → Prop} {s : State} {H : Heap} {locs : List Loc} {w : va_W} (hk : kn D cI cZ cF A s) (hW : wd D A s H locs w) : ∀ q, va_A w H.size q → A q := by
  intro q h
  rcases h with ⟨k, e, h⟩ | h
  · exact hW.2.1.2 k (q, e) h
  · exact hk.2.2 q (Nat.le_trans hW.2.2.1 h)
section MYW
variable {l : Launch}
theorem Met_ofWF {y : MethodName} {ws ws' : List Cond} {rm : Room} {Pc : Array Value → State → Prop} {Qc : Array Value → State → Outcome → State → Prop} {mc ms : Nat} {free : Addr → Prop} {cc : ByteArray} {maxL : Nat} {ret : Option FieldType}
    (hy : plainFor y = true) (hw : ws = Cond.code y cc maxL ret :: ws')
    (body : ∀ p e s m args below meth c s₁, BodyLoose p l y (headSpec ws rm) cc maxL ret e s m args below meth c s₁ → c.maxLocals = maxL → Pc args s →
      W p l e (headSpec ws rm).room s m args below meth c s.heap [] 0 0 (MQ below Qc args s mc ms free) (entryFrame m args maxL)) : Met l y ws rm Pc Qc mc ms free := by
  refine MetFree.of_bodySF (code := cc) (maxLocals := maxL) (ret := ret) hy ?_ ?_
  · intro args s m h hn
    obtain ⟨meth, c, h1, h2, h3, h4, h5, h6, -, -⟩ := Cond.code_spec hn (atoms_spec (ws := ws) h _ (by rw [hw]; exact List.mem_cons_self))
    exact ⟨meth, c, h1, h2, h3, h4, h5, h6⟩
  · intro p e s m args below meth c s₁ B hml hP _
    have hh0 : s₁.heap = s.heap := by rw [B.state]; rfl
    obtain ⟨t, a1, o, b1, b2, b3⟩ := body p e s m args below meth c s₁ B hml hP s₁ hh0 (Stand.of_body B)
    exact ⟨t, o, a1, b1, b2, ⟨b3.1, b3.2⟩⟩
end MYW
/-- where int and boolean contracts come back -/
def RetI (p : Program) (l : Launch) (e : Env) (rm : Room) (s : State) (m : MethodId) (args : Array Value) (below : List Frame) (meth : Method) (c : Code) (D : va_G) (A : Nat → Prop) (Q : State → Prop) (cc : ByteArray) (rt : FieldType) (Post : Int32 → va_W → Prop) (mc ms : Nat) : Prop :=
  ∀ (H : Heap) (locs : List Loc) (k n pc : Nat) (ls : Array Slot) (v : Int32) (u : va_W), decode cc pc = .ok (.ireturn, 1) → narrow rt (.int v) = .int v → k ≤ mc → n ≤ ms → wd D A s H locs u → Post v u → W p l e rm s m args below meth c H locs k n Q (F0 m pc ls [.int v])
def RetV (p : Program) (l : Launch) (e : Env) (rm : Room) (s : State) (m : MethodId) (args : Array Value) (below : List Frame) (meth : Method) (c : Code) (D : va_G) (A : Nat → Prop) (Q : State → Prop) (cc : ByteArray) (Post : va_W → Prop) (mc ms : Nat) : Prop :=
  ∀ (H : Heap) (locs : List Loc) (k n pc : Nat) (ls : Array Slot) (u : va_W), decode cc pc = .ok (.return_, 1) → k ≤ mc → n ≤ ms → wd D A s H locs u → Post u → W p l e rm s m args below meth c H locs k n Q (F0 m pc ls [])
def RetR (p : Program) (l : Launch) (e : Env) (rm : Room) (s : State) (m : MethodId) (args : Array Value) (below : List Frame) (meth : Method) (c : Code) (D : va_G) (A : Nat → Prop) (Q : State → Prop) (cc : ByteArray) (Post : Nat → va_W → Prop) (mc ms : Nat) : Prop :=
  ∀ (H : Heap) (locs : List Loc) (k n pc : Nat) (ls : Array Slot) (a : Nat) (u : va_W), decode cc pc = .ok (.areturn, 1) → k ≤ mc → n ≤ ms → wd D A s H locs u → Post a u → W p l e rm s m args below meth c H locs k n Q (F0 m pc ls [.ref a])
theorem cI_of {l : Launch} {D : va_G} {cI cZ cF : ClassId} {y : MethodName} {ws ws' : List Cond} {rm : Room} {av : List Value} {w : va_W} {Post : Int32 → va_W → Prop} {mc ms : Nat} {cc : ByteArray} {maxL : Nat} {rt : FieldType} (hy : plainFor y = true) (hw : ws = Cond.code y cc maxL (some rt) :: ws') (hlen : (lg_sl av).length ≤ maxL)
    (body : ∀ (p : Program) (e : Env) (s : State) (m : MethodId) (args : Array Value) (below : List Frame) (meth : Method) (c : Code) (A : Nat → Prop) (Q : State → Prop) (ls : Array Slot), CallFix p m c cc maxL s args ws y.cls → kn D cI cZ cF A s → wd D A s s.heap [] w → lv_has ls maxL (lv_args 0 av) → RetI p l e rm s m args below meth c D A Q cc rt Post mc ms → W p l e rm s m args below meth c s.heap [] 0 0 Q (F0 m 0 ls [])) : cI_ l D cI cZ cF y ws rm av w Post mc ms := by
  intro sz
  refine Met_ofWF (cc := cc) (maxL := maxL) (ret := some rt) hy hw ?_
  intro p e s m args below meth c s₁ B hml hv
  obtain ⟨rfl, hsz, hP, hK, hN, hD0⟩ := hv
  subst hsz
  rw [lg_entry_eq]
  exact body p e s m _ below meth c (va_A w s.heap.size) _ _ ⟨B.exec, B.bytes, hml, findClass_of_methodNamed B.named, atoms_spec (ws := ws) B.pre⟩ ⟨hK, hN, fun q h => Or.inr h⟩ ⟨hP, hD0.self, va_S.rf⟩ (lv_entry av hlen)
    (fun H locs k n pc ls v u hd hn h1 h2 hW hp => W.widen h1 h2 (W.zret B.exec B.bytes B.returns hn (fun t ht hW' => ⟨⟨v, u, rfl, hp, by rw [ht]; exact hW.1, hW.2.1⟩, hW.2.2.F ht⟩) hW.2.2.2.2 hd (hlocks := B.notSynchronized)))
theorem cV_of {l : Launch} {D : va_G} {cI cZ cF : ClassId} {y : MethodName} {ws ws' : List Cond} {rm : Room} {av : List Value} {w : va_W} {Post : va_W → Prop} {mc ms : Nat} {cc : ByteArray} {maxL : Nat} (hy : plainFor y = true) (hw : ws = Cond.code y cc maxL none :: ws') (hlen : (lg_sl av).length ≤ maxL)
    (body : ∀ (p : Program) (e : Env) (s : State) (m : MethodId) (args : Array Value) (below : List Frame) (meth : Method) (c : Code) (A : Nat → Prop) (Q : State → Prop) (ls : Array Slot), CallFix p m c cc maxL s args ws y.cls → meth.name = y.name → kn D cI cZ cF A s → wd D A s s.heap [] w → lv_has ls maxL (lv_args 0 av) → RetV p l e rm s m args below meth c D A Q cc Post mc ms → W p l e rm s m args below meth c s.heap [] 0 0 Q (F0 m 0 ls [])) : cV_ l D cI cZ cF y ws rm av w Post mc ms := by
  intro sz
  refine Met_ofWF (cc := cc) (maxL := maxL) (ret := none) hy hw ?_
  intro p e s m args below meth c s₁ B hml hv
  obtain ⟨rfl, hsz, hP, hK, hN, hD0⟩ := hv
  subst hsz
  rw [lg_entry_eq]
  exact body p e s m _ below meth c (va_A w s.heap.size) _ _ ⟨B.exec, B.bytes, hml, findClass_of_methodNamed B.named, atoms_spec (ws := ws) B.pre⟩ (name_of_methodNamed B.named B.method).1 ⟨hK, hN, fun q h => Or.inr h⟩ ⟨hP, hD0.self, va_S.rf⟩ (lv_entry av hlen)
    (fun H locs k n pc ls u hd h1 h2 hW hp => W.widen h1 h2 (W.vret B.exec B.bytes B.returns (fun t ht hW' => ⟨⟨u, rfl, hp, by rw [ht]; exact hW.1, hW.2.1⟩, hW.2.2.F ht⟩) hW.2.2.2.2 hd (hlocks := B.notSynchronized)))
theorem cR_of {l : Launch} {D : va_G} {cI cZ cF : ClassId} {y : MethodName} {ws ws' : List Cond} {rm : Room} {av : List Value} {w : va_W} {Post : Nat → va_W → Prop} {mc ms : Nat} {cc : ByteArray} {maxL : Nat} {rt : FieldType} (hrt : (∃ n, rt = .object n) ∨ ∃ t, rt = .array t) (hy : plainFor y = true) (hw : ws = Cond.code y cc maxL (some rt) :: ws') (hlen : (lg_sl av).length ≤ maxL)
    (body : ∀ (p : Program) (e : Env) (s : State) (m : MethodId) (args : Array Value) (below : List Frame) (meth : Method) (c : Code) (A : Nat → Prop) (Q : State → Prop) (ls : Array Slot), CallFix p m c cc maxL s args ws y.cls → kn D cI cZ cF A s → wd D A s s.heap [] w → lv_has ls maxL (lv_args 0 av) → RetR p l e rm s m args below meth c D A Q cc Post mc ms → W p l e rm s m args below meth c s.heap [] 0 0 Q (F0 m 0 ls [])) : cR_ l D cI cZ cF y ws rm av w Post mc ms := by
  intro sz
  refine Met_ofWF (cc := cc) (maxL := maxL) (ret := some rt) hy hw ?_
  intro p e s m args below meth c s₁ B hml hv
  obtain ⟨rfl, hsz, hP, hK, hN, hD0⟩ := hv
  subst hsz
  rw [lg_entry_eq]
  exact body p e s m _ below meth c (va_A w s.heap.size) _ _ ⟨B.exec, B.bytes, hml, findClass_of_methodNamed B.named, atoms_spec (ws := ws) B.pre⟩ ⟨hK, hN, fun q h => Or.inr h⟩ ⟨hP, hD0.self, va_S.rf⟩ (lv_entry av hlen)
    (fun H locs k n pc ls a u hd h1 h2 hW hp => W.widen h1 h2 (W.aret B.exec B.bytes B.returns hrt (Or.inr ⟨a, rfl⟩) (fun t ht hW' => ⟨⟨u, a, rfl, trivial, hp, by rw [ht]; exact hW.1, hW.2.1⟩, hW.2.2.F ht⟩) hW.2.2.2.2 hd (hlocks := B.notSynchronized)))
section MYC
variable {p : Program} {l : Launch} {e : Env} {R : Room} {s : State} {m : MethodId} {args : Array Value} {below : List Frame} {meth : Method} {c : Code} {H : Heap} {locs : List Loc} {cells slots : Nat} {Q : State → Prop}
variable {pc nL mc ms n index maxL : Nat} {ls : Array Slot} {rest st As : List Value} {cc bytes : ByteArray} {Ts ws : List Cond} {own C host : String} {y : MethodName} {rm : Room} {D : va_G} {cI cZ cF : ClassId} {A : Nat → Prop} {w : va_W} {b : Nat} {lv : List (Nat × Value)} {a : Array Value}
theorem k_int {Post : Int32 → va_W → Prop} (hr : va_Run p l e R s m args below meth c H locs cells slots mc ms (F0 m pc ls st) rest (va_Qi Post (cE D (va_A w H.size)) (va_A w H.size) a) (va_A w H.size)) (hk : kn D cI cZ cF A s) (hW : wd D A s H locs w)
    (kk : ∀ (r : Int32) (u : va_W) (H1 : Heap) (locs1 : List Loc), Post r u → wd D A s H1 locs1 u → W p l e R s m args below meth c H1 locs1 (cells + mc) (slots + ms) Q (F0 m (pc + 3) ls (.int r :: rest))) : W p l e R s m args below meth c H locs cells slots Q (F0 m pc ls st) :=
  va_calli hr hW.2.2 (fun q _ h => wd_free hk hW q h) (wd_free hk hW) (fun r u t H1 locs1 ht hvm hp hB hz hk1 hS => kk r u H1 locs1 hp ⟨by rw [← ht]; exact hB.1, hB.2.weaken (fun _ q _ h => wd_free hk hW _ h), hS⟩)
theorem k_void {Post : va_W → Prop} (hr : va_Run p l e R s m args below meth c H locs cells slots mc ms (F0 m pc ls st) rest (va_Qv Post (cE D (va_A w H.size)) (va_A w H.size) a) (va_A w H.size)) (hk : kn D cI cZ cF A s) (hW : wd D A s H locs w)
    (kk : ∀ (u : va_W) (H1 : Heap) (locs1 : List Loc), Post u → wd D A s H1 locs1 u → W p l e R s m args below meth c H1 locs1 (cells + mc) (slots + ms) Q (F0 m (pc + 3) ls rest)) : W p l e R s m args below meth c H locs cells slots Q (F0 m pc ls st) :=
  va_callv hr hW.2.2 (fun q _ h => wd_free hk hW q h) (wd_free hk hW) (fun u t H1 locs1 ht hvm hp hB hz hk1 hS => kk u H1 locs1 hp ⟨by rw [← ht]; exact hB.1, hB.2.weaken (fun _ q _ h => wd_free hk hW _ h), hS⟩)
theorem k_ref {Post : Nat → va_W → Prop} (hr : va_Run p l e R s m args below meth c H locs cells slots mc ms (F0 m pc ls st) rest (va_Qr (fun _ : va_W => True) (fun u x t => Post x u ∧ cE D (va_A w H.size) u t) (va_A w H.size) a) (va_A w H.size)) (hk : kn D cI cZ cF A s) (hW : wd D A s H locs w)
    (kk : ∀ (x : Nat) (u : va_W) (H1 : Heap) (locs1 : List Loc), Post x u → wd D A s H1 locs1 u → W p l e R s m args below meth c H1 locs1 (cells + mc) (slots + ms) Q (F0 m (pc + 3) ls (.ref x :: rest))) : W p l e R s m args below meth c H locs cells slots Q (F0 m pc ls st) :=
  va_callr hr hW.2.2 (fun q _ h => wd_free hk hW q h) (wd_free hk hW) (fun u x t H1 locs1 ht hvm hp hB hz hk1 hS => kk x u H1 locs1 hB.1 ⟨by rw [← ht]; exact hB.2.1, hB.2.2.weaken (fun _ q _ h => wd_free hk hW _ h), hS⟩)
theorem k_pre {As : List Value} (hk : kn D cI cZ cF A s) (hW : wd D A s H locs w) : PreS s H (va_Pc As (cB D cI cZ cF H.size w)) As :=
  ⟨cB_blind, fun U hU hWm => ⟨rfl, by rw [hU], by rw [hU]; exact hW.1, va_K.moved hWm.alike hk.1, nw_warm hWm hk.2.1, hW.2.1.weaken (fun _ _ _ _ => trivial)⟩⟩
theorem k_preV {fs : List Value} {r : vw_C} {ci : Nat} (hk : kn D cI cZ cF A s) (hW : wd D A s H locs w) (q0 : Nat) (he : w[q0]? = some (b, .inr (ci, fs))) (hc : vwCl[ci]? = some r) (hC : r.1 = C) : PreV s H C b (va_Pc (.ref b :: As) (cB D cI cZ cF H.size w)) As :=
  ⟨cB_blind, by subst hC; exact va_recv hk.1 hW.1 hc he, (k_pre hk hW).2⟩
/-- a virtual call, an int comes back -/
theorem kVi {Post : Int32 → va_W → Prop} {ret : Option FieldType} {fs : List Value} {r : vw_C} {ci : Nat} (S : CallFix p m c cc nL s args Ts own) (hM : cI_ l D cI cZ cF y ws rm (.ref b :: As) w Post mc ms) (cw : CallW R s args own C index y bytes maxL ret ws rm mc ms n) (hk : kn D cI cZ cF A s) (hW : wd D A s H locs w) (q0 : Nat) (he : w[q0]? = some (b, .inr (ci, fs))) (hc : vwCl[ci]? = some r) (hC : r.1 = C) (hn : As.length = n) (hl : lv_has ls nL lv) (hst : st = As.reverse ++ .ref b :: rest) (hcat : (rest.map fun v => v.category).sum ≤ 8) (hdg : decode cc pc = .ok (.invokevirtual index, 3)) (hf : cells + mc ≤ R.cells ∧ slots + ms ≤ R.slots)
    (kk : ∀ (r : Int32) (u : va_W) (H1 : Heap) (locs1 : List Loc), Post r u → wd D A s H1 locs1 u → W p l e R s m args below meth c H1 locs1 (cells + mc) (slots + ms) Q (F0 m (pc + 3) ls (.int r :: rest))) : W p l e R s m args below meth c H locs cells slots Q (F0 m pc ls st) :=
  k_int (va_runV S (hM H.size) cw (k_preV hk hW q0 he hc hC) rfl hn hl.1 hst (lv_room hcat) hdg hf) hk hW kk
theorem kVv {Post : va_W → Prop} {ret : Option FieldType} {fs : List Value} {r : vw_C} {ci : Nat} (S : CallFix p m c cc nL s args Ts own) (hM : cV_ l D cI cZ cF y ws rm (.ref b :: As) w Post mc ms) (cw : CallW R s args own C index y bytes maxL ret ws rm mc ms n) (hk : kn D cI cZ cF A s) (hW : wd D A s H locs w) (q0 : Nat) (he : w[q0]? = some (b, .inr (ci, fs))) (hc : vwCl[ci]? = some r) (hC : r.1 = C) (hn : As.length = n) (hl : lv_has ls nL lv) (hst : st = As.reverse ++ .ref b :: rest) (hcat : (rest.map fun v => v.category).sum ≤ 8) (hdg : decode cc pc = .ok (.invokevirtual index, 3)) (hf : cells + mc ≤ R.cells ∧ slots + ms ≤ R.slots)
    (kk : ∀ (u : va_W) (H1 : Heap) (locs1 : List Loc), Post u → wd D A s H1 locs1 u → W p l e R s m args below meth c H1 locs1 (cells + mc) (slots + ms) Q (F0 m (pc + 3) ls rest)) : W p l e R s m args below meth c H locs cells slots Q (F0 m pc ls st) :=
  k_void (va_runV S (hM H.size) cw (k_preV hk hW q0 he hc hC) rfl hn hl.1 hst (lv_room hcat) hdg hf) hk hW kk
/-- a static call -/
theorem kSi {Post : Int32 → va_W → Prop} {ret : Option FieldType} (S : CallFix p m c cc nL s args Ts own) (hM : cI_ l D cI cZ cF y ws rm As w Post mc ms) (cw : CallB R s args own index y bytes maxL ret ws rm mc ms n ∧ (Cond.static y).before args s = true) (hk : kn D cI cZ cF A s) (hW : wd D A s H locs w) (hn : As.length = n) (hl : lv_has ls nL lv) (hst : st = As.reverse ++ rest) (hcat : (rest.map fun v => v.category).sum ≤ 8) (hdg : decode cc pc = .ok (.invokestatic index, 3)) (hf : cells + mc ≤ R.cells ∧ slots + ms ≤ R.slots)
    (kk : ∀ (r : Int32) (u : va_W) (H1 : Heap) (locs1 : List Loc), Post r u → wd D A s H1 locs1 u → W p l e R s m args below meth c H1 locs1 (cells + mc) (slots + ms) Q (F0 m (pc + 3) ls (.int r :: rest))) : W p l e R s m args below meth c H locs cells slots Q (F0 m pc ls st) :=
  k_int (va_runS S (hM H.size) cw (k_pre hk hW) rfl hn hl.1 hst (lv_room hcat) hdg hf) hk hW kk
theorem kSv {Post : va_W → Prop} {ret : Option FieldType} (S : CallFix p m c cc nL s args Ts own) (hM : cV_ l D cI cZ cF y ws rm As w Post mc ms) (cw : CallB R s args own index y bytes maxL ret ws rm mc ms n ∧ (Cond.static y).before args s = true) (hk : kn D cI cZ cF A s) (hW : wd D A s H locs w) (hn : As.length = n) (hl : lv_has ls nL lv) (hst : st = As.reverse ++ rest) (hcat : (rest.map fun v => v.category).sum ≤ 8) (hdg : decode cc pc = .ok (.invokestatic index, 3)) (hf : cells + mc ≤ R.cells ∧ slots + ms ≤ R.slots)
    (kk : ∀ (u : va_W) (H1 : Heap) (locs1 : List Loc), Post u → wd D A s H1 locs1 u → W p l e R s m args below meth c H1 locs1 (cells + mc) (slots + ms) Q (F0 m (pc + 3) ls rest)) : W p l e R s m args below meth c H locs cells slots Q (F0 m pc ls st) :=
  k_void (va_runS S (hM H.size) cw (k_pre hk hW) rfl hn hl.1 hst (lv_room hcat) hdg hf) hk hW kk
theorem kSr {Post : Nat → va_W → Prop} {ret : Option FieldType} (S : CallFix p m c cc nL s args Ts own) (hM : cR_ l D cI cZ cF y ws rm As w Post mc ms) (cw : CallB R s args own index y bytes maxL ret ws rm mc ms n ∧ (Cond.static y).before args s = true) (hk : kn D cI cZ cF A s) (hW : wd D A s H locs w) (hn : As.length = n) (hl : lv_has ls nL lv) (hst : st = As.reverse ++ rest) (hcat : (rest.map fun v => v.category).sum ≤ 8) (hdg : decode cc pc = .ok (.invokestatic index, 3)) (hf : cells + mc ≤ R.cells ∧ slots + ms ≤ R.slots)
    (kk : ∀ (x : Nat) (u : va_W) (H1 : Heap) (locs1 : List Loc), Post x u → wd D A s H1 locs1 u → W p l e R s m args below meth c H1 locs1 (cells + mc) (slots + ms) Q (F0 m (pc + 3) ls (.ref x :: rest))) : W p l e R s m args below meth c H locs cells slots Q (F0 m pc ls st) :=
  k_ref (va_runS S (hM H.size) cw (k_pre hk hW) rfl hn hl.1 hst (lv_room hcat) hdg hf) hk hW kk
/-- a static call of a nest mate's private method -/
theorem kNi {Post : Int32 → va_W → Prop} {ret : Option FieldType} (S : CallFix p m c cc nL s args Ts own) (hM : cI_ l D cI cZ cF y ws rm As w Post mc ms) (cw : va_CN R s args own index y host bytes maxL ret ws rm mc ms n ∧ (Cond.static y).before args s = true ∧ True) (hk : kn D cI cZ cF A s) (hW : wd D A s H locs w) (hn : As.length = n) (hl : lv_has ls nL lv) (hst : st = As.reverse ++ rest) (hcat : (rest.map fun v => v.category).sum ≤ 8) (hdg : decode cc pc = .ok (.invokestatic index, 3)) (hf : cells + mc ≤ R.cells ∧ slots + ms ≤ R.slots)
    (kk : ∀ (r : Int32) (u : va_W) (H1 : Heap) (locs1 : List Loc), Post r u → wd D A s H1 locs1 u → W p l e R s m args below meth c H1 locs1 (cells + mc) (slots + ms) Q (F0 m (pc + 3) ls (.int r :: rest))) : W p l e R s m args below meth c H locs cells slots Q (F0 m pc ls st) :=
  k_int (va_runSN S (hM H.size) cw (k_pre hk hW) rfl hn hl.1 hst (lv_room hcat) hdg hf) hk hW kk
/-- reads of fields -/
theorem gf {T : u_T} {N ci : Nat} {fs : List Value} (S : CallFix p m c cc nL s args Ts own) (hk : kn D cI cZ cF A s) (hW : wd D A s H locs w) (q0 : Nat) (he : w[q0]? = some (b, .inr (ci, fs))) (hc : vwCl[ci]? = some (C, T, N)) (hin : ∀ x ∈ u_ws C T N, x ∈ Ts) (k : Nat) (hkN : k < N) (i : Nat) (hlink : Ts[i]? = some (.fieldLink own index (T k).1 (T k).2.1 (T k).2.2.1)) {v : Value} (hv : fs[k]? = some v) (hdg : decode cc pc = .ok (.getfield index, 3))
    (kk : W p l e R s m args below meth c H locs cells slots Q (F0 m (pc + 3) ls (v :: rest))) : W p l e R s m args below meth c H locs cells slots Q (F0 m pc ls (.ref b :: rest)) :=
  va_get S.1 S.2.1 S.2.2.2.2 hin S.2.2.2.1 hk.1 hW.1 q0 he hc k hkN (S.2.2.2.2 _ (List.mem_of_getElem? hlink)) (fun _ h => h) hv hdg kk
theorem gfN {T : u_T} {N ci : Nat} {fs : List Value} (S : CallFix p m c cc nL s args Ts own) (hk : kn D cI cZ cF A s) (hW : wd D A s H locs w) (q0 : Nat) (he : w[q0]? = some (b, .inr (ci, fs))) (hc : vwCl[ci]? = some (C, T, N)) (hin : ∀ x ∈ u_ws C T N, x ∈ Ts) (k : Nat) (hkN : k < N) (i : Nat) (hlink : nwl[i]? = some (.fieldLinkNest own index (T k).1 (T k).2.1 (T k).2.2.1 host)) {v : Value} (hv : fs[k]? = some v) (hdg : decode cc pc = .ok (.getfield index, 3))
    (kk : W p l e R s m args below meth c H locs cells slots Q (F0 m (pc + 3) ls (v :: rest))) : W p l e R s m args below meth c H locs cells slots Q (F0 m pc ls (.ref b :: rest)) :=
  va_getN S.1 S.2.1 S.2.2.2.2 hin S.2.2.2.1 hk.1 hW.1 q0 he hc k hkN (va_Nw.use rfl (hk.2.1.1 _ (List.mem_of_getElem? hlink))) (fun _ h => h) hv hdg kk
/-- a write of a field -/
theorem pf {T : u_T} {N ci : Nat} {fs : List Value} (S : CallFix p m c cc nL s args Ts own) (hk : kn D cI cZ cF A s) (hW : wd D A s H locs w) (q0 : Nat) (he : w[q0]? = some (b, .inr (ci, fs))) (hc : vwCl[ci]? = some (C, T, N)) (hin : ∀ x ∈ u_ws C T N, x ∈ Ts) (ty0 : Nat → FieldType) (hty : ∀ k, k < N → parseFieldDescriptor (T k).2.2.1 = some (ty0 k)) (hnm : ∀ a, a < N → ∀ b, b < N → a ≠ b → (T a).2.1 ≠ (T b).2.1) (k : Nat) (hkN : k < N) (i : Nat) (hlink : Ts[i]? = some (.fieldLink own index (T k).1 (T k).2.1 (T k).2.2.1)) (hfin : (T k).2.2.2 = false) {ty : FieldType} {v : Value} (hd : parseFieldDescriptor (T k).2.2.1 = some ty) (hn : narrow ty v = v) (hfit : fits ty v = true) (hlk : k < fs.length) (hdg : decode cc pc = .ok (.putfield index, 3)) {w' : va_W} (hw' : w.set q0 (b, .inr (ci, fs.set k v)) = w')
    (kk : ∀ (H1 : Heap) (locs1 : List Loc), wd D A s H1 locs1 w' → W p l e R s m args below meth c H1 locs1 cells slots Q (F0 m (pc + 3) ls rest)) : W p l e R s m args below meth c H locs cells slots Q (F0 m pc ls (v :: .ref b :: rest)) := by
  subst hw'
  exact va_put S.1 S.2.1 S.2.2.2.2 hin ty0 hty hnm S.2.2.2.1 hk.1 hW.1 hW.2.1 hW.2.2 q0 he hc k hkN (S.2.2.2.2 _ (List.mem_of_getElem? hlink)) (fun _ h => h) hfin hd hn hfit hlk hdg (fun H1 locs1 h1 h2 h3 => kk H1 locs1 ⟨h1, h2, h3⟩)
/-- int and boolean rows, at a place that is a number -/
theorem ild {f : Nat → Int32} (S : CallFix p m c cc nL s args Ts own) (hk : kn D cI cZ cF A s) (hW : wd D A s H locs w) (q0 : Nat) (ha : w[q0]? = some (b, .inl (cI, n, .inl f))) {i : Int32} (j : Nat) (hi : i = nI j) (hj : j < n) (hn : n < 65536) (hdg : decode cc pc = .ok (.iaload, 1))
    (kk : W p l e R s m args below meth c H locs cells slots Q (F0 m (pc + 1) ls (.int (f j) :: rest))) : W p l e R s m args below meth c H locs cells slots Q (F0 m pc ls (.int i :: .ref b :: rest)) := by
  subst hi
  exact va_iald S.1 S.2.1 hk.1 hW.1 q0 0 ha rfl (vp_in_nI hj (by omega)) hdg (by rw [nI_clamp (by omega)]; exact kk)
theorem zld {f : Nat → Int32} (S : CallFix p m c cc nL s args Ts own) (hk : kn D cI cZ cF A s) (hW : wd D A s H locs w) (q0 : Nat) (ha : w[q0]? = some (b, .inl (cZ, n, .inl f))) {i : Int32} (j : Nat) (hi : i = nI j) (hj : j < n) (hn : n < 65536) (hdg : decode cc pc = .ok (.baload, 1))
    (kk : W p l e R s m args below meth c H locs cells slots Q (F0 m (pc + 1) ls (.int (f j) :: rest))) : W p l e R s m args below meth c H locs cells slots Q (F0 m pc ls (.int i :: .ref b :: rest)) := by
  subst hi
  exact va_zald S.1 S.2.1 hk.1 hW.1 q0 1 ha rfl (vp_in_nI hj (by omega)) hdg (by rw [nI_clamp (by omega)]; exact kk)
theorem ist {f : Nat → Int32} (S : CallFix p m c cc nL s args Ts own) (hk : kn D cI cZ cF A s) (hW : wd D A s H locs w) (q0 : Nat) (ha : w[q0]? = some (b, .inl (cI, n, .inl f))) {i x : Int32} (j : Nat) (hi : i = nI j) (hj : j < n) (hn : n < 65536) (hdg : decode cc pc = .ok (.iastore, 1)) {w' : va_W} (hw' : w.set q0 (b, .inl (cI, n, .inl (upd f j x))) = w')
    (kk : ∀ (H1 : Heap) (locs1 : List Loc), wd D A s H1 locs1 w' → W p l e R s m args below meth c H1 locs1 cells slots Q (F0 m (pc + 1) ls rest)) : W p l e R s m args below meth c H locs cells slots Q (F0 m pc ls (.int x :: .int i :: .ref b :: rest)) := by
  subst hi; subst hw'
  refine va_iast S.1 S.2.1 hk.1 hW.1 hW.2.1 hW.2.2 q0 0 ha rfl (vp_in_nI hj (by omega)) hdg (fun H1 locs1 h1 h2 h3 => ?_)
  rw [nI_clamp (by omega)] at h1 h2
  exact kk H1 locs1 ⟨h1, h2, h3⟩
theorem zst {f : Nat → Int32} (S : CallFix p m c cc nL s args Ts own) (hk : kn D cI cZ cF A s) (hW : wd D A s H locs w) (q0 : Nat) (ha : w[q0]? = some (b, .inl (cZ, n, .inl f))) {i x : Int32} (j : Nat) (hi : i = nI j) (hj : j < n) (hn : n < 65536) (hx : x = nI 0 ∨ x = nI 1) (hdg : decode cc pc = .ok (.bastore, 1)) {w' : va_W} (hw' : w.set q0 (b, .inl (cZ, n, .inl (upd f j x))) = w')
    (kk : ∀ (H1 : Heap) (locs1 : List Loc), wd D A s H1 locs1 w' → W p l e R s m args below meth c H1 locs1 cells slots Q (F0 m (pc + 1) ls rest)) : W p l e R s m args below meth c H locs cells slots Q (F0 m pc ls (.int x :: .int i :: .ref b :: rest)) := by
  subst hi; subst hw'
  have hx2 : vp_nar .boolean x = x := by rcases hx with rfl | rfl <;> rfl
  refine va_zast S.1 S.2.1 hk.1 hW.1 hW.2.1 hW.2.2 q0 1 ha rfl (vp_in_nI hj (by omega)) hdg (fun H1 locs1 h1 h2 h3 => ?_)
  rw [nI_clamp (by omega), hx2] at h1 h2
  exact kk H1 locs1 ⟨h1, h2, h3⟩
theorem alen {x : vp_A} (S : CallFix p m c cc nL s args Ts own) (hk : kn D cI cZ cF A s) (hW : wd D A s H locs w) (q0 : Nat) (ha : w[q0]? = some (b, .inl (cI, x))) (hdg : decode cc pc = .ok (.arraylength, 1))
    (kk : W p l e R s m args below meth c H locs cells slots Q (F0 m (pc + 1) ls (.int (nI x.1) :: rest))) : W p l e R s m args below meth c H locs cells slots Q (F0 m pc ls (.ref b :: rest)) :=
  va_alen S.1 S.2.1 hk.1 hW.1 q0 0 ha rfl rfl hdg kk
theorem pfN {T : u_T} {N ci : Nat} {fs : List Value} (S : CallFix p m c cc nL s args Ts own) (hk : kn D cI cZ cF A s) (hW : wd D A s H locs w) (q0 : Nat) (he : w[q0]? = some (b, .inr (ci, fs))) (hc : vwCl[ci]? = some (C, T, N)) (hin : ∀ x ∈ u_ws C T N, x ∈ Ts) (ty0 : Nat → FieldType) (hty : ∀ k, k < N → parseFieldDescriptor (T k).2.2.1 = some (ty0 k)) (hnm : ∀ a, a < N → ∀ b, b < N → a ≠ b → (T a).2.1 ≠ (T b).2.1) (k : Nat) (hkN : k < N) (i : Nat) (hlink : nwl[i]? = some (.fieldLinkNest own index (T k).1 (T k).2.1 (T k).2.2.1 host)) (hfin : (T k).2.2.2 = false) {ty : FieldType} {v : Value} (hd : parseFieldDescriptor (T k).2.2.1 = some ty) (hn : narrow ty v = v) (hfit : fits ty v = true) (hlk : k < fs.length) (hdg : decode cc pc = .ok (.putfield index, 3)) {w' : va_W} (hw' : w.set q0 (b, .inr (ci, fs.set k v)) = w')
    (kk : ∀ (H1 : Heap) (locs1 : List Loc), wd D A s H1 locs1 w' → W p l e R s m args below meth c H1 locs1 cells slots Q (F0 m (pc + 3) ls rest)) : W p l e R s m args below meth c H locs cells slots Q (F0 m pc ls (v :: .ref b :: rest)) := by
  subst hw'
  exact va_putN S.1 S.2.1 S.2.2.2.2 hin ty0 hty hnm S.2.2.2.1 hk.1 hW.1 hW.2.1 hW.2.2 q0 he hc k hkN (va_Nw.use rfl (hk.2.1.1 _ (List.mem_of_getElem? hlink))) (fun _ h => h) hfin hd hn hfit hlk hdg (fun H1 locs1 h1 h2 h3 => kk H1 locs1 ⟨h1, h2, h3⟩)
theorem top_eq {x y : Int32} (h : x = y) (k : W p l e R s m args below meth c H locs cells slots Q (F0 m pc ls (.int y :: rest))) : W p l e R s m args below meth c H locs cells slots Q (F0 m pc ls (.int x :: rest)) := by
  subst h
  exact k
/-- System.arraycopy of ints -/
theorem acpy {f g : Nat → Int32} {n0 n1 a0 : Nat} (S : CallFix p m c cc nL s args Ts own) (hk : kn D cI cZ cF A s) (hW : wd D A s H locs w) (hml : c.maxLocals = ls.size) (i1 i2 i3 i4 q0 q1 : Nat) (h1 : Ts[i1]? = some (.methodLink own index arraycopyName)) (h2 : Ts[i2]? = some (.native arraycopyName)) (h3 : Ts[i3]? = some (.static arraycopyName)) (h4 : Ts[i4]? = some (.initialized "java/lang/System")) (ha0 : w[q0]? = some (a0, .inl (cI, n0, .inl f))) (ha1 : w[q1]? = some (b, .inl (cI, n1, .inl g))) {sp dp nn : Nat} (hb1 : sp + nn ≤ n0) (hb2 : dp + nn ≤ n1) (hs1 : sp < 2 ^ 31) (hs2 : dp < 2 ^ 31) (hs3 : nn < 2 ^ 31) (hfr : 1 ≤ R.frames) (hlo : (rest.map fun v => v.category).sum + (nativeFrameWords "java/lang/System" "arraycopy" 5 + 11) ≤ R.locals) (hdg : decode cc pc = .ok (.invokestatic index, 3)) {w' : va_W} (hw' : w.set q1 (b, .inl (cI, n1, .inl (va_cpy f g sp dp nn))) = w')
    (kk : ∀ (H1 : Heap) (locs1 : List Loc), wd D A s H1 locs1 w' → W p l e R s m args below meth c H1 locs1 cells slots Q (F0 m (pc + 3) ls rest)) : W p l e R s m args below meth c H locs cells slots Q (F0 m pc ls (.int (nI nn) :: .int (nI dp) :: .ref b :: .int (nI sp) :: .ref a0 :: rest)) := by
  subst hw'
  refine va_copyi S.1 S.2.1 hml S.2.2.2.1 (S.2.2.2.2 _ (List.mem_of_getElem? h1)) (S.2.2.2.2 _ (List.mem_of_getElem? h2)) (S.2.2.2.2 _ (List.mem_of_getElem? h3)) (S.2.2.2.2 _ (List.mem_of_getElem? h4)) hk.1 hW.1 hW.2.1 hW.2.2 q0 q1 0 0 ha0 ha1 rfl rfl rfl (nI_pos hs1) (nI_pos hs2) (nI_pos hs3) (by rw [nI_clamp hs1, nI_clamp hs3]; exact hb1) (by rw [nI_clamp hs2, nI_clamp hs3]; exact hb2) (fun _ _ => rfl) hfr hlo hdg (fun H1 locs1 g1 g2 g3 => ?_)
  rw [nI_clamp hs1, nI_clamp hs2, nI_clamp hs3] at g1 g2
  exact kk H1 locs1 ⟨g1, g2, g3⟩
end MYC
/-- a boolean as it comes back -/
def bI (b : Bool) : Int32 := cond b (nI 1) (nI 0)
theorem bI_nar (b : Bool) : narrow .boolean (.int (bI b)) = .int (bI b) := by cases b <;> rfl
theorem bI_01 (b : Bool) : bI b = nI 0 ∨ bI b = nI 1 := by cases b <;> simp [bI]
theorem bI_0 (b : Bool) : bI b = 0 ↔ b = false := by cases b <;> decide
theorem bI_n0 (b : Bool) : ¬ bI b = 0 ↔ b = true := by cases b <;> decide
section MYB
variable {p : Program} {l : Launch} {e : Env} {R : Room} {s : State} {m : MethodId} {args : Array Value} {below : List Frame} {meth : Method} {c : Code} {H : Heap} {locs : List Loc} {cells slots : Nat} {Q : State → Prop}
variable {pc nL : Nat} {ls : Array Slot} {rest : List Value} {cc : ByteArray} {Ts : List Cond} {own : String}
theorem ifeq_b {b : Bool} {off : Int} {tgt : Nat} (S : CallFix p m c cc nL s args Ts own) (hdg : decode cc pc = .ok (.ifCond .eq off, 3)) (ht : (pc : Int) + off = (tgt : Int))
    (kt : b = false → W p l e R s m args below meth c H locs cells slots Q (F0 m tgt ls rest)) (kf : b = true → W p l e R s m args below meth c H locs cells slots Q (F0 m (pc + 3) ls rest)) : W p l e R s m args below meth c H locs cells slots Q (F0 m pc ls (.int (bI b) :: rest)) :=
  lv_if_eq S.1 S.2.1 hdg ht (fun h => kt ((bI_0 b).mp h)) (fun h => kf ((bI_n0 b).mp h))
theorem ifne_b {b : Bool} {off : Int} {tgt : Nat} (S : CallFix p m c cc nL s args Ts own) (hdg : decode cc pc = .ok (.ifCond .ne off, 3)) (ht : (pc : Int) + off = (tgt : Int))
    (kt : b = true → W p l e R s m args below meth c H locs cells slots Q (F0 m tgt ls rest)) (kf : b = false → W p l e R s m args below meth c H locs cells slots Q (F0 m (pc + 3) ls rest)) : W p l e R s m args below meth c H locs cells slots Q (F0 m pc ls (.int (bI b) :: rest)) :=
  lv_if_ne S.1 S.2.1 hdg ht (fun h => kt ((bI_n0 b).mp h)) (fun h => kf ((bI_0 b).mp h))
theorem icge_n {x y : Nat} {off : Int} {tgt : Nat} (S : CallFix p m c cc nL s args Ts own) (hx : x < 2 ^ 31) (hy : y < 2 ^ 31) (hdg : decode cc pc = .ok (.if_icmp .ge off, 3)) (ht : (pc : Int) + off = (tgt : Int))
    (kt : y ≤ x → W p l e R s m args below meth c H locs cells slots Q (F0 m tgt ls rest)) (kf : ¬ y ≤ x → W p l e R s m args below meth c H locs cells slots Q (F0 m (pc + 3) ls rest)) : W p l e R s m args below meth c H locs cells slots Q (F0 m pc ls (.int (nI y) :: .int (nI x) :: rest)) :=
  lv_icmp_ge S.1 S.2.1 hdg ht (fun h => kt ((nI_leI hy hx).mp h)) (fun h => kf (fun q => h ((nI_leI hy hx).mpr q)))
theorem icgt_n {x y : Nat} {off : Int} {tgt : Nat} (S : CallFix p m c cc nL s args Ts own) (hx : x < 2 ^ 31) (hy : y < 2 ^ 31) (hdg : decode cc pc = .ok (.if_icmp .gt off, 3)) (ht : (pc : Int) + off = (tgt : Int))
    (kt : y < x → W p l e R s m args below meth c H locs cells slots Q (F0 m tgt ls rest)) (kf : ¬ y < x → W p l e R s m args below meth c H locs cells slots Q (F0 m (pc + 3) ls rest)) : W p l e R s m args below meth c H locs cells slots Q (F0 m pc ls (.int (nI y) :: .int (nI x) :: rest)) :=
  lv_icmp_gt S.1 S.2.1 hdg ht (fun h => kt ((nI_ltI hy hx).mp h)) (fun h => kf (fun q => h ((nI_ltI hy hx).mpr q)))
theorem icle_n {x y : Nat} {off : Int} {tgt : Nat} (S : CallFix p m c cc nL s args Ts own) (hx : x < 2 ^ 31) (hy : y < 2 ^ 31) (hdg : decode cc pc = .ok (.if_icmp .le off, 3)) (ht : (pc : Int) + off = (tgt : Int))
    (kt : x ≤ y → W p l e R s m args below meth c H locs cells slots Q (F0 m tgt ls rest)) (kf : ¬ x ≤ y → W p l e R s m args below meth c H locs cells slots Q (F0 m (pc + 3) ls rest)) : W p l e R s m args below meth c H locs cells slots Q (F0 m pc ls (.int (nI y) :: .int (nI x) :: rest)) :=
  lv_icmp_le S.1 S.2.1 hdg ht (fun h => kt ((nI_leI hx hy).mp h)) (fun h => kf (fun q => h ((nI_leI hx hy).mpr q)))
theorem iclt_n {x y : Nat} {off : Int} {tgt : Nat} (S : CallFix p m c cc nL s args Ts own) (hx : x < 2 ^ 31) (hy : y < 2 ^ 31) (hdg : decode cc pc = .ok (.if_icmp .lt off, 3)) (ht : (pc : Int) + off = (tgt : Int))
    (kt : x < y → W p l e R s m args below meth c H locs cells slots Q (F0 m tgt ls rest)) (kf : ¬ x < y → W p l e R s m args below meth c H locs cells slots Q (F0 m (pc + 3) ls rest)) : W p l e R s m args below meth c H locs cells slots Q (F0 m pc ls (.int (nI y) :: .int (nI x) :: rest)) :=
  lv_icmp_lt S.1 S.2.1 hdg ht (fun h => kt ((nI_ltI hx hy).mp h)) (fun h => kf (fun q => h ((nI_ltI hx hy).mpr q)))
theorem iceq_n {x y : Nat} {off : Int} {tgt : Nat} (S : CallFix p m c cc nL s args Ts own) (hx : x < 2 ^ 31) (hy : y < 2 ^ 31) (hdg : decode cc pc = .ok (.if_icmp .eq off, 3)) (ht : (pc : Int) + off = (tgt : Int))
    (kt : x = y → W p l e R s m args below meth c H locs cells slots Q (F0 m tgt ls rest)) (kf : x ≠ y → W p l e R s m args below meth c H locs cells slots Q (F0 m (pc + 3) ls rest)) : W p l e R s m args below meth c H locs cells slots Q (F0 m pc ls (.int (nI y) :: .int (nI x) :: rest)) :=
  lv_icmp_eq S.1 S.2.1 hdg ht (fun h => kt ((nI_eq hx hy).mp h)) (fun h => kf (fun q => h ((nI_eq hx hy).mpr q)))
theorem icne_n {x y : Nat} {off : Int} {tgt : Nat} (S : CallFix p m c cc nL s args Ts own) (hx : x < 2 ^ 31) (hy : y < 2 ^ 31) (hdg : decode cc pc = .ok (.if_icmp .ne off, 3)) (ht : (pc : Int) + off = (tgt : Int))
    (kt : x ≠ y → W p l e R s m args below meth c H locs cells slots Q (F0 m tgt ls rest)) (kf : x = y → W p l e R s m args below meth c H locs cells slots Q (F0 m (pc + 3) ls rest)) : W p l e R s m args below meth c H locs cells slots Q (F0 m pc ls (.int (nI y) :: .int (nI x) :: rest)) :=
  lv_icmp_ne S.1 S.2.1 hdg ht (fun h => kt (fun q => h ((nI_eq hx hy).mpr q))) (fun h => kf ((nI_eq hx hy).mp h))
end MYB
