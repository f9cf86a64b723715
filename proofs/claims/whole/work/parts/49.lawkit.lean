/-! ===== calls of a part of a world ===== -/
section MYL
variable {p : Program} {l : Launch} {e : Env} {R : Room} {s : State} {m : MethodId} {args : Array Value} {below : List Frame} {meth : Method} {c : Code} {H : Heap} {locs : List Loc} {cells slots : Nat} {Q : State → Prop}
variable {pc nL mc ms n index maxL : Nat} {ls : Array Slot} {rest st As : List Value} {cc bytes : ByteArray} {Ts ws : List Cond} {own C : String} {y : MethodName} {rm : Room} {D : va_G} {cI cZ cF : ClassId} {A : Nat → Prop} {w w1 w2 : va_W} {b : Nat} {lv : List (Nat × Value)} {a : Array Value}
theorem wd_left (h : wd D A s H locs (w1 ++ w2)) : wd D A s H locs w1 := by
  obtain ⟨hP, hD, hS⟩ := h
  have key : ∀ (k : Nat) (q : Nat × va_E), w1[k]? = some q → (w1 ++ w2)[k]? = some q := fun k q hk => by
    rw [List.getElem?_append_left (List.getElem?_eq_some_iff.mp hk).1]; exact hk
  exact ⟨fun k q hk => hP k q (key k q hk), ⟨fun i j x y hi hj e => hD.1 i j x y (key i x hi) (key j y hj) e, fun k q hk => hD.2 k q (key k q hk)⟩, hS⟩
theorem wd_right (h : wd D A s H locs (w1 ++ w2)) : wd D A s H locs w2 := by
  obtain ⟨hP, hD, hS⟩ := h
  have key : ∀ (k : Nat) (q : Nat × va_E), w2[k]? = some q → (w1 ++ w2)[w1.length + k]? = some q := fun k q hk => by
    rw [List.getElem?_append_right (Nat.le_add_right _ _), Nat.add_sub_cancel_left]; exact hk
  exact ⟨fun k q hk => hP _ q (key k q hk), ⟨fun i j x y hi hj e => by have := hD.1 _ _ x y (key i x hi) (key j y hj) e; omega, fun k q hk => hD.2 _ q (key k q hk)⟩, hS⟩
theorem wd_swap (h : wd D A s H locs (w1 ++ w2)) : wd D A s H locs (w2 ++ w1) := by
  have h1 := wd_left h
  have h2 := wd_right h
  refine ⟨va_P.app h2.1 h1.1, va_D.app h2.2.1 h1.2.1 (fun i j x y hi hj e => ?_), h.2.2⟩
  have l1 := (List.getElem?_eq_some_iff.mp hj).1
  have := h.2.1.1 j (w1.length + i) y x (by rw [List.getElem?_append_left l1]; exact hj) (by rw [List.getElem?_append_right (Nat.le_add_right _ _), Nat.add_sub_cancel_left]; exact hi) e.symm
  omega
/-- what a call does to the part that it doesn't see -/
theorem fr_keep {H1 : Heap} {locs1 : List Loc} {u : va_W} (hk : kn D cI cZ cF A s) (hW : wd D A s H locs (w1 ++ w2)) (hk1 : ∀ q : Nat, q < H.size → ¬ va_A w1 H.size q → H1[q]? = H[q]?) (hPu : va_P D vwCl u H1) (hDu : va_D (va_A w1 H.size) u) (hS : va_S A s.heap H1 locs1) : wd D A s H1 locs1 (u ++ w2) := by
  have h1 := wd_left hW
  have h2 := wd_right hW
  have apart : ∀ (k : Nat) (q : Nat × va_E), w2[k]? = some q → q.1 < H.size ∧ ¬ va_A w1 H.size q.1 := by
    intro k q hq
    have hl := (h2.1 k q hq).lt
    refine ⟨hl, fun h => ?_⟩
    rcases h with ⟨j, e, h⟩ | h
    · have l1 := (List.getElem?_eq_some_iff.mp h).1
      have := hW.2.1.1 j (w1.length + k) (q.1, e) q (by rw [List.getElem?_append_left l1]; exact h) (by rw [List.getElem?_append_right (Nat.le_add_right _ _), Nat.add_sub_cancel_left]; exact hq) rfl
      omega
    · omega
  refine ⟨va_P.app hPu (fun k q hq => (h2.1 k q hq).kept (hk1 q.1 (apart k q hq).1 (apart k q hq).2)), va_D.app (hDu.weaken (fun _ q _ h => wd_free hk h1 _ h)) h2.2.1 (fun i j x y hx hy e => ?_), hS⟩
  exact (apart j y hy).2 (by rw [← e]; exact hDu.2 i x hx)
theorem kLi {Post : Int32 → va_W → Prop} {ret : Option FieldType} {fs : List Value} {r : vw_C} {ci : Nat} (S : CallFix p m c cc nL s args Ts own) (hM : cI_ l D cI cZ cF y ws rm (.ref b :: As) w1 Post mc ms) (cw : CallW R s args own C index y bytes maxL ret ws rm mc ms n) (hk : kn D cI cZ cF A s) (hW : wd D A s H locs (w1 ++ w2)) (q0 : Nat) (he : w1[q0]? = some (b, .inr (ci, fs))) (hc : vwCl[ci]? = some r) (hC : r.1 = C) (hn : As.length = n) (hl : lv_has ls nL lv) (hst : st = As.reverse ++ .ref b :: rest) (hcat : (rest.map fun v => v.category).sum ≤ 8) (hdg : decode cc pc = .ok (.invokevirtual index, 3)) (hf : cells + mc ≤ R.cells ∧ slots + ms ≤ R.slots)
    (kk : ∀ (r : Int32) (u : va_W) (H1 : Heap) (locs1 : List Loc), Post r u → wd D A s H1 locs1 (u ++ w2) → W p l e R s m args below meth c H1 locs1 (cells + mc) (slots + ms) Q (F0 m (pc + 3) ls (.int r :: rest))) : W p l e R s m args below meth c H locs cells slots Q (F0 m pc ls st) := by
  have h1 := wd_left hW
  refine va_calli (va_runV S (hM H.size) cw (k_preV hk h1 q0 he hc hC) rfl hn hl.1 hst (lv_room hcat) hdg hf) hW.2.2 (fun q _ h => wd_free hk h1 q h) (wd_free hk h1) (fun r u t H1 locs1 ht hvm hp hB hz hk1 hS => kk r u H1 locs1 hp (fr_keep hk hW hk1 (by rw [← ht]; exact hB.1) hB.2 hS))
theorem kRi {Post : Int32 → va_W → Prop} {ret : Option FieldType} {fs : List Value} {r : vw_C} {ci : Nat} (S : CallFix p m c cc nL s args Ts own) (hM : cI_ l D cI cZ cF y ws rm (.ref b :: As) w2 Post mc ms) (cw : CallW R s args own C index y bytes maxL ret ws rm mc ms n) (hk : kn D cI cZ cF A s) (hW : wd D A s H locs (w1 ++ w2)) (q0 : Nat) (he : w2[q0]? = some (b, .inr (ci, fs))) (hc : vwCl[ci]? = some r) (hC : r.1 = C) (hn : As.length = n) (hl : lv_has ls nL lv) (hst : st = As.reverse ++ .ref b :: rest) (hcat : (rest.map fun v => v.category).sum ≤ 8) (hdg : decode cc pc = .ok (.invokevirtual index, 3)) (hf : cells + mc ≤ R.cells ∧ slots + ms ≤ R.slots)
    (kk : ∀ (r : Int32) (u : va_W) (H1 : Heap) (locs1 : List Loc), Post r u → wd D A s H1 locs1 (w1 ++ u) → W p l e R s m args below meth c H1 locs1 (cells + mc) (slots + ms) Q (F0 m (pc + 3) ls (.int r :: rest))) : W p l e R s m args below meth c H locs cells slots Q (F0 m pc ls st) :=
  kLi S hM cw hk (wd_swap hW) q0 he hc hC hn hl hst hcat hdg hf (fun r u H1 locs1 hp h => kk r u H1 locs1 hp (wd_swap h))
/-- a constructor's call -/
theorem kLI {Post : va_W → Prop} (S : CallFix p m c cc nL s args Ts own) (hM : cV_ l D cI cZ cF y ws rm (.ref b :: As) w1 Post mc ms) (cw : CallB R s args own index y bytes maxL none ws rm mc ms n ∧ y.name = "<init>" ∧ (Cond.instanceMethod y).before args s = true) (hk : kn D cI cZ cF A s) (hW : wd D A s H locs (w1 ++ w2)) (hn : As.length = n) (hl : lv_has ls nL lv) (hst : st = As.reverse ++ .ref b :: rest) (hcat : (rest.map fun v => v.category).sum ≤ 8) (hdg : decode cc pc = .ok (.invokespecial index, 3)) (hf : cells + mc ≤ R.cells ∧ slots + ms ≤ R.slots)
    (kk : ∀ (u : va_W) (H1 : Heap) (locs1 : List Loc), Post u → wd D A s H1 locs1 (u ++ w2) → W p l e R s m args below meth c H1 locs1 (cells + mc) (slots + ms) Q (F0 m (pc + 3) ls rest)) : W p l e R s m args below meth c H locs cells slots Q (F0 m pc ls st) := by
  have h1 := wd_left hW
  refine va_callv (va_runI S (hM H.size) cw (k_pre hk h1) rfl hn hl.1 hst (lv_room hcat) hdg hf) hW.2.2 (fun q _ h => wd_free hk h1 q h) (wd_free hk h1) (fun u t H1 locs1 ht hvm hp hB hz hk1 hS => kk u H1 locs1 hp (fr_keep hk hW hk1 (by rw [← ht]; exact hB.1) hB.2 hS))
/-- the script, at a place that is a number -/
theorem sldN {L i j : Nat} {xs : Nat → Int32} (S : CallFix p m c cc nL s args Ts own) (hX : va_X b L xs s s.heap) (hbl : b < s.heap.size) (hbA : ¬ A b) (hW : wd D A s H locs w) (hi : i = j) (hj : j < L) (hL : L < 2 ^ 31) (hdg : decode cc pc = .ok (.iaload, 1))
    (kk : W p l e R s m args below meth c H locs cells slots Q (F0 m (pc + 1) ls (.int (xs j) :: rest))) : W p l e R s m args below meth c H locs cells slots Q (F0 m pc ls (.int (nI i) :: .ref b :: rest)) := by
  subst hi
  refine va_sld S.1 S.2.1 hX hbl hbA hW.2.2 (vp_in_nI hj hL) hdg ?_
  rw [nI_clamp (by omega)]
  exact kk
end MYL
