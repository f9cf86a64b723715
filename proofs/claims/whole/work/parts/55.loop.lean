theorem sw24 (x : Int32) : x = nI 0 ∨ x = nI 1 ∨ x = nI 2 ∨ x = nI 3 ∨ x = nI 4 ∨ x = nI 5 ∨ x = nI 6 ∨ x = nI 7 ∨ x = nI 8 ∨ x = nI 9 ∨ x = nI 10 ∨ x = nI 11 ∨ x = nI 12 ∨ x = nI 13 ∨ x = nI 14 ∨ x = nI 15 ∨ x = nI 16 ∨ x = nI 17 ∨ x = nI 18 ∨ x = nI 19 ∨ x = nI 20 ∨ x = nI 21 ∨ x = nI 22 ∨ x = nI 23 ∨ (x.toInt < 0 ∨ 23 < x.toInt) := by
  by_cases h : 0 ≤ x.toInt ∧ x.toInt ≤ 23
  · have h1 : x = nI x.toInt.toNat := by
      apply Int32.toInt_inj.mp
      rw [nI_toInt (by omega)]
      omega
    have e : x.toInt.toNat ≤ 23 := by omega
    generalize x.toInt.toNat = j at h1 e
    rcases (show j = 0 ∨ j = 1 ∨ j = 2 ∨ j = 3 ∨ j = 4 ∨ j = 5 ∨ j = 6 ∨ j = 7 ∨ j = 8 ∨ j = 9 ∨ j = 10 ∨ j = 11 ∨ j = 12 ∨ j = 13 ∨ j = 14 ∨ j = 15 ∨ j = 16 ∨ j = 17 ∨ j = 18 ∨ j = 19 ∨ j = 20 ∨ j = 21 ∨ j = 22 ∨ j = 23 by omega) with rfl | rfl | rfl | rfl | rfl | rfl | rfl | rfl | rfl | rfl | rfl | rfl | rfl | rfl | rfl | rfl | rfl | rfl | rfl | rfl | rfl | rfl | rfl | rfl
    · exact Or.inl h1
    · exact Or.inr (Or.inl h1)
    · exact Or.inr (Or.inr (Or.inl h1))
    · exact Or.inr (Or.inr (Or.inr (Or.inl h1)))
    · exact Or.inr (Or.inr (Or.inr (Or.inr (Or.inl h1))))
    · exact Or.inr (Or.inr (Or.inr (Or.inr (Or.inr (Or.inl h1)))))
    · exact Or.inr (Or.inr (Or.inr (Or.inr (Or.inr (Or.inr (Or.inl h1))))))
    · exact Or.inr (Or.inr (Or.inr (Or.inr (Or.inr (Or.inr (Or.inr (Or.inl h1)))))))
    · exact Or.inr (Or.inr (Or.inr (Or.inr (Or.inr (Or.inr (Or.inr (Or.inr (Or.inl h1))))))))
    · exact Or.inr (Or.inr (Or.inr (Or.inr (Or.inr (Or.inr (Or.inr (Or.inr (Or.inr (Or.inl h1)))))))))
    · exact Or.inr (Or.inr (Or.inr (Or.inr (Or.inr (Or.inr (Or.inr (Or.inr (Or.inr (Or.inr (Or.inl h1))))))))))
    · exact Or.inr (Or.inr (Or.inr (Or.inr (Or.inr (Or.inr (Or.inr (Or.inr (Or.inr (Or.inr (Or.inr (Or.inl h1)))))))))))
    · exact Or.inr (Or.inr (Or.inr (Or.inr (Or.inr (Or.inr (Or.inr (Or.inr (Or.inr (Or.inr (Or.inr (Or.inr (Or.inl h1))))))))))))
    · exact Or.inr (Or.inr (Or.inr (Or.inr (Or.inr (Or.inr (Or.inr (Or.inr (Or.inr (Or.inr (Or.inr (Or.inr (Or.inr (Or.inl h1)))))))))))))
    · exact Or.inr (Or.inr (Or.inr (Or.inr (Or.inr (Or.inr (Or.inr (Or.inr (Or.inr (Or.inr (Or.inr (Or.inr (Or.inr (Or.inr (Or.inl h1))))))))))))))
    · exact Or.inr (Or.inr (Or.inr (Or.inr (Or.inr (Or.inr (Or.inr (Or.inr (Or.inr (Or.inr (Or.inr (Or.inr (Or.inr (Or.inr (Or.inr (Or.inl h1)))))))))))))))
    · exact Or.inr (Or.inr (Or.inr (Or.inr (Or.inr (Or.inr (Or.inr (Or.inr (Or.inr (Or.inr (Or.inr (Or.inr (Or.inr (Or.inr (Or.inr (Or.inr (Or.inl h1))))))))))))))))
    · exact Or.inr (Or.inr (Or.inr (Or.inr (Or.inr (Or.inr (Or.inr (Or.inr (Or.inr (Or.inr (Or.inr (Or.inr (Or.inr (Or.inr (Or.inr (Or.inr (Or.inr (Or.inl h1)))))))))))))))))
    · exact Or.inr (Or.inr (Or.inr (Or.inr (Or.inr (Or.inr (Or.inr (Or.inr (Or.inr (Or.inr (Or.inr (Or.inr (Or.inr (Or.inr (Or.inr (Or.inr (Or.inr (Or.inr (Or.inl h1))))))))))))))))))
    · exact Or.inr (Or.inr (Or.inr (Or.inr (Or.inr (Or.inr (Or.inr (Or.inr (Or.inr (Or.inr (Or.inr (Or.inr (Or.inr (Or.inr (Or.inr (Or.inr (Or.inr (Or.inr (Or.inr (Or.inl h1)))))))))))))))))))
    · exact Or.inr (Or.inr (Or.inr (Or.inr (Or.inr (Or.inr (Or.inr (Or.inr (Or.inr (Or.inr (Or.inr (Or.inr (Or.inr (Or.inr (Or.inr (Or.inr (Or.inr (Or.inr (Or.inr (Or.inr (Or.inl h1))))))))))))))))))))
    · exact Or.inr (Or.inr (Or.inr (Or.inr (Or.inr (Or.inr (Or.inr (Or.inr (Or.inr (Or.inr (Or.inr (Or.inr (Or.inr (Or.inr (Or.inr (Or.inr (Or.inr (Or.inr (Or.inr (Or.inr (Or.inr (Or.inl h1)))))))))))))))))))))
    · exact Or.inr (Or.inr (Or.inr (Or.inr (Or.inr (Or.inr (Or.inr (Or.inr (Or.inr (Or.inr (Or.inr (Or.inr (Or.inr (Or.inr (Or.inr (Or.inr (Or.inr (Or.inr (Or.inr (Or.inr (Or.inr (Or.inr (Or.inl h1))))))))))))))))))))))
    · exact Or.inr (Or.inr (Or.inr (Or.inr (Or.inr (Or.inr (Or.inr (Or.inr (Or.inr (Or.inr (Or.inr (Or.inr (Or.inr (Or.inr (Or.inr (Or.inr (Or.inr (Or.inr (Or.inr (Or.inr (Or.inr (Or.inr (Or.inr (Or.inl h1)))))))))))))))))))))))
  · exact Or.inr (Or.inr (Or.inr (Or.inr (Or.inr (Or.inr (Or.inr (Or.inr (Or.inr (Or.inr (Or.inr (Or.inr (Or.inr (Or.inr (Or.inr (Or.inr (Or.inr (Or.inr (Or.inr (Or.inr (Or.inr (Or.inr (Or.inr (Or.inr (by omega))))))))))))))))))))))))
set_option maxRecDepth 100000 in
set_option maxHeartbeats 4000000 in
theorem lw_loop {p : Program} {l : Launch} {e : Env} {s : State} {m : MethodId} {b : Nat} {below : List Frame} {meth : Method} {c : Code} {D : va_G} {cI cZ cF : ClassId} {L : Nat} {xs : Nat → Int32} (S : CallFix p m c cL_law 4 s #[Value.ref b] wsL_law RL) (hk : kn D cI cZ cF (fun q => s.heap.size ≤ q) s) (hX : va_X b L xs s s.heap) (hbl : b < s.heap.size) (hL : L ≤ 2560) (hr : meth.sig.returnType = ret) (hlocks : meth.locks = false) : ∀ (dd i : Nat), i ≤ L → L < i + dd → lwG p l e s m b below meth c D cI cZ cF (lw_Z below #[Value.ref b] s) 18 i := by
  intro dd
  induction dd with
  | zero => intros; omega
  | succ dd ih =>
    intro i hiL hd q qm qf g C R rw len F sz X mk fi ke ac iv hI H locs ls hW hl
    have hbA : ¬ (fun q => s.heap.size ≤ q) b := Nat.not_le.mpr hbl
    have hle := (lenOK_le hI.2.2.2.2.2.2.1).2
    refine lv_iload_n S.1 S.2.1 dL_law_18 rfl (lv_at hl 3 rfl) ?_
    refine lv_aload_n S.1 S.2.1 dL_law_19 rfl (lv_at hl 0 rfl) ?_
    refine va_slen S.1 S.2.1 hX hbl hbA hW.2.2 dL_law_20 ?_
    refine lv_iconst (v := nI 5) S.1 S.2.1 dL_law_21 (by decide) ?_
    refine lv_isub S.1 S.2.1 dL_law_22 ?_
    have hsub : (Int32.ofNat L - nI 5).toInt = (L : Int) - 5 := pk_sub_toInt (a := L) (b := 5) (by omega) (by omega)
    refine lv_icmp_gt (tgt := 908) S.1 S.2.1 dL_law_23 (by decide) (fun c_23 => ?_) (fun c_23 => ?_)
    · refine lv_iconst (v := 1) S.1 S.2.1 dL_law_908 (by decide) ?_
      refine va_forget (fun q hq => hW.2.2.2.2 q hq) ?_
      refine W.widen (k := 600000) (n := 7302250) (by omega) (by omega) ?_
      exact lw_ret S.1 S.2.1 hr hlocks dL_law_909
    · have hi5 : i + 5 ≤ L := by
        rw [Int32.lt_iff_toInt_lt, hsub, nI_toInt (by omega)] at c_23
        omega
      have hback : lwG p l e s m b below meth c D cI cZ cF (lw_Z below #[Value.ref b] s) 902 i := by
        intro q qm qf g C R rw len F sz X mk fi ke ac iv hI H locs ls hW hl
        refine lv_iinc (v := nI (i + 5)) (lv' := [(3, .int (nI (i + 5))), (0, .ref b), (1, .ref (q 0)), (2, .ref (qm 0))]) (k := 3) S.1 S.2.1 dL_law_902 hl rfl (nI_add i 5) (by decide) rfl (fun ls hl => ?_)
        refine lv_goto (tgt := 18) S.1 S.2.1 dL_law_905 (by decide) ?_
        exact ih (i + 5) hi5 (by omega) q qm qf g C R rw len F sz X mk fi ke ac iv hI H locs ls hW (lv_sub hl [1, 2, 3, 0] rfl)
      refine lv_aload_n S.1 S.2.1 dL_law_26 rfl (lv_at hl 0 rfl) ?_
      refine lv_iload_n S.1 S.2.1 dL_law_27 rfl (lv_at hl 3 rfl) ?_
      refine sldN S hX hbl hbA hW (j := i) rfl (by omega) (by omega) dL_law_28 ?_
      refine lv_bipush (v := nI 31) S.1 S.2.1 dL_law_29 (by decide) ?_
      refine lv_iand S.1 S.2.1 dL_law_31 ?_
      rcases sw24 (xs i &&& nI 31) with h0 | h1 | h2 | h3 | h4 | h5 | h6 | h7 | h8 | h9 | h10 | h11 | h12 | h13 | h14 | h15 | h16 | h17 | h18 | h19 | h20 | h21 | h22 | h23 | hsw
      · refine top_eq h0 ?_
        refine lv_tableIn (tgt := 144) (off := 112) S.1 S.2.1 dL_law_32 (by decide) (by decide) (by decide) (by decide) ?_
        exact lc_posts S hk hX hbl hL hi5 hback q qm qf g C R rw len F sz X mk fi ke ac iv hI H locs ls hW hl
      · refine top_eq h1 ?_
        refine lv_tableIn (tgt := 167) (off := 135) S.1 S.2.1 dL_law_32 (by decide) (by decide) (by decide) (by decide) ?_
        exact lc_line S hk hX hbl hL hi5 hback q qm qf g C R rw len F sz X mk fi ke ac iv hI H locs ls hW hl
      · refine top_eq h2 ?_
        refine lv_tableIn (tgt := 236) (off := 204) S.1 S.2.1 dL_law_32 (by decide) (by decide) (by decide) (by decide) ?_
        exact lc_price S hk hX hbl hL hi5 hback q qm qf g C R rw len F sz X mk fi ke ac iv hI H locs ls hW hl
      · refine top_eq h3 ?_
        refine lv_tableIn (tgt := 269) (off := 237) S.1 S.2.1 dL_law_32 (by decide) (by decide) (by decide) (by decide) ?_
        exact lc_cut S hk hX hbl hL hi5 hback q qm qf g C R rw len F sz X mk fi ke ac iv hI H locs ls hW hl
      · refine top_eq h4 ?_
        refine lv_tableIn (tgt := 292) (off := 260) S.1 S.2.1 dL_law_32 (by decide) (by decide) (by decide) (by decide) ?_
        exact lc_back S hk hX hbl hL hi5 hback q qm qf g C R rw len F sz X mk fi ke ac iv hI H locs ls hW hl
      · refine top_eq h5 ?_
        refine lv_tableIn (tgt := 315) (off := 283) S.1 S.2.1 dL_law_32 (by decide) (by decide) (by decide) (by decide) ?_
        exact lc_told S hk hX hbl hL hi5 hback q qm qf g C R rw len F sz X mk fi ke ac iv hI H locs ls hW hl
      · refine top_eq h6 ?_
        refine lv_tableIn (tgt := 348) (off := 316) S.1 S.2.1 dL_law_32 (by decide) (by decide) (by decide) (by decide) ?_
        exact lc_far S hk hX hbl hL hi5 hback q qm qf g C R rw len F sz X mk fi ke ac iv hI H locs ls hW hl
      · refine top_eq h7 ?_
        refine lv_tableIn (tgt := 381) (off := 349) S.1 S.2.1 dL_law_32 (by decide) (by decide) (by decide) (by decide) ?_
        exact lc_steps S hk hX hbl hL hi5 hback q qm qf g C R rw len F sz X mk fi ke ac iv hI H locs ls hW hl
      · refine top_eq h8 ?_
        refine lv_tableIn (tgt := 414) (off := 382) S.1 S.2.1 dL_law_32 (by decide) (by decide) (by decide) (by decide) ?_
        exact lc_way S hk hX hbl hL hi5 hback q qm qf g C R rw len F sz X mk fi ke ac iv hI H locs ls hW hl
      · refine top_eq h9 ?_
        refine lv_tableIn (tgt := 457) (off := 425) S.1 S.2.1 dL_law_32 (by decide) (by decide) (by decide) (by decide) ?_
        exact lc_without S hk hX hbl hL hi5 hback q qm qf g C R rw len F sz X mk fi ke ac iv hI H locs ls hW hl
      · refine top_eq h10 ?_
        refine lv_tableIn (tgt := 500) (off := 468) S.1 S.2.1 dL_law_32 (by decide) (by decide) (by decide) (by decide) ?_
        exact lc_vital S hk hX hbl hL hi5 hback q qm qf g C R rw len F sz X mk fi ke ac iv hI H locs ls hW hl
      · refine top_eq h11 ?_
        refine lv_tableIn (tgt := 543) (off := 511) S.1 S.2.1 dL_law_32 (by decide) (by decide) (by decide) (by decide) ?_
        exact lc_about S hk hX hbl hL hi5 hback q qm qf g C R rw len F sz X mk fi ke ac iv hI H locs ls hW hl
      · refine top_eq h12 ?_
        refine lv_tableIn (tgt := 586) (off := 554) S.1 S.2.1 dL_law_32 (by decide) (by decide) (by decide) (by decide) ?_
        exact lc_ring S hk hX hbl hL hi5 hback q qm qf g C R rw len F sz X mk fi ke ac iv hI H locs ls hW hl
      · refine top_eq h13 ?_
        refine lv_tableIn (tgt := 599) (off := 567) S.1 S.2.1 dL_law_32 (by decide) (by decide) (by decide) (by decide) ?_
        exact lc_height S hk hX hbl hL hi5 hback q qm qf g C R rw len F sz X mk fi ke ac iv hI H locs ls hW hl
      · refine top_eq h14 ?_
        refine lv_tableIn (tgt := 622) (off := 590) S.1 S.2.1 dL_law_32 (by decide) (by decide) (by decide) (by decide) ?_
        exact lc_acts S hk hX hbl hL hi5 hback q qm qf g C R rw len F sz X mk fi ke ac iv hI H locs ls hW hl
      · refine top_eq h15 ?_
        refine lv_tableIn (tgt := 635) (off := 603) S.1 S.2.1 dL_law_32 (by decide) (by decide) (by decide) (by decide) ?_
        exact lc_moved S hk hX hbl hL hi5 hback q qm qf g C R rw len F sz X mk fi ke ac iv hI H locs ls hW hl
      · refine top_eq h16 ?_
        refine lv_tableIn (tgt := 658) (off := 626) S.1 S.2.1 dL_law_32 (by decide) (by decide) (by decide) (by decide) ?_
        exact lc_pair S hk hX hbl hL hi5 hback q qm qf g C R rw len F sz X mk fi ke ac iv hI H locs ls hW hl
      · refine top_eq h17 ?_
        refine lv_tableIn (tgt := 691) (off := 659) S.1 S.2.1 dL_law_32 (by decide) (by decide) (by decide) (by decide) ?_
        exact lc_then S hk hX hbl hL hi5 hback q qm qf g C R rw len F sz X mk fi ke ac iv hI H locs ls hW hl
      · refine top_eq h18 ?_
        refine lv_tableIn (tgt := 734) (off := 702) S.1 S.2.1 dL_law_32 (by decide) (by decide) (by decide) (by decide) ?_
        exact lc_since S hk hX hbl hL hi5 hback q qm qf g C R rw len F sz X mk fi ke ac iv hI H locs ls hW hl
      · refine top_eq h19 ?_
        refine lv_tableIn (tgt := 787) (off := 755) S.1 S.2.1 dL_law_32 (by decide) (by decide) (by decide) (by decide) ?_
        exact lc_marks S hk hX hbl hL hi5 hback q qm qf g C R rw len F sz X mk fi ke ac iv hI H locs ls hW hl
      · refine top_eq h20 ?_
        refine lv_tableIn (tgt := 810) (off := 778) S.1 S.2.1 dL_law_32 (by decide) (by decide) (by decide) (by decide) ?_
        exact lc_near S hk hX hbl hL hi5 hback q qm qf g C R rw len F sz X mk fi ke ac iv hI H locs ls hW hl
      · refine top_eq h21 ?_
        refine lv_tableIn (tgt := 843) (off := 811) S.1 S.2.1 dL_law_32 (by decide) (by decide) (by decide) (by decide) ?_
        exact lc_worst S hk hX hbl hL hi5 hback q qm qf g C R rw len F sz X mk fi ke ac iv hI H locs ls hW hl
      · refine top_eq h22 ?_
        refine lv_tableIn (tgt := 856) (off := 824) S.1 S.2.1 dL_law_32 (by decide) (by decide) (by decide) (by decide) ?_
        exact lc_hits S hk hX hbl hL hi5 hback q qm qf g C R rw len F sz X mk fi ke ac iv hI H locs ls hW hl
      · refine top_eq h23 ?_
        refine lv_tableIn (tgt := 879) (off := 847) S.1 S.2.1 dL_law_32 (by decide) (by decide) (by decide) (by decide) ?_
        exact lc_count S hk hX hbl hL hi5 hback q qm qf g C R rw len F sz X mk fi ke ac iv hI H locs ls hW hl
      · refine lv_tableOut (tgt := 902) S.1 S.2.1 dL_law_32 hsw (by decide) ?_
        exact hback q qm qf g C R rw len F sz X mk fi ke ac iv hI H locs ls hW hl
set_option maxRecDepth 100000 in
set_option maxHeartbeats 4000000 in
theorem whole_start {p : Program} {e : Env} {s : State} {m : MethodId} {below : List Frame} {meth : Method} {c : Code} (l : Launch) (hflags : l.flags = flags0) {b L : Nat} {xs : Nat → Int32} (hL : L ≤ 2560) (C0 : lw_At p s m meth c b L xs) : W p l e room_1 s m #[Value.ref b] below meth c s.heap [] 0 0 (lw_Z below #[Value.ref b] s) (entryFrame m ([Value.ref b] : List Value).toArray 4) := by
  obtain ⟨hx, hb, hr, hml, hown, hts, hX, hbl, hlocks, hgv⟩ := id C0
  have hts2 : ∀ w ∈ wsL_law, w.before #[Value.ref b] s = true := fun w h => hts w (wsL_law_in w h)
  have S : CallFix p m c cL_law 4 s #[Value.ref b] wsL_law RL := ⟨hx, hb, hml, hown, hts2⟩
  obtain ⟨c0, i0, k0⟩ := u_known (C := RX0) (T := TX0) (N := 1) (n := 1) hts2 inlX0 (hts2 (.instantiable RX0 1) (List.mem_of_getElem? (i := 113) rfl))
  obtain ⟨c1, i1, k1⟩ := u_known (C := RX1) (T := TX1) (N := 2) (n := 2) hts2 inlX1 (hts2 (.instantiable RX1 2) (List.mem_of_getElem? (i := 25) rfl))
  obtain ⟨c2, i2, k2⟩ := u_known (C := RX2) (T := TX2) (N := 7) (n := 7) hts2 inlX2 (hts2 (.instantiable RX2 7) (List.mem_of_getElem? (i := 13) rfl))
  obtain ⟨c3, i3, k3⟩ := u_known (C := RX3) (T := TX3) (N := 2) (n := 2) hts2 inlX3 (hts2 (.instantiable RX3 2) (List.mem_of_getElem? (i := 21) rfl))
  obtain ⟨c4, i4, k4⟩ := u_known (C := RX4) (T := TX4) (N := 3) (n := 3) hts2 inlX4 (hts2 (.instantiable RX4 3) (List.mem_of_getElem? (i := 17) rfl))
  obtain ⟨c5, i5, k5⟩ := u_known (C := RX5) (T := TX5) (N := 5) (n := 5) hts2 inlX5 (hts2 (.instantiable RX5 5) (List.mem_of_getElem? (i := 1) rfl))
  obtain ⟨c6, i6, k6⟩ := u_known (C := RX6) (T := TX6) (N := 13) (n := 13) hts2 inlX6 (hts2 (.instantiable RX6 13) (List.mem_of_getElem? (i := 4) rfl))
  obtain ⟨cI, kI, mI, aI1, aI2, aI3⟩ := Cond.arrayClass_spec (hts2 (.arrayClass .int) (List.mem_of_getElem? (i := 31) rfl))
  obtain ⟨cZ, kZ, mZ, aZ1, aZ2, aZ3⟩ := Cond.arrayClass_spec (hts2 (.arrayClass .boolean) (List.mem_of_getElem? (i := 35) rfl))
  have hao : (Cond.arrayOver (.object RX0)).before #[Value.ref b] s = true := hts (.arrayOver (.object RX0)) (List.mem_of_getElem? (i := 111) rfl)
  obtain ⟨cFc, cF, kF, aF1, aF2, aF3, aF4, aF5⟩ := Cond.arrayOver_spec hao
  obtain ⟨dC, dI, hKc⟩ : ∃ (dC : Nat → ClassId) (dI : Nat → Nat → Nat), ∀ (k : Nat) (q : vw_C), vwCl[k]? = some q → u_Kn s q.1 q.2.1 q.2.2 (dC k) (dI k) := by
    refine ⟨fun k => if k = 0 then c0 else if k = 1 then c1 else if k = 2 then c2 else if k = 3 then c3 else if k = 4 then c4 else if k = 5 then c5 else c6, fun k => if k = 0 then i0 else if k = 1 then i1 else if k = 2 then i2 else if k = 3 then i3 else if k = 4 then i4 else if k = 5 then i5 else i6, ?_⟩
    intro k q hq
    match k, hq with
    | 0, hq => cases hq; exact k0
    | 1, hq => cases hq; exact k1
    | 2, hq => cases hq; exact k2
    | 3, hq => cases hq; exact k3
    | 4, hq => cases hq; exact k4
    | 5, hq => cases hq; exact k5
    | 6, hq => cases hq; exact k6
    | k + 7, hq => simp [vwCl] at hq
  have hKa : va_K (dC, dI) vwCl [(cI, .int), (cZ, .boolean), (cF, .object RX0)] s := by
    refine ⟨hKc, fun k q h => ?_⟩
    match k, h with
    | 0, h => cases h; exact ⟨fun n z => ⟨fun k h => (by cases h), kI, aI2, mI, aI3⟩, aI1⟩
    | 1, h => cases h; exact ⟨fun n z => ⟨fun k h => (by cases h), kZ, aZ2, mZ, aZ3⟩, aZ1⟩
    | 2, h => cases h; exact ⟨fun n z => ⟨fun k h => (by cases h), kF, aF3, cFc, aF4⟩, kF, cFc, aF3, aF4, aF1, aF5⟩
    | k + 3, h => simp at h
  have hnw : nw s := by
    refine ⟨?_, va_AO.of hao⟩
    intro w hw
    have hin : nwl = [67, 69, 60, 57, 63, 51, 54, 66, 70, 58, 52, 55, 61, 64, 176, 46, 106, 121, 196, 191].filterMap (fun i => lw_tbl[i]?) := rfl
    have h1 : w ∈ lw_tbl := by
      rw [hin] at hw
      obtain ⟨i, -, hi⟩ := List.mem_filterMap.mp hw
      exact List.mem_of_getElem? hi
    have ht : w.onTables = true := by
      simp only [nwl, List.mem_cons, List.not_mem_nil, or_false] at hw
      rcases hw with rfl | rfl | rfl | rfl | rfl | rfl | rfl | rfl | rfl | rfl | rfl | rfl | rfl | rfl | rfl | rfl | rfl | rfl | rfl | rfl
      all_goals rfl
    exact va_Nw.of ht (hts w h1)
  have hk : kn (dC, dI) cI cZ cF (fun q => s.heap.size ≤ q) s := ⟨hKa, hnw, fun _ h => h⟩
  have hW : wd (dC, dI) (fun q => s.heap.size ≤ q) s s.heap [] [] := ⟨fun k q h => by simp at h, ⟨fun i j p q h => by simp at h, fun k q h => by simp at h⟩, va_S.rf⟩
  have hl := lv_entry ([.ref b]) (n := 4) (Nat.le_of_ble_eq_true rfl)
  rw [lg_entry_eq]
  generalize (lg_sl ([.ref b]) ++ List.replicate (4 - (lg_sl ([.ref b])).length) Slot.unset).toArray = ls at hl ⊢
  have hl : lv_has ls 4 [(0, .ref b)] := hl
  refine newO (ci := 5) (fs := [.null, .null, .null, .null, .int (nI 0)]) S hk hW inlX5 tyX5 tyX5_ok 0 1 2 rfl rfl rfl rfl (fun j hj => by rcases (show j = 0 ∨ j = 1 ∨ j = 2 ∨ j = 3 ∨ j = 4 by omega) with rfl | rfl | rfl | rfl | rfl <;> rfl) (Nat.le_of_ble_eq_true rfl) (Nat.le_of_ble_eq_true rfl) dL_law_0 (fun x H hW => ?_)
  have hW : wd (dC, dI) (fun q => s.heap.size ≤ q) s H [] ([(x, .inr (5, [.null, .null, .null, .null, .int (nI 0)]))] ++ []) := hW
  refine lv_dup S.1 S.2.1 dL_law_3 rfl ?_
  refine kLI (As := []) S (c_X5_init (l := l) (D := (dC, dI)) (cI := cI) (cZ := cZ) (cF := cF)) (cwI 0 S.2.2.2.2 gL_law_X5_init rfl rfl rfl (hts2 (.initialized RX5) (List.mem_of_getElem? (i := 2) rfl)) (hts2 (.methodLink RL 9 yX5_init) (List.mem_of_getElem? (i := 6) rfl)) (hts2 (.instanceMethod yX5_init) (List.mem_of_getElem? (i := 7) rfl)) rfl v_X5_init ⟨(Nat.le_of_ble_eq_true rfl), (Nat.le_of_ble_eq_true rfl)⟩) hk hW rfl hl rfl (Nat.le_of_ble_eq_true rfl) dL_law_4 ⟨(Nat.le_of_ble_eq_true rfl), (Nat.le_of_ble_eq_true rfl)⟩ (fun u H locs hp hW => ?_)
  obtain ⟨q, hq0, qf, C, R, F, hCa, hFo, hFn, rfl⟩ := hp
  refine lv_astore_n (lv' := [(1, .ref x), (0, .ref b)]) S.1 S.2.1 dL_law_7 rfl hl (by decide) rfl (fun ls hl => ?_)
  refine newO (ci := 6) (fs := [.int (nI 0), .int (nI 0), .int (nI 0), .null, .null, .null, .null, .null, .null, .null, .int (nI 0), .int (nI 0), .null]) S hk hW inlX6 tyX6 tyX6_ok 3 4 5 rfl rfl rfl rfl (fun j hj => by rcases (show j = 0 ∨ j = 1 ∨ j = 2 ∨ j = 3 ∨ j = 4 ∨ j = 5 ∨ j = 6 ∨ j = 7 ∨ j = 8 ∨ j = 9 ∨ j = 10 ∨ j = 11 ∨ j = 12 by omega) with rfl | rfl | rfl | rfl | rfl | rfl | rfl | rfl | rfl | rfl | rfl | rfl | rfl <;> rfl) (Nat.le_of_ble_eq_true rfl) (Nat.le_of_ble_eq_true rfl) dL_law_8 (fun y H hW => ?_)
  have hW := wd_swap hW
  refine lv_dup S.1 S.2.1 dL_law_11 rfl ?_
  refine kLI (As := []) S (c_X6_init (l := l) (D := (dC, dI)) (cI := cI) (cZ := cZ) (cF := cF)) (cwI 0 S.2.2.2.2 gL_law_X6_init rfl rfl rfl (hts2 (.initialized RX6) (List.mem_of_getElem? (i := 5) rfl)) (hts2 (.methodLink RL 12 yX6_init) (List.mem_of_getElem? (i := 138) rfl)) (hts2 (.instanceMethod yX6_init) (List.mem_of_getElem? (i := 139) rfl)) rfl v_X6_init ⟨(Nat.le_of_ble_eq_true rfl), (Nat.le_of_ble_eq_true rfl)⟩) hk hW rfl hl rfl (Nat.le_of_ble_eq_true rfl) dL_law_12 ⟨(Nat.le_of_ble_eq_true rfl), (Nat.le_of_ble_eq_true rfl)⟩ (fun u H locs hp hW => ?_)
  obtain ⟨qm, hqm0, ke, hKo, hKn, rfl⟩ := hp
  have hW := wd_swap hW
  refine lv_astore_n (lv' := [(2, .ref y), (1, .ref x), (0, .ref b)]) S.1 S.2.1 dL_law_15 rfl hl (by decide) rfl (fun ls hl => ?_)
  refine lv_iconst (v := nI 0) S.1 S.2.1 dL_law_16 (by decide) ?_
  refine lv_istore_n (lv' := [(3, .int (nI 0)), (2, .ref y), (1, .ref x), (0, .ref b)]) S.1 S.2.1 dL_law_17 rfl hl (by decide) rfl (fun ls hl => ?_)
  have hI : LI (sK (sN gz 2) 0) C (0 + 1) (gL 0 0) F (nI 0) 0 ke := LI_act P_init.1 P_init.2 hCa (by omega) (by omega) (Nat.zero_le _) (fun t ht => absurd ht (Nat.not_lt_zero t)) hFo hFn hKo hKn ⟨0, Nat.pow_pos (by decide), rfl⟩
  have hg0 : gL 0 0 = 1 := by decide
  have hg1 : gC 0 0 = 2 := by decide
  have hg2 : gS 0 0 = 101 := by decide
  refine W.widen (k := 30 + 2 * gL 0 0) (n := 45000 + 101 * gL 0 0) (by omega) (by omega) ?_
  rw [← hq0, ← hqm0] at hl
  exact lw_loop S hk hX hbl hL hr hlocks (L + 1) 0 (Nat.zero_le _) (by omega) q qm qf (sK (sN gz 2) 0) C R (0 + 1) (gL 0 0) F 0 (fun _ => 0) (nI 0) _ ke 0 (fun _ => 0) hI H locs ls hW (lv_sub hl [3, 2, 1, 0] rfl)
