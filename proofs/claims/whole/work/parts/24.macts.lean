abbrev r_X6_posts : Room := { frames := 2, cells := 0, slots := 0, locals := 42 }
theorem v_X6_posts : yX6_posts.cls ≠ "java/lang/invoke/MethodHandle" ∧ yX6_posts.cls ≠ "java/lang/invoke/VarHandle" ∧ (parseMethodDescriptor yX6_posts.desc).map (fun d => d.parameters.length) = some 1 := by decide +kernel
set_option maxRecDepth 100000 in
set_option maxHeartbeats 4000000 in
theorem c_X6_posts {l : Launch} {D : va_G} {cI cZ cF : ClassId} {q : Nat → Nat} {g : Gr} {fi ke : Nat → Int32} {ac : Nat} {mk : Int32} {iv : Nat → Int32} {x : Int32} (G : Gok g) : cI_ l D cI cZ cF yX6_posts wsX6_posts r_X6_posts [.ref (q 0), .int x] (wM q cI cZ cF g fi ke ac mk iv) (fun r u => (∀ z, postsM x = some z → r = z ∧ ∃ fi', u = wM q cI cZ cF g fi' ke ac mk iv) ∧ (postsM x = none → r = nI (gN g) ∧ actM q cI cZ cF (sK (sN g x.toNatClampNeg) 0) 0 ke (nI 0) iv u)) 0 0 := by
  refine cI_of (cc := cX6_posts) (maxL := 3) (rt := .int) (plainFor_of_name (by decide +kernel)) rfl (Nat.le_of_ble_eq_true rfl) ?_
  intro p e s m args below meth c A Q ls S hk hW hl hR
  have hl : lv_has ls 3 [(0, .ref (q 0)), (1, .int x)] := hl
  have hwsX60 : ∀ x ∈ wsX60, x ∈ wsX6_posts := fun x h => List.mem_cons_of_mem _ (List.mem_append_right _ h)
  refine lv_aload_n S.1 S.2.1 dX6_posts_0 rfl (lv_at hl 0 rfl) ?_
  refine lv_iconst (v := nI 0) S.1 S.2.1 dX6_posts_1 (by decide) ?_
  refine pf (ty := .int) (w' := wM q cI cZ cF g fi ke ac mk iv) S hk hW 0 rfl rfl hwsX60 tyX6 tyX6_ok nmX6 0 (by decide) 1 rfl rfl (by decide +kernel) rfl rfl (Nat.le_of_ble_eq_true rfl) dX6_posts_2 rfl (fun H locs hW => ?_)
  refine lv_iload_n S.1 S.2.1 dX6_posts_5 rfl (lv_at hl 1 rfl) ?_
  refine lv_i2l S.1 S.2.1 dX6_posts_6 rfl ?_
  refine lv_ldc2 (v := 2) S.1 S.2.1 S.2.2.2.1 (S.2.2.2.2 _ (List.mem_of_getElem? (i := 2) rfl)) dX6_posts_7 ?_
  refine lv_ldc2 (v := 10) S.1 S.2.1 S.2.2.2.1 (S.2.2.2.2 _ (List.mem_of_getElem? (i := 3) rfl)) dX6_posts_10 ?_
  refine kSi S (c_X6_in (l := l) (D := D) (cI := cI) (cZ := cZ) (cF := cF)) (va_cwS 3 S.2.2.2.2 gX6_posts_X6_in rfl rfl rfl v_X6_in ⟨(Nat.le_of_ble_eq_true rfl), (Nat.le_of_ble_eq_true rfl)⟩) hk hW rfl hl rfl (Nat.le_of_ble_eq_true rfl) dX6_posts_13 ⟨(Nat.le_of_ble_eq_true rfl), (Nat.le_of_ble_eq_true rfl)⟩ (fun r u H locs hp hW => ?_)
  obtain ⟨rfl, rfl⟩ := hp
  refine ifne_b (tgt := 23) S dX6_posts_16 (by decide) (fun c_16 => ?_) (fun c_16 => ?_)
  · skip
    obtain ⟨n, h2, h10, rfl⟩ := inL_nat (a := 2) (b := 10) c_16 (by decide) (by decide)
    have hcn : (nI n).toNatClampNeg = n := nI_clamp (by omega)
    refine lv_aload_n S.1 S.2.1 dX6_posts_23 rfl (lv_at hl 0 rfl) ?_
    refine gf S hk hW 0 rfl rfl hwsX60 1 (by decide) 4 rfl rfl dX6_posts_24 ?_
    refine lv_istore_n (lv' := [(2, .int (nI (gN g))), (0, .ref (q 0)), (1, .int (nI n))]) S.1 S.2.1 dX6_posts_27 rfl hl (by decide) rfl (fun ls hl => ?_)
    refine lv_aload_n S.1 S.2.1 dX6_posts_28 rfl (lv_at hl 1 rfl) ?_
    refine lv_iload_n S.1 S.2.1 dX6_posts_29 rfl (lv_at hl 2 rfl) ?_
    refine pf (ty := .int) (w' := wM q cI cZ cF (sN g n) fi ke ac mk iv) S hk hW 0 rfl rfl hwsX60 tyX6 tyX6_ok nmX6 1 (by decide) 4 rfl rfl (by decide +kernel) rfl rfl (Nat.le_of_ble_eq_true rfl) dX6_posts_30 rfl (fun H locs hW => ?_)
    refine lv_aload_n S.1 S.2.1 dX6_posts_33 rfl (lv_at hl 1 rfl) ?_
    refine lv_iconst (v := nI 0) S.1 S.2.1 dX6_posts_34 (by decide) ?_
    refine pf (ty := .int) (w' := wM q cI cZ cF (sK (sN g n) 0) fi ke ac mk iv) S hk hW 0 rfl rfl hwsX60 tyX6 tyX6_ok nmX6 2 (by decide) 5 rfl rfl (by decide +kernel) rfl rfl (Nat.le_of_ble_eq_true rfl) dX6_posts_35 rfl (fun H locs hW => ?_)
    refine lv_aload_n S.1 S.2.1 dX6_posts_38 rfl (lv_at hl 1 rfl) ?_
    refine lv_iconst (v := nI 0) S.1 S.2.1 dX6_posts_39 (by decide) ?_
    refine pf (ty := .int) (w' := wM q cI cZ cF (sK (sN g n) 0) fi ke 0 mk iv) S hk hW 0 rfl rfl hwsX60 tyX6 tyX6_ok nmX6 10 (by decide) 6 rfl rfl (by decide +kernel) rfl rfl (Nat.le_of_ble_eq_true rfl) dX6_posts_40 rfl (fun H locs hW => ?_)
    refine lv_aload_n S.1 S.2.1 dX6_posts_43 rfl (lv_at hl 1 rfl) ?_
    refine lv_iconst (v := nI 0) S.1 S.2.1 dX6_posts_44 (by decide) ?_
    refine pf (ty := .int) (w' := wM q cI cZ cF (sK (sN g n) 0) fi ke 0 (nI 0) iv) S hk hW 0 rfl rfl hwsX60 tyX6 tyX6_ok nmX6 11 (by decide) 7 rfl rfl (by decide +kernel) rfl rfl (Nat.le_of_ble_eq_true rfl) dX6_posts_45 rfl (fun H locs hW => ?_)
    refine lv_aload_n S.1 S.2.1 dX6_posts_48 rfl (lv_at hl 1 rfl) ?_
    refine lv_sipush (v := (-1000)) S.1 S.2.1 dX6_posts_49 (by decide) ?_
    refine lv_sipush (v := (-1000)) S.1 S.2.1 dX6_posts_52 (by decide) ?_
    refine kVi S (c_X6_learn (l := l) (D := D) (cI := cI) (cZ := cZ) (cF := cF) (Gok_new h2 h10)) (cwV 2 S.2.2.2.2 gX6_posts_X6_learn rfl rfl rfl ⟨rfl, v_X6_learn⟩ ⟨(Nat.le_of_ble_eq_true rfl), (Nat.le_of_ble_eq_true rfl)⟩) hk hW 0 rfl rfl rfl rfl hl rfl (Nat.le_of_ble_eq_true rfl) dX6_posts_55 ⟨(Nat.le_of_ble_eq_true rfl), (Nat.le_of_ble_eq_true rfl)⟩ (fun r u H locs hp hW => ?_)
    obtain ⟨rfl, rfl⟩ := hp
    refine lv_pop S.1 S.2.1 dX6_posts_58 rfl ?_
    refine lv_aload_n S.1 S.2.1 dX6_posts_59 rfl (lv_at hl 1 rfl) ?_
    refine kVv S (c_X6_keep (l := l) (D := D) (cI := cI) (cZ := cZ) (cF := cF) (Gok_new h2 h10) (by omega)) (cwV 0 S.2.2.2.2 gX6_posts_X6_keep rfl rfl rfl ⟨rfl, v_X6_keep⟩ ⟨(Nat.le_of_ble_eq_true rfl), (Nat.le_of_ble_eq_true rfl)⟩) hk hW 0 rfl rfl rfl rfl hl rfl (Nat.le_of_ble_eq_true rfl) dX6_posts_60 ⟨(Nat.le_of_ble_eq_true rfl), (Nat.le_of_ble_eq_true rfl)⟩ (fun u H locs hp hW => ?_)
    obtain ⟨ke'_1, hKo, hKn, rfl⟩ := hp
    refine lv_iload_n S.1 S.2.1 dX6_posts_63 rfl (lv_at hl 0 rfl) ?_
    exact hR _ _ _ _ _ _ _ _ dX6_posts_64 rfl (Nat.le_of_ble_eq_true rfl) (Nat.le_of_ble_eq_true rfl) hW (act_post (by simp only [postsM, c_16, eq_self, Nat.add_zero, decide_false, decide_true, Bool.not_true, Bool.not_false, Bool.and_true, Bool.true_and, Bool.and_false, Bool.false_and, Bool.or_true, Bool.true_or, Bool.or_false, Bool.false_or, ↓reduceIte, cond_true, cond_false, bI, and_true, true_and, and_false, false_and, or_true, true_or, or_false, false_or, not_true_eq_false, not_false_eq_true, if_true, if_false, Bool.false_eq_true, reduceCtorEq, ite_true, ite_false]) ⟨rfl, _, by exact hKo, by rw [hcn]; exact hKn, by rw [hcn]⟩)
  · skip
    refine lv_sipush (v := (-1002)) S.1 S.2.1 dX6_posts_19 (by decide) ?_
    exact hR _ _ _ _ _ _ _ _ dX6_posts_22 rfl (Nat.le_of_ble_eq_true rfl) (Nat.le_of_ble_eq_true rfl) hW (ref_post (by simp only [postsM, c_16, eq_self, Nat.add_zero, decide_false, decide_true, Bool.not_true, Bool.not_false, Bool.and_true, Bool.true_and, Bool.and_false, Bool.false_and, Bool.or_true, Bool.true_or, Bool.or_false, Bool.false_or, ↓reduceIte, cond_true, cond_false, bI, and_true, true_and, and_false, false_and, or_true, true_or, or_false, false_or, not_true_eq_false, not_false_eq_true, if_true, if_false, Bool.false_eq_true, reduceCtorEq, ite_true, ite_false]) ⟨_, rfl⟩)
abbrev r_X6_line : Room := { frames := 3, cells := 0, slots := 0, locals := 62 }
theorem v_X6_line : yX6_line.cls ≠ "java/lang/invoke/MethodHandle" ∧ yX6_line.cls ≠ "java/lang/invoke/VarHandle" ∧ (parseMethodDescriptor yX6_line.desc).map (fun d => d.parameters.length) = some 4 := by decide +kernel
set_option maxRecDepth 100000 in
set_option maxHeartbeats 4000000 in
theorem c_X6_line {l : Launch} {D : va_G} {cI cZ cF : ClassId} {q : Nat → Nat} {g : Gr} {fi ke : Nat → Int32} {ac : Nat} {mk : Int32} {iv : Nat → Int32} {x y v : Int32} {t : Bool} (G : Gok g) (hac : ac ≤ 400) : cI_ l D cI cZ cF yX6_line wsX6_line r_X6_line [.ref (q 0), .int x, .int y, .int v, .int (bI t)] (wM q cI cZ cF g fi ke ac mk iv) (fun r u => (∀ z, lineM g x y v t ac = some z → r = z ∧ ∃ fi', u = wM q cI cZ cF g fi' ke ac mk iv) ∧ (lineM g x y v t ac = none → r = nI (gK g) ∧ actM q cI cZ cF (addG g x.toNatClampNeg y.toNatClampNeg v t) (ac + 1) ke mk iv u)) 0 0 := by
  refine cI_of (cc := cX6_line) (maxL := 6) (rt := .int) (plainFor_of_name (by decide +kernel)) rfl (Nat.le_of_ble_eq_true rfl) ?_
  intro p e s m args below meth c A Q ls S hk hW hl hR
  have hl : lv_has ls 6 [(0, .ref (q 0)), (1, .int x), (2, .int y), (3, .int v), (4, .int (bI t))] := hl
  have hwsX60 : ∀ x ∈ wsX60, x ∈ wsX6_line := fun x h => List.mem_cons_of_mem _ (List.mem_append_right _ h)
  have hN := Gok_N G; have hN2 := Gok_N2 G; have hKK := Gok_K G
  refine lv_aload_n S.1 S.2.1 dX6_line_0 rfl (lv_at hl 0 rfl) ?_
  refine lv_iconst (v := nI 0) S.1 S.2.1 dX6_line_1 (by decide) ?_
  refine pf (ty := .int) (w' := wM q cI cZ cF g fi ke ac mk iv) S hk hW 0 rfl rfl hwsX60 tyX6 tyX6_ok nmX6 0 (by decide) 1 rfl rfl (by decide +kernel) rfl rfl (Nat.le_of_ble_eq_true rfl) dX6_line_2 rfl (fun H locs hW => ?_)
  refine lv_aload_n S.1 S.2.1 dX6_line_5 rfl (lv_at hl 0 rfl) ?_
  refine lv_iload_n S.1 S.2.1 dX6_line_6 rfl (lv_at hl 1 rfl) ?_
  refine kVi S (c_X6_noPost (l := l) (D := D) (cI := cI) (cZ := cZ) (cF := cF) G) (cwV 1 S.2.2.2.2 gX6_line_X6_noPost rfl rfl rfl ⟨rfl, v_X6_noPost⟩ ⟨(Nat.le_of_ble_eq_true rfl), (Nat.le_of_ble_eq_true rfl)⟩) hk hW 0 rfl rfl rfl rfl hl rfl (Nat.le_of_ble_eq_true rfl) dX6_line_7 ⟨(Nat.le_of_ble_eq_true rfl), (Nat.le_of_ble_eq_true rfl)⟩ (fun r u H locs hp hW => ?_)
  obtain ⟨rfl, rfl⟩ := hp
  refine ifne_nb (tgt := 21) S dX6_line_10 (by decide) (fun c_10 => ?_) (fun c_10 => ?_)
  · skip
    refine lv_sipush (v := (-1001)) S.1 S.2.1 dX6_line_21 (by decide) ?_
    exact hR _ _ _ _ _ _ _ _ dX6_line_24 rfl (Nat.le_of_ble_eq_true rfl) (Nat.le_of_ble_eq_true rfl) hW (ref_post (by simp only [lineM, c_10, eq_self, Nat.add_zero, decide_false, decide_true, Bool.not_true, Bool.not_false, Bool.and_true, Bool.true_and, Bool.and_false, Bool.false_and, Bool.or_true, Bool.true_or, Bool.or_false, Bool.false_or, ↓reduceIte, cond_true, cond_false, bI, and_true, true_and, and_false, false_and, or_true, true_or, or_false, false_or, not_true_eq_false, not_false_eq_true, if_true, if_false, Bool.false_eq_true, reduceCtorEq, ite_true, ite_false]) ⟨_, rfl⟩)
  · skip
    refine lv_aload_n S.1 S.2.1 dX6_line_13 rfl (lv_at hl 0 rfl) ?_
    refine lv_iload_n S.1 S.2.1 dX6_line_14 rfl (lv_at hl 2 rfl) ?_
    refine kVi S (c_X6_noPost (l := l) (D := D) (cI := cI) (cZ := cZ) (cF := cF) G) (cwV 1 S.2.2.2.2 gX6_line_X6_noPost rfl rfl rfl ⟨rfl, v_X6_noPost⟩ ⟨(Nat.le_of_ble_eq_true rfl), (Nat.le_of_ble_eq_true rfl)⟩) hk hW 0 rfl rfl rfl rfl hl rfl (Nat.le_of_ble_eq_true rfl) dX6_line_15 ⟨(Nat.le_of_ble_eq_true rfl), (Nat.le_of_ble_eq_true rfl)⟩ (fun r u H locs hp hW => ?_)
    obtain ⟨rfl, rfl⟩ := hp
    refine ifeq_nb (tgt := 25) S dX6_line_18 (by decide) (fun c_18 => ?_) (fun c_18 => ?_)
    · skip
      obtain ⟨a, ha, rfl⟩ := inb_nat c_10 (by omega)
      have hca : (nI a).toNatClampNeg = a := nI_clamp (by omega)
      obtain ⟨b, hb, rfl⟩ := inb_nat c_18 (by omega)
      have hcb : (nI b).toNatClampNeg = b := nI_clamp (by omega)
      refine lv_iload_n S.1 S.2.1 dX6_line_25 rfl (lv_at hl 3 rfl) ?_
      refine lv_i2l S.1 S.2.1 dX6_line_26 rfl ?_
      refine lv_iload S.1 S.2.1 dX6_line_27 (lv_at hl 4 rfl) ?_
      refine ifeq_b (tgt := 36) S dX6_line_29 (by decide) (fun c_29 => ?_) (fun c_29 => ?_)
      · skip
        refine lv_ldc2 (v := (-50)) S.1 S.2.1 S.2.2.2.1 (S.2.2.2.2 _ (List.mem_of_getElem? (i := 2) rfl)) dX6_line_36 ?_
        refine lv_ldc2 (v := 99) S.1 S.2.1 S.2.2.2.1 (S.2.2.2.2 _ (List.mem_of_getElem? (i := 3) rfl)) dX6_line_39 ?_
        refine kSi S (c_X6_in (l := l) (D := D) (cI := cI) (cZ := cZ) (cF := cF)) (va_cwS 3 S.2.2.2.2 gX6_line_X6_in rfl rfl rfl v_X6_in ⟨(Nat.le_of_ble_eq_true rfl), (Nat.le_of_ble_eq_true rfl)⟩) hk hW rfl hl rfl (Nat.le_of_ble_eq_true rfl) dX6_line_42 ⟨(Nat.le_of_ble_eq_true rfl), (Nat.le_of_ble_eq_true rfl)⟩ (fun r u H locs hp hW => ?_)
        obtain ⟨rfl, rfl⟩ := hp
        refine ifne_b (tgt := 52) S dX6_line_45 (by decide) (fun c_45 => ?_) (fun c_45 => ?_)
        · skip
          refine lv_iload_n S.1 S.2.1 dX6_line_52 rfl (lv_at hl 1 rfl) ?_
          refine lv_iload_n S.1 S.2.1 dX6_line_53 rfl (lv_at hl 2 rfl) ?_
          refine icne_n (tgt := 61) S (by omega) (by omega) dX6_line_54 (by decide) (fun c_54 => ?_) (fun c_54 => ?_)
          · skip
            refine lv_aload_n S.1 S.2.1 dX6_line_61 rfl (lv_at hl 0 rfl) ?_
            refine lv_sipush (v := (-1000)) S.1 S.2.1 dX6_line_62 (by decide) ?_
            refine lv_sipush (v := (-1000)) S.1 S.2.1 dX6_line_65 (by decide) ?_
            refine kVi S (c_X6_learn (l := l) (D := D) (cI := cI) (cZ := cZ) (cF := cF) G) (cwV 2 S.2.2.2.2 gX6_line_X6_learn rfl rfl rfl ⟨rfl, v_X6_learn⟩ ⟨(Nat.le_of_ble_eq_true rfl), (Nat.le_of_ble_eq_true rfl)⟩) hk hW 0 rfl rfl rfl rfl hl rfl (Nat.le_of_ble_eq_true rfl) dX6_line_68 ⟨(Nat.le_of_ble_eq_true rfl), (Nat.le_of_ble_eq_true rfl)⟩ (fun r u H locs hp hW => ?_)
            obtain ⟨rfl, rfl⟩ := hp
            refine lv_pop S.1 S.2.1 dX6_line_71 rfl ?_
            refine lv_aload_n S.1 S.2.1 dX6_line_72 rfl (lv_at hl 0 rfl) ?_
            refine lv_iload_n S.1 S.2.1 dX6_line_73 rfl (lv_at hl 2 rfl) ?_
            refine lv_iload_n S.1 S.2.1 dX6_line_74 rfl (lv_at hl 1 rfl) ?_
            refine kVi S (c_X6_farOf (l := l) (D := D) (cI := cI) (cZ := cZ) (cF := cF) (by first | assumption | omega) (by first | assumption | omega)) (cwV 2 S.2.2.2.2 gX6_line_X6_farOf rfl rfl rfl ⟨rfl, v_X6_farOf⟩ ⟨(Nat.le_of_ble_eq_true rfl), (Nat.le_of_ble_eq_true rfl)⟩) hk hW 0 rfl rfl rfl rfl hl rfl (Nat.le_of_ble_eq_true rfl) dX6_line_75 ⟨(Nat.le_of_ble_eq_true rfl), (Nat.le_of_ble_eq_true rfl)⟩ (fun r u H locs hp hW => ?_)
            obtain ⟨rfl, rfl⟩ := hp
            refine lv_istore (lv' := [(5, .int (cfr ((lrn g (-1000) (-1000)).1) b a)), (0, .ref (q 0)), (1, .int (nI a)), (2, .int (nI b)), (3, .int v), (4, .int (bI t))]) S.1 S.2.1 dX6_line_78 hl (by decide) rfl (fun ls hl => ?_)
            refine lv_iload S.1 S.2.1 dX6_line_80 (lv_at hl 5 rfl) ?_
            refine ifne_b (tgt := 100) S dX6_line_82 (by decide) (fun c_82 => ?_) (fun c_82 => ?_)
            · skip
              exact absurd (c_29.symm.trans c_82) (by decide)
            · skip
              refine lv_iload S.1 S.2.1 dX6_line_85 (lv_at hl 0 rfl) ?_
              refine lv_sipush (v := (-1000)) S.1 S.2.1 dX6_line_87 (by decide) ?_
              refine lv_icmp_eq (tgt := 100) S.1 S.2.1 dX6_line_90 (by decide) (fun c_90 => ?_) (fun c_90 => ?_)
              · skip
                refine lv_iload S.1 S.2.1 dX6_line_100 (lv_at hl 5 rfl) ?_
                refine ifeq_b (tgt := 147) S dX6_line_102 (by decide) (fun c_102 => ?_) (fun c_102 => ?_)
                · skip
                  refine lv_aload_n S.1 S.2.1 dX6_line_147 rfl (lv_at hl 1 rfl) ?_
                  refine gf S hk hW 0 rfl rfl hwsX60 2 (by decide) 4 rfl rfl dX6_line_148 ?_
                  refine lv_bipush (v := nI 40) S.1 S.2.1 dX6_line_151 (by decide) ?_
                  refine iceq_n (tgt := 166) S (by omega) (by omega) dX6_line_153 (by decide) (fun c_153 => ?_) (fun c_153 => ?_)
                  · skip
                    refine lv_sipush (v := (-1004)) S.1 S.2.1 dX6_line_166 (by decide) ?_
                    exact hR _ _ _ _ _ _ _ _ dX6_line_169 rfl (Nat.le_of_ble_eq_true rfl) (Nat.le_of_ble_eq_true rfl) hW (ref_post (by simp only [lineM, badM, fulM, hca, hcb, c_10, c_18, c_29, c_45, eq_false c_54, c_82, eq_true c_90, c_102, eq_true c_153, eq_self, Nat.add_zero, decide_false, decide_true, Bool.not_true, Bool.not_false, Bool.and_true, Bool.true_and, Bool.and_false, Bool.false_and, Bool.or_true, Bool.true_or, Bool.or_false, Bool.false_or, ↓reduceIte, cond_true, cond_false, bI, and_true, true_and, and_false, false_and, or_true, true_or, or_false, false_or, not_true_eq_false, not_false_eq_true, if_true, if_false, Bool.false_eq_true, reduceCtorEq, ite_true, ite_false]) ⟨_, rfl⟩)
                  · skip
                    refine lv_aload_n S.1 S.2.1 dX6_line_156 rfl (lv_at hl 1 rfl) ?_
                    refine gf S hk hW 0 rfl rfl hwsX60 10 (by decide) 5 rfl rfl dX6_line_157 ?_
                    refine lv_sipush (v := nI 400) S.1 S.2.1 dX6_line_160 (by decide) ?_
                    refine icne_n (tgt := 170) S (by omega) (by omega) dX6_line_163 (by decide) (fun c_163 => ?_) (fun c_163 => ?_)
                    · skip
                      have hm : mayC v t = true := by rw [← mayM, c_29]; exact c_45
                      have G2 : Gok (addG g a b v t) := Gok_add G ha hb c_54 (by omega) hm
                      refine lv_aload_n S.1 S.2.1 dX6_line_170 rfl (lv_at hl 1 rfl) ?_
                      refine gf S hk hW 0 rfl rfl hwsX60 3 (by decide) 6 rfl rfl dX6_line_171 ?_
                      refine lv_aload_n S.1 S.2.1 dX6_line_174 rfl (lv_at hl 1 rfl) ?_
                      refine gf S hk hW 0 rfl rfl hwsX60 2 (by decide) 4 rfl rfl dX6_line_175 ?_
                      refine lv_iload_n S.1 S.2.1 dX6_line_178 rfl (lv_at hl 2 rfl) ?_
                      refine ist (w' := wM q cI cZ cF (sB g (upd (gB g) (gK g) (nI a))) ((lrn g (-1000) (-1000)).1) ke ac mk iv) S hk hW 1 rfl (gK g) rfl (by omega) (by omega) dX6_line_179 rfl (fun H locs hW => ?_)
                      refine lv_aload_n S.1 S.2.1 dX6_line_180 rfl (lv_at hl 1 rfl) ?_
                      refine gf S hk hW 0 rfl rfl hwsX60 4 (by decide) 7 rfl rfl dX6_line_181 ?_
                      refine lv_aload_n S.1 S.2.1 dX6_line_184 rfl (lv_at hl 1 rfl) ?_
                      refine gf S hk hW 0 rfl rfl hwsX60 2 (by decide) 4 rfl rfl dX6_line_185 ?_
                      refine lv_iload_n S.1 S.2.1 dX6_line_188 rfl (lv_at hl 3 rfl) ?_
                      refine ist (w' := wM q cI cZ cF (sE (sB g (upd (gB g) (gK g) (nI a))) (upd (gE g) (gK g) (nI b))) ((lrn g (-1000) (-1000)).1) ke ac mk iv) S hk hW 2 rfl (gK g) rfl (by omega) (by omega) dX6_line_189 rfl (fun H locs hW => ?_)
                      refine lv_aload_n S.1 S.2.1 dX6_line_190 rfl (lv_at hl 1 rfl) ?_
                      refine gf S hk hW 0 rfl rfl hwsX60 5 (by decide) 8 rfl rfl dX6_line_191 ?_
                      refine lv_aload_n S.1 S.2.1 dX6_line_194 rfl (lv_at hl 1 rfl) ?_
                      refine gf S hk hW 0 rfl rfl hwsX60 2 (by decide) 4 rfl rfl dX6_line_195 ?_
                      refine lv_iload_n S.1 S.2.1 dX6_line_198 rfl (lv_at hl 4 rfl) ?_
                      refine ist (w' := wM q cI cZ cF (sP (sE (sB g (upd (gB g) (gK g) (nI a))) (upd (gE g) (gK g) (nI b))) (upd (gP g) (gK g) v)) ((lrn g (-1000) (-1000)).1) ke ac mk iv) S hk hW 3 rfl (gK g) rfl (by omega) (by omega) dX6_line_199 rfl (fun H locs hW => ?_)
                      refine lv_aload_n S.1 S.2.1 dX6_line_200 rfl (lv_at hl 1 rfl) ?_
                      refine gf S hk hW 0 rfl rfl hwsX60 6 (by decide) 9 rfl rfl dX6_line_201 ?_
                      refine lv_aload_n S.1 S.2.1 dX6_line_204 rfl (lv_at hl 1 rfl) ?_
                      refine gf S hk hW 0 rfl rfl hwsX60 2 (by decide) 4 rfl rfl dX6_line_205 ?_
                      refine lv_iload S.1 S.2.1 dX6_line_208 (lv_at hl 5 rfl) ?_
                      refine zst (w' := wM q cI cZ cF (sW (sP (sE (sB g (upd (gB g) (gK g) (nI a))) (upd (gE g) (gK g) (nI b))) (upd (gP g) (gK g) v)) (upd (gW g) (gK g) (bI t))) ((lrn g (-1000) (-1000)).1) ke ac mk iv) S hk hW 4 rfl (gK g) rfl (by omega) (by omega) (bI_01 _) dX6_line_210 rfl (fun H locs hW => ?_)
                      refine lv_aload_n S.1 S.2.1 dX6_line_211 rfl (lv_at hl 1 rfl) ?_
                      refine gf S hk hW 0 rfl rfl hwsX60 7 (by decide) 10 rfl rfl dX6_line_212 ?_
                      refine lv_aload_n S.1 S.2.1 dX6_line_215 rfl (lv_at hl 1 rfl) ?_
                      refine gf S hk hW 0 rfl rfl hwsX60 2 (by decide) 4 rfl rfl dX6_line_216 ?_
                      refine lv_iconst (v := nI 1) S.1 S.2.1 dX6_line_219 (by decide) ?_
                      refine zst (w' := wM q cI cZ cF (sT (sW (sP (sE (sB g (upd (gB g) (gK g) (nI a))) (upd (gE g) (gK g) (nI b))) (upd (gP g) (gK g) v)) (upd (gW g) (gK g) (bI t))) (upd (gT g) (gK g) (nI 1))) ((lrn g (-1000) (-1000)).1) ke ac mk iv) S hk hW 5 rfl (gK g) rfl (by omega) (by omega) (Or.inr rfl) dX6_line_220 rfl (fun H locs hW => ?_)
                      refine lv_aload_n S.1 S.2.1 dX6_line_221 rfl (lv_at hl 1 rfl) ?_
                      refine lv_dup S.1 S.2.1 dX6_line_222 rfl ?_
                      refine gf S hk hW 0 rfl rfl hwsX60 2 (by decide) 4 rfl rfl dX6_line_223 ?_
                      refine lv_iconst (v := nI 1) S.1 S.2.1 dX6_line_226 (by decide) ?_
                      refine lv_iadd S.1 S.2.1 dX6_line_227 (top_eq (nI_add _ _) ?_)
                      refine pf (ty := .int) (w' := wM q cI cZ cF (sT (sW (sP (sE (sB (sK g ((gK g) + 1)) (upd (gB g) (gK g) (nI a))) (upd (gE g) (gK g) (nI b))) (upd (gP g) (gK g) v)) (upd (gW g) (gK g) (bI t))) (upd (gT g) (gK g) (nI 1))) ((lrn g (-1000) (-1000)).1) ke ac mk iv) S hk hW 0 rfl rfl hwsX60 tyX6 tyX6_ok nmX6 2 (by decide) 4 rfl rfl (by decide +kernel) rfl rfl (Nat.le_of_ble_eq_true rfl) dX6_line_228 rfl (fun H locs hW => ?_)
                      refine lv_aload_n S.1 S.2.1 dX6_line_231 rfl (lv_at hl 1 rfl) ?_
                      refine kVv S (c_X6_did (l := l) (D := D) (cI := cI) (cZ := cZ) (cF := cF) G2 (by omega)) (cwV 0 S.2.2.2.2 gX6_line_X6_did rfl rfl rfl ⟨rfl, v_X6_did⟩ ⟨(Nat.le_of_ble_eq_true rfl), (Nat.le_of_ble_eq_true rfl)⟩) hk hW 0 rfl rfl rfl rfl hl rfl (Nat.le_of_ble_eq_true rfl) dX6_line_232 ⟨(Nat.le_of_ble_eq_true rfl), (Nat.le_of_ble_eq_true rfl)⟩ (fun u H locs hp hW => ?_)
                      obtain ⟨ke'_1, hKo, hKn, rfl⟩ := hp
                      refine lv_aload_n S.1 S.2.1 dX6_line_235 rfl (lv_at hl 1 rfl) ?_
                      refine gf S hk hW 0 rfl rfl hwsX60 2 (by decide) 4 rfl rfl dX6_line_236 ?_
                      refine lv_iconst (v := nI 1) S.1 S.2.1 dX6_line_239 (by decide) ?_
                      refine lv_isub S.1 S.2.1 dX6_line_240 (top_eq (pk_sub (show 1 ≤ gK g + 1 from Nat.le_add_left _ _)) ?_)
                      exact hR _ _ _ _ _ _ _ _ dX6_line_241 rfl (Nat.le_of_ble_eq_true rfl) (Nat.le_of_ble_eq_true rfl) hW (act_post (by simp only [lineM, badM, fulM, hca, hcb, c_10, c_18, c_29, c_45, eq_false c_54, c_82, eq_true c_90, c_102, eq_false c_153, eq_false c_163, eq_self, Nat.add_zero, decide_false, decide_true, Bool.not_true, Bool.not_false, Bool.and_true, Bool.true_and, Bool.and_false, Bool.false_and, Bool.or_true, Bool.true_or, Bool.or_false, Bool.false_or, ↓reduceIte, cond_true, cond_false, bI, and_true, true_and, and_false, false_and, or_true, true_or, or_false, false_or, not_true_eq_false, not_false_eq_true, if_true, if_false, Bool.false_eq_true, reduceCtorEq, ite_true, ite_false]) ⟨rfl, _, hKo, by rw [hca, hcb]; exact hKn, by rw [hca, hcb]⟩)
                    · skip
                      refine lv_sipush (v := (-1004)) S.1 S.2.1 dX6_line_166 (by decide) ?_
                      exact hR _ _ _ _ _ _ _ _ dX6_line_169 rfl (Nat.le_of_ble_eq_true rfl) (Nat.le_of_ble_eq_true rfl) hW (ref_post (by simp only [lineM, badM, fulM, hca, hcb, c_10, c_18, c_29, c_45, eq_false c_54, c_82, eq_true c_90, c_102, eq_false c_153, eq_true c_163, eq_self, Nat.add_zero, decide_false, decide_true, Bool.not_true, Bool.not_false, Bool.and_true, Bool.true_and, Bool.and_false, Bool.false_and, Bool.or_true, Bool.true_or, Bool.or_false, Bool.false_or, ↓reduceIte, cond_true, cond_false, bI, and_true, true_and, and_false, false_and, or_true, true_or, or_false, false_or, not_true_eq_false, not_false_eq_true, if_true, if_false, Bool.false_eq_true, reduceCtorEq, ite_true, ite_false]) ⟨_, rfl⟩)
                · skip
                  exact absurd (c_29.symm.trans c_102) (by decide)
              · skip
                refine lv_iload S.1 S.2.1 dX6_line_93 (lv_at hl 0 rfl) ?_
                refine lv_iload_n S.1 S.2.1 dX6_line_95 rfl (lv_at hl 4 rfl) ?_
                refine lv_iadd S.1 S.2.1 dX6_line_96 ?_
                refine lv_if_lt (tgt := 143) S.1 S.2.1 dX6_line_97 (by decide) (fun c_97 => ?_) (fun c_97 => ?_)
                · skip
                  refine lv_sipush (v := (-1003)) S.1 S.2.1 dX6_line_143 (by decide) ?_
                  exact hR _ _ _ _ _ _ _ _ dX6_line_146 rfl (Nat.le_of_ble_eq_true rfl) (Nat.le_of_ble_eq_true rfl) hW (ref_post (by simp only [lineM, badM, hca, hcb, c_10, c_18, c_29, c_45, eq_false c_54, c_82, eq_false c_90, eq_true c_97, eq_self, Nat.add_zero, decide_false, decide_true, Bool.not_true, Bool.not_false, Bool.and_true, Bool.true_and, Bool.and_false, Bool.false_and, Bool.or_true, Bool.true_or, Bool.or_false, Bool.false_or, ↓reduceIte, cond_true, cond_false, bI, and_true, true_and, and_false, false_and, or_true, true_or, or_false, false_or, not_true_eq_false, not_false_eq_true, if_true, if_false, Bool.false_eq_true, reduceCtorEq, ite_true, ite_false]) ⟨_, rfl⟩)
                · skip
                  refine lv_iload S.1 S.2.1 dX6_line_100 (lv_at hl 5 rfl) ?_
                  refine ifeq_b (tgt := 147) S dX6_line_102 (by decide) (fun c_102 => ?_) (fun c_102 => ?_)
                  · skip
                    refine lv_aload_n S.1 S.2.1 dX6_line_147 rfl (lv_at hl 1 rfl) ?_
                    refine gf S hk hW 0 rfl rfl hwsX60 2 (by decide) 4 rfl rfl dX6_line_148 ?_
                    refine lv_bipush (v := nI 40) S.1 S.2.1 dX6_line_151 (by decide) ?_
                    refine iceq_n (tgt := 166) S (by omega) (by omega) dX6_line_153 (by decide) (fun c_153 => ?_) (fun c_153 => ?_)
                    · skip
                      refine lv_sipush (v := (-1004)) S.1 S.2.1 dX6_line_166 (by decide) ?_
                      exact hR _ _ _ _ _ _ _ _ dX6_line_169 rfl (Nat.le_of_ble_eq_true rfl) (Nat.le_of_ble_eq_true rfl) hW (ref_post (by simp only [lineM, badM, fulM, hca, hcb, c_10, c_18, c_29, c_45, eq_false c_54, c_82, eq_false c_90, eq_false c_97, c_102, eq_true c_153, eq_self, Nat.add_zero, decide_false, decide_true, Bool.not_true, Bool.not_false, Bool.and_true, Bool.true_and, Bool.and_false, Bool.false_and, Bool.or_true, Bool.true_or, Bool.or_false, Bool.false_or, ↓reduceIte, cond_true, cond_false, bI, and_true, true_and, and_false, false_and, or_true, true_or, or_false, false_or, not_true_eq_false, not_false_eq_true, if_true, if_false, Bool.false_eq_true, reduceCtorEq, ite_true, ite_false]) ⟨_, rfl⟩)
                    · skip
                      refine lv_aload_n S.1 S.2.1 dX6_line_156 rfl (lv_at hl 1 rfl) ?_
                      refine gf S hk hW 0 rfl rfl hwsX60 10 (by decide) 5 rfl rfl dX6_line_157 ?_
                      refine lv_sipush (v := nI 400) S.1 S.2.1 dX6_line_160 (by decide) ?_
                      refine icne_n (tgt := 170) S (by omega) (by omega) dX6_line_163 (by decide) (fun c_163 => ?_) (fun c_163 => ?_)
                      · skip
                        have hm : mayC v t = true := by rw [← mayM, c_29]; exact c_45
                        have G2 : Gok (addG g a b v t) := Gok_add G ha hb c_54 (by omega) hm
                        refine lv_aload_n S.1 S.2.1 dX6_line_170 rfl (lv_at hl 1 rfl) ?_
                        refine gf S hk hW 0 rfl rfl hwsX60 3 (by decide) 6 rfl rfl dX6_line_171 ?_
                        refine lv_aload_n S.1 S.2.1 dX6_line_174 rfl (lv_at hl 1 rfl) ?_
                        refine gf S hk hW 0 rfl rfl hwsX60 2 (by decide) 4 rfl rfl dX6_line_175 ?_
                        refine lv_iload_n S.1 S.2.1 dX6_line_178 rfl (lv_at hl 2 rfl) ?_
                        refine ist (w' := wM q cI cZ cF (sB g (upd (gB g) (gK g) (nI a))) ((lrn g (-1000) (-1000)).1) ke ac mk iv) S hk hW 1 rfl (gK g) rfl (by omega) (by omega) dX6_line_179 rfl (fun H locs hW => ?_)
                        refine lv_aload_n S.1 S.2.1 dX6_line_180 rfl (lv_at hl 1 rfl) ?_
                        refine gf S hk hW 0 rfl rfl hwsX60 4 (by decide) 7 rfl rfl dX6_line_181 ?_
                        refine lv_aload_n S.1 S.2.1 dX6_line_184 rfl (lv_at hl 1 rfl) ?_
                        refine gf S hk hW 0 rfl rfl hwsX60 2 (by decide) 4 rfl rfl dX6_line_185 ?_
                        refine lv_iload_n S.1 S.2.1 dX6_line_188 rfl (lv_at hl 3 rfl) ?_
                        refine ist (w' := wM q cI cZ cF (sE (sB g (upd (gB g) (gK g) (nI a))) (upd (gE g) (gK g) (nI b))) ((lrn g (-1000) (-1000)).1) ke ac mk iv) S hk hW 2 rfl (gK g) rfl (by omega) (by omega) dX6_line_189 rfl (fun H locs hW => ?_)
                        refine lv_aload_n S.1 S.2.1 dX6_line_190 rfl (lv_at hl 1 rfl) ?_
                        refine gf S hk hW 0 rfl rfl hwsX60 5 (by decide) 8 rfl rfl dX6_line_191 ?_
                        refine lv_aload_n S.1 S.2.1 dX6_line_194 rfl (lv_at hl 1 rfl) ?_
                        refine gf S hk hW 0 rfl rfl hwsX60 2 (by decide) 4 rfl rfl dX6_line_195 ?_
                        refine lv_iload_n S.1 S.2.1 dX6_line_198 rfl (lv_at hl 4 rfl) ?_
                        refine ist (w' := wM q cI cZ cF (sP (sE (sB g (upd (gB g) (gK g) (nI a))) (upd (gE g) (gK g) (nI b))) (upd (gP g) (gK g) v)) ((lrn g (-1000) (-1000)).1) ke ac mk iv) S hk hW 3 rfl (gK g) rfl (by omega) (by omega) dX6_line_199 rfl (fun H locs hW => ?_)
                        refine lv_aload_n S.1 S.2.1 dX6_line_200 rfl (lv_at hl 1 rfl) ?_
                        refine gf S hk hW 0 rfl rfl hwsX60 6 (by decide) 9 rfl rfl dX6_line_201 ?_
                        refine lv_aload_n S.1 S.2.1 dX6_line_204 rfl (lv_at hl 1 rfl) ?_
                        refine gf S hk hW 0 rfl rfl hwsX60 2 (by decide) 4 rfl rfl dX6_line_205 ?_
                        refine lv_iload S.1 S.2.1 dX6_line_208 (lv_at hl 5 rfl) ?_
                        refine zst (w' := wM q cI cZ cF (sW (sP (sE (sB g (upd (gB g) (gK g) (nI a))) (upd (gE g) (gK g) (nI b))) (upd (gP g) (gK g) v)) (upd (gW g) (gK g) (bI t))) ((lrn g (-1000) (-1000)).1) ke ac mk iv) S hk hW 4 rfl (gK g) rfl (by omega) (by omega) (bI_01 _) dX6_line_210 rfl (fun H locs hW => ?_)
                        refine lv_aload_n S.1 S.2.1 dX6_line_211 rfl (lv_at hl 1 rfl) ?_
                        refine gf S hk hW 0 rfl rfl hwsX60 7 (by decide) 10 rfl rfl dX6_line_212 ?_
                        refine lv_aload_n S.1 S.2.1 dX6_line_215 rfl (lv_at hl 1 rfl) ?_
                        refine gf S hk hW 0 rfl rfl hwsX60 2 (by decide) 4 rfl rfl dX6_line_216 ?_
                        refine lv_iconst (v := nI 1) S.1 S.2.1 dX6_line_219 (by decide) ?_
                        refine zst (w' := wM q cI cZ cF (sT (sW (sP (sE (sB g (upd (gB g) (gK g) (nI a))) (upd (gE g) (gK g) (nI b))) (upd (gP g) (gK g) v)) (upd (gW g) (gK g) (bI t))) (upd (gT g) (gK g) (nI 1))) ((lrn g (-1000) (-1000)).1) ke ac mk iv) S hk hW 5 rfl (gK g) rfl (by omega) (by omega) (Or.inr rfl) dX6_line_220 rfl (fun H locs hW => ?_)
                        refine lv_aload_n S.1 S.2.1 dX6_line_221 rfl (lv_at hl 1 rfl) ?_
                        refine lv_dup S.1 S.2.1 dX6_line_222 rfl ?_
                        refine gf S hk hW 0 rfl rfl hwsX60 2 (by decide) 4 rfl rfl dX6_line_223 ?_
                        refine lv_iconst (v := nI 1) S.1 S.2.1 dX6_line_226 (by decide) ?_
                        refine lv_iadd S.1 S.2.1 dX6_line_227 (top_eq (nI_add _ _) ?_)
                        refine pf (ty := .int) (w' := wM q cI cZ cF (sT (sW (sP (sE (sB (sK g ((gK g) + 1)) (upd (gB g) (gK g) (nI a))) (upd (gE g) (gK g) (nI b))) (upd (gP g) (gK g) v)) (upd (gW g) (gK g) (bI t))) (upd (gT g) (gK g) (nI 1))) ((lrn g (-1000) (-1000)).1) ke ac mk iv) S hk hW 0 rfl rfl hwsX60 tyX6 tyX6_ok nmX6 2 (by decide) 4 rfl rfl (by decide +kernel) rfl rfl (Nat.le_of_ble_eq_true rfl) dX6_line_228 rfl (fun H locs hW => ?_)
                        refine lv_aload_n S.1 S.2.1 dX6_line_231 rfl (lv_at hl 1 rfl) ?_
                        refine kVv S (c_X6_did (l := l) (D := D) (cI := cI) (cZ := cZ) (cF := cF) G2 (by omega)) (cwV 0 S.2.2.2.2 gX6_line_X6_did rfl rfl rfl ⟨rfl, v_X6_did⟩ ⟨(Nat.le_of_ble_eq_true rfl), (Nat.le_of_ble_eq_true rfl)⟩) hk hW 0 rfl rfl rfl rfl hl rfl (Nat.le_of_ble_eq_true rfl) dX6_line_232 ⟨(Nat.le_of_ble_eq_true rfl), (Nat.le_of_ble_eq_true rfl)⟩ (fun u H locs hp hW => ?_)
                        obtain ⟨ke'_2, hKo, hKn, rfl⟩ := hp
                        refine lv_aload_n S.1 S.2.1 dX6_line_235 rfl (lv_at hl 1 rfl) ?_
                        refine gf S hk hW 0 rfl rfl hwsX60 2 (by decide) 4 rfl rfl dX6_line_236 ?_
                        refine lv_iconst (v := nI 1) S.1 S.2.1 dX6_line_239 (by decide) ?_
                        refine lv_isub S.1 S.2.1 dX6_line_240 (top_eq (pk_sub (show 1 ≤ gK g + 1 from Nat.le_add_left _ _)) ?_)
                        exact hR _ _ _ _ _ _ _ _ dX6_line_241 rfl (Nat.le_of_ble_eq_true rfl) (Nat.le_of_ble_eq_true rfl) hW (act_post (by simp only [lineM, badM, fulM, hca, hcb, c_10, c_18, c_29, c_45, eq_false c_54, c_82, eq_false c_90, eq_false c_97, c_102, eq_false c_153, eq_false c_163, eq_self, Nat.add_zero, decide_false, decide_true, Bool.not_true, Bool.not_false, Bool.and_true, Bool.true_and, Bool.and_false, Bool.false_and, Bool.or_true, Bool.true_or, Bool.or_false, Bool.false_or, ↓reduceIte, cond_true, cond_false, bI, and_true, true_and, and_false, false_and, or_true, true_or, or_false, false_or, not_true_eq_false, not_false_eq_true, if_true, if_false, Bool.false_eq_true, reduceCtorEq, ite_true, ite_false]) ⟨rfl, _, hKo, by rw [hca, hcb]; exact hKn, by rw [hca, hcb]⟩)
                      · skip
                        refine lv_sipush (v := (-1004)) S.1 S.2.1 dX6_line_166 (by decide) ?_
                        exact hR _ _ _ _ _ _ _ _ dX6_line_169 rfl (Nat.le_of_ble_eq_true rfl) (Nat.le_of_ble_eq_true rfl) hW (ref_post (by simp only [lineM, badM, fulM, hca, hcb, c_10, c_18, c_29, c_45, eq_false c_54, c_82, eq_false c_90, eq_false c_97, c_102, eq_false c_153, eq_true c_163, eq_self, Nat.add_zero, decide_false, decide_true, Bool.not_true, Bool.not_false, Bool.and_true, Bool.true_and, Bool.and_false, Bool.false_and, Bool.or_true, Bool.true_or, Bool.or_false, Bool.false_or, ↓reduceIte, cond_true, cond_false, bI, and_true, true_and, and_false, false_and, or_true, true_or, or_false, false_or, not_true_eq_false, not_false_eq_true, if_true, if_false, Bool.false_eq_true, reduceCtorEq, ite_true, ite_false]) ⟨_, rfl⟩)
                  · skip
                    exact absurd (c_29.symm.trans c_102) (by decide)
          · skip
            refine lv_sipush (v := (-1003)) S.1 S.2.1 dX6_line_57 (by decide) ?_
            exact hR _ _ _ _ _ _ _ _ dX6_line_60 rfl (Nat.le_of_ble_eq_true rfl) (Nat.le_of_ble_eq_true rfl) hW (ref_post (by simp only [lineM, hca, hcb, c_10, c_18, c_29, c_45, eq_true c_54, eq_self, Nat.add_zero, decide_false, decide_true, Bool.not_true, Bool.not_false, Bool.and_true, Bool.true_and, Bool.and_false, Bool.false_and, Bool.or_true, Bool.true_or, Bool.or_false, Bool.false_or, ↓reduceIte, cond_true, cond_false, bI, and_true, true_and, and_false, false_and, or_true, true_or, or_false, false_or, not_true_eq_false, not_false_eq_true, if_true, if_false, Bool.false_eq_true, reduceCtorEq, ite_true, ite_false]) ⟨_, rfl⟩)
        · skip
          refine lv_sipush (v := (-1002)) S.1 S.2.1 dX6_line_48 (by decide) ?_
          exact hR _ _ _ _ _ _ _ _ dX6_line_51 rfl (Nat.le_of_ble_eq_true rfl) (Nat.le_of_ble_eq_true rfl) hW (ref_post (by simp only [lineM, hca, hcb, c_10, c_18, c_29, c_45, eq_self, Nat.add_zero, decide_false, decide_true, Bool.not_true, Bool.not_false, Bool.and_true, Bool.true_and, Bool.and_false, Bool.false_and, Bool.or_true, Bool.true_or, Bool.or_false, Bool.false_or, ↓reduceIte, cond_true, cond_false, bI, and_true, true_and, and_false, false_and, or_true, true_or, or_false, false_or, not_true_eq_false, not_false_eq_true, if_true, if_false, Bool.false_eq_true, reduceCtorEq, ite_true, ite_false]) ⟨_, rfl⟩)
      · skip
        refine lv_lconst (v := 0) S.1 S.2.1 dX6_line_32 (by decide) ?_
        refine lv_goto (tgt := 39) S.1 S.2.1 dX6_line_33 (by decide) ?_
        refine lv_ldc2 (v := 99) S.1 S.2.1 S.2.2.2.1 (S.2.2.2.2 _ (List.mem_of_getElem? (i := 3) rfl)) dX6_line_39 ?_
        refine kSi S (c_X6_in (l := l) (D := D) (cI := cI) (cZ := cZ) (cF := cF)) (va_cwS 3 S.2.2.2.2 gX6_line_X6_in rfl rfl rfl v_X6_in ⟨(Nat.le_of_ble_eq_true rfl), (Nat.le_of_ble_eq_true rfl)⟩) hk hW rfl hl rfl (Nat.le_of_ble_eq_true rfl) dX6_line_42 ⟨(Nat.le_of_ble_eq_true rfl), (Nat.le_of_ble_eq_true rfl)⟩ (fun r u H locs hp hW => ?_)
        obtain ⟨rfl, rfl⟩ := hp
        refine ifne_b (tgt := 52) S dX6_line_45 (by decide) (fun c_45 => ?_) (fun c_45 => ?_)
        · skip
          refine lv_iload_n S.1 S.2.1 dX6_line_52 rfl (lv_at hl 1 rfl) ?_
          refine lv_iload_n S.1 S.2.1 dX6_line_53 rfl (lv_at hl 2 rfl) ?_
          refine icne_n (tgt := 61) S (by omega) (by omega) dX6_line_54 (by decide) (fun c_54 => ?_) (fun c_54 => ?_)
          · skip
            refine lv_aload_n S.1 S.2.1 dX6_line_61 rfl (lv_at hl 0 rfl) ?_
            refine lv_sipush (v := (-1000)) S.1 S.2.1 dX6_line_62 (by decide) ?_
            refine lv_sipush (v := (-1000)) S.1 S.2.1 dX6_line_65 (by decide) ?_
            refine kVi S (c_X6_learn (l := l) (D := D) (cI := cI) (cZ := cZ) (cF := cF) G) (cwV 2 S.2.2.2.2 gX6_line_X6_learn rfl rfl rfl ⟨rfl, v_X6_learn⟩ ⟨(Nat.le_of_ble_eq_true rfl), (Nat.le_of_ble_eq_true rfl)⟩) hk hW 0 rfl rfl rfl rfl hl rfl (Nat.le_of_ble_eq_true rfl) dX6_line_68 ⟨(Nat.le_of_ble_eq_true rfl), (Nat.le_of_ble_eq_true rfl)⟩ (fun r u H locs hp hW => ?_)
            obtain ⟨rfl, rfl⟩ := hp
            refine lv_pop S.1 S.2.1 dX6_line_71 rfl ?_
            refine lv_aload_n S.1 S.2.1 dX6_line_72 rfl (lv_at hl 0 rfl) ?_
            refine lv_iload_n S.1 S.2.1 dX6_line_73 rfl (lv_at hl 2 rfl) ?_
            refine lv_iload_n S.1 S.2.1 dX6_line_74 rfl (lv_at hl 1 rfl) ?_
            refine kVi S (c_X6_farOf (l := l) (D := D) (cI := cI) (cZ := cZ) (cF := cF) (by first | assumption | omega) (by first | assumption | omega)) (cwV 2 S.2.2.2.2 gX6_line_X6_farOf rfl rfl rfl ⟨rfl, v_X6_farOf⟩ ⟨(Nat.le_of_ble_eq_true rfl), (Nat.le_of_ble_eq_true rfl)⟩) hk hW 0 rfl rfl rfl rfl hl rfl (Nat.le_of_ble_eq_true rfl) dX6_line_75 ⟨(Nat.le_of_ble_eq_true rfl), (Nat.le_of_ble_eq_true rfl)⟩ (fun r u H locs hp hW => ?_)
            obtain ⟨rfl, rfl⟩ := hp
            refine lv_istore (lv' := [(5, .int (cfr ((lrn g (-1000) (-1000)).1) b a)), (0, .ref (q 0)), (1, .int (nI a)), (2, .int (nI b)), (3, .int v), (4, .int (bI t))]) S.1 S.2.1 dX6_line_78 hl (by decide) rfl (fun ls hl => ?_)
            refine lv_iload S.1 S.2.1 dX6_line_80 (lv_at hl 5 rfl) ?_
            refine ifne_b (tgt := 100) S dX6_line_82 (by decide) (fun c_82 => ?_) (fun c_82 => ?_)
            · skip
              refine lv_iload S.1 S.2.1 dX6_line_100 (lv_at hl 5 rfl) ?_
              refine ifeq_b (tgt := 147) S dX6_line_102 (by decide) (fun c_102 => ?_) (fun c_102 => ?_)
              · skip
                exact absurd (c_29.symm.trans c_102) (by decide)
              · skip
                refine lv_aload_n S.1 S.2.1 dX6_line_105 rfl (lv_at hl 1 rfl) ?_
                refine lv_iload_n S.1 S.2.1 dX6_line_106 rfl (lv_at hl 2 rfl) ?_
                refine lv_iload_n S.1 S.2.1 dX6_line_107 rfl (lv_at hl 3 rfl) ?_
                refine kVi S (c_X6_farOf (l := l) (D := D) (cI := cI) (cZ := cZ) (cF := cF) (by first | assumption | omega) (by first | assumption | omega)) (cwV 2 S.2.2.2.2 gX6_line_X6_farOf rfl rfl rfl ⟨rfl, v_X6_farOf⟩ ⟨(Nat.le_of_ble_eq_true rfl), (Nat.le_of_ble_eq_true rfl)⟩) hk hW 0 rfl rfl rfl rfl hl rfl (Nat.le_of_ble_eq_true rfl) dX6_line_108 ⟨(Nat.le_of_ble_eq_true rfl), (Nat.le_of_ble_eq_true rfl)⟩ (fun r u H locs hp hW => ?_)
                obtain ⟨rfl, rfl⟩ := hp
                refine lv_sipush (v := (-1000)) S.1 S.2.1 dX6_line_111 (by decide) ?_
                refine lv_icmp_eq (tgt := 128) S.1 S.2.1 dX6_line_114 (by decide) (fun c_114 => ?_) (fun c_114 => ?_)
                · skip
                  refine lv_iload S.1 S.2.1 dX6_line_128 (lv_at hl 0 rfl) ?_
                  refine lv_sipush (v := (-1000)) S.1 S.2.1 dX6_line_130 (by decide) ?_
                  refine lv_icmp_eq (tgt := 147) S.1 S.2.1 dX6_line_133 (by decide) (fun c_133 => ?_) (fun c_133 => ?_)
                  · skip
                    refine lv_aload_n S.1 S.2.1 dX6_line_147 rfl (lv_at hl 1 rfl) ?_
                    refine gf S hk hW 0 rfl rfl hwsX60 2 (by decide) 4 rfl rfl dX6_line_148 ?_
                    refine lv_bipush (v := nI 40) S.1 S.2.1 dX6_line_151 (by decide) ?_
                    refine iceq_n (tgt := 166) S (by omega) (by omega) dX6_line_153 (by decide) (fun c_153 => ?_) (fun c_153 => ?_)
                    · skip
                      refine lv_sipush (v := (-1004)) S.1 S.2.1 dX6_line_166 (by decide) ?_
                      exact hR _ _ _ _ _ _ _ _ dX6_line_169 rfl (Nat.le_of_ble_eq_true rfl) (Nat.le_of_ble_eq_true rfl) hW (ref_post (by simp only [lineM, badM, fulM, hca, hcb, c_10, c_18, c_29, c_45, eq_false c_54, c_82, c_102, eq_true c_114, eq_true c_133, eq_true c_153, eq_self, Nat.add_zero, decide_false, decide_true, Bool.not_true, Bool.not_false, Bool.and_true, Bool.true_and, Bool.and_false, Bool.false_and, Bool.or_true, Bool.true_or, Bool.or_false, Bool.false_or, ↓reduceIte, cond_true, cond_false, bI, and_true, true_and, and_false, false_and, or_true, true_or, or_false, false_or, not_true_eq_false, not_false_eq_true, if_true, if_false, Bool.false_eq_true, reduceCtorEq, ite_true, ite_false]) ⟨_, rfl⟩)
                    · skip
                      refine lv_aload_n S.1 S.2.1 dX6_line_156 rfl (lv_at hl 1 rfl) ?_
                      refine gf S hk hW 0 rfl rfl hwsX60 10 (by decide) 5 rfl rfl dX6_line_157 ?_
                      refine lv_sipush (v := nI 400) S.1 S.2.1 dX6_line_160 (by decide) ?_
                      refine icne_n (tgt := 170) S (by omega) (by omega) dX6_line_163 (by decide) (fun c_163 => ?_) (fun c_163 => ?_)
                      · skip
                        have hm : mayC v t = true := by rw [← mayM, c_29]; exact c_45
                        have G2 : Gok (addG g a b v t) := Gok_add G ha hb c_54 (by omega) hm
                        refine lv_aload_n S.1 S.2.1 dX6_line_170 rfl (lv_at hl 1 rfl) ?_
                        refine gf S hk hW 0 rfl rfl hwsX60 3 (by decide) 6 rfl rfl dX6_line_171 ?_
                        refine lv_aload_n S.1 S.2.1 dX6_line_174 rfl (lv_at hl 1 rfl) ?_
                        refine gf S hk hW 0 rfl rfl hwsX60 2 (by decide) 4 rfl rfl dX6_line_175 ?_
                        refine lv_iload_n S.1 S.2.1 dX6_line_178 rfl (lv_at hl 2 rfl) ?_
                        refine ist (w' := wM q cI cZ cF (sB g (upd (gB g) (gK g) (nI a))) ((lrn g (-1000) (-1000)).1) ke ac mk iv) S hk hW 1 rfl (gK g) rfl (by omega) (by omega) dX6_line_179 rfl (fun H locs hW => ?_)
                        refine lv_aload_n S.1 S.2.1 dX6_line_180 rfl (lv_at hl 1 rfl) ?_
                        refine gf S hk hW 0 rfl rfl hwsX60 4 (by decide) 7 rfl rfl dX6_line_181 ?_
                        refine lv_aload_n S.1 S.2.1 dX6_line_184 rfl (lv_at hl 1 rfl) ?_
                        refine gf S hk hW 0 rfl rfl hwsX60 2 (by decide) 4 rfl rfl dX6_line_185 ?_
                        refine lv_iload_n S.1 S.2.1 dX6_line_188 rfl (lv_at hl 3 rfl) ?_
                        refine ist (w' := wM q cI cZ cF (sE (sB g (upd (gB g) (gK g) (nI a))) (upd (gE g) (gK g) (nI b))) ((lrn g (-1000) (-1000)).1) ke ac mk iv) S hk hW 2 rfl (gK g) rfl (by omega) (by omega) dX6_line_189 rfl (fun H locs hW => ?_)
                        refine lv_aload_n S.1 S.2.1 dX6_line_190 rfl (lv_at hl 1 rfl) ?_
                        refine gf S hk hW 0 rfl rfl hwsX60 5 (by decide) 8 rfl rfl dX6_line_191 ?_
                        refine lv_aload_n S.1 S.2.1 dX6_line_194 rfl (lv_at hl 1 rfl) ?_
                        refine gf S hk hW 0 rfl rfl hwsX60 2 (by decide) 4 rfl rfl dX6_line_195 ?_
                        refine lv_iload_n S.1 S.2.1 dX6_line_198 rfl (lv_at hl 4 rfl) ?_
                        refine ist (w' := wM q cI cZ cF (sP (sE (sB g (upd (gB g) (gK g) (nI a))) (upd (gE g) (gK g) (nI b))) (upd (gP g) (gK g) v)) ((lrn g (-1000) (-1000)).1) ke ac mk iv) S hk hW 3 rfl (gK g) rfl (by omega) (by omega) dX6_line_199 rfl (fun H locs hW => ?_)
                        refine lv_aload_n S.1 S.2.1 dX6_line_200 rfl (lv_at hl 1 rfl) ?_
                        refine gf S hk hW 0 rfl rfl hwsX60 6 (by decide) 9 rfl rfl dX6_line_201 ?_
                        refine lv_aload_n S.1 S.2.1 dX6_line_204 rfl (lv_at hl 1 rfl) ?_
                        refine gf S hk hW 0 rfl rfl hwsX60 2 (by decide) 4 rfl rfl dX6_line_205 ?_
                        refine lv_iload S.1 S.2.1 dX6_line_208 (lv_at hl 5 rfl) ?_
                        refine zst (w' := wM q cI cZ cF (sW (sP (sE (sB g (upd (gB g) (gK g) (nI a))) (upd (gE g) (gK g) (nI b))) (upd (gP g) (gK g) v)) (upd (gW g) (gK g) (bI t))) ((lrn g (-1000) (-1000)).1) ke ac mk iv) S hk hW 4 rfl (gK g) rfl (by omega) (by omega) (bI_01 _) dX6_line_210 rfl (fun H locs hW => ?_)
                        refine lv_aload_n S.1 S.2.1 dX6_line_211 rfl (lv_at hl 1 rfl) ?_
                        refine gf S hk hW 0 rfl rfl hwsX60 7 (by decide) 10 rfl rfl dX6_line_212 ?_
                        refine lv_aload_n S.1 S.2.1 dX6_line_215 rfl (lv_at hl 1 rfl) ?_
                        refine gf S hk hW 0 rfl rfl hwsX60 2 (by decide) 4 rfl rfl dX6_line_216 ?_
                        refine lv_iconst (v := nI 1) S.1 S.2.1 dX6_line_219 (by decide) ?_
                        refine zst (w' := wM q cI cZ cF (sT (sW (sP (sE (sB g (upd (gB g) (gK g) (nI a))) (upd (gE g) (gK g) (nI b))) (upd (gP g) (gK g) v)) (upd (gW g) (gK g) (bI t))) (upd (gT g) (gK g) (nI 1))) ((lrn g (-1000) (-1000)).1) ke ac mk iv) S hk hW 5 rfl (gK g) rfl (by omega) (by omega) (Or.inr rfl) dX6_line_220 rfl (fun H locs hW => ?_)
                        refine lv_aload_n S.1 S.2.1 dX6_line_221 rfl (lv_at hl 1 rfl) ?_
                        refine lv_dup S.1 S.2.1 dX6_line_222 rfl ?_
                        refine gf S hk hW 0 rfl rfl hwsX60 2 (by decide) 4 rfl rfl dX6_line_223 ?_
                        refine lv_iconst (v := nI 1) S.1 S.2.1 dX6_line_226 (by decide) ?_
                        refine lv_iadd S.1 S.2.1 dX6_line_227 (top_eq (nI_add _ _) ?_)
                        refine pf (ty := .int) (w' := wM q cI cZ cF (sT (sW (sP (sE (sB (sK g ((gK g) + 1)) (upd (gB g) (gK g) (nI a))) (upd (gE g) (gK g) (nI b))) (upd (gP g) (gK g) v)) (upd (gW g) (gK g) (bI t))) (upd (gT g) (gK g) (nI 1))) ((lrn g (-1000) (-1000)).1) ke ac mk iv) S hk hW 0 rfl rfl hwsX60 tyX6 tyX6_ok nmX6 2 (by decide) 4 rfl rfl (by decide +kernel) rfl rfl (Nat.le_of_ble_eq_true rfl) dX6_line_228 rfl (fun H locs hW => ?_)
                        refine lv_aload_n S.1 S.2.1 dX6_line_231 rfl (lv_at hl 1 rfl) ?_
                        refine kVv S (c_X6_did (l := l) (D := D) (cI := cI) (cZ := cZ) (cF := cF) G2 (by omega)) (cwV 0 S.2.2.2.2 gX6_line_X6_did rfl rfl rfl ⟨rfl, v_X6_did⟩ ⟨(Nat.le_of_ble_eq_true rfl), (Nat.le_of_ble_eq_true rfl)⟩) hk hW 0 rfl rfl rfl rfl hl rfl (Nat.le_of_ble_eq_true rfl) dX6_line_232 ⟨(Nat.le_of_ble_eq_true rfl), (Nat.le_of_ble_eq_true rfl)⟩ (fun u H locs hp hW => ?_)
                        obtain ⟨ke'_3, hKo, hKn, rfl⟩ := hp
                        refine lv_aload_n S.1 S.2.1 dX6_line_235 rfl (lv_at hl 1 rfl) ?_
                        refine gf S hk hW 0 rfl rfl hwsX60 2 (by decide) 4 rfl rfl dX6_line_236 ?_
                        refine lv_iconst (v := nI 1) S.1 S.2.1 dX6_line_239 (by decide) ?_
                        refine lv_isub S.1 S.2.1 dX6_line_240 (top_eq (pk_sub (show 1 ≤ gK g + 1 from Nat.le_add_left _ _)) ?_)
                        exact hR _ _ _ _ _ _ _ _ dX6_line_241 rfl (Nat.le_of_ble_eq_true rfl) (Nat.le_of_ble_eq_true rfl) hW (act_post (by simp only [lineM, badM, fulM, hca, hcb, c_10, c_18, c_29, c_45, eq_false c_54, c_82, c_102, eq_true c_114, eq_true c_133, eq_false c_153, eq_false c_163, eq_self, Nat.add_zero, decide_false, decide_true, Bool.not_true, Bool.not_false, Bool.and_true, Bool.true_and, Bool.and_false, Bool.false_and, Bool.or_true, Bool.true_or, Bool.or_false, Bool.false_or, ↓reduceIte, cond_true, cond_false, bI, and_true, true_and, and_false, false_and, or_true, true_or, or_false, false_or, not_true_eq_false, not_false_eq_true, if_true, if_false, Bool.false_eq_true, reduceCtorEq, ite_true, ite_false]) ⟨rfl, _, hKo, by rw [hca, hcb]; exact hKn, by rw [hca, hcb]⟩)
                      · skip
                        refine lv_sipush (v := (-1004)) S.1 S.2.1 dX6_line_166 (by decide) ?_
                        exact hR _ _ _ _ _ _ _ _ dX6_line_169 rfl (Nat.le_of_ble_eq_true rfl) (Nat.le_of_ble_eq_true rfl) hW (ref_post (by simp only [lineM, badM, fulM, hca, hcb, c_10, c_18, c_29, c_45, eq_false c_54, c_82, c_102, eq_true c_114, eq_true c_133, eq_false c_153, eq_true c_163, eq_self, Nat.add_zero, decide_false, decide_true, Bool.not_true, Bool.not_false, Bool.and_true, Bool.true_and, Bool.and_false, Bool.false_and, Bool.or_true, Bool.true_or, Bool.or_false, Bool.false_or, ↓reduceIte, cond_true, cond_false, bI, and_true, true_and, and_false, false_and, or_true, true_or, or_false, false_or, not_true_eq_false, not_false_eq_true, if_true, if_false, Bool.false_eq_true, reduceCtorEq, ite_true, ite_false]) ⟨_, rfl⟩)
                  · skip
                    refine lv_iload S.1 S.2.1 dX6_line_136 (lv_at hl 0 rfl) ?_
                    refine lv_iload_n S.1 S.2.1 dX6_line_138 rfl (lv_at hl 4 rfl) ?_
                    refine lv_iadd S.1 S.2.1 dX6_line_139 ?_
                    refine lv_if_ge (tgt := 147) S.1 S.2.1 dX6_line_140 (by decide) (fun c_140 => ?_) (fun c_140 => ?_)
                    · skip
                      refine lv_aload_n S.1 S.2.1 dX6_line_147 rfl (lv_at hl 1 rfl) ?_
                      refine gf S hk hW 0 rfl rfl hwsX60 2 (by decide) 4 rfl rfl dX6_line_148 ?_
                      refine lv_bipush (v := nI 40) S.1 S.2.1 dX6_line_151 (by decide) ?_
                      refine iceq_n (tgt := 166) S (by omega) (by omega) dX6_line_153 (by decide) (fun c_153 => ?_) (fun c_153 => ?_)
                      · skip
                        refine lv_sipush (v := (-1004)) S.1 S.2.1 dX6_line_166 (by decide) ?_
                        exact hR _ _ _ _ _ _ _ _ dX6_line_169 rfl (Nat.le_of_ble_eq_true rfl) (Nat.le_of_ble_eq_true rfl) hW (ref_post (by simp only [lineM, badM, fulM, hca, hcb, c_10, c_18, c_29, c_45, eq_false c_54, c_82, c_102, eq_true c_114, eq_false c_133, eq_true c_140, eq_true c_153, eq_self, Nat.add_zero, decide_false, decide_true, Bool.not_true, Bool.not_false, Bool.and_true, Bool.true_and, Bool.and_false, Bool.false_and, Bool.or_true, Bool.true_or, Bool.or_false, Bool.false_or, ↓reduceIte, cond_true, cond_false, bI, and_true, true_and, and_false, false_and, or_true, true_or, or_false, false_or, not_true_eq_false, not_false_eq_true, if_true, if_false, Bool.false_eq_true, reduceCtorEq, ite_true, ite_false]) ⟨_, rfl⟩)
                      · skip
                        refine lv_aload_n S.1 S.2.1 dX6_line_156 rfl (lv_at hl 1 rfl) ?_
                        refine gf S hk hW 0 rfl rfl hwsX60 10 (by decide) 5 rfl rfl dX6_line_157 ?_
                        refine lv_sipush (v := nI 400) S.1 S.2.1 dX6_line_160 (by decide) ?_
                        refine icne_n (tgt := 170) S (by omega) (by omega) dX6_line_163 (by decide) (fun c_163 => ?_) (fun c_163 => ?_)
                        · skip
                          have hm : mayC v t = true := by rw [← mayM, c_29]; exact c_45
                          have G2 : Gok (addG g a b v t) := Gok_add G ha hb c_54 (by omega) hm
                          refine lv_aload_n S.1 S.2.1 dX6_line_170 rfl (lv_at hl 1 rfl) ?_
                          refine gf S hk hW 0 rfl rfl hwsX60 3 (by decide) 6 rfl rfl dX6_line_171 ?_
                          refine lv_aload_n S.1 S.2.1 dX6_line_174 rfl (lv_at hl 1 rfl) ?_
                          refine gf S hk hW 0 rfl rfl hwsX60 2 (by decide) 4 rfl rfl dX6_line_175 ?_
                          refine lv_iload_n S.1 S.2.1 dX6_line_178 rfl (lv_at hl 2 rfl) ?_
                          refine ist (w' := wM q cI cZ cF (sB g (upd (gB g) (gK g) (nI a))) ((lrn g (-1000) (-1000)).1) ke ac mk iv) S hk hW 1 rfl (gK g) rfl (by omega) (by omega) dX6_line_179 rfl (fun H locs hW => ?_)
                          refine lv_aload_n S.1 S.2.1 dX6_line_180 rfl (lv_at hl 1 rfl) ?_
                          refine gf S hk hW 0 rfl rfl hwsX60 4 (by decide) 7 rfl rfl dX6_line_181 ?_
                          refine lv_aload_n S.1 S.2.1 dX6_line_184 rfl (lv_at hl 1 rfl) ?_
                          refine gf S hk hW 0 rfl rfl hwsX60 2 (by decide) 4 rfl rfl dX6_line_185 ?_
                          refine lv_iload_n S.1 S.2.1 dX6_line_188 rfl (lv_at hl 3 rfl) ?_
                          refine ist (w' := wM q cI cZ cF (sE (sB g (upd (gB g) (gK g) (nI a))) (upd (gE g) (gK g) (nI b))) ((lrn g (-1000) (-1000)).1) ke ac mk iv) S hk hW 2 rfl (gK g) rfl (by omega) (by omega) dX6_line_189 rfl (fun H locs hW => ?_)
                          refine lv_aload_n S.1 S.2.1 dX6_line_190 rfl (lv_at hl 1 rfl) ?_
                          refine gf S hk hW 0 rfl rfl hwsX60 5 (by decide) 8 rfl rfl dX6_line_191 ?_
                          refine lv_aload_n S.1 S.2.1 dX6_line_194 rfl (lv_at hl 1 rfl) ?_
                          refine gf S hk hW 0 rfl rfl hwsX60 2 (by decide) 4 rfl rfl dX6_line_195 ?_
                          refine lv_iload_n S.1 S.2.1 dX6_line_198 rfl (lv_at hl 4 rfl) ?_
                          refine ist (w' := wM q cI cZ cF (sP (sE (sB g (upd (gB g) (gK g) (nI a))) (upd (gE g) (gK g) (nI b))) (upd (gP g) (gK g) v)) ((lrn g (-1000) (-1000)).1) ke ac mk iv) S hk hW 3 rfl (gK g) rfl (by omega) (by omega) dX6_line_199 rfl (fun H locs hW => ?_)
                          refine lv_aload_n S.1 S.2.1 dX6_line_200 rfl (lv_at hl 1 rfl) ?_
                          refine gf S hk hW 0 rfl rfl hwsX60 6 (by decide) 9 rfl rfl dX6_line_201 ?_
                          refine lv_aload_n S.1 S.2.1 dX6_line_204 rfl (lv_at hl 1 rfl) ?_
                          refine gf S hk hW 0 rfl rfl hwsX60 2 (by decide) 4 rfl rfl dX6_line_205 ?_
                          refine lv_iload S.1 S.2.1 dX6_line_208 (lv_at hl 5 rfl) ?_
                          refine zst (w' := wM q cI cZ cF (sW (sP (sE (sB g (upd (gB g) (gK g) (nI a))) (upd (gE g) (gK g) (nI b))) (upd (gP g) (gK g) v)) (upd (gW g) (gK g) (bI t))) ((lrn g (-1000) (-1000)).1) ke ac mk iv) S hk hW 4 rfl (gK g) rfl (by omega) (by omega) (bI_01 _) dX6_line_210 rfl (fun H locs hW => ?_)
                          refine lv_aload_n S.1 S.2.1 dX6_line_211 rfl (lv_at hl 1 rfl) ?_
                          refine gf S hk hW 0 rfl rfl hwsX60 7 (by decide) 10 rfl rfl dX6_line_212 ?_
                          refine lv_aload_n S.1 S.2.1 dX6_line_215 rfl (lv_at hl 1 rfl) ?_
                          refine gf S hk hW 0 rfl rfl hwsX60 2 (by decide) 4 rfl rfl dX6_line_216 ?_
                          refine lv_iconst (v := nI 1) S.1 S.2.1 dX6_line_219 (by decide) ?_
                          refine zst (w' := wM q cI cZ cF (sT (sW (sP (sE (sB g (upd (gB g) (gK g) (nI a))) (upd (gE g) (gK g) (nI b))) (upd (gP g) (gK g) v)) (upd (gW g) (gK g) (bI t))) (upd (gT g) (gK g) (nI 1))) ((lrn g (-1000) (-1000)).1) ke ac mk iv) S hk hW 5 rfl (gK g) rfl (by omega) (by omega) (Or.inr rfl) dX6_line_220 rfl (fun H locs hW => ?_)
                          refine lv_aload_n S.1 S.2.1 dX6_line_221 rfl (lv_at hl 1 rfl) ?_
                          refine lv_dup S.1 S.2.1 dX6_line_222 rfl ?_
                          refine gf S hk hW 0 rfl rfl hwsX60 2 (by decide) 4 rfl rfl dX6_line_223 ?_
                          refine lv_iconst (v := nI 1) S.1 S.2.1 dX6_line_226 (by decide) ?_
                          refine lv_iadd S.1 S.2.1 dX6_line_227 (top_eq (nI_add _ _) ?_)
                          refine pf (ty := .int) (w' := wM q cI cZ cF (sT (sW (sP (sE (sB (sK g ((gK g) + 1)) (upd (gB g) (gK g) (nI a))) (upd (gE g) (gK g) (nI b))) (upd (gP g) (gK g) v)) (upd (gW g) (gK g) (bI t))) (upd (gT g) (gK g) (nI 1))) ((lrn g (-1000) (-1000)).1) ke ac mk iv) S hk hW 0 rfl rfl hwsX60 tyX6 tyX6_ok nmX6 2 (by decide) 4 rfl rfl (by decide +kernel) rfl rfl (Nat.le_of_ble_eq_true rfl) dX6_line_228 rfl (fun H locs hW => ?_)
                          refine lv_aload_n S.1 S.2.1 dX6_line_231 rfl (lv_at hl 1 rfl) ?_
                          refine kVv S (c_X6_did (l := l) (D := D) (cI := cI) (cZ := cZ) (cF := cF) G2 (by omega)) (cwV 0 S.2.2.2.2 gX6_line_X6_did rfl rfl rfl ⟨rfl, v_X6_did⟩ ⟨(Nat.le_of_ble_eq_true rfl), (Nat.le_of_ble_eq_true rfl)⟩) hk hW 0 rfl rfl rfl rfl hl rfl (Nat.le_of_ble_eq_true rfl) dX6_line_232 ⟨(Nat.le_of_ble_eq_true rfl), (Nat.le_of_ble_eq_true rfl)⟩ (fun u H locs hp hW => ?_)
                          obtain ⟨ke'_4, hKo, hKn, rfl⟩ := hp
                          refine lv_aload_n S.1 S.2.1 dX6_line_235 rfl (lv_at hl 1 rfl) ?_
                          refine gf S hk hW 0 rfl rfl hwsX60 2 (by decide) 4 rfl rfl dX6_line_236 ?_
                          refine lv_iconst (v := nI 1) S.1 S.2.1 dX6_line_239 (by decide) ?_
                          refine lv_isub S.1 S.2.1 dX6_line_240 (top_eq (pk_sub (show 1 ≤ gK g + 1 from Nat.le_add_left _ _)) ?_)
                          exact hR _ _ _ _ _ _ _ _ dX6_line_241 rfl (Nat.le_of_ble_eq_true rfl) (Nat.le_of_ble_eq_true rfl) hW (act_post (by simp only [lineM, badM, fulM, hca, hcb, c_10, c_18, c_29, c_45, eq_false c_54, c_82, c_102, eq_true c_114, eq_false c_133, eq_true c_140, eq_false c_153, eq_false c_163, eq_self, Nat.add_zero, decide_false, decide_true, Bool.not_true, Bool.not_false, Bool.and_true, Bool.true_and, Bool.and_false, Bool.false_and, Bool.or_true, Bool.true_or, Bool.or_false, Bool.false_or, ↓reduceIte, cond_true, cond_false, bI, and_true, true_and, and_false, false_and, or_true, true_or, or_false, false_or, not_true_eq_false, not_false_eq_true, if_true, if_false, Bool.false_eq_true, reduceCtorEq, ite_true, ite_false]) ⟨rfl, _, hKo, by rw [hca, hcb]; exact hKn, by rw [hca, hcb]⟩)
                        · skip
                          refine lv_sipush (v := (-1004)) S.1 S.2.1 dX6_line_166 (by decide) ?_
                          exact hR _ _ _ _ _ _ _ _ dX6_line_169 rfl (Nat.le_of_ble_eq_true rfl) (Nat.le_of_ble_eq_true rfl) hW (ref_post (by simp only [lineM, badM, fulM, hca, hcb, c_10, c_18, c_29, c_45, eq_false c_54, c_82, c_102, eq_true c_114, eq_false c_133, eq_true c_140, eq_false c_153, eq_true c_163, eq_self, Nat.add_zero, decide_false, decide_true, Bool.not_true, Bool.not_false, Bool.and_true, Bool.true_and, Bool.and_false, Bool.false_and, Bool.or_true, Bool.true_or, Bool.or_false, Bool.false_or, ↓reduceIte, cond_true, cond_false, bI, and_true, true_and, and_false, false_and, or_true, true_or, or_false, false_or, not_true_eq_false, not_false_eq_true, if_true, if_false, Bool.false_eq_true, reduceCtorEq, ite_true, ite_false]) ⟨_, rfl⟩)
                    · skip
                      refine lv_sipush (v := (-1003)) S.1 S.2.1 dX6_line_143 (by decide) ?_
                      exact hR _ _ _ _ _ _ _ _ dX6_line_146 rfl (Nat.le_of_ble_eq_true rfl) (Nat.le_of_ble_eq_true rfl) hW (ref_post (by simp only [lineM, badM, hca, hcb, c_10, c_18, c_29, c_45, eq_false c_54, c_82, c_102, eq_true c_114, eq_false c_133, eq_false c_140, eq_self, Nat.add_zero, decide_false, decide_true, Bool.not_true, Bool.not_false, Bool.and_true, Bool.true_and, Bool.and_false, Bool.false_and, Bool.or_true, Bool.true_or, Bool.or_false, Bool.false_or, ↓reduceIte, cond_true, cond_false, bI, and_true, true_and, and_false, false_and, or_true, true_or, or_false, false_or, not_true_eq_false, not_false_eq_true, if_true, if_false, Bool.false_eq_true, reduceCtorEq, ite_true, ite_false]) ⟨_, rfl⟩)
                · skip
                  refine lv_aload_n S.1 S.2.1 dX6_line_117 rfl (lv_at hl 1 rfl) ?_
                  refine lv_iload_n S.1 S.2.1 dX6_line_118 rfl (lv_at hl 2 rfl) ?_
                  refine lv_iload_n S.1 S.2.1 dX6_line_119 rfl (lv_at hl 3 rfl) ?_
                  refine kVi S (c_X6_farOf (l := l) (D := D) (cI := cI) (cZ := cZ) (cF := cF) (by first | assumption | omega) (by first | assumption | omega)) (cwV 2 S.2.2.2.2 gX6_line_X6_farOf rfl rfl rfl ⟨rfl, v_X6_farOf⟩ ⟨(Nat.le_of_ble_eq_true rfl), (Nat.le_of_ble_eq_true rfl)⟩) hk hW 0 rfl rfl rfl rfl hl rfl (Nat.le_of_ble_eq_true rfl) dX6_line_120 ⟨(Nat.le_of_ble_eq_true rfl), (Nat.le_of_ble_eq_true rfl)⟩ (fun r u H locs hp hW => ?_)
                  obtain ⟨rfl, rfl⟩ := hp
                  refine lv_iload_n S.1 S.2.1 dX6_line_123 rfl (lv_at hl 4 rfl) ?_
                  refine lv_iadd S.1 S.2.1 dX6_line_124 ?_
                  refine lv_if_lt (tgt := 143) S.1 S.2.1 dX6_line_125 (by decide) (fun c_125 => ?_) (fun c_125 => ?_)
                  · skip
                    refine lv_sipush (v := (-1003)) S.1 S.2.1 dX6_line_143 (by decide) ?_
                    exact hR _ _ _ _ _ _ _ _ dX6_line_146 rfl (Nat.le_of_ble_eq_true rfl) (Nat.le_of_ble_eq_true rfl) hW (ref_post (by simp only [lineM, badM, hca, hcb, c_10, c_18, c_29, c_45, eq_false c_54, c_82, c_102, eq_false c_114, eq_true c_125, eq_self, Nat.add_zero, decide_false, decide_true, Bool.not_true, Bool.not_false, Bool.and_true, Bool.true_and, Bool.and_false, Bool.false_and, Bool.or_true, Bool.true_or, Bool.or_false, Bool.false_or, ↓reduceIte, cond_true, cond_false, bI, and_true, true_and, and_false, false_and, or_true, true_or, or_false, false_or, not_true_eq_false, not_false_eq_true, if_true, if_false, Bool.false_eq_true, reduceCtorEq, ite_true, ite_false]) ⟨_, rfl⟩)
                  · skip
                    refine lv_iload S.1 S.2.1 dX6_line_128 (lv_at hl 0 rfl) ?_
                    refine lv_sipush (v := (-1000)) S.1 S.2.1 dX6_line_130 (by decide) ?_
                    refine lv_icmp_eq (tgt := 147) S.1 S.2.1 dX6_line_133 (by decide) (fun c_133 => ?_) (fun c_133 => ?_)
                    · skip
                      refine lv_aload_n S.1 S.2.1 dX6_line_147 rfl (lv_at hl 1 rfl) ?_
                      refine gf S hk hW 0 rfl rfl hwsX60 2 (by decide) 4 rfl rfl dX6_line_148 ?_
                      refine lv_bipush (v := nI 40) S.1 S.2.1 dX6_line_151 (by decide) ?_
                      refine iceq_n (tgt := 166) S (by omega) (by omega) dX6_line_153 (by decide) (fun c_153 => ?_) (fun c_153 => ?_)
                      · skip
                        refine lv_sipush (v := (-1004)) S.1 S.2.1 dX6_line_166 (by decide) ?_
                        exact hR _ _ _ _ _ _ _ _ dX6_line_169 rfl (Nat.le_of_ble_eq_true rfl) (Nat.le_of_ble_eq_true rfl) hW (ref_post (by simp only [lineM, badM, fulM, hca, hcb, c_10, c_18, c_29, c_45, eq_false c_54, c_82, c_102, eq_false c_114, eq_false c_125, eq_true c_133, eq_true c_153, eq_self, Nat.add_zero, decide_false, decide_true, Bool.not_true, Bool.not_false, Bool.and_true, Bool.true_and, Bool.and_false, Bool.false_and, Bool.or_true, Bool.true_or, Bool.or_false, Bool.false_or, ↓reduceIte, cond_true, cond_false, bI, and_true, true_and, and_false, false_and, or_true, true_or, or_false, false_or, not_true_eq_false, not_false_eq_true, if_true, if_false, Bool.false_eq_true, reduceCtorEq, ite_true, ite_false]) ⟨_, rfl⟩)
                      · skip
                        refine lv_aload_n S.1 S.2.1 dX6_line_156 rfl (lv_at hl 1 rfl) ?_
                        refine gf S hk hW 0 rfl rfl hwsX60 10 (by decide) 5 rfl rfl dX6_line_157 ?_
                        refine lv_sipush (v := nI 400) S.1 S.2.1 dX6_line_160 (by decide) ?_
                        refine icne_n (tgt := 170) S (by omega) (by omega) dX6_line_163 (by decide) (fun c_163 => ?_) (fun c_163 => ?_)
                        · skip
                          have hm : mayC v t = true := by rw [← mayM, c_29]; exact c_45
                          have G2 : Gok (addG g a b v t) := Gok_add G ha hb c_54 (by omega) hm
                          refine lv_aload_n S.1 S.2.1 dX6_line_170 rfl (lv_at hl 1 rfl) ?_
                          refine gf S hk hW 0 rfl rfl hwsX60 3 (by decide) 6 rfl rfl dX6_line_171 ?_
                          refine lv_aload_n S.1 S.2.1 dX6_line_174 rfl (lv_at hl 1 rfl) ?_
                          refine gf S hk hW 0 rfl rfl hwsX60 2 (by decide) 4 rfl rfl dX6_line_175 ?_
                          refine lv_iload_n S.1 S.2.1 dX6_line_178 rfl (lv_at hl 2 rfl) ?_
                          refine ist (w' := wM q cI cZ cF (sB g (upd (gB g) (gK g) (nI a))) ((lrn g (-1000) (-1000)).1) ke ac mk iv) S hk hW 1 rfl (gK g) rfl (by omega) (by omega) dX6_line_179 rfl (fun H locs hW => ?_)
                          refine lv_aload_n S.1 S.2.1 dX6_line_180 rfl (lv_at hl 1 rfl) ?_
                          refine gf S hk hW 0 rfl rfl hwsX60 4 (by decide) 7 rfl rfl dX6_line_181 ?_
                          refine lv_aload_n S.1 S.2.1 dX6_line_184 rfl (lv_at hl 1 rfl) ?_
                          refine gf S hk hW 0 rfl rfl hwsX60 2 (by decide) 4 rfl rfl dX6_line_185 ?_
                          refine lv_iload_n S.1 S.2.1 dX6_line_188 rfl (lv_at hl 3 rfl) ?_
                          refine ist (w' := wM q cI cZ cF (sE (sB g (upd (gB g) (gK g) (nI a))) (upd (gE g) (gK g) (nI b))) ((lrn g (-1000) (-1000)).1) ke ac mk iv) S hk hW 2 rfl (gK g) rfl (by omega) (by omega) dX6_line_189 rfl (fun H locs hW => ?_)
                          refine lv_aload_n S.1 S.2.1 dX6_line_190 rfl (lv_at hl 1 rfl) ?_
                          refine gf S hk hW 0 rfl rfl hwsX60 5 (by decide) 8 rfl rfl dX6_line_191 ?_
                          refine lv_aload_n S.1 S.2.1 dX6_line_194 rfl (lv_at hl 1 rfl) ?_
                          refine gf S hk hW 0 rfl rfl hwsX60 2 (by decide) 4 rfl rfl dX6_line_195 ?_
                          refine lv_iload_n S.1 S.2.1 dX6_line_198 rfl (lv_at hl 4 rfl) ?_
                          refine ist (w' := wM q cI cZ cF (sP (sE (sB g (upd (gB g) (gK g) (nI a))) (upd (gE g) (gK g) (nI b))) (upd (gP g) (gK g) v)) ((lrn g (-1000) (-1000)).1) ke ac mk iv) S hk hW 3 rfl (gK g) rfl (by omega) (by omega) dX6_line_199 rfl (fun H locs hW => ?_)
                          refine lv_aload_n S.1 S.2.1 dX6_line_200 rfl (lv_at hl 1 rfl) ?_
                          refine gf S hk hW 0 rfl rfl hwsX60 6 (by decide) 9 rfl rfl dX6_line_201 ?_
                          refine lv_aload_n S.1 S.2.1 dX6_line_204 rfl (lv_at hl 1 rfl) ?_
                          refine gf S hk hW 0 rfl rfl hwsX60 2 (by decide) 4 rfl rfl dX6_line_205 ?_
                          refine lv_iload S.1 S.2.1 dX6_line_208 (lv_at hl 5 rfl) ?_
                          refine zst (w' := wM q cI cZ cF (sW (sP (sE (sB g (upd (gB g) (gK g) (nI a))) (upd (gE g) (gK g) (nI b))) (upd (gP g) (gK g) v)) (upd (gW g) (gK g) (bI t))) ((lrn g (-1000) (-1000)).1) ke ac mk iv) S hk hW 4 rfl (gK g) rfl (by omega) (by omega) (bI_01 _) dX6_line_210 rfl (fun H locs hW => ?_)
                          refine lv_aload_n S.1 S.2.1 dX6_line_211 rfl (lv_at hl 1 rfl) ?_
                          refine gf S hk hW 0 rfl rfl hwsX60 7 (by decide) 10 rfl rfl dX6_line_212 ?_
                          refine lv_aload_n S.1 S.2.1 dX6_line_215 rfl (lv_at hl 1 rfl) ?_
                          refine gf S hk hW 0 rfl rfl hwsX60 2 (by decide) 4 rfl rfl dX6_line_216 ?_
                          refine lv_iconst (v := nI 1) S.1 S.2.1 dX6_line_219 (by decide) ?_
                          refine zst (w' := wM q cI cZ cF (sT (sW (sP (sE (sB g (upd (gB g) (gK g) (nI a))) (upd (gE g) (gK g) (nI b))) (upd (gP g) (gK g) v)) (upd (gW g) (gK g) (bI t))) (upd (gT g) (gK g) (nI 1))) ((lrn g (-1000) (-1000)).1) ke ac mk iv) S hk hW 5 rfl (gK g) rfl (by omega) (by omega) (Or.inr rfl) dX6_line_220 rfl (fun H locs hW => ?_)
                          refine lv_aload_n S.1 S.2.1 dX6_line_221 rfl (lv_at hl 1 rfl) ?_
                          refine lv_dup S.1 S.2.1 dX6_line_222 rfl ?_
                          refine gf S hk hW 0 rfl rfl hwsX60 2 (by decide) 4 rfl rfl dX6_line_223 ?_
                          refine lv_iconst (v := nI 1) S.1 S.2.1 dX6_line_226 (by decide) ?_
                          refine lv_iadd S.1 S.2.1 dX6_line_227 (top_eq (nI_add _ _) ?_)
                          refine pf (ty := .int) (w' := wM q cI cZ cF (sT (sW (sP (sE (sB (sK g ((gK g) + 1)) (upd (gB g) (gK g) (nI a))) (upd (gE g) (gK g) (nI b))) (upd (gP g) (gK g) v)) (upd (gW g) (gK g) (bI t))) (upd (gT g) (gK g) (nI 1))) ((lrn g (-1000) (-1000)).1) ke ac mk iv) S hk hW 0 rfl rfl hwsX60 tyX6 tyX6_ok nmX6 2 (by decide) 4 rfl rfl (by decide +kernel) rfl rfl (Nat.le_of_ble_eq_true rfl) dX6_line_228 rfl (fun H locs hW => ?_)
                          refine lv_aload_n S.1 S.2.1 dX6_line_231 rfl (lv_at hl 1 rfl) ?_
                          refine kVv S (c_X6_did (l := l) (D := D) (cI := cI) (cZ := cZ) (cF := cF) G2 (by omega)) (cwV 0 S.2.2.2.2 gX6_line_X6_did rfl rfl rfl ⟨rfl, v_X6_did⟩ ⟨(Nat.le_of_ble_eq_true rfl), (Nat.le_of_ble_eq_true rfl)⟩) hk hW 0 rfl rfl rfl rfl hl rfl (Nat.le_of_ble_eq_true rfl) dX6_line_232 ⟨(Nat.le_of_ble_eq_true rfl), (Nat.le_of_ble_eq_true rfl)⟩ (fun u H locs hp hW => ?_)
                          obtain ⟨ke'_5, hKo, hKn, rfl⟩ := hp
                          refine lv_aload_n S.1 S.2.1 dX6_line_235 rfl (lv_at hl 1 rfl) ?_
                          refine gf S hk hW 0 rfl rfl hwsX60 2 (by decide) 4 rfl rfl dX6_line_236 ?_
                          refine lv_iconst (v := nI 1) S.1 S.2.1 dX6_line_239 (by decide) ?_
                          refine lv_isub S.1 S.2.1 dX6_line_240 (top_eq (pk_sub (show 1 ≤ gK g + 1 from Nat.le_add_left _ _)) ?_)
                          exact hR _ _ _ _ _ _ _ _ dX6_line_241 rfl (Nat.le_of_ble_eq_true rfl) (Nat.le_of_ble_eq_true rfl) hW (act_post (by simp only [lineM, badM, fulM, hca, hcb, c_10, c_18, c_29, c_45, eq_false c_54, c_82, c_102, eq_false c_114, eq_false c_125, eq_true c_133, eq_false c_153, eq_false c_163, eq_self, Nat.add_zero, decide_false, decide_true, Bool.not_true, Bool.not_false, Bool.and_true, Bool.true_and, Bool.and_false, Bool.false_and, Bool.or_true, Bool.true_or, Bool.or_false, Bool.false_or, ↓reduceIte, cond_true, cond_false, bI, and_true, true_and, and_false, false_and, or_true, true_or, or_false, false_or, not_true_eq_false, not_false_eq_true, if_true, if_false, Bool.false_eq_true, reduceCtorEq, ite_true, ite_false]) ⟨rfl, _, hKo, by rw [hca, hcb]; exact hKn, by rw [hca, hcb]⟩)
                        · skip
                          refine lv_sipush (v := (-1004)) S.1 S.2.1 dX6_line_166 (by decide) ?_
                          exact hR _ _ _ _ _ _ _ _ dX6_line_169 rfl (Nat.le_of_ble_eq_true rfl) (Nat.le_of_ble_eq_true rfl) hW (ref_post (by simp only [lineM, badM, fulM, hca, hcb, c_10, c_18, c_29, c_45, eq_false c_54, c_82, c_102, eq_false c_114, eq_false c_125, eq_true c_133, eq_false c_153, eq_true c_163, eq_self, Nat.add_zero, decide_false, decide_true, Bool.not_true, Bool.not_false, Bool.and_true, Bool.true_and, Bool.and_false, Bool.false_and, Bool.or_true, Bool.true_or, Bool.or_false, Bool.false_or, ↓reduceIte, cond_true, cond_false, bI, and_true, true_and, and_false, false_and, or_true, true_or, or_false, false_or, not_true_eq_false, not_false_eq_true, if_true, if_false, Bool.false_eq_true, reduceCtorEq, ite_true, ite_false]) ⟨_, rfl⟩)
                    · skip
                      refine lv_iload S.1 S.2.1 dX6_line_136 (lv_at hl 0 rfl) ?_
                      refine lv_iload_n S.1 S.2.1 dX6_line_138 rfl (lv_at hl 4 rfl) ?_
                      refine lv_iadd S.1 S.2.1 dX6_line_139 ?_
                      refine lv_if_ge (tgt := 147) S.1 S.2.1 dX6_line_140 (by decide) (fun c_140 => ?_) (fun c_140 => ?_)
                      · skip
                        refine lv_aload_n S.1 S.2.1 dX6_line_147 rfl (lv_at hl 1 rfl) ?_
                        refine gf S hk hW 0 rfl rfl hwsX60 2 (by decide) 4 rfl rfl dX6_line_148 ?_
                        refine lv_bipush (v := nI 40) S.1 S.2.1 dX6_line_151 (by decide) ?_
                        refine iceq_n (tgt := 166) S (by omega) (by omega) dX6_line_153 (by decide) (fun c_153 => ?_) (fun c_153 => ?_)
                        · skip
                          refine lv_sipush (v := (-1004)) S.1 S.2.1 dX6_line_166 (by decide) ?_
                          exact hR _ _ _ _ _ _ _ _ dX6_line_169 rfl (Nat.le_of_ble_eq_true rfl) (Nat.le_of_ble_eq_true rfl) hW (ref_post (by simp only [lineM, badM, fulM, hca, hcb, c_10, c_18, c_29, c_45, eq_false c_54, c_82, c_102, eq_false c_114, eq_false c_125, eq_false c_133, eq_true c_140, eq_true c_153, eq_self, Nat.add_zero, decide_false, decide_true, Bool.not_true, Bool.not_false, Bool.and_true, Bool.true_and, Bool.and_false, Bool.false_and, Bool.or_true, Bool.true_or, Bool.or_false, Bool.false_or, ↓reduceIte, cond_true, cond_false, bI, and_true, true_and, and_false, false_and, or_true, true_or, or_false, false_or, not_true_eq_false, not_false_eq_true, if_true, if_false, Bool.false_eq_true, reduceCtorEq, ite_true, ite_false]) ⟨_, rfl⟩)
                        · skip
                          refine lv_aload_n S.1 S.2.1 dX6_line_156 rfl (lv_at hl 1 rfl) ?_
                          refine gf S hk hW 0 rfl rfl hwsX60 10 (by decide) 5 rfl rfl dX6_line_157 ?_
                          refine lv_sipush (v := nI 400) S.1 S.2.1 dX6_line_160 (by decide) ?_
                          refine icne_n (tgt := 170) S (by omega) (by omega) dX6_line_163 (by decide) (fun c_163 => ?_) (fun c_163 => ?_)
                          · skip
                            have hm : mayC v t = true := by rw [← mayM, c_29]; exact c_45
                            have G2 : Gok (addG g a b v t) := Gok_add G ha hb c_54 (by omega) hm
                            refine lv_aload_n S.1 S.2.1 dX6_line_170 rfl (lv_at hl 1 rfl) ?_
                            refine gf S hk hW 0 rfl rfl hwsX60 3 (by decide) 6 rfl rfl dX6_line_171 ?_
                            refine lv_aload_n S.1 S.2.1 dX6_line_174 rfl (lv_at hl 1 rfl) ?_
                            refine gf S hk hW 0 rfl rfl hwsX60 2 (by decide) 4 rfl rfl dX6_line_175 ?_
                            refine lv_iload_n S.1 S.2.1 dX6_line_178 rfl (lv_at hl 2 rfl) ?_
                            refine ist (w' := wM q cI cZ cF (sB g (upd (gB g) (gK g) (nI a))) ((lrn g (-1000) (-1000)).1) ke ac mk iv) S hk hW 1 rfl (gK g) rfl (by omega) (by omega) dX6_line_179 rfl (fun H locs hW => ?_)
                            refine lv_aload_n S.1 S.2.1 dX6_line_180 rfl (lv_at hl 1 rfl) ?_
                            refine gf S hk hW 0 rfl rfl hwsX60 4 (by decide) 7 rfl rfl dX6_line_181 ?_
                            refine lv_aload_n S.1 S.2.1 dX6_line_184 rfl (lv_at hl 1 rfl) ?_
                            refine gf S hk hW 0 rfl rfl hwsX60 2 (by decide) 4 rfl rfl dX6_line_185 ?_
                            refine lv_iload_n S.1 S.2.1 dX6_line_188 rfl (lv_at hl 3 rfl) ?_
                            refine ist (w' := wM q cI cZ cF (sE (sB g (upd (gB g) (gK g) (nI a))) (upd (gE g) (gK g) (nI b))) ((lrn g (-1000) (-1000)).1) ke ac mk iv) S hk hW 2 rfl (gK g) rfl (by omega) (by omega) dX6_line_189 rfl (fun H locs hW => ?_)
                            refine lv_aload_n S.1 S.2.1 dX6_line_190 rfl (lv_at hl 1 rfl) ?_
                            refine gf S hk hW 0 rfl rfl hwsX60 5 (by decide) 8 rfl rfl dX6_line_191 ?_
                            refine lv_aload_n S.1 S.2.1 dX6_line_194 rfl (lv_at hl 1 rfl) ?_
                            refine gf S hk hW 0 rfl rfl hwsX60 2 (by decide) 4 rfl rfl dX6_line_195 ?_
                            refine lv_iload_n S.1 S.2.1 dX6_line_198 rfl (lv_at hl 4 rfl) ?_
                            refine ist (w' := wM q cI cZ cF (sP (sE (sB g (upd (gB g) (gK g) (nI a))) (upd (gE g) (gK g) (nI b))) (upd (gP g) (gK g) v)) ((lrn g (-1000) (-1000)).1) ke ac mk iv) S hk hW 3 rfl (gK g) rfl (by omega) (by omega) dX6_line_199 rfl (fun H locs hW => ?_)
                            refine lv_aload_n S.1 S.2.1 dX6_line_200 rfl (lv_at hl 1 rfl) ?_
                            refine gf S hk hW 0 rfl rfl hwsX60 6 (by decide) 9 rfl rfl dX6_line_201 ?_
                            refine lv_aload_n S.1 S.2.1 dX6_line_204 rfl (lv_at hl 1 rfl) ?_
                            refine gf S hk hW 0 rfl rfl hwsX60 2 (by decide) 4 rfl rfl dX6_line_205 ?_
                            refine lv_iload S.1 S.2.1 dX6_line_208 (lv_at hl 5 rfl) ?_
                            refine zst (w' := wM q cI cZ cF (sW (sP (sE (sB g (upd (gB g) (gK g) (nI a))) (upd (gE g) (gK g) (nI b))) (upd (gP g) (gK g) v)) (upd (gW g) (gK g) (bI t))) ((lrn g (-1000) (-1000)).1) ke ac mk iv) S hk hW 4 rfl (gK g) rfl (by omega) (by omega) (bI_01 _) dX6_line_210 rfl (fun H locs hW => ?_)
                            refine lv_aload_n S.1 S.2.1 dX6_line_211 rfl (lv_at hl 1 rfl) ?_
                            refine gf S hk hW 0 rfl rfl hwsX60 7 (by decide) 10 rfl rfl dX6_line_212 ?_
                            refine lv_aload_n S.1 S.2.1 dX6_line_215 rfl (lv_at hl 1 rfl) ?_
                            refine gf S hk hW 0 rfl rfl hwsX60 2 (by decide) 4 rfl rfl dX6_line_216 ?_
                            refine lv_iconst (v := nI 1) S.1 S.2.1 dX6_line_219 (by decide) ?_
                            refine zst (w' := wM q cI cZ cF (sT (sW (sP (sE (sB g (upd (gB g) (gK g) (nI a))) (upd (gE g) (gK g) (nI b))) (upd (gP g) (gK g) v)) (upd (gW g) (gK g) (bI t))) (upd (gT g) (gK g) (nI 1))) ((lrn g (-1000) (-1000)).1) ke ac mk iv) S hk hW 5 rfl (gK g) rfl (by omega) (by omega) (Or.inr rfl) dX6_line_220 rfl (fun H locs hW => ?_)
                            refine lv_aload_n S.1 S.2.1 dX6_line_221 rfl (lv_at hl 1 rfl) ?_
                            refine lv_dup S.1 S.2.1 dX6_line_222 rfl ?_
                            refine gf S hk hW 0 rfl rfl hwsX60 2 (by decide) 4 rfl rfl dX6_line_223 ?_
                            refine lv_iconst (v := nI 1) S.1 S.2.1 dX6_line_226 (by decide) ?_
                            refine lv_iadd S.1 S.2.1 dX6_line_227 (top_eq (nI_add _ _) ?_)
                            refine pf (ty := .int) (w' := wM q cI cZ cF (sT (sW (sP (sE (sB (sK g ((gK g) + 1)) (upd (gB g) (gK g) (nI a))) (upd (gE g) (gK g) (nI b))) (upd (gP g) (gK g) v)) (upd (gW g) (gK g) (bI t))) (upd (gT g) (gK g) (nI 1))) ((lrn g (-1000) (-1000)).1) ke ac mk iv) S hk hW 0 rfl rfl hwsX60 tyX6 tyX6_ok nmX6 2 (by decide) 4 rfl rfl (by decide +kernel) rfl rfl (Nat.le_of_ble_eq_true rfl) dX6_line_228 rfl (fun H locs hW => ?_)
                            refine lv_aload_n S.1 S.2.1 dX6_line_231 rfl (lv_at hl 1 rfl) ?_
                            refine kVv S (c_X6_did (l := l) (D := D) (cI := cI) (cZ := cZ) (cF := cF) G2 (by omega)) (cwV 0 S.2.2.2.2 gX6_line_X6_did rfl rfl rfl ⟨rfl, v_X6_did⟩ ⟨(Nat.le_of_ble_eq_true rfl), (Nat.le_of_ble_eq_true rfl)⟩) hk hW 0 rfl rfl rfl rfl hl rfl (Nat.le_of_ble_eq_true rfl) dX6_line_232 ⟨(Nat.le_of_ble_eq_true rfl), (Nat.le_of_ble_eq_true rfl)⟩ (fun u H locs hp hW => ?_)
                            obtain ⟨ke'_6, hKo, hKn, rfl⟩ := hp
                            refine lv_aload_n S.1 S.2.1 dX6_line_235 rfl (lv_at hl 1 rfl) ?_
                            refine gf S hk hW 0 rfl rfl hwsX60 2 (by decide) 4 rfl rfl dX6_line_236 ?_
                            refine lv_iconst (v := nI 1) S.1 S.2.1 dX6_line_239 (by decide) ?_
                            refine lv_isub S.1 S.2.1 dX6_line_240 (top_eq (pk_sub (show 1 ≤ gK g + 1 from Nat.le_add_left _ _)) ?_)
                            exact hR _ _ _ _ _ _ _ _ dX6_line_241 rfl (Nat.le_of_ble_eq_true rfl) (Nat.le_of_ble_eq_true rfl) hW (act_post (by simp only [lineM, badM, fulM, hca, hcb, c_10, c_18, c_29, c_45, eq_false c_54, c_82, c_102, eq_false c_114, eq_false c_125, eq_false c_133, eq_true c_140, eq_false c_153, eq_false c_163, eq_self, Nat.add_zero, decide_false, decide_true, Bool.not_true, Bool.not_false, Bool.and_true, Bool.true_and, Bool.and_false, Bool.false_and, Bool.or_true, Bool.true_or, Bool.or_false, Bool.false_or, ↓reduceIte, cond_true, cond_false, bI, and_true, true_and, and_false, false_and, or_true, true_or, or_false, false_or, not_true_eq_false, not_false_eq_true, if_true, if_false, Bool.false_eq_true, reduceCtorEq, ite_true, ite_false]) ⟨rfl, _, hKo, by rw [hca, hcb]; exact hKn, by rw [hca, hcb]⟩)
                          · skip
                            refine lv_sipush (v := (-1004)) S.1 S.2.1 dX6_line_166 (by decide) ?_
                            exact hR _ _ _ _ _ _ _ _ dX6_line_169 rfl (Nat.le_of_ble_eq_true rfl) (Nat.le_of_ble_eq_true rfl) hW (ref_post (by simp only [lineM, badM, fulM, hca, hcb, c_10, c_18, c_29, c_45, eq_false c_54, c_82, c_102, eq_false c_114, eq_false c_125, eq_false c_133, eq_true c_140, eq_false c_153, eq_true c_163, eq_self, Nat.add_zero, decide_false, decide_true, Bool.not_true, Bool.not_false, Bool.and_true, Bool.true_and, Bool.and_false, Bool.false_and, Bool.or_true, Bool.true_or, Bool.or_false, Bool.false_or, ↓reduceIte, cond_true, cond_false, bI, and_true, true_and, and_false, false_and, or_true, true_or, or_false, false_or, not_true_eq_false, not_false_eq_true, if_true, if_false, Bool.false_eq_true, reduceCtorEq, ite_true, ite_false]) ⟨_, rfl⟩)
                      · skip
                        refine lv_sipush (v := (-1003)) S.1 S.2.1 dX6_line_143 (by decide) ?_
                        exact hR _ _ _ _ _ _ _ _ dX6_line_146 rfl (Nat.le_of_ble_eq_true rfl) (Nat.le_of_ble_eq_true rfl) hW (ref_post (by simp only [lineM, badM, hca, hcb, c_10, c_18, c_29, c_45, eq_false c_54, c_82, c_102, eq_false c_114, eq_false c_125, eq_false c_133, eq_false c_140, eq_self, Nat.add_zero, decide_false, decide_true, Bool.not_true, Bool.not_false, Bool.and_true, Bool.true_and, Bool.and_false, Bool.false_and, Bool.or_true, Bool.true_or, Bool.or_false, Bool.false_or, ↓reduceIte, cond_true, cond_false, bI, and_true, true_and, and_false, false_and, or_true, true_or, or_false, false_or, not_true_eq_false, not_false_eq_true, if_true, if_false, Bool.false_eq_true, reduceCtorEq, ite_true, ite_false]) ⟨_, rfl⟩)
            · skip
              exact absurd (c_29.symm.trans c_82) (by decide)
          · skip
            refine lv_sipush (v := (-1003)) S.1 S.2.1 dX6_line_57 (by decide) ?_
            exact hR _ _ _ _ _ _ _ _ dX6_line_60 rfl (Nat.le_of_ble_eq_true rfl) (Nat.le_of_ble_eq_true rfl) hW (ref_post (by simp only [lineM, hca, hcb, c_10, c_18, c_29, c_45, eq_true c_54, eq_self, Nat.add_zero, decide_false, decide_true, Bool.not_true, Bool.not_false, Bool.and_true, Bool.true_and, Bool.and_false, Bool.false_and, Bool.or_true, Bool.true_or, Bool.or_false, Bool.false_or, ↓reduceIte, cond_true, cond_false, bI, and_true, true_and, and_false, false_and, or_true, true_or, or_false, false_or, not_true_eq_false, not_false_eq_true, if_true, if_false, Bool.false_eq_true, reduceCtorEq, ite_true, ite_false]) ⟨_, rfl⟩)
        · skip
          refine lv_sipush (v := (-1002)) S.1 S.2.1 dX6_line_48 (by decide) ?_
          exact hR _ _ _ _ _ _ _ _ dX6_line_51 rfl (Nat.le_of_ble_eq_true rfl) (Nat.le_of_ble_eq_true rfl) hW (ref_post (by simp only [lineM, hca, hcb, c_10, c_18, c_29, c_45, eq_self, Nat.add_zero, decide_false, decide_true, Bool.not_true, Bool.not_false, Bool.and_true, Bool.true_and, Bool.and_false, Bool.false_and, Bool.or_true, Bool.true_or, Bool.or_false, Bool.false_or, ↓reduceIte, cond_true, cond_false, bI, and_true, true_and, and_false, false_and, or_true, true_or, or_false, false_or, not_true_eq_false, not_false_eq_true, if_true, if_false, Bool.false_eq_true, reduceCtorEq, ite_true, ite_false]) ⟨_, rfl⟩)
    · skip
      refine lv_sipush (v := (-1001)) S.1 S.2.1 dX6_line_21 (by decide) ?_
      exact hR _ _ _ _ _ _ _ _ dX6_line_24 rfl (Nat.le_of_ble_eq_true rfl) (Nat.le_of_ble_eq_true rfl) hW (ref_post (by simp only [lineM, c_10, c_18, eq_self, Nat.add_zero, decide_false, decide_true, Bool.not_true, Bool.not_false, Bool.and_true, Bool.true_and, Bool.and_false, Bool.false_and, Bool.or_true, Bool.true_or, Bool.or_false, Bool.false_or, ↓reduceIte, cond_true, cond_false, bI, and_true, true_and, and_false, false_and, or_true, true_or, or_false, false_or, not_true_eq_false, not_false_eq_true, if_true, if_false, Bool.false_eq_true, reduceCtorEq, ite_true, ite_false]) ⟨_, rfl⟩)
abbrev r_X6_price : Room := { frames := 3, cells := 0, slots := 0, locals := 62 }
theorem v_X6_price : yX6_price.cls ≠ "java/lang/invoke/MethodHandle" ∧ yX6_price.cls ≠ "java/lang/invoke/VarHandle" ∧ (parseMethodDescriptor yX6_price.desc).map (fun d => d.parameters.length) = some 2 := by decide +kernel
set_option maxRecDepth 100000 in
set_option maxHeartbeats 4000000 in
theorem c_X6_price {l : Launch} {D : va_G} {cI cZ cF : ClassId} {q : Nat → Nat} {g : Gr} {fi ke : Nat → Int32} {ac : Nat} {mk : Int32} {iv : Nat → Int32} {x v : Int32} (G : Gok g) (hac : ac ≤ 400) : cI_ l D cI cZ cF yX6_price wsX6_price r_X6_price [.ref (q 0), .int x, .int v] (wM q cI cZ cF g fi ke ac mk iv) (fun r u => (∀ z, priceM g x v ac = some z → r = z ∧ ∃ fi', u = wM q cI cZ cF g fi' ke ac mk iv) ∧ (priceM g x v ac = none → r = gP g x.toNatClampNeg ∧ actM q cI cZ cF (sP g (upd (gP g) x.toNatClampNeg v)) (ac + 1) ke mk iv u)) 0 0 := by
  refine cI_of (cc := cX6_price) (maxL := 4) (rt := .int) (plainFor_of_name (by decide +kernel)) rfl (Nat.le_of_ble_eq_true rfl) ?_
  intro p e s m args below meth c A Q ls S hk hW hl hR
  have hl : lv_has ls 4 [(0, .ref (q 0)), (1, .int x), (2, .int v)] := hl
  have hwsX60 : ∀ x ∈ wsX60, x ∈ wsX6_price := fun x h => List.mem_cons_of_mem _ (List.mem_append_right _ h)
  have hN := Gok_N G; have hN2 := Gok_N2 G; have hKK := Gok_K G
  refine lv_aload_n S.1 S.2.1 dX6_price_0 rfl (lv_at hl 0 rfl) ?_
  refine lv_iconst (v := nI 0) S.1 S.2.1 dX6_price_1 (by decide) ?_
  refine pf (ty := .int) (w' := wM q cI cZ cF g fi ke ac mk iv) S hk hW 0 rfl rfl hwsX60 tyX6 tyX6_ok nmX6 0 (by decide) 1 rfl rfl (by decide +kernel) rfl rfl (Nat.le_of_ble_eq_true rfl) dX6_price_2 rfl (fun H locs hW => ?_)
  refine lv_aload_n S.1 S.2.1 dX6_price_5 rfl (lv_at hl 0 rfl) ?_
  refine lv_iload_n S.1 S.2.1 dX6_price_6 rfl (lv_at hl 1 rfl) ?_
  refine kVi S (c_X6_noLine (l := l) (D := D) (cI := cI) (cZ := cZ) (cF := cF) G) (cwV 1 S.2.2.2.2 gX6_price_X6_noLine rfl rfl rfl ⟨rfl, v_X6_noLine⟩ ⟨(Nat.le_of_ble_eq_true rfl), (Nat.le_of_ble_eq_true rfl)⟩) hk hW 0 rfl rfl rfl rfl hl rfl (Nat.le_of_ble_eq_true rfl) dX6_price_7 ⟨(Nat.le_of_ble_eq_true rfl), (Nat.le_of_ble_eq_true rfl)⟩ (fun r u H locs hp hW => ?_)
  obtain ⟨rfl, rfl⟩ := hp
  refine ifeq_nb (tgt := 17) S dX6_price_10 (by decide) (fun c_10 => ?_) (fun c_10 => ?_)
  · skip
    obtain ⟨j, hj, rfl⟩ := inb_nat c_10 (by omega)
    have hcj : (nI j).toNatClampNeg = j := nI_clamp (by omega)
    refine lv_iload_n S.1 S.2.1 dX6_price_17 rfl (lv_at hl 2 rfl) ?_
    refine lv_i2l S.1 S.2.1 dX6_price_18 rfl ?_
    refine lv_aload_n S.1 S.2.1 dX6_price_19 rfl (lv_at hl 0 rfl) ?_
    refine gf S hk hW 0 rfl rfl hwsX60 6 (by decide) 2 rfl rfl dX6_price_20 ?_
    refine lv_iload_n S.1 S.2.1 dX6_price_23 rfl (lv_at hl 1 rfl) ?_
    refine zld S hk hW 4 rfl j rfl (by omega) (by omega) dX6_price_24 ?_
    refine top_eq (Gok_W G (j := j) (by omega)) ?_
    refine ifeq_b (tgt := 32) S dX6_price_25 (by decide) (fun c_25 => ?_) (fun c_25 => ?_)
    · skip
      refine lv_ldc2 (v := (-50)) S.1 S.2.1 S.2.2.2.1 (S.2.2.2.2 _ (List.mem_of_getElem? (i := 3) rfl)) dX6_price_32 ?_
      refine lv_ldc2 (v := 99) S.1 S.2.1 S.2.2.2.1 (S.2.2.2.2 _ (List.mem_of_getElem? (i := 4) rfl)) dX6_price_35 ?_
      refine kSi S (c_X6_in (l := l) (D := D) (cI := cI) (cZ := cZ) (cF := cF)) (va_cwS 3 S.2.2.2.2 gX6_price_X6_in rfl rfl rfl v_X6_in ⟨(Nat.le_of_ble_eq_true rfl), (Nat.le_of_ble_eq_true rfl)⟩) hk hW rfl hl rfl (Nat.le_of_ble_eq_true rfl) dX6_price_38 ⟨(Nat.le_of_ble_eq_true rfl), (Nat.le_of_ble_eq_true rfl)⟩ (fun r u H locs hp hW => ?_)
      obtain ⟨rfl, rfl⟩ := hp
      refine ifne_b (tgt := 48) S dX6_price_41 (by decide) (fun c_41 => ?_) (fun c_41 => ?_)
      · skip
        have hm : mayC v (bW g j) = true := by rw [← mayM, c_25]; exact c_41
        have G2 := Gok_price G hj hm
        refine lv_aload_n S.1 S.2.1 dX6_price_48 rfl (lv_at hl 0 rfl) ?_
        refine gf S hk hW 0 rfl rfl hwsX60 5 (by decide) 5 rfl rfl dX6_price_49 ?_
        refine lv_iload_n S.1 S.2.1 dX6_price_52 rfl (lv_at hl 1 rfl) ?_
        refine ild S hk hW 3 rfl j rfl (by omega) (by omega) dX6_price_53 ?_
        refine lv_istore_n (lv' := [(3, .int (gP g j)), (0, .ref (q 0)), (1, .int (nI j)), (2, .int v)]) S.1 S.2.1 dX6_price_54 rfl hl (by decide) rfl (fun ls hl => ?_)
        refine lv_iload_n S.1 S.2.1 dX6_price_55 rfl (lv_at hl 0 rfl) ?_
        refine lv_iload_n S.1 S.2.1 dX6_price_56 rfl (lv_at hl 3 rfl) ?_
        refine lv_icmp_ne (tgt := 62) S.1 S.2.1 dX6_price_57 (by decide) (fun c_57 => ?_) (fun c_57 => ?_)
        · skip
          refine lv_aload_n S.1 S.2.1 dX6_price_62 rfl (lv_at hl 1 rfl) ?_
          refine gf S hk hW 0 rfl rfl hwsX60 5 (by decide) 5 rfl rfl dX6_price_63 ?_
          refine lv_iload_n S.1 S.2.1 dX6_price_66 rfl (lv_at hl 2 rfl) ?_
          refine lv_iload_n S.1 S.2.1 dX6_price_67 rfl (lv_at hl 3 rfl) ?_
          refine ist (w' := wM q cI cZ cF (sP g (upd (gP g) j v)) fi ke ac mk iv) S hk hW 3 rfl j rfl (by omega) (by omega) dX6_price_68 rfl (fun H locs hW => ?_)
          refine lv_aload_n S.1 S.2.1 dX6_price_69 rfl (lv_at hl 1 rfl) ?_
          refine lv_sipush (v := (-1000)) S.1 S.2.1 dX6_price_70 (by decide) ?_
          refine lv_sipush (v := (-1000)) S.1 S.2.1 dX6_price_73 (by decide) ?_
          refine kVi S (c_X6_learn (l := l) (D := D) (cI := cI) (cZ := cZ) (cF := cF) G2) (cwV 2 S.2.2.2.2 gX6_price_X6_learn rfl rfl rfl ⟨rfl, v_X6_learn⟩ ⟨(Nat.le_of_ble_eq_true rfl), (Nat.le_of_ble_eq_true rfl)⟩) hk hW 0 rfl rfl rfl rfl hl rfl (Nat.le_of_ble_eq_true rfl) dX6_price_76 ⟨(Nat.le_of_ble_eq_true rfl), (Nat.le_of_ble_eq_true rfl)⟩ (fun r u H locs hp hW => ?_)
          obtain ⟨rfl, rfl⟩ := hp
          refine ifne_b (tgt := 93) S dX6_price_79 (by decide) (fun c_79 => ?_) (fun c_79 => ?_)
          · skip
            refine lv_aload_n S.1 S.2.1 dX6_price_93 rfl (lv_at hl 1 rfl) ?_
            refine gf S hk hW 0 rfl rfl hwsX60 10 (by decide) 6 rfl rfl dX6_price_94 ?_
            refine lv_sipush (v := nI 400) S.1 S.2.1 dX6_price_97 (by decide) ?_
            refine icne_n (tgt := 114) S (by omega) (by omega) dX6_price_100 (by decide) (fun c_100 => ?_) (fun c_100 => ?_)
            · skip
              refine lv_aload_n S.1 S.2.1 dX6_price_114 rfl (lv_at hl 1 rfl) ?_
              refine kVv S (c_X6_did (l := l) (D := D) (cI := cI) (cZ := cZ) (cF := cF) G2 (by omega)) (cwV 0 S.2.2.2.2 gX6_price_X6_did rfl rfl rfl ⟨rfl, v_X6_did⟩ ⟨(Nat.le_of_ble_eq_true rfl), (Nat.le_of_ble_eq_true rfl)⟩) hk hW 0 rfl rfl rfl rfl hl rfl (Nat.le_of_ble_eq_true rfl) dX6_price_115 ⟨(Nat.le_of_ble_eq_true rfl), (Nat.le_of_ble_eq_true rfl)⟩ (fun u H locs hp hW => ?_)
              obtain ⟨ke'_1, hKo, hKn, rfl⟩ := hp
              refine lv_iload_n S.1 S.2.1 dX6_price_118 rfl (lv_at hl 0 rfl) ?_
              exact hR _ _ _ _ _ _ _ _ dX6_price_119 rfl (Nat.le_of_ble_eq_true rfl) (Nat.le_of_ble_eq_true rfl) hW (act_post (by simp only [priceM, fulM, hcj, c_10, c_25, c_41, eq_false c_57, c_79, eq_false c_100, eq_self, Nat.add_zero, decide_false, decide_true, Bool.not_true, Bool.not_false, Bool.and_true, Bool.true_and, Bool.and_false, Bool.false_and, Bool.or_true, Bool.true_or, Bool.or_false, Bool.false_or, ↓reduceIte, cond_true, cond_false, bI, and_true, true_and, and_false, false_and, or_true, true_or, or_false, false_or, not_true_eq_false, not_false_eq_true, if_true, if_false, Bool.false_eq_true, reduceCtorEq, ite_true, ite_false]) ⟨by rw [hcj], _, hKo, by rw [hcj]; exact hKn, by rw [hcj]⟩)
            · skip
              refine lv_aload_n S.1 S.2.1 dX6_price_103 rfl (lv_at hl 1 rfl) ?_
              refine gf S hk hW 0 rfl rfl hwsX60 5 (by decide) 5 rfl rfl dX6_price_104 ?_
              refine lv_iload_n S.1 S.2.1 dX6_price_107 rfl (lv_at hl 2 rfl) ?_
              refine lv_iload_n S.1 S.2.1 dX6_price_108 rfl (lv_at hl 0 rfl) ?_
              refine ist (w' := wM q cI cZ cF (sP g (upd (upd (gP g) j v) j (gP g j))) ((lrn (sP g (upd (gP g) j v)) (-1000) (-1000)).1) ke ac mk iv) S hk hW 3 rfl j rfl (by omega) (by omega) dX6_price_109 rfl (fun H locs hW => ?_)
              rw [show sP g (upd (upd (gP g) j v) j (gP g j)) = g from sP_back] at hW
              refine lv_sipush (v := (-1004)) S.1 S.2.1 dX6_price_110 (by decide) ?_
              exact hR _ _ _ _ _ _ _ _ dX6_price_113 rfl (Nat.le_of_ble_eq_true rfl) (Nat.le_of_ble_eq_true rfl) hW (ref_post (by simp only [priceM, fulM, hcj, c_10, c_25, c_41, eq_false c_57, c_79, eq_true c_100, eq_self, Nat.add_zero, decide_false, decide_true, Bool.not_true, Bool.not_false, Bool.and_true, Bool.true_and, Bool.and_false, Bool.false_and, Bool.or_true, Bool.true_or, Bool.or_false, Bool.false_or, ↓reduceIte, cond_true, cond_false, bI, and_true, true_and, and_false, false_and, or_true, true_or, or_false, false_or, not_true_eq_false, not_false_eq_true, if_true, if_false, Bool.false_eq_true, reduceCtorEq, ite_true, ite_false]) ⟨_, rfl⟩)
          · skip
            refine lv_aload_n S.1 S.2.1 dX6_price_82 rfl (lv_at hl 1 rfl) ?_
            refine gf S hk hW 0 rfl rfl hwsX60 5 (by decide) 5 rfl rfl dX6_price_83 ?_
            refine lv_iload_n S.1 S.2.1 dX6_price_86 rfl (lv_at hl 2 rfl) ?_
            refine lv_iload_n S.1 S.2.1 dX6_price_87 rfl (lv_at hl 0 rfl) ?_
            refine ist (w' := wM q cI cZ cF (sP g (upd (upd (gP g) j v) j (gP g j))) ((lrn (sP g (upd (gP g) j v)) (-1000) (-1000)).1) ke ac mk iv) S hk hW 3 rfl j rfl (by omega) (by omega) dX6_price_88 rfl (fun H locs hW => ?_)
            rw [show sP g (upd (upd (gP g) j v) j (gP g j)) = g from sP_back] at hW
            refine lv_sipush (v := (-1003)) S.1 S.2.1 dX6_price_89 (by decide) ?_
            exact hR _ _ _ _ _ _ _ _ dX6_price_92 rfl (Nat.le_of_ble_eq_true rfl) (Nat.le_of_ble_eq_true rfl) hW (ref_post (by simp only [priceM, hcj, c_10, c_25, c_41, eq_false c_57, c_79, eq_self, Nat.add_zero, decide_false, decide_true, Bool.not_true, Bool.not_false, Bool.and_true, Bool.true_and, Bool.and_false, Bool.false_and, Bool.or_true, Bool.true_or, Bool.or_false, Bool.false_or, ↓reduceIte, cond_true, cond_false, bI, and_true, true_and, and_false, false_and, or_true, true_or, or_false, false_or, not_true_eq_false, not_false_eq_true, if_true, if_false, Bool.false_eq_true, reduceCtorEq, ite_true, ite_false]) ⟨_, rfl⟩)
        · skip
          refine lv_iload_n S.1 S.2.1 dX6_price_60 rfl (lv_at hl 0 rfl) ?_
          exact hR _ _ _ _ _ _ _ _ dX6_price_61 rfl (Nat.le_of_ble_eq_true rfl) (Nat.le_of_ble_eq_true rfl) hW (ref_post (by simp only [priceM, hcj, c_10, c_25, c_41, eq_true c_57, eq_self, Nat.add_zero, decide_false, decide_true, Bool.not_true, Bool.not_false, Bool.and_true, Bool.true_and, Bool.and_false, Bool.false_and, Bool.or_true, Bool.true_or, Bool.or_false, Bool.false_or, ↓reduceIte, cond_true, cond_false, bI, and_true, true_and, and_false, false_and, or_true, true_or, or_false, false_or, not_true_eq_false, not_false_eq_true, if_true, if_false, Bool.false_eq_true, reduceCtorEq, ite_true, ite_false]) ⟨_, rfl⟩)
      · skip
        refine lv_sipush (v := (-1002)) S.1 S.2.1 dX6_price_44 (by decide) ?_
        exact hR _ _ _ _ _ _ _ _ dX6_price_47 rfl (Nat.le_of_ble_eq_true rfl) (Nat.le_of_ble_eq_true rfl) hW (ref_post (by simp only [priceM, hcj, c_10, c_25, c_41, eq_self, Nat.add_zero, decide_false, decide_true, Bool.not_true, Bool.not_false, Bool.and_true, Bool.true_and, Bool.and_false, Bool.false_and, Bool.or_true, Bool.true_or, Bool.or_false, Bool.false_or, ↓reduceIte, cond_true, cond_false, bI, and_true, true_and, and_false, false_and, or_true, true_or, or_false, false_or, not_true_eq_false, not_false_eq_true, if_true, if_false, Bool.false_eq_true, reduceCtorEq, ite_true, ite_false]) ⟨_, rfl⟩)
    · skip
      refine lv_lconst (v := 0) S.1 S.2.1 dX6_price_28 (by decide) ?_
      refine lv_goto (tgt := 35) S.1 S.2.1 dX6_price_29 (by decide) ?_
      refine lv_ldc2 (v := 99) S.1 S.2.1 S.2.2.2.1 (S.2.2.2.2 _ (List.mem_of_getElem? (i := 4) rfl)) dX6_price_35 ?_
      refine kSi S (c_X6_in (l := l) (D := D) (cI := cI) (cZ := cZ) (cF := cF)) (va_cwS 3 S.2.2.2.2 gX6_price_X6_in rfl rfl rfl v_X6_in ⟨(Nat.le_of_ble_eq_true rfl), (Nat.le_of_ble_eq_true rfl)⟩) hk hW rfl hl rfl (Nat.le_of_ble_eq_true rfl) dX6_price_38 ⟨(Nat.le_of_ble_eq_true rfl), (Nat.le_of_ble_eq_true rfl)⟩ (fun r u H locs hp hW => ?_)
      obtain ⟨rfl, rfl⟩ := hp
      refine ifne_b (tgt := 48) S dX6_price_41 (by decide) (fun c_41 => ?_) (fun c_41 => ?_)
      · skip
        have hm : mayC v (bW g j) = true := by rw [← mayM, c_25]; exact c_41
        have G2 := Gok_price G hj hm
        refine lv_aload_n S.1 S.2.1 dX6_price_48 rfl (lv_at hl 0 rfl) ?_
        refine gf S hk hW 0 rfl rfl hwsX60 5 (by decide) 5 rfl rfl dX6_price_49 ?_
        refine lv_iload_n S.1 S.2.1 dX6_price_52 rfl (lv_at hl 1 rfl) ?_
        refine ild S hk hW 3 rfl j rfl (by omega) (by omega) dX6_price_53 ?_
        refine lv_istore_n (lv' := [(3, .int (gP g j)), (0, .ref (q 0)), (1, .int (nI j)), (2, .int v)]) S.1 S.2.1 dX6_price_54 rfl hl (by decide) rfl (fun ls hl => ?_)
        refine lv_iload_n S.1 S.2.1 dX6_price_55 rfl (lv_at hl 0 rfl) ?_
        refine lv_iload_n S.1 S.2.1 dX6_price_56 rfl (lv_at hl 3 rfl) ?_
        refine lv_icmp_ne (tgt := 62) S.1 S.2.1 dX6_price_57 (by decide) (fun c_57 => ?_) (fun c_57 => ?_)
        · skip
          refine lv_aload_n S.1 S.2.1 dX6_price_62 rfl (lv_at hl 1 rfl) ?_
          refine gf S hk hW 0 rfl rfl hwsX60 5 (by decide) 5 rfl rfl dX6_price_63 ?_
          refine lv_iload_n S.1 S.2.1 dX6_price_66 rfl (lv_at hl 2 rfl) ?_
          refine lv_iload_n S.1 S.2.1 dX6_price_67 rfl (lv_at hl 3 rfl) ?_
          refine ist (w' := wM q cI cZ cF (sP g (upd (gP g) j v)) fi ke ac mk iv) S hk hW 3 rfl j rfl (by omega) (by omega) dX6_price_68 rfl (fun H locs hW => ?_)
          refine lv_aload_n S.1 S.2.1 dX6_price_69 rfl (lv_at hl 1 rfl) ?_
          refine lv_sipush (v := (-1000)) S.1 S.2.1 dX6_price_70 (by decide) ?_
          refine lv_sipush (v := (-1000)) S.1 S.2.1 dX6_price_73 (by decide) ?_
          refine kVi S (c_X6_learn (l := l) (D := D) (cI := cI) (cZ := cZ) (cF := cF) G2) (cwV 2 S.2.2.2.2 gX6_price_X6_learn rfl rfl rfl ⟨rfl, v_X6_learn⟩ ⟨(Nat.le_of_ble_eq_true rfl), (Nat.le_of_ble_eq_true rfl)⟩) hk hW 0 rfl rfl rfl rfl hl rfl (Nat.le_of_ble_eq_true rfl) dX6_price_76 ⟨(Nat.le_of_ble_eq_true rfl), (Nat.le_of_ble_eq_true rfl)⟩ (fun r u H locs hp hW => ?_)
          obtain ⟨rfl, rfl⟩ := hp
          refine ifne_b (tgt := 93) S dX6_price_79 (by decide) (fun c_79 => ?_) (fun c_79 => ?_)
          · skip
            refine lv_aload_n S.1 S.2.1 dX6_price_93 rfl (lv_at hl 1 rfl) ?_
            refine gf S hk hW 0 rfl rfl hwsX60 10 (by decide) 6 rfl rfl dX6_price_94 ?_
            refine lv_sipush (v := nI 400) S.1 S.2.1 dX6_price_97 (by decide) ?_
            refine icne_n (tgt := 114) S (by omega) (by omega) dX6_price_100 (by decide) (fun c_100 => ?_) (fun c_100 => ?_)
            · skip
              refine lv_aload_n S.1 S.2.1 dX6_price_114 rfl (lv_at hl 1 rfl) ?_
              refine kVv S (c_X6_did (l := l) (D := D) (cI := cI) (cZ := cZ) (cF := cF) G2 (by omega)) (cwV 0 S.2.2.2.2 gX6_price_X6_did rfl rfl rfl ⟨rfl, v_X6_did⟩ ⟨(Nat.le_of_ble_eq_true rfl), (Nat.le_of_ble_eq_true rfl)⟩) hk hW 0 rfl rfl rfl rfl hl rfl (Nat.le_of_ble_eq_true rfl) dX6_price_115 ⟨(Nat.le_of_ble_eq_true rfl), (Nat.le_of_ble_eq_true rfl)⟩ (fun u H locs hp hW => ?_)
              obtain ⟨ke'_2, hKo, hKn, rfl⟩ := hp
              refine lv_iload_n S.1 S.2.1 dX6_price_118 rfl (lv_at hl 0 rfl) ?_
              exact hR _ _ _ _ _ _ _ _ dX6_price_119 rfl (Nat.le_of_ble_eq_true rfl) (Nat.le_of_ble_eq_true rfl) hW (act_post (by simp only [priceM, fulM, hcj, c_10, c_25, c_41, eq_false c_57, c_79, eq_false c_100, eq_self, Nat.add_zero, decide_false, decide_true, Bool.not_true, Bool.not_false, Bool.and_true, Bool.true_and, Bool.and_false, Bool.false_and, Bool.or_true, Bool.true_or, Bool.or_false, Bool.false_or, ↓reduceIte, cond_true, cond_false, bI, and_true, true_and, and_false, false_and, or_true, true_or, or_false, false_or, not_true_eq_false, not_false_eq_true, if_true, if_false, Bool.false_eq_true, reduceCtorEq, ite_true, ite_false]) ⟨by rw [hcj], _, hKo, by rw [hcj]; exact hKn, by rw [hcj]⟩)
            · skip
              refine lv_aload_n S.1 S.2.1 dX6_price_103 rfl (lv_at hl 1 rfl) ?_
              refine gf S hk hW 0 rfl rfl hwsX60 5 (by decide) 5 rfl rfl dX6_price_104 ?_
              refine lv_iload_n S.1 S.2.1 dX6_price_107 rfl (lv_at hl 2 rfl) ?_
              refine lv_iload_n S.1 S.2.1 dX6_price_108 rfl (lv_at hl 0 rfl) ?_
              refine ist (w' := wM q cI cZ cF (sP g (upd (upd (gP g) j v) j (gP g j))) ((lrn (sP g (upd (gP g) j v)) (-1000) (-1000)).1) ke ac mk iv) S hk hW 3 rfl j rfl (by omega) (by omega) dX6_price_109 rfl (fun H locs hW => ?_)
              rw [show sP g (upd (upd (gP g) j v) j (gP g j)) = g from sP_back] at hW
              refine lv_sipush (v := (-1004)) S.1 S.2.1 dX6_price_110 (by decide) ?_
              exact hR _ _ _ _ _ _ _ _ dX6_price_113 rfl (Nat.le_of_ble_eq_true rfl) (Nat.le_of_ble_eq_true rfl) hW (ref_post (by simp only [priceM, fulM, hcj, c_10, c_25, c_41, eq_false c_57, c_79, eq_true c_100, eq_self, Nat.add_zero, decide_false, decide_true, Bool.not_true, Bool.not_false, Bool.and_true, Bool.true_and, Bool.and_false, Bool.false_and, Bool.or_true, Bool.true_or, Bool.or_false, Bool.false_or, ↓reduceIte, cond_true, cond_false, bI, and_true, true_and, and_false, false_and, or_true, true_or, or_false, false_or, not_true_eq_false, not_false_eq_true, if_true, if_false, Bool.false_eq_true, reduceCtorEq, ite_true, ite_false]) ⟨_, rfl⟩)
          · skip
            refine lv_aload_n S.1 S.2.1 dX6_price_82 rfl (lv_at hl 1 rfl) ?_
            refine gf S hk hW 0 rfl rfl hwsX60 5 (by decide) 5 rfl rfl dX6_price_83 ?_
            refine lv_iload_n S.1 S.2.1 dX6_price_86 rfl (lv_at hl 2 rfl) ?_
            refine lv_iload_n S.1 S.2.1 dX6_price_87 rfl (lv_at hl 0 rfl) ?_
            refine ist (w' := wM q cI cZ cF (sP g (upd (upd (gP g) j v) j (gP g j))) ((lrn (sP g (upd (gP g) j v)) (-1000) (-1000)).1) ke ac mk iv) S hk hW 3 rfl j rfl (by omega) (by omega) dX6_price_88 rfl (fun H locs hW => ?_)
            rw [show sP g (upd (upd (gP g) j v) j (gP g j)) = g from sP_back] at hW
            refine lv_sipush (v := (-1003)) S.1 S.2.1 dX6_price_89 (by decide) ?_
            exact hR _ _ _ _ _ _ _ _ dX6_price_92 rfl (Nat.le_of_ble_eq_true rfl) (Nat.le_of_ble_eq_true rfl) hW (ref_post (by simp only [priceM, hcj, c_10, c_25, c_41, eq_false c_57, c_79, eq_self, Nat.add_zero, decide_false, decide_true, Bool.not_true, Bool.not_false, Bool.and_true, Bool.true_and, Bool.and_false, Bool.false_and, Bool.or_true, Bool.true_or, Bool.or_false, Bool.false_or, ↓reduceIte, cond_true, cond_false, bI, and_true, true_and, and_false, false_and, or_true, true_or, or_false, false_or, not_true_eq_false, not_false_eq_true, if_true, if_false, Bool.false_eq_true, reduceCtorEq, ite_true, ite_false]) ⟨_, rfl⟩)
        · skip
          refine lv_iload_n S.1 S.2.1 dX6_price_60 rfl (lv_at hl 0 rfl) ?_
          exact hR _ _ _ _ _ _ _ _ dX6_price_61 rfl (Nat.le_of_ble_eq_true rfl) (Nat.le_of_ble_eq_true rfl) hW (ref_post (by simp only [priceM, hcj, c_10, c_25, c_41, eq_true c_57, eq_self, Nat.add_zero, decide_false, decide_true, Bool.not_true, Bool.not_false, Bool.and_true, Bool.true_and, Bool.and_false, Bool.false_and, Bool.or_true, Bool.true_or, Bool.or_false, Bool.false_or, ↓reduceIte, cond_true, cond_false, bI, and_true, true_and, and_false, false_and, or_true, true_or, or_false, false_or, not_true_eq_false, not_false_eq_true, if_true, if_false, Bool.false_eq_true, reduceCtorEq, ite_true, ite_false]) ⟨_, rfl⟩)
      · skip
        refine lv_sipush (v := (-1002)) S.1 S.2.1 dX6_price_44 (by decide) ?_
        exact hR _ _ _ _ _ _ _ _ dX6_price_47 rfl (Nat.le_of_ble_eq_true rfl) (Nat.le_of_ble_eq_true rfl) hW (ref_post (by simp only [priceM, hcj, c_10, c_25, c_41, eq_self, Nat.add_zero, decide_false, decide_true, Bool.not_true, Bool.not_false, Bool.and_true, Bool.true_and, Bool.and_false, Bool.false_and, Bool.or_true, Bool.true_or, Bool.or_false, Bool.false_or, ↓reduceIte, cond_true, cond_false, bI, and_true, true_and, and_false, false_and, or_true, true_or, or_false, false_or, not_true_eq_false, not_false_eq_true, if_true, if_false, Bool.false_eq_true, reduceCtorEq, ite_true, ite_false]) ⟨_, rfl⟩)
  · skip
    refine lv_sipush (v := (-1001)) S.1 S.2.1 dX6_price_13 (by decide) ?_
    exact hR _ _ _ _ _ _ _ _ dX6_price_16 rfl (Nat.le_of_ble_eq_true rfl) (Nat.le_of_ble_eq_true rfl) hW (ref_post (by simp only [priceM, c_10, eq_self, Nat.add_zero, decide_false, decide_true, Bool.not_true, Bool.not_false, Bool.and_true, Bool.true_and, Bool.and_false, Bool.false_and, Bool.or_true, Bool.true_or, Bool.or_false, Bool.false_or, ↓reduceIte, cond_true, cond_false, bI, and_true, true_and, and_false, false_and, or_true, true_or, or_false, false_or, not_true_eq_false, not_false_eq_true, if_true, if_false, Bool.false_eq_true, reduceCtorEq, ite_true, ite_false]) ⟨_, rfl⟩)
abbrev r_X6_cut : Room := { frames := 3, cells := 0, slots := 0, locals := 62 }
theorem v_X6_cut : yX6_cut.cls ≠ "java/lang/invoke/MethodHandle" ∧ yX6_cut.cls ≠ "java/lang/invoke/VarHandle" ∧ (parseMethodDescriptor yX6_cut.desc).map (fun d => d.parameters.length) = some 1 := by decide +kernel
set_option maxRecDepth 100000 in
set_option maxHeartbeats 4000000 in
theorem c_X6_cut {l : Launch} {D : va_G} {cI cZ cF : ClassId} {q : Nat → Nat} {g : Gr} {fi ke : Nat → Int32} {ac : Nat} {mk : Int32} {iv : Nat → Int32} {x : Int32} (G : Gok g) (hac : ac ≤ 400) : cI_ l D cI cZ cF yX6_cut wsX6_cut r_X6_cut [.ref (q 0), .int x] (wM q cI cZ cF g fi ke ac mk iv) (fun r u => (∀ z, cutM g x ac = some z → r = z ∧ ∃ fi', u = wM q cI cZ cF g fi' ke ac mk iv) ∧ (cutM g x ac = none → r = nI (cntT (sT g (upd (gT g) x.toNatClampNeg (nI 0))) (gK g)) ∧ actM q cI cZ cF (sT g (upd (gT g) x.toNatClampNeg (nI 0))) (ac + 1) ke mk iv u)) 0 0 := by
  refine cI_of (cc := cX6_cut) (maxL := 2) (rt := .int) (plainFor_of_name (by decide +kernel)) rfl (Nat.le_of_ble_eq_true rfl) ?_
  intro p e s m args below meth c A Q ls S hk hW hl hR
  have hl : lv_has ls 2 [(0, .ref (q 0)), (1, .int x)] := hl
  have hwsX60 : ∀ x ∈ wsX60, x ∈ wsX6_cut := fun x h => List.mem_cons_of_mem _ (List.mem_append_right _ h)
  have hN := Gok_N G; have hN2 := Gok_N2 G; have hKK := Gok_K G
  refine lv_aload_n S.1 S.2.1 dX6_cut_0 rfl (lv_at hl 0 rfl) ?_
  refine lv_iconst (v := nI 0) S.1 S.2.1 dX6_cut_1 (by decide) ?_
  refine pf (ty := .int) (w' := wM q cI cZ cF g fi ke ac mk iv) S hk hW 0 rfl rfl hwsX60 tyX6 tyX6_ok nmX6 0 (by decide) 1 rfl rfl (by decide +kernel) rfl rfl (Nat.le_of_ble_eq_true rfl) dX6_cut_2 rfl (fun H locs hW => ?_)
  refine lv_aload_n S.1 S.2.1 dX6_cut_5 rfl (lv_at hl 0 rfl) ?_
  refine lv_iload_n S.1 S.2.1 dX6_cut_6 rfl (lv_at hl 1 rfl) ?_
  refine kVi S (c_X6_noLine (l := l) (D := D) (cI := cI) (cZ := cZ) (cF := cF) G) (cwV 1 S.2.2.2.2 gX6_cut_X6_noLine rfl rfl rfl ⟨rfl, v_X6_noLine⟩ ⟨(Nat.le_of_ble_eq_true rfl), (Nat.le_of_ble_eq_true rfl)⟩) hk hW 0 rfl rfl rfl rfl hl rfl (Nat.le_of_ble_eq_true rfl) dX6_cut_7 ⟨(Nat.le_of_ble_eq_true rfl), (Nat.le_of_ble_eq_true rfl)⟩ (fun r u H locs hp hW => ?_)
  obtain ⟨rfl, rfl⟩ := hp
  refine ifeq_nb (tgt := 17) S dX6_cut_10 (by decide) (fun c_10 => ?_) (fun c_10 => ?_)
  · skip
    obtain ⟨j, hj, rfl⟩ := inb_nat c_10 (by omega)
    have hcj : (nI j).toNatClampNeg = j := nI_clamp (by omega)
    refine lv_aload_n S.1 S.2.1 dX6_cut_17 rfl (lv_at hl 0 rfl) ?_
    refine gf S hk hW 0 rfl rfl hwsX60 7 (by decide) 2 rfl rfl dX6_cut_18 ?_
    refine lv_iload_n S.1 S.2.1 dX6_cut_21 rfl (lv_at hl 1 rfl) ?_
    refine zld S hk hW 5 rfl j rfl (by omega) (by omega) dX6_cut_22 ?_
    refine top_eq (Gok_T G (j := j) (by omega)) ?_
    refine ifne_b (tgt := 30) S dX6_cut_23 (by decide) (fun c_23 => ?_) (fun c_23 => ?_)
    · skip
      refine lv_aload_n S.1 S.2.1 dX6_cut_30 rfl (lv_at hl 0 rfl) ?_
      refine gf S hk hW 0 rfl rfl hwsX60 10 (by decide) 3 rfl rfl dX6_cut_31 ?_
      refine lv_sipush (v := nI 400) S.1 S.2.1 dX6_cut_34 (by decide) ?_
      refine icne_n (tgt := 44) S (by omega) (by omega) dX6_cut_37 (by decide) (fun c_37 => ?_) (fun c_37 => ?_)
      · skip
        refine lv_aload_n S.1 S.2.1 dX6_cut_44 rfl (lv_at hl 0 rfl) ?_
        refine gf S hk hW 0 rfl rfl hwsX60 7 (by decide) 2 rfl rfl dX6_cut_45 ?_
        refine lv_iload_n S.1 S.2.1 dX6_cut_48 rfl (lv_at hl 1 rfl) ?_
        refine lv_iconst (v := nI 0) S.1 S.2.1 dX6_cut_49 (by decide) ?_
        refine zst (w' := wM q cI cZ cF (sT g (upd (gT g) j (nI 0))) fi ke ac mk iv) S hk hW 5 rfl j rfl (by omega) (by omega) (Or.inl rfl) dX6_cut_50 rfl (fun H locs hW => ?_)
        refine lv_aload_n S.1 S.2.1 dX6_cut_51 rfl (lv_at hl 0 rfl) ?_
        refine kVv S (c_X6_did (l := l) (D := D) (cI := cI) (cZ := cZ) (cF := cF) (Gok_T' G (Or.inl rfl)) (by omega)) (cwV 0 S.2.2.2.2 gX6_cut_X6_did rfl rfl rfl ⟨rfl, v_X6_did⟩ ⟨(Nat.le_of_ble_eq_true rfl), (Nat.le_of_ble_eq_true rfl)⟩) hk hW 0 rfl rfl rfl rfl hl rfl (Nat.le_of_ble_eq_true rfl) dX6_cut_52 ⟨(Nat.le_of_ble_eq_true rfl), (Nat.le_of_ble_eq_true rfl)⟩ (fun u H locs hp hW => ?_)
        obtain ⟨ke'_1, hKo, hKn, rfl⟩ := hp
        refine lv_aload_n S.1 S.2.1 dX6_cut_55 rfl (lv_at hl 0 rfl) ?_
        refine kVi S (c_X6_there (l := l) (D := D) (cI := cI) (cZ := cZ) (cF := cF) (Gok_T' G (Or.inl rfl))) (cwV 0 S.2.2.2.2 gX6_cut_X6_there rfl rfl rfl ⟨rfl, v_X6_there⟩ ⟨(Nat.le_of_ble_eq_true rfl), (Nat.le_of_ble_eq_true rfl)⟩) hk hW 0 rfl rfl rfl rfl hl rfl (Nat.le_of_ble_eq_true rfl) dX6_cut_56 ⟨(Nat.le_of_ble_eq_true rfl), (Nat.le_of_ble_eq_true rfl)⟩ (fun r u H locs hp hW => ?_)
        obtain ⟨rfl, rfl⟩ := hp
        exact hR _ _ _ _ _ _ _ _ dX6_cut_59 rfl (Nat.le_of_ble_eq_true rfl) (Nat.le_of_ble_eq_true rfl) hW (act_post (by simp only [cutM, fulM, hcj, c_10, c_23, eq_false c_37, eq_self, Nat.add_zero, decide_false, decide_true, Bool.not_true, Bool.not_false, Bool.and_true, Bool.true_and, Bool.and_false, Bool.false_and, Bool.or_true, Bool.true_or, Bool.or_false, Bool.false_or, ↓reduceIte, cond_true, cond_false, bI, and_true, true_and, and_false, false_and, or_true, true_or, or_false, false_or, not_true_eq_false, not_false_eq_true, if_true, if_false, Bool.false_eq_true, reduceCtorEq, ite_true, ite_false]) ⟨by rw [hcj]; rfl, _, hKo, by rw [hcj]; exact hKn, by rw [hcj]⟩)
      · skip
        refine lv_sipush (v := (-1004)) S.1 S.2.1 dX6_cut_40 (by decide) ?_
        exact hR _ _ _ _ _ _ _ _ dX6_cut_43 rfl (Nat.le_of_ble_eq_true rfl) (Nat.le_of_ble_eq_true rfl) hW (ref_post (by simp only [cutM, fulM, hcj, c_10, c_23, eq_true c_37, eq_self, Nat.add_zero, decide_false, decide_true, Bool.not_true, Bool.not_false, Bool.and_true, Bool.true_and, Bool.and_false, Bool.false_and, Bool.or_true, Bool.true_or, Bool.or_false, Bool.false_or, ↓reduceIte, cond_true, cond_false, bI, and_true, true_and, and_false, false_and, or_true, true_or, or_false, false_or, not_true_eq_false, not_false_eq_true, if_true, if_false, Bool.false_eq_true, reduceCtorEq, ite_true, ite_false]) ⟨_, rfl⟩)
    · skip
      refine lv_sipush (v := (-1003)) S.1 S.2.1 dX6_cut_26 (by decide) ?_
      exact hR _ _ _ _ _ _ _ _ dX6_cut_29 rfl (Nat.le_of_ble_eq_true rfl) (Nat.le_of_ble_eq_true rfl) hW (ref_post (by simp only [cutM, hcj, c_10, c_23, eq_self, Nat.add_zero, decide_false, decide_true, Bool.not_true, Bool.not_false, Bool.and_true, Bool.true_and, Bool.and_false, Bool.false_and, Bool.or_true, Bool.true_or, Bool.or_false, Bool.false_or, ↓reduceIte, cond_true, cond_false, bI, and_true, true_and, and_false, false_and, or_true, true_or, or_false, false_or, not_true_eq_false, not_false_eq_true, if_true, if_false, Bool.false_eq_true, reduceCtorEq, ite_true, ite_false]) ⟨_, rfl⟩)
  · skip
    refine lv_sipush (v := (-1001)) S.1 S.2.1 dX6_cut_13 (by decide) ?_
    exact hR _ _ _ _ _ _ _ _ dX6_cut_16 rfl (Nat.le_of_ble_eq_true rfl) (Nat.le_of_ble_eq_true rfl) hW (ref_post (by simp only [cutM, c_10, eq_self, Nat.add_zero, decide_false, decide_true, Bool.not_true, Bool.not_false, Bool.and_true, Bool.true_and, Bool.and_false, Bool.false_and, Bool.or_true, Bool.true_or, Bool.or_false, Bool.false_or, ↓reduceIte, cond_true, cond_false, bI, and_true, true_and, and_false, false_and, or_true, true_or, or_false, false_or, not_true_eq_false, not_false_eq_true, if_true, if_false, Bool.false_eq_true, reduceCtorEq, ite_true, ite_false]) ⟨_, rfl⟩)
abbrev r_X6_back : Room := { frames := 3, cells := 0, slots := 0, locals := 62 }
theorem v_X6_back : yX6_back.cls ≠ "java/lang/invoke/MethodHandle" ∧ yX6_back.cls ≠ "java/lang/invoke/VarHandle" ∧ (parseMethodDescriptor yX6_back.desc).map (fun d => d.parameters.length) = some 1 := by decide +kernel
set_option maxRecDepth 100000 in
set_option maxHeartbeats 4000000 in
theorem c_X6_back {l : Launch} {D : va_G} {cI cZ cF : ClassId} {q : Nat → Nat} {g : Gr} {fi ke : Nat → Int32} {ac : Nat} {mk : Int32} {iv : Nat → Int32} {x : Int32} (G : Gok g) (hac : ac ≤ 400) : cI_ l D cI cZ cF yX6_back wsX6_back r_X6_back [.ref (q 0), .int x] (wM q cI cZ cF g fi ke ac mk iv) (fun r u => (∀ z, backM g x ac = some z → r = z ∧ ∃ fi', u = wM q cI cZ cF g fi' ke ac mk iv) ∧ (backM g x ac = none → r = nI (cntT (sT g (upd (gT g) x.toNatClampNeg (nI 1))) (gK g)) ∧ actM q cI cZ cF (sT g (upd (gT g) x.toNatClampNeg (nI 1))) (ac + 1) ke mk iv u)) 0 0 := by
  refine cI_of (cc := cX6_back) (maxL := 3) (rt := .int) (plainFor_of_name (by decide +kernel)) rfl (Nat.le_of_ble_eq_true rfl) ?_
  intro p e s m args below meth c A Q ls S hk hW hl hR
  have hl : lv_has ls 3 [(0, .ref (q 0)), (1, .int x)] := hl
  have hwsX60 : ∀ x ∈ wsX60, x ∈ wsX6_back := fun x h => List.mem_cons_of_mem _ (List.mem_append_right _ h)
  have hN := Gok_N G; have hN2 := Gok_N2 G; have hKK := Gok_K G
  refine lv_aload_n S.1 S.2.1 dX6_back_0 rfl (lv_at hl 0 rfl) ?_
  refine lv_iconst (v := nI 0) S.1 S.2.1 dX6_back_1 (by decide) ?_
  refine pf (ty := .int) (w' := wM q cI cZ cF g fi ke ac mk iv) S hk hW 0 rfl rfl hwsX60 tyX6 tyX6_ok nmX6 0 (by decide) 1 rfl rfl (by decide +kernel) rfl rfl (Nat.le_of_ble_eq_true rfl) dX6_back_2 rfl (fun H locs hW => ?_)
  refine lv_aload_n S.1 S.2.1 dX6_back_5 rfl (lv_at hl 0 rfl) ?_
  refine lv_iload_n S.1 S.2.1 dX6_back_6 rfl (lv_at hl 1 rfl) ?_
  refine kVi S (c_X6_noLine (l := l) (D := D) (cI := cI) (cZ := cZ) (cF := cF) G) (cwV 1 S.2.2.2.2 gX6_back_X6_noLine rfl rfl rfl ⟨rfl, v_X6_noLine⟩ ⟨(Nat.le_of_ble_eq_true rfl), (Nat.le_of_ble_eq_true rfl)⟩) hk hW 0 rfl rfl rfl rfl hl rfl (Nat.le_of_ble_eq_true rfl) dX6_back_7 ⟨(Nat.le_of_ble_eq_true rfl), (Nat.le_of_ble_eq_true rfl)⟩ (fun r u H locs hp hW => ?_)
  obtain ⟨rfl, rfl⟩ := hp
  refine ifeq_nb (tgt := 17) S dX6_back_10 (by decide) (fun c_10 => ?_) (fun c_10 => ?_)
  · skip
    obtain ⟨j, hj, rfl⟩ := inb_nat c_10 (by omega)
    have hcj : (nI j).toNatClampNeg = j := nI_clamp (by omega)
    refine lv_aload_n S.1 S.2.1 dX6_back_17 rfl (lv_at hl 0 rfl) ?_
    refine gf S hk hW 0 rfl rfl hwsX60 7 (by decide) 2 rfl rfl dX6_back_18 ?_
    refine lv_iload_n S.1 S.2.1 dX6_back_21 rfl (lv_at hl 1 rfl) ?_
    refine zld S hk hW 5 rfl j rfl (by omega) (by omega) dX6_back_22 ?_
    refine top_eq (Gok_T G (j := j) (by omega)) ?_
    refine ifeq_b (tgt := 30) S dX6_back_23 (by decide) (fun c_23 => ?_) (fun c_23 => ?_)
    · skip
      refine lv_aload_n S.1 S.2.1 dX6_back_30 rfl (lv_at hl 0 rfl) ?_
      refine gf S hk hW 0 rfl rfl hwsX60 7 (by decide) 2 rfl rfl dX6_back_31 ?_
      refine lv_iload_n S.1 S.2.1 dX6_back_34 rfl (lv_at hl 1 rfl) ?_
      refine lv_iconst (v := nI 1) S.1 S.2.1 dX6_back_35 (by decide) ?_
      refine zst (w' := wM q cI cZ cF (sT g (upd (gT g) j (nI 1))) fi ke ac mk iv) S hk hW 5 rfl j rfl (by omega) (by omega) (Or.inr rfl) dX6_back_36 rfl (fun H locs hW => ?_)
      refine lv_aload_n S.1 S.2.1 dX6_back_37 rfl (lv_at hl 0 rfl) ?_
      refine lv_sipush (v := (-1000)) S.1 S.2.1 dX6_back_38 (by decide) ?_
      refine lv_sipush (v := (-1000)) S.1 S.2.1 dX6_back_41 (by decide) ?_
      refine kVi S (c_X6_learn (l := l) (D := D) (cI := cI) (cZ := cZ) (cF := cF) (Gok_T' G (Or.inr rfl))) (cwV 2 S.2.2.2.2 gX6_back_X6_learn rfl rfl rfl ⟨rfl, v_X6_learn⟩ ⟨(Nat.le_of_ble_eq_true rfl), (Nat.le_of_ble_eq_true rfl)⟩) hk hW 0 rfl rfl rfl rfl hl rfl (Nat.le_of_ble_eq_true rfl) dX6_back_44 ⟨(Nat.le_of_ble_eq_true rfl), (Nat.le_of_ble_eq_true rfl)⟩ (fun r u H locs hp hW => ?_)
      obtain ⟨rfl, rfl⟩ := hp
      refine lv_istore_n (lv' := [(2, .int (bI ((lrn (sT g (upd (gT g) j (nI 1))) (-1000) (-1000)).2))), (0, .ref (q 0)), (1, .int (nI j))]) S.1 S.2.1 dX6_back_47 rfl hl (by decide) rfl (fun ls hl => ?_)
      refine lv_iload_n S.1 S.2.1 dX6_back_48 rfl (lv_at hl 0 rfl) ?_
      refine ifeq_b (tgt := 62) S dX6_back_49 (by decide) (fun c_49 => ?_) (fun c_49 => ?_)
      · skip
        refine lv_aload_n S.1 S.2.1 dX6_back_62 rfl (lv_at hl 1 rfl) ?_
        refine gf S hk hW 0 rfl rfl hwsX60 7 (by decide) 2 rfl rfl dX6_back_63 ?_
        refine lv_iload_n S.1 S.2.1 dX6_back_66 rfl (lv_at hl 2 rfl) ?_
        refine lv_iconst (v := nI 0) S.1 S.2.1 dX6_back_67 (by decide) ?_
        refine zst (w' := wM q cI cZ cF (sT g (upd (upd (gT g) j (nI 1)) j (nI 0))) ((lrn (sT g (upd (gT g) j (nI 1))) (-1000) (-1000)).1) ke ac mk iv) S hk hW 5 rfl j rfl (by omega) (by omega) (Or.inl rfl) dX6_back_68 rfl (fun H locs hW => ?_)
        rw [show sT g (upd (upd (gT g) j (nI 1)) j (nI 0)) = g from sT_back (by rw [Gok_T G hj, c_23]; rfl)] at hW
        refine lv_iload_n S.1 S.2.1 dX6_back_69 rfl (lv_at hl 0 rfl) ?_
        refine ifeq_b (tgt := 79) S dX6_back_70 (by decide) (fun c_70 => ?_) (fun c_70 => ?_)
        · skip
          refine lv_sipush (v := (-1003)) S.1 S.2.1 dX6_back_79 (by decide) ?_
          exact hR _ _ _ _ _ _ _ _ dX6_back_82 rfl (Nat.le_of_ble_eq_true rfl) (Nat.le_of_ble_eq_true rfl) hW (ref_post (by simp only [backM, fulM, hcj, c_10, c_23, c_49, c_70, eq_self, Nat.add_zero, decide_false, decide_true, Bool.not_true, Bool.not_false, Bool.and_true, Bool.true_and, Bool.and_false, Bool.false_and, Bool.or_true, Bool.true_or, Bool.or_false, Bool.false_or, ↓reduceIte, cond_true, cond_false, bI, and_true, true_and, and_false, false_and, or_true, true_or, or_false, false_or, not_true_eq_false, not_false_eq_true, if_true, if_false, Bool.false_eq_true, reduceCtorEq, ite_true, ite_false]) ⟨_, rfl⟩)
        · skip
          exact absurd (c_49.symm.trans c_70) (by decide)
      · skip
        refine lv_aload_n S.1 S.2.1 dX6_back_52 rfl (lv_at hl 1 rfl) ?_
        refine gf S hk hW 0 rfl rfl hwsX60 10 (by decide) 3 rfl rfl dX6_back_53 ?_
        refine lv_sipush (v := nI 400) S.1 S.2.1 dX6_back_56 (by decide) ?_
        refine icne_n (tgt := 83) S (by omega) (by omega) dX6_back_59 (by decide) (fun c_59 => ?_) (fun c_59 => ?_)
        · skip
          refine lv_aload_n S.1 S.2.1 dX6_back_83 rfl (lv_at hl 1 rfl) ?_
          refine kVv S (c_X6_did (l := l) (D := D) (cI := cI) (cZ := cZ) (cF := cF) (Gok_T' G (Or.inr rfl)) (by omega)) (cwV 0 S.2.2.2.2 gX6_back_X6_did rfl rfl rfl ⟨rfl, v_X6_did⟩ ⟨(Nat.le_of_ble_eq_true rfl), (Nat.le_of_ble_eq_true rfl)⟩) hk hW 0 rfl rfl rfl rfl hl rfl (Nat.le_of_ble_eq_true rfl) dX6_back_84 ⟨(Nat.le_of_ble_eq_true rfl), (Nat.le_of_ble_eq_true rfl)⟩ (fun u H locs hp hW => ?_)
          obtain ⟨ke'_1, hKo, hKn, rfl⟩ := hp
          refine lv_aload_n S.1 S.2.1 dX6_back_87 rfl (lv_at hl 1 rfl) ?_
          refine kVi S (c_X6_there (l := l) (D := D) (cI := cI) (cZ := cZ) (cF := cF) (Gok_T' G (Or.inr rfl))) (cwV 0 S.2.2.2.2 gX6_back_X6_there rfl rfl rfl ⟨rfl, v_X6_there⟩ ⟨(Nat.le_of_ble_eq_true rfl), (Nat.le_of_ble_eq_true rfl)⟩) hk hW 0 rfl rfl rfl rfl hl rfl (Nat.le_of_ble_eq_true rfl) dX6_back_88 ⟨(Nat.le_of_ble_eq_true rfl), (Nat.le_of_ble_eq_true rfl)⟩ (fun r u H locs hp hW => ?_)
          obtain ⟨rfl, rfl⟩ := hp
          exact hR _ _ _ _ _ _ _ _ dX6_back_91 rfl (Nat.le_of_ble_eq_true rfl) (Nat.le_of_ble_eq_true rfl) hW (act_post (by simp only [backM, fulM, hcj, c_10, c_23, c_49, eq_false c_59, eq_self, Nat.add_zero, decide_false, decide_true, Bool.not_true, Bool.not_false, Bool.and_true, Bool.true_and, Bool.and_false, Bool.false_and, Bool.or_true, Bool.true_or, Bool.or_false, Bool.false_or, ↓reduceIte, cond_true, cond_false, bI, and_true, true_and, and_false, false_and, or_true, true_or, or_false, false_or, not_true_eq_false, not_false_eq_true, if_true, if_false, Bool.false_eq_true, reduceCtorEq, ite_true, ite_false]) ⟨by rw [hcj]; rfl, _, hKo, by rw [hcj]; exact hKn, by rw [hcj]⟩)
        · skip
          refine lv_aload_n S.1 S.2.1 dX6_back_62 rfl (lv_at hl 1 rfl) ?_
          refine gf S hk hW 0 rfl rfl hwsX60 7 (by decide) 2 rfl rfl dX6_back_63 ?_
          refine lv_iload_n S.1 S.2.1 dX6_back_66 rfl (lv_at hl 2 rfl) ?_
          refine lv_iconst (v := nI 0) S.1 S.2.1 dX6_back_67 (by decide) ?_
          refine zst (w' := wM q cI cZ cF (sT g (upd (upd (gT g) j (nI 1)) j (nI 0))) ((lrn (sT g (upd (gT g) j (nI 1))) (-1000) (-1000)).1) ke ac mk iv) S hk hW 5 rfl j rfl (by omega) (by omega) (Or.inl rfl) dX6_back_68 rfl (fun H locs hW => ?_)
          rw [show sT g (upd (upd (gT g) j (nI 1)) j (nI 0)) = g from sT_back (by rw [Gok_T G hj, c_23]; rfl)] at hW
          refine lv_iload_n S.1 S.2.1 dX6_back_69 rfl (lv_at hl 0 rfl) ?_
          refine ifeq_b (tgt := 79) S dX6_back_70 (by decide) (fun c_70 => ?_) (fun c_70 => ?_)
          · skip
            exact absurd (c_49.symm.trans c_70) (by decide)
          · skip
            refine lv_sipush (v := (-1004)) S.1 S.2.1 dX6_back_73 (by decide) ?_
            refine lv_goto (tgt := 82) S.1 S.2.1 dX6_back_76 (by decide) ?_
            exact hR _ _ _ _ _ _ _ _ dX6_back_82 rfl (Nat.le_of_ble_eq_true rfl) (Nat.le_of_ble_eq_true rfl) hW (ref_post (by simp only [backM, fulM, hcj, c_10, c_23, c_49, eq_true c_59, c_70, eq_self, Nat.add_zero, decide_false, decide_true, Bool.not_true, Bool.not_false, Bool.and_true, Bool.true_and, Bool.and_false, Bool.false_and, Bool.or_true, Bool.true_or, Bool.or_false, Bool.false_or, ↓reduceIte, cond_true, cond_false, bI, and_true, true_and, and_false, false_and, or_true, true_or, or_false, false_or, not_true_eq_false, not_false_eq_true, if_true, if_false, Bool.false_eq_true, reduceCtorEq, ite_true, ite_false]) ⟨_, rfl⟩)
    · skip
      refine lv_sipush (v := (-1003)) S.1 S.2.1 dX6_back_26 (by decide) ?_
      exact hR _ _ _ _ _ _ _ _ dX6_back_29 rfl (Nat.le_of_ble_eq_true rfl) (Nat.le_of_ble_eq_true rfl) hW (ref_post (by simp only [backM, hcj, c_10, c_23, eq_self, Nat.add_zero, decide_false, decide_true, Bool.not_true, Bool.not_false, Bool.and_true, Bool.true_and, Bool.and_false, Bool.false_and, Bool.or_true, Bool.true_or, Bool.or_false, Bool.false_or, ↓reduceIte, cond_true, cond_false, bI, and_true, true_and, and_false, false_and, or_true, true_or, or_false, false_or, not_true_eq_false, not_false_eq_true, if_true, if_false, Bool.false_eq_true, reduceCtorEq, ite_true, ite_false]) ⟨_, rfl⟩)
  · skip
    refine lv_sipush (v := (-1001)) S.1 S.2.1 dX6_back_13 (by decide) ?_
    exact hR _ _ _ _ _ _ _ _ dX6_back_16 rfl (Nat.le_of_ble_eq_true rfl) (Nat.le_of_ble_eq_true rfl) hW (ref_post (by simp only [backM, c_10, eq_self, Nat.add_zero, decide_false, decide_true, Bool.not_true, Bool.not_false, Bool.and_true, Bool.true_and, Bool.and_false, Bool.false_and, Bool.or_true, Bool.true_or, Bool.or_false, Bool.false_or, ↓reduceIte, cond_true, cond_false, bI, and_true, true_and, and_false, false_and, or_true, true_or, or_false, false_or, not_true_eq_false, not_false_eq_true, if_true, if_false, Bool.false_eq_true, reduceCtorEq, ite_true, ite_false]) ⟨_, rfl⟩)
