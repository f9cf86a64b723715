/-! ===== plain facts that the walks use ===== -/
theorem tgt_nat {g : Gr} {x y : Int32} (G : Gok g) (h : ¬ tgt g x y = (-1)) : ∃ t, t < gN g ∧ tgt g x y = nI t := by
  unfold tgt at h ⊢
  by_cases h1 : inb x (gK g) = true
  · obtain ⟨j, hj, rfl⟩ := inb_nat h1 (by have := Gok_K G; omega)
    rw [if_pos h1, nI_clamp (by have := Gok_K G; omega)] at h ⊢
    unfold tgN at h ⊢
    by_cases b1 : bT g j = true
    · rw [if_pos b1] at h ⊢
      by_cases b2 : nI (e1 g j) = y
      · rw [if_pos b2] at h ⊢
        exact ⟨e2 g j, Gok_E2 G hj, rfl⟩
      · rw [if_neg b2] at h ⊢
        by_cases b3 : bW g j = true
        · rw [if_pos b3] at h ⊢
          by_cases b4 : nI (e2 g j) = y
          · rw [if_pos b4] at h ⊢
            exact ⟨e1 g j, Gok_B2 G hj, rfl⟩
          · rw [if_neg b4] at h
            exact absurd rfl h
        · rw [if_neg b3] at h
          exact absurd rfl h
    · rw [if_neg b1] at h
      exact absurd rfl h
  · rw [if_neg h1] at h
    exact absurd rfl h
theorem fj_step {P : Nat → Bool} {k i : Nat} {o : Option Nat} (hf : o = fj P (k - i) i) (hi : i < k) (hP : P i = false) : o = fj P (k - (i + 1)) (i + 1) := by
  rw [hf, show k - i = (k - (i + 1)) + 1 by omega]
  simp only [fj, hP, Bool.false_eq_true, if_false]
theorem fj_found {P : Nat → Bool} {k i : Nat} {o : Option Nat} (hf : o = fj P (k - i) i) (hi : i < k) (hP : P i = true) : o = some i := by
  rw [hf, show k - i = (k - (i + 1)) + 1 by omega]
  simp only [fj, hP, if_true]
theorem fj_none {P : Nat → Bool} {k i : Nat} {o : Option Nat} (hf : o = fj P (k - i) i) (hi : k ≤ i) : o = none := by
  rw [hf, show k - i = 0 by omega]
  rfl
theorem le_nI_iff {x : Int32} {i : Nat} (hi : i < 2 ^ 31) : x ≤ nI i ↔ x.toNatClampNeg ≤ i := by
  have h1 : x.toNatClampNeg = x.toInt.toNat := rfl
  rw [Int32.le_iff_toInt_le, nI_toInt hi, h1]
  omega
theorem clamp_lt (x : Int32) : x.toNatClampNeg < 2 ^ 31 := by
  have h1 : x.toNatClampNeg = x.toInt.toNat := rfl
  have := x.toInt_lt
  rw [h1]
  omega
theorem low_same {R : Nat → Int32} {f t : Nat} {c : Int32} (h : lowB R f t c = false) : low R f t c = R := by
  unfold low
  by_cases h1 : R f = 1073741824
  · rw [if_pos h1]
  · rw [if_neg h1]
    by_cases h2 : R f + c < R t
    · simp only [lowB, h1, h2, decide_false, decide_true, Bool.not_false, Bool.and_self, Bool.true_eq_false] at h
    · rw [if_neg h2]
theorem rlx_same {g : Gr} {R : Nat → Int32} {j : Nat} (h : rlxB g R j = false) : rlx g R j = R := by
  simp only [rlxB, Bool.or_eq_false_iff] at h
  have h0 := low_same h.2
  unfold rlx
  by_cases hb : bW g j = true
  · rw [if_pos hb]
    have h1 := h.1
    rw [hb, Bool.true_and, h0] at h1
    rw [h0, low_same h1]
  · rw [if_neg hb, h0]
theorem swp_same {g : Gr} {x y : Int32} {R : Nat → Int32} : ∀ {k : Nat}, (swp g x y R k).2 = false → (swp g x y R k).1 = R := by
  intro k
  induction k with
  | zero => intro _; rfl
  | succ k ih =>
    intro h
    by_cases ho : okL g x y k = true
    · simp only [swp, ho, if_true, Bool.or_eq_false_iff] at h ⊢
      have h1 := ih h.1
      rw [h1] at h ⊢
      exact rlx_same h.2
    · simp only [swp, ho, if_false] at h ⊢
      exact ih h
theorem rnd_stat {g : Gr} {x y : Int32} {R : Nat → Int32} {r : Nat} (h : (swp g x y (rnd g x y R r) (gK g)).1 = rnd g x y R r) : ∀ d : Nat, rnd g x y R (r + d) = rnd g x y R r := by
  intro d
  induction d with
  | zero => rfl
  | succ d ih =>
    show (swp g x y (rnd g x y R (r + d)) (gK g)).1 = _
    rw [ih, h]
theorem rnd_end {g : Gr} {x y : Int32} {R R1 : Nat → Int32} {r n : Nat} (h1 : R1 = rnd g x y R r) (hs : (swp g x y R1 (gK g)).1 = R1) (hr : r ≤ n) : R1 = rnd g x y R n := by
  subst h1
  have := rnd_stat hs (n - r)
  rw [show r + (n - r) = n by omega] at this
  exact this.symm
theorem vp_cong {cA : ClassId} {n : Nat} {f g : Nat → Int32} (h : ∀ j, j < n → f j = g j) : vp_cell cA (n, .inl f) = vp_cell cA (n, .inl g) := by
  rw [vp_cell_i, vp_cell_i]
  unfold arrV
  congr 1
  apply Array.ext
  · simp
  · intro i h1 h2
    simp at h1
    simp [h i h1]
/-- two worlds that hold the same, as far as rows go -/
def eqv (p p' : Nat × va_E) : Prop := p = p' ∨ ∃ (x : Nat) (cA : ClassId) (n : Nat) (f g : Nat → Int32), p = (x, .inl (cA, n, .inl f)) ∧ p' = (x, .inl (cA, n, .inl g)) ∧ ∀ j, j < n → f j = g j
theorem eqv_1 {p p' : Nat × va_E} (h : eqv p p') : p.1 = p'.1 := by
  rcases h with rfl | ⟨x, cA, n, f, g, rfl, rfl, -⟩ <;> rfl
theorem wd_cong {D : va_G} {A : Nat → Prop} {s : State} {H : Heap} {locs : List Loc} {w w' : va_W} (h : wd D A s H locs w) (hc : ∀ (k : Nat) (p' : Nat × va_E), w'[k]? = some p' → ∃ p, w[k]? = some p ∧ eqv p p') : wd D A s H locs w' := by
  obtain ⟨hP, hD, hS⟩ := h
  refine ⟨fun k p' hk => ?_, ⟨fun i j p' r' hi hj e => ?_, fun k p' hk => ?_⟩, hS⟩
  · obtain ⟨p, h1, h2⟩ := hc k p' hk
    have h3 := hP k p h1
    rcases h2 with rfl | ⟨x, cA, n, f, g, rfl, rfl, hfg⟩
    · exact h3
    · show H[x]? = some (vp_cell cA (n, .inl g))
      rw [← vp_cong hfg]
      exact h3
  · obtain ⟨p, h1, h2⟩ := hc i p' hi
    obtain ⟨r, h3, h4⟩ := hc j r' hj
    exact hD.1 i j p r h1 h3 (by rw [eqv_1 h2, eqv_1 h4]; exact e)
  · obtain ⟨p, h1, h2⟩ := hc k p' hk
    rw [← eqv_1 h2]
    exact hD.2 k p h1
theorem wd_set {D : va_G} {A : Nat → Prop} {s : State} {H : Heap} {locs : List Loc} {w : va_W} {q0 x : Nat} {cA : ClassId} {n : Nat} {f g : Nat → Int32} (h : wd D A s H locs (w.set q0 (x, .inl (cA, n, .inl f)))) (hfg : ∀ j, j < n → f j = g j) : wd D A s H locs (w.set q0 (x, .inl (cA, n, .inl g))) := by
  refine wd_cong h (fun k p' hk => ?_)
  by_cases hkq : q0 = k
  · subst hkq
    have hl : q0 < w.length := by
      have := (List.getElem?_eq_some_iff.mp hk).1
      simpa using this
    rw [List.getElem?_set_self hl] at hk
    cases hk
    exact ⟨_, List.getElem?_set_self hl, Or.inr ⟨x, cA, n, f, g, rfl, rfl, hfg⟩⟩
  · rw [List.getElem?_set_ne hkq] at hk
    exact ⟨p', by rw [List.getElem?_set_ne hkq]; exact hk, Or.inl rfl⟩
theorem set_id {w : va_W} {q0 : Nat} {e : Nat × va_E} (h : w[q0]? = some e) : w.set q0 e = w := by
  apply List.ext_getElem?
  intro k
  by_cases hkq : q0 = k
  · subst hkq
    rw [List.getElem?_set_self (List.getElem?_eq_some_iff.mp h).1, h]
  · rw [List.getElem?_set_ne hkq]
theorem anyN_true {P : Nat → Bool} {i : Nat} : ∀ {n : Nat}, i < n → P i = true → anyN P n = true := by
  intro n
  induction n with
  | zero => intro h; omega
  | succ n ih =>
    intro h hP
    by_cases e : i = n
    · subst e
      simp only [anyN, hP, Bool.or_true]
    · simp only [anyN, ih (by omega) hP, Bool.true_or]
theorem cst_step {g : Gr} {i : Nat} {C1 : Nat → Int32} (hC : ∀ p, p < 100 → C1 p = cst g i p) (hi : i < 10) : ∀ p, p < 100 → va_cpy (spr g (-1) (-1) i) C1 0 (i * 10 + 0) 10 p = cst g (i + 1) p := by
  intro p hp
  by_cases h1 : p < i * 10 ∨ i * 10 + 10 ≤ p
  · rw [pk_cpy_out (by omega), hC p hp]
    unfold cst
    have : p / 10 ≠ i := by omega
    by_cases h2 : p / 10 < i
    · rw [if_pos h2, if_pos (by omega)]
    · rw [if_neg h2, if_neg (by omega)]
  · rw [pk_cpy_in (by omega) (by omega)]
    unfold cst
    rw [if_pos (by omega), show p / 10 = i by omega, show 0 + (p - (i * 10 + 0)) = p % 10 by omega]
theorem sw5 (x : Int32) : x = nI 0 ∨ x = nI 1 ∨ x = nI 2 ∨ x = nI 3 ∨ x = nI 4 ∨ (x.toInt < 0 ∨ 4 < x.toInt) := by
  by_cases h : 0 ≤ x.toInt ∧ x.toInt ≤ 4
  · have h1 : x = nI x.toInt.toNat := by
      apply Int32.toInt_inj.mp
      rw [nI_toInt (by omega)]
      omega
    generalize x.toInt.toNat = k at h1
    have hk : k < 2 ^ 31 ∨ 2 ^ 31 ≤ k := by omega
    have e : x.toInt.toNat ≤ 4 := by omega
    have h2 : x = nI x.toInt.toNat := by
      apply Int32.toInt_inj.mp
      rw [nI_toInt (by omega)]
      omega
    generalize x.toInt.toNat = j at h2 e
    rcases (show j = 0 ∨ j = 1 ∨ j = 2 ∨ j = 3 ∨ j = 4 by omega) with rfl | rfl | rfl | rfl | rfl
    · exact Or.inl h2
    · exact Or.inr (Or.inl h2)
    · exact Or.inr (Or.inr (Or.inl h2))
    · exact Or.inr (Or.inr (Or.inr (Or.inl h2)))
    · exact Or.inr (Or.inr (Or.inr (Or.inr (Or.inl h2))))
  · exact Or.inr (Or.inr (Or.inr (Or.inr (Or.inr (by omega)))))
theorem sw6 (x : Int32) : x = nI 0 ∨ x = nI 1 ∨ x = nI 2 ∨ x = nI 3 ∨ x = nI 4 ∨ x = nI 5 ∨ (x.toInt < 0 ∨ 5 < x.toInt) := by
  rcases sw5 x with h | h | h | h | h | h
  · exact Or.inl h
  · exact Or.inr (Or.inl h)
  · exact Or.inr (Or.inr (Or.inl h))
  · exact Or.inr (Or.inr (Or.inr (Or.inl h)))
  · exact Or.inr (Or.inr (Or.inr (Or.inr (Or.inl h))))
  · by_cases h5 : x.toInt = 5
    · refine Or.inr (Or.inr (Or.inr (Or.inr (Or.inr (Or.inl ?_)))))
      apply Int32.toInt_inj.mp
      rw [nI_toInt (by omega)]
      exact h5
    · exact Or.inr (Or.inr (Or.inr (Or.inr (Or.inr (Or.inr (by omega))))))
theorem hasB_nat {x : Int32} {n : Nat} (h : hasB x n = true) (hn : n < 2 ^ 31) : ∃ j, 1 ≤ j ∧ j < n ∧ x = nI j := by
  simp only [hasB, Bool.and_eq_true, Bool.not_eq_true', decide_eq_false_iff_not] at h
  have h0 : ¬ x < 0 := by
    intro q
    apply h.1
    rw [Int32.lt_iff_toInt_lt] at q ⊢
    have : (nI 1).toInt = 1 := by decide
    have h0 : (0 : Int32).toInt = 0 := by decide
    omega
  obtain ⟨j, hj, e⟩ := nI_of h0
  subst e
  refine ⟨j, ?_, ?_, rfl⟩
  · rcases Nat.lt_or_ge j 1 with q | q
    · exact absurd ((nI_ltI hj (by omega)).mpr q) h.1
    · exact q
  · rcases Nat.lt_or_ge j n with q | q
    · exact q
    · exact absurd ((nI_leI hn hj).mpr q) h.2
theorem gL_ge {rw len : Nat} : rw + 1 ≤ gL rw len ∨ len < rw := by
  unfold gL
  split <;> omega
theorem gL_le {rw len : Nat} (hr : rw ≤ 400) (h : len ≤ 401) : gL rw len ≤ 401 := by
  unfold gL
  split <;> omega
theorem aF_lt {qf : Nat → Nat} {n i : Nat} (h : i < n) : aF qf n i = some (qf (2 * i)) := by
  induction n with
  | zero => omega
  | succ n ih =>
    show va_up (aF qf n) n (some (qf (2 * n))) i = _
    by_cases e : i = n
    · subst e; exact va_up_self _ _ _
    · rw [va_up_ne _ _ e]; exact ih (by omega)
theorem aF_ge {qf : Nat → Nat} {n i : Nat} (h : n ≤ i) : aF qf n i = none := by
  induction n with
  | zero => rfl
  | succ n ih =>
    show va_up (aF qf n) n (some (qf (2 * n))) i = _
    rw [va_up_ne _ _ (by omega)]; exact ih (by omega)
theorem aF_ext {qf qf' : Nat → Nat} {n : Nat} (h : ∀ j, j < 2 * n → qf' j = qf j) : aF qf' n = aF qf n := by
  induction n with
  | zero => rfl
  | succ n ih =>
    show va_up (aF qf' n) n (some (qf' (2 * n))) = va_up (aF qf n) n (some (qf (2 * n)))
    rw [ih (fun j hj => h j (by omega)), h (2 * n) (by omega)]
theorem fR_ext {F F' : Nat → Int32} {i : Nat} (h : ∀ p, p < 100 → F' (i * 100 + p) = F (i * 100 + p)) : fR F' i = fR F i := by
  funext p
  unfold fR
  split
  · exact h p (by assumption)
  · rfl
theorem fR_upd {F : Nat → Int32} {i j : Nat} {x : Int32} (hj : j < 100) : upd (fR F i) j x = fR (upd F (i * 100 + j) x) i := by
  funext p
  by_cases e : p = j
  · subst e
    rw [pk_us]
    unfold fR
    rw [if_pos hj, pk_us]
  · rw [pk_un e]
    unfold fR
    split
    · rw [pk_un (by omega)]
    · rfl
theorem pT_len {qf : Nat → Nat} {cI : ClassId} {F : Nat → Int32} {n : Nat} : (pT qf cI F n).length = 2 * n := by
  induction n with
  | zero => rfl
  | succ n ih =>
    show (pT qf cI F n ++ [_, _]).length = _
    rw [List.length_append, ih]
    show 2 * n + 2 = _
    omega
theorem pT_ext {qf qf' : Nat → Nat} {cI : ClassId} {F F' : Nat → Int32} {n : Nat} (hq : ∀ j, j < 2 * n → qf' j = qf j) (hF : ∀ p, p < n * 100 → F' p = F p) : pT qf' cI F' n = pT qf cI F n := by
  induction n with
  | zero => rfl
  | succ n ih =>
    show pT qf' cI F' n ++ [(qf' (2 * n), .inr (0, [.ref (qf' (2 * n + 1))])), (qf' (2 * n + 1), .inl (cI, 100, .inl (fR F' n)))] = pT qf cI F n ++ [(qf (2 * n), .inr (0, [.ref (qf (2 * n + 1))])), (qf (2 * n + 1), .inl (cI, 100, .inl (fR F n)))]
    rw [ih (fun j hj => hq j (by omega)) (fun p hp => hF p (by omega)), hq (2 * n) (by omega), hq (2 * n + 1) (by omega), fR_ext (F' := F') (F := F) (i := n) (fun p hp => hF _ (by omega))]
theorem pT_obj {qf : Nat → Nat} {cI : ClassId} {F : Nat → Int32} {n r : Nat} (h : r < n) : (pT qf cI F n)[2 * r]? = some (qf (2 * r), .inr (0, [.ref (qf (2 * r + 1))])) := by
  induction n with
  | zero => omega
  | succ n ih =>
    show (pT qf cI F n ++ [(qf (2 * n), .inr (0, [.ref (qf (2 * n + 1))])), (qf (2 * n + 1), .inl (cI, 100, .inl (fR F n)))])[2 * r]? = _
    by_cases e : r < n
    · rw [List.getElem?_append_left (by rw [pT_len]; omega)]; exact ih e
    · obtain rfl : r = n := by omega
      rw [List.getElem?_append_right (by rw [pT_len]; omega), pT_len, Nat.sub_self]; rfl
theorem pT_row {qf : Nat → Nat} {cI : ClassId} {F : Nat → Int32} {n r : Nat} (h : r < n) : (pT qf cI F n)[2 * r + 1]? = some (qf (2 * r + 1), .inl (cI, 100, .inl (fR F r))) := by
  induction n with
  | zero => omega
  | succ n ih =>
    show (pT qf cI F n ++ [(qf (2 * n), .inr (0, [.ref (qf (2 * n + 1))])), (qf (2 * n + 1), .inl (cI, 100, .inl (fR F n)))])[2 * r + 1]? = _
    by_cases e : r < n
    · rw [List.getElem?_append_left (by rw [pT_len]; omega)]; exact ih e
    · obtain rfl : r = n := by omega
      rw [List.getElem?_append_right (by rw [pT_len]; omega), pT_len, show 2 * r + 1 - 2 * r = 1 by omega]; rfl
theorem pT_set {qf : Nat → Nat} {cI : ClassId} {F : Nat → Int32} {n r j : Nat} {x : Int32} (h : r < n) (hj : j < 100) : (pT qf cI F n).set (2 * r + 1) (qf (2 * r + 1), .inl (cI, 100, .inl (upd (fR F r) j x))) = pT qf cI (upd F (r * 100 + j) x) n := by
  induction n with
  | zero => omega
  | succ n ih =>
    show (pT qf cI F n ++ ([(qf (2 * n), .inr (0, [.ref (qf (2 * n + 1))])), (qf (2 * n + 1), .inl (cI, 100, .inl (fR F n)))] : va_W)).set (2 * r + 1) _ = pT qf cI (upd F (r * 100 + j) x) n ++ [(qf (2 * n), .inr (0, [.ref (qf (2 * n + 1))])), (qf (2 * n + 1), .inl (cI, 100, .inl (fR (upd F (r * 100 + j) x) n)))]
    by_cases e : r < n
    · rw [List.set_append_left _ _ (by rw [pT_len]; omega), ih e, fR_ext (F' := upd F (r * 100 + j) x) (F := F) (i := n) (fun p hp => pk_un (by omega))]
    · obtain rfl : r = n := by omega
      rw [List.set_append_right _ _ (by rw [pT_len]; omega), pT_len, show 2 * r + 1 - 2 * r = 1 by omega, fR_upd hj, pT_ext (qf' := qf) (qf := qf) (F' := upd F (r * 100 + j) x) (F := F) (n := r) (fun _ _ => rfl) (fun p hp => pk_un (by omega))]
      rfl
section WCT
variable {q qf : Nat → Nat} {cI cZ cF : ClassId} {g : Gr} {C R : Nat → Int32} {rw len : Nat} {F : Nat → Int32} {sz : Nat} {X : Nat → Int32} {mk : Int32}
theorem wC_o {r : Nat} (h : r < len) : (wC q qf cI cZ cF g C R rw len F sz X mk)[2 * r + 14]? = some (qf (2 * r), .inr (0, [.ref (qf (2 * r + 1))])) := pT_obj (cI := cI) (F := F) (qf := qf) h
theorem wC_r {r : Nat} (h : r < len) : (wC q qf cI cZ cF g C R rw len F sz X mk)[2 * r + 1 + 14]? = some (qf (2 * r + 1), .inl (cI, 100, .inl (fR F r))) := pT_row (cI := cI) (F := F) (qf := qf) h
theorem wC_set {r j : Nat} {x : Int32} (h : r < len) (hj : j < 100) : (wC q qf cI cZ cF g C R rw len F sz X mk).set (2 * r + 1 + 14) (qf (2 * r + 1), .inl (cI, 100, .inl (upd (fR F r) j x))) = wC q qf cI cZ cF g C R rw len (upd F (r * 100 + j) x) sz X mk := by
  unfold wC
  rw [← pT_set (qf := qf) (cI := cI) (F := F) (x := x) h hj]
  rfl
/-- one object more, with its row -/
def nQ (qf : Nat → Nat) (n x y : Nat) : Nat → Nat := fun j => if j < 2 * n then qf j else if j = 2 * n then x else y
def nF (F : Nat → Int32) (n : Nat) : Nat → Int32 := fun p => if p < n * 100 then F p else 0
theorem wC_push {x y : Nat} : (wC q qf cI cZ cF g C R rw len F sz X mk ++ ([(x, .inr (0, [.ref y])), (y, .inl (cI, 100, .inl (fun _ => 0)))] : va_W)).set 12 (q 12, .inl (cF, 401, .inr (.inr (.inr (.inr (va_up (aF qf len) len (some x))))))) = wC q (nQ qf len x y) cI cZ cF g C R rw (len + 1) (nF F len) sz X mk := by
  have e0 : nQ qf len x y (2 * len) = x := by unfold nQ; rw [if_neg (by omega), if_pos rfl]
  have e1 : nQ qf len x y (2 * len + 1) = y := by unfold nQ; rw [if_neg (by omega), if_neg (by omega)]
  have e2 : ∀ j, j < 2 * len → nQ qf len x y j = qf j := fun j hj => if_pos hj
  have e3 : fR (nF F len) len = fun _ => 0 := by
    funext p
    unfold fR nF
    split
    · rw [if_neg (by omega)]
    · rfl
  have e4 : pT (nQ qf len x y) cI (nF F len) (len + 1) = pT qf cI F len ++ [(x, .inr (0, [.ref y])), (y, .inl (cI, 100, .inl (fun _ => 0)))] := by
    show pT (nQ qf len x y) cI (nF F len) len ++ [(nQ qf len x y (2 * len), .inr (0, [.ref (nQ qf len x y (2 * len + 1))])), (nQ qf len x y (2 * len + 1), .inl (cI, 100, .inl (fR (nF F len) len)))] = _
    rw [e0, e1, e3, pT_ext (F := F) (F' := nF F len) e2 (fun p hp => if_pos hp)]
  have e5 : aF (nQ qf len x y) (len + 1) = va_up (aF qf len) len (some x) := by
    show va_up (aF (nQ qf len x y) len) len (some (nQ qf len x y (2 * len))) = _
    rw [e0, aF_ext e2]
  unfold wC
  rw [e4, e5]
  rfl
end WCT
theorem takeF_step {r i : Nat} {F F1 C : Nat → Int32} (hF : (∀ p, (p < r * 100 ∨ r * 100 + 100 ≤ p) → F1 p = F p) ∧ ∀ p, p < i → F1 (r * 100 + p) = prI (C p)) (hi : i < 100) : (∀ p, (p < r * 100 ∨ r * 100 + 100 ≤ p) → upd F1 (r * 100 + i) (prI (C (i / 10 * 10 + i % 10))) p = F p) ∧ ∀ p, p < i + 1 → upd F1 (r * 100 + i) (prI (C (i / 10 * 10 + i % 10))) (r * 100 + p) = prI (C p) := by
  constructor
  · intro p hp
    rw [pk_un (by omega)]
    exact hF.1 p hp
  · intro p hp
    by_cases e : p = i
    · subst e
      rw [pk_us, show p / 10 * 10 + p % 10 = p by omega]
    · rw [pk_un (by omega)]
      exact hF.2 p (by omega)
theorem allN_false {P : Nat → Bool} {i : Nat} : ∀ {n : Nat}, i < n → P i = false → allN P n = false := by
  intro n
  induction n with
  | zero => intro h; omega
  | succ n ih =>
    intro h hP
    by_cases e : i = n
    · subst e
      simp only [allN, hP, Bool.and_false]
    · simp only [allN, ih (by omega) hP, Bool.false_and]
theorem shl1 {n : Nat} (h : n ≤ 10) : nI 1 <<< (nI n &&& 31) = nI (2 ^ n) := by
  have : ∀ n, n < 11 → nI 1 <<< (nI n &&& 31) = nI (2 ^ n) := by decide
  exact this n (by omega)
theorem akI_le {g : Gr} {C : Nat → Int32} {a : Nat} {x : Int32} {s : Nat × (Nat → Int32)} : ∀ b : Nat, (akI g C a x s b).1 ≤ s.1 + b := by
  intro b
  induction b with
  | zero => exact Nat.le_refl _
  | succ b ih =>
    unfold akI
    split
    · omega
    · split
      · omega
      · show _ + 1 ≤ _
        omega
theorem akO_le {g : Gr} {C : Nat → Int32} {n : Nat} {x : Int32} {X : Nat → Int32} : ∀ a : Nat, (akO g C n x X a).1 ≤ a * n := by
  intro a
  induction a with
  | zero => exact Nat.zero_le _
  | succ a ih =>
    have h := akI_le (g := g) (C := C) (a := a) (x := x) (s := akO g C n x X a) n
    show (akI g C a x (akO g C n x X a) n).1 ≤ _
    rw [Nat.succ_mul]
    omega
theorem akO_100 {g : Gr} {C : Nat → Int32} {n : Nat} {x : Int32} {X : Nat → Int32} (hn : n ≤ 10) : (akO g C n x X n).1 ≤ 100 := by
  have h := akO_le (g := g) (C := C) (n := n) (x := x) (X := X) n
  have : n * n ≤ 10 * 10 := Nat.mul_le_mul hn hn
  omega
theorem ref_post {o : Option Int32} {c : Int32} {P1 P2 : Prop} (h : o = some c) (hp : P1) : (∀ z, o = some z → c = z ∧ P1) ∧ (o = none → P2) := ⟨fun z hz => ⟨Option.some.inj (h.symm.trans hz), hp⟩, fun hz => (by rw [h] at hz; cases hz)⟩
theorem act_post {o : Option Int32} {r : Int32} {P1 P2 : Prop} (h : o = none) (hp : P2) : (∀ z, o = some z → r = z ∧ P1) ∧ (o = none → P2) := ⟨fun z hz => (by rw [h] at hz; cases hz), fun _ => hp⟩
theorem posts_nat {x : Int32} (h1 : ¬ x < nI 2) (h2 : x ≤ nI 10) : ∃ n, 2 ≤ n ∧ n ≤ 10 ∧ x = nI n := by
  have e2 : (nI 2).toInt = 2 := by decide
  have e10 : (nI 10).toInt = 10 := by decide
  rw [Int32.lt_iff_toInt_lt] at h1
  rw [Int32.le_iff_toInt_le] at h2
  refine ⟨x.toInt.toNat, by omega, by omega, ?_⟩
  apply Int32.toInt_inj.mp
  rw [nI_toInt (by omega)]
  omega
theorem mayC_of {v : Int32} {t : Bool} (h : mayC v t = true) : -50 ≤ v.toInt ∧ v.toInt ≤ 99 ∧ (t = true → 0 ≤ v.toInt) := by
  simp only [mayC, Bool.and_eq_true, Bool.not_eq_true', decide_eq_false_iff_not] at h
  obtain ⟨h1, h2⟩ := h
  have e0 : (nI 0).toInt = 0 := by decide
  have e99 : (nI 99).toInt = 99 := by decide
  have e50 : (-50 : Int32).toInt = -50 := by decide
  rw [Int32.lt_iff_toInt_lt] at h1 h2
  cases t
  · simp only [cond_false] at h1
    refine ⟨by omega, by omega, fun h => by cases h⟩
  · simp only [cond_true] at h1
    refine ⟨by omega, by omega, fun _ => by omega⟩
theorem Gok_new {g : Gr} {n : Nat} (h1 : 2 ≤ n) (h2 : n ≤ 10) : Gok (sK (sN g n) 0) := ⟨h1, h2, Nat.zero_le _, fun j hj => absurd hj (Nat.not_lt_zero j)⟩
theorem Gok_add {g : Gr} {a b : Nat} {v : Int32} {t : Bool} (G : Gok g) (ha : a < gN g) (hb : b < gN g) (hne : a ≠ b) (hk : gK g < 40) (hm : mayC v t = true) : Gok (addG g a b v t) := by
  obtain ⟨m1, m2, m3⟩ := mayC_of hm
  have hN := Gok_N G
  refine ⟨G.1, G.2.1, (by show gK g + 1 ≤ 40; omega), fun j hj => ?_⟩
  have hj2 : j < gK g + 1 := hj
  show (∃ x, x < gN g ∧ upd (gB g) (gK g) (nI a) j = nI x) ∧ (∃ x, x < gN g ∧ upd (gE g) (gK g) (nI b) j = nI x) ∧ upd (gB g) (gK g) (nI a) j ≠ upd (gE g) (gK g) (nI b) j ∧ (upd (gW g) (gK g) (bI t) j = nI 0 ∨ upd (gW g) (gK g) (bI t) j = nI 1) ∧ (upd (gT g) (gK g) (nI 1) j = nI 0 ∨ upd (gT g) (gK g) (nI 1) j = nI 1) ∧ -50 ≤ (upd (gP g) (gK g) v j).toInt ∧ (upd (gP g) (gK g) v j).toInt ≤ 99 ∧ (upd (gW g) (gK g) (bI t) j = nI 1 → 0 ≤ (upd (gP g) (gK g) v j).toInt)
  by_cases e : j = gK g
  · subst e
    simp only [pk_us]
    refine ⟨⟨a, ha, rfl⟩, ⟨b, hb, rfl⟩, fun h => hne ((nI_eq (by omega) (by omega)).mp h), bI_01 t, Or.inr trivial, m1, m2, fun h => m3 ?_⟩
    cases t
    · exact absurd h (by decide)
    · rfl
  · simp only [pk_un e]
    exact G.2.2.2 j (by omega)
theorem Gok_price {g : Gr} {j : Nat} {v : Int32} (G : Gok g) (hj : j < gK g) (hm : mayC v (bW g j) = true) : Gok (sP g (upd (gP g) j v)) := by
  obtain ⟨m1, m2, m3⟩ := mayC_of hm
  refine ⟨G.1, G.2.1, G.2.2.1, fun i hi => ?_⟩
  have hi2 : i < gK g := hi
  obtain ⟨h1, h2, h3, h4, h5, h6, h7, h8⟩ := G.2.2.2 i hi2
  by_cases e : i = j
  · subst e
    refine ⟨h1, h2, h3, h4, h5, ?_, ?_, fun hw => ?_⟩
    · show -50 ≤ (upd (gP g) i v i).toInt
      rw [pk_us]; exact m1
    · show (upd (gP g) i v i).toInt ≤ 99
      rw [pk_us]; exact m2
    · show 0 ≤ (upd (gP g) i v i).toInt
      rw [pk_us]
      refine m3 ?_
      have hw2 : gW g i = nI 1 := hw
      unfold bW
      rw [hw2]
      decide
  · refine ⟨h1, h2, h3, h4, h5, ?_, ?_, fun hw => ?_⟩
    · show -50 ≤ (upd (gP g) j v i).toInt
      rw [pk_un e]; exact h6
    · show (upd (gP g) j v i).toInt ≤ 99
      rw [pk_un e]; exact h7
    · show 0 ≤ (upd (gP g) j v i).toInt
      rw [pk_un e]; exact h8 hw
theorem Gok_T' {g : Gr} {j : Nat} {v : Int32} (G : Gok g) (hv : v = nI 0 ∨ v = nI 1) : Gok (sT g (upd (gT g) j v)) := by
  refine ⟨G.1, G.2.1, G.2.2.1, fun i hi => ?_⟩
  have hi2 : i < gK g := hi
  obtain ⟨h1, h2, h3, h4, h5, h6, h7, h8⟩ := G.2.2.2 i hi2
  refine ⟨h1, h2, h3, h4, ?_, h6, h7, h8⟩
  show upd (gT g) j v i = nI 0 ∨ upd (gT g) j v i = nI 1
  by_cases e : i = j
  · subst e
    rw [pk_us]; exact hv
  · rw [pk_un e]; exact h5
