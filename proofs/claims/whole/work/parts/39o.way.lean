/-! ===== the plain part: the two ways, line by line ===== -/
section WAY
variable {g : Gr} {C : Nat → Int32} {rw len : Nat} {F : Nat → Int32} {mk : Int32} {ac : Nat} {ke : Nat → Int32} {fi : Nat → Int32}
theorem mt_e {c v : Int32} (h : mt c v) (hv : ¬ nI 10000000 ≤ v) : c = v := by
  rcases h with ⟨-, q⟩ | ⟨q, -, -⟩
  · exact absurd (by rw [q]; decide) hv
  · exact q
theorem ts_eq (H : Mt (gN g) C fi) {a b z j : Nat} (ha : a < gN g) (hb : b < gN g) (hz : z < gN g) (hf : ¬ nI 10000000 ≤ fi (10 * a + b)) : (ldB C z b && decide (cw g j + C (z * 10 + b) = C (a * 10 + b))) = tsM g fi a b j z := by
  unfold tsM
  rw [s_big H hz hb, cw_eq]
  by_cases h : nI 10000000 ≤ fi (10 * z + b)
  · rw [decide_eq_true h]
    rfl
  · rw [mt_e (H z b hz hb) h, mt_e (H a b ha hb) hf]
theorem nx_eq (G : Gok g) (H : Mt (gN g) C fi) {a b j : Nat} (ha : a < gN g) (hb : b < gN g) (hj : j < gK g) (hf : ¬ nI 10000000 ≤ fi (10 * a + b)) : nxP g C a b j = nxM g fi a b j := by
  have hN := Gok_N G
  have hK := Gok_K G
  have a1 := Gok_B2 G hj
  have a2 := Gok_E2 G hj
  have hn1 : (-1 : Int32).toInt < 0 := by decide
  have ht : tgt g (nI j) (nI a) = tgN g j (nI a) := by
    unfold tgt
    rw [inb_nI (by omega) (by omega), decide_eq_true hj, if_pos rfl, nI_clamp (by omega)]
  have q1 := nI_eq (show e1 g j < 2 ^ 31 by omega) (show a < 2 ^ 31 by omega)
  have q2 := nI_eq (show e2 g j < 2 ^ 31 by omega) (show a < 2 ^ 31 by omega)
  unfold nxP nxM
  rw [ht]
  unfold tgN
  by_cases hT : bT g j = true
  · rw [if_pos hT, hT, Bool.true_and]
    by_cases e : e1 g j = a
    · rw [if_pos (q1.mpr e), if_pos e, decide_eq_false (nI_neg (by omega) hn1), nI_clamp (by omega), Bool.not_false, Bool.true_and]
      exact ts_eq H ha hb a2 hf
    · rw [if_neg (fun q => e (q1.mp q)), if_neg e]
      by_cases hW : bW g j = true
      · rw [if_pos hW, if_pos hW]
        by_cases e' : e2 g j = a
        · rw [if_pos (q2.mpr e'), if_pos e', decide_eq_false (nI_neg (by omega) hn1), nI_clamp (by omega), Bool.not_false, Bool.true_and]
          exact ts_eq H ha hb a1 hf
        · rw [if_neg (fun q => e' (q2.mp q)), if_neg e', decide_eq_true rfl]
          rfl
      · rw [if_neg hW, if_neg hW, decide_eq_true rfl]
        rfl
  · have hT' : bT g j = false := by simpa using hT
    rw [if_neg hT, hT', decide_eq_true rfl]
    rfl
theorem nxw_eq (G : Gok g) (H : Mt (gN g) C fi) {a b : Nat} (ha : a < gN g) (hb : b < gN g) (hf : ¬ nI 10000000 ≤ fi (10 * a + b)) : nx g C (nI a) b = oI (-1) (fj (nxM g fi a b) (gK g) 0) := by
  have hN := Gok_N G
  unfold nx
  rw [inb_nI (by omega) (by omega), decide_eq_true ha, if_pos rfl, nI_clamp (by omega), s_big H ha hb, decide_eq_false hf, Bool.not_false, if_pos rfl]
  rw [fj_cong (gK g) 0 (fun j _ h2 => nx_eq G H ha hb (show j < gK g by omega) hf)]
theorem fj_true {P : Nat → Bool} {j : Nat} : ∀ (d i : Nat), fj P d i = some j → P j = true := by
  intro d
  induction d with
  | zero => intro i h; cases h
  | succ d ih =>
    intro i h
    unfold fj at h
    by_cases hp : P i = true
    · rw [if_pos hp] at h
      cases h
      exact hp
    · rw [if_neg hp] at h
      exact ih (i + 1) h
theorem tg_nx (G : Gok g) {a b j : Nat} (ha : a < gN g) (hj : j < gK g) (h : nxM g fi a b j = true) : tgt g (nI j) (nI a) = nI (otM g j a) := by
  have hN := Gok_N G
  have hK := Gok_K G
  have a1 := Gok_B2 G hj
  have a2 := Gok_E2 G hj
  have q1 := nI_eq (show e1 g j < 2 ^ 31 by omega) (show a < 2 ^ 31 by omega)
  have q2 := nI_eq (show e2 g j < 2 ^ 31 by omega) (show a < 2 ^ 31 by omega)
  unfold tgt
  rw [inb_nI (by omega) (by omega), decide_eq_true hj, if_pos rfl, nI_clamp (by omega)]
  unfold nxM at h
  rw [Bool.and_eq_true] at h
  obtain ⟨hT, h⟩ := h
  unfold tgN otM
  rw [if_pos hT]
  by_cases e : e1 g j = a
  · rw [if_pos (q1.mpr e), if_pos e]
  · rw [if_neg (fun q => e (q1.mp q)), if_neg e]
    rw [if_neg e] at h
    by_cases hW : bW g j = true
    · rw [if_pos hW] at h ⊢
      by_cases e' : e2 g j = a
      · rw [if_pos (q2.mpr e')]
      · rw [if_neg e'] at h
        cases h
    · rw [if_neg hW] at h
      cases h
theorem ps_at (G : Gok g) (H : Mt (gN g) C fi) (hN : Nxt g fi) {a b S : Nat} (ha : a < gN g) (hb : b < gN g) (hf : fi (10 * a + b) < nI 10000000) (hS : stM (fi (10 * a + b)) = nI S) (h9 : S ≤ 63) : ∀ t, t ≤ S → ps g C a b t = nI (atM g fi a b t) ∧ atM g fi a b t < gN g ∧ fi (10 * atM g fi a b t + b) < nI 10000000 ∧ stM (fi (10 * atM g fi a b t + b)) = nI (S - t) := by
  intro t
  induction t with
  | zero => intro _; exact ⟨rfl, ha, hf, hS⟩
  | succ t ih =>
    intro ht
    obtain ⟨i1, i2, i3, i4⟩ := ih (by omega)
    obtain ⟨n1', n2, n3, n4⟩ := Nxt_at hN i2 hb i3 i4 (by omega) (by omega)
    have hx := fj_true _ _ n1'
    have e1' : ps g C a b (t + 1) = tgt g (nx g C (ps g C a b t) b) (ps g C a b t) := rfl
    have e2' : atM g fi a b (t + 1) = otM g (nlM g fi b (atM g fi a b t)) (atM g fi a b t) := rfl
    rw [e1', e2', i1, nxw_eq G H i2 hb (Int32.not_le.mpr i3), n1']
    refine ⟨tg_nx G i2 n2 hx, otM_lt G n2, n3, ?_⟩
    rw [n4, show S - t - 1 = S - (t + 1) by omega]
end WAY
