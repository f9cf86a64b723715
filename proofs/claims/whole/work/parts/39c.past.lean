/-! ===== the plain part: what is kept ===== -/
section PAST
variable {g : Gr} {C : Nat → Int32} {rw len : Nat} {F : Nat → Int32} {mk : Int32} {ac : Nat} {ke : Nat → Int32}
theorem LI_G (h : LI g C rw len F mk ac ke) : Gok g := h.1
theorem LI_rw (h : LI g C rw len F mk ac ke) : rw = ac + 1 := h.2.2.2.1
theorem LI_ac (h : LI g C rw len F mk ac ke) : ac ≤ 400 := h.2.2.2.2.1
theorem LI_h (h : LI g C rw len F mk ac ke) : hOK g rw F ke := h.2.2.2.2.2.2.2.1
theorem mv_eq (h : LI g C rw len F mk ac ke) {a : Nat} (h1 : 1 ≤ a) (h2 : a < rw) {p : Nat} (hp : p < 100) : mvB F a p = mvM (gN g) ke a p := by
  have e1 := LI_h h a h2 p hp
  have e2 := LI_h h (a - 1) (by omega) p hp
  unfold mvB mvM
  by_cases i1 : p / 10 < gN g
  · by_cases i2 : p % 10 < gN g
    · rw [e1.1 ⟨i1, i2⟩, e2.1 ⟨i1, i2⟩, show 100 * (a - 1) + p = 100 * a - 100 + p by omega]
      rw [decide_eq_false (show ¬ gN g ≤ p / 10 by omega), decide_eq_false (show ¬ gN g ≤ p % 10 by omega)]
      rfl
    · rw [e1.2 (fun q => i2 q.2), e2.2 (fun q => i2 q.2)]
      rw [decide_eq_true (show gN g ≤ p % 10 by omega), Bool.not_true, Bool.false_and, Bool.and_false]
      rfl
  · rw [e1.2 (fun q => i1 q.1), e2.2 (fun q => i1 q.1)]
    rw [decide_eq_true (show gN g ≤ p / 10 by omega), Bool.not_true, Bool.false_and]
    rfl
theorem cnt_eq (h : LI g C rw len F mk ac ke) {a : Nat} (h1 : 1 ≤ a) (h2 : a < rw) : ∀ p, p ≤ 100 → cmv F a p = cmM (gN g) ke a p := by
  intro p
  induction p with
  | zero => intro _; rfl
  | succ p ih =>
    intro hp
    unfold cmv cmM
    rw [ih (by omega), mv_eq h h1 h2 (by omega)]
theorem fj_cong {P Q : Nat → Bool} : ∀ (d i : Nat), (∀ j, i ≤ j → j < i + d → P j = Q j) → fj P d i = fj Q d i := by
  intro d
  induction d with
  | zero => intro i _; rfl
  | succ d ih =>
    intro i h
    unfold fj
    rw [h i (by omega) (by omega), ih (i + 1) (fun j h1 h2 => h j (by omega) (by omega))]
theorem P_mov (h : LI g C rw len F mk ac ke) (x : Int32) : movC F rw x = movM (gN g) ke ac x := by
  unfold movC movM
  rw [← hasM (LI_rw h) (LI_ac h)]
  by_cases hb : hasB x rw = true
  · rw [if_pos hb, if_pos hb]
    have h3 := LI_rw h
    have h4 := LI_ac h
    obtain ⟨j, h1, h2, rfl⟩ := hasB_nat hb (by omega)
    rw [nI_clamp (by omega), cnt_eq h h1 h2 100 (by omega)]
  · rw [if_neg hb, if_neg hb]
theorem P_pai (h : LI g C rw len F mk ac ke) (x y : Int32) : paiC F rw x y = paiM (gN g) ke ac x y := by
  unfold paiC paiM
  rw [← hasM (LI_rw h) (LI_ac h)]
  by_cases hb : hasB x rw = true
  · rw [if_pos hb, if_pos hb]
    have h3 := LI_rw h
    have h4 := LI_ac h
    obtain ⟨j, h1, h2, rfl⟩ := hasB_nat hb (by omega)
    rw [nI_clamp (by omega)]
    congr 1
    apply fj_cong
    intro p _ hp
    unfold mpP mpM
    rw [mv_eq h h1 h2 (by omega), cnt_eq h h1 h2 p (by omega)]
  · rw [if_neg hb, if_neg hb]
theorem has0 (h : LI g C rw len F mk ac ke) (x : Int32) : inL x.toInt64 0 (nI ac).toInt64 = true ↔ (x = 0 ∨ hasB x rw = true) := by
  rw [hasM (LI_rw h) (LI_ac h), inL_iff, inL_iff, i64_of, decide_eq_true_eq, decide_eq_true_eq]
  have k1 : (1 : Int64).toInt = 1 := by decide
  have k0 : (0 : Int64).toInt = 0 := by decide
  have h0 : (0 : Int32).toInt = 0 := by decide
  rw [k1, k0, ← Int32.toInt_inj, h0]
  have h4 := LI_ac h
  rw [nI64 (by omega)]
  omega
theorem keep_at (h : LI g C rw len F mk ac ke) {t a b : Nat} (ht : t < rw) (ha : a < gN g) (hb : b < gN g) : F (t * 100 + (a * 10 + b)) = ke (100 * t + 10 * a + b) := by
  have hN := Gok_N (LI_G h)
  have e := (LI_h h t ht (a * 10 + b) (by omega)).1 ⟨by omega, by omega⟩
  rw [e, show 100 * t + (a * 10 + b) = 100 * t + 10 * a + b by omega]
theorem P_thn (h : LI g C rw len F mk ac ke) (x y z : Int32) : thnC g F rw x y z = thnM g ke ac x y z := by
  unfold thnC thnM
  have hN := Gok_N (LI_G h)
  have h3 := LI_rw h
  have h4 := LI_ac h
  by_cases iy : inb y (gN g) = true
  · by_cases iz : inb z (gN g) = true
    · rw [iy, iz, if_pos (show (true && true) = true from rfl), if_pos rfl, if_pos rfl]
      obtain ⟨a, ha, rfl⟩ := inb_nat iy (by omega)
      obtain ⟨b, hb, rfl⟩ := inb_nat iz (by omega)
      rw [nI_clamp (show a < 2 ^ 31 by omega), nI_clamp (show b < 2 ^ 31 by omega)]
      by_cases e0 : x = 0
      · subst e0
        rw [if_pos rfl, if_pos ((has0 h 0).mpr (Or.inl rfl))]
        have hc : (0 : Int32).toNatClampNeg = 0 := by decide
        rw [hc]
        exact keep_at h (by omega) ha hb
      · rw [if_neg e0]
        by_cases hx : hasB x rw = true
        · rw [if_pos hx, if_pos ((has0 h x).mpr (Or.inr hx))]
          obtain ⟨j, h1, h2, rfl⟩ := hasB_nat hx (by omega)
          rw [nI_clamp (by omega)]
          exact keep_at h h2 ha hb
        · rw [if_neg hx, if_neg (fun q => ((has0 h x).mp q).elim e0 hx)]
    · have ez : inb z (gN g) = false := by simpa using iz
      rw [iy, ez]
      rfl
  · have ey : inb y (gN g) = false := by simpa using iy
    rw [ey]
    rfl
theorem k500 : (-500 : Int32).toInt = -500 := by decide
theorem k1000 : (nI 1000).toInt = 1000 := by decide
theorem k500L : (-500 : Int64).toInt = -500 := by decide
theorem k1000L : (1000 : Int64).toInt = 1000 := by decide
theorem P_sin (h : LI g C rw len F mk ac ke) (x y z v : Int32) : sinC g F rw x y z v = sinM g ke ac x y z v := by
  unfold sinC sinM
  have hN := Gok_N (LI_G h)
  have h3 := LI_rw h
  have h4 := LI_ac h
  by_cases iy : inb y (gN g) = true
  · by_cases iz : inb z (gN g) = true
    · rw [iy, iz, if_pos (show (true && true) = true from rfl), if_pos rfl, if_pos rfl]
      obtain ⟨a, ha, rfl⟩ := inb_nat iy (by omega)
      obtain ⟨b, hb, rfl⟩ := inb_nat iz (by omega)
      rw [nI_clamp (show a < 2 ^ 31 by omega), nI_clamp (show b < 2 ^ 31 by omega), ← hasM h3 h4]
      by_cases hx : hasB x rw = true
      · rw [if_pos hx, if_pos hx]
        obtain ⟨j, h1, h2, rfl⟩ := hasB_nat hx (by omega)
        rw [nI_clamp (by omega), inL_iff, i64_of]
        have k3 := k500
        have k4 := k1000
        rw [k500L, k1000L]
        by_cases v1 : v < (-500)
        · rw [if_pos v1]
          rw [Int32.lt_iff_toInt_lt, k3] at v1
          rw [decide_eq_false (show ¬ (-500 ≤ v.toInt ∧ v.toInt ≤ 1000) by omega), if_neg Bool.false_ne_true]
        · rw [if_neg v1]
          rw [Int32.lt_iff_toInt_lt, k3] at v1
          by_cases v2 : v ≤ nI 1000
          · rw [if_pos v2]
            rw [Int32.le_iff_toInt_le, k4] at v2
            rw [decide_eq_true (show -500 ≤ v.toInt ∧ v.toInt ≤ 1000 by omega), if_pos rfl, h3]
            congr 1
            apply fj_cong
            intro t t1 t2
            unfold fwP fwM
            rw [keep_at h (show t < rw by omega) ha hb]
          · rw [if_neg v2]
            rw [Int32.le_iff_toInt_le, k4] at v2
            rw [decide_eq_false (show ¬ (-500 ≤ v.toInt ∧ v.toInt ≤ 1000) by omega), if_neg Bool.false_ne_true]
      · rw [if_neg hx, if_neg hx]
    · have ez : inb z (gN g) = false := by simpa using iz
      rw [iy, ez, Bool.and_false, if_neg Bool.false_ne_true, if_pos rfl, if_neg Bool.false_ne_true]
  · have ey : inb y (gN g) = false := by simpa using iy
    rw [ey, Bool.false_and, if_neg Bool.false_ne_true, if_neg Bool.false_ne_true]
end PAST
