/-! ===== the plain part: the i-th line of a way ===== -/
section WAY2
variable {g : Gr} {C : Nat → Int32} {rw len : Nat} {F : Nat → Int32} {mk : Int32} {ac : Nat} {ke : Nat → Int32} {fi : Nat → Int32}
theorem ln_at (G : Gok g) (H : Mt (gN g) C fi) (hN : Nxt g fi) {a b S t : Nat} (ha : a < gN g) (hb : b < gN g) (hf : fi (10 * a + b) < nI 10000000) (hS : stM (fi (10 * a + b)) = nI S) (h9 : S ≤ 63) (ht : t < S) : nx g C (ps g C a b t) b = nI (nlM g fi b (atM g fi a b t)) := by
  obtain ⟨i1, i2, i3, i4⟩ := ps_at G H hN ha hb hf hS h9 t (by omega)
  obtain ⟨n1', -⟩ := Nxt_at hN i2 hb i3 i4 (by omega) (by omega)
  rw [i1, nxw_eq G H i2 hb (Int32.not_le.mpr i3), n1']
  rfl
theorem P_way (h : LI g C rw len F mk ac ke) (x y z : Int32) : wayC g C x y z = wayM g x y z := by
  have G := LI_G h
  have H := LI_Mt h
  have hX := P_nxt h
  have hN := Gok_N G
  unfold wayC wayM
  by_cases iy : inb x (gN g) = true
  · by_cases iz : inb y (gN g) = true
    · rw [iy, iz, if_pos (show (true && true) = true from rfl), if_pos rfl, if_pos rfl]
      obtain ⟨a, ha, rfl⟩ := inb_nat iy (by omega)
      obtain ⟨b, hb, rfl⟩ := inb_nat iz (by omega)
      rw [nI_clamp (show a < 2 ^ 31 by omega), nI_clamp (show b < 2 ^ 31 by omega)]
      have z0 : (0 : Int32).toInt = 0 := by decide
      have z64 : (0 : Int64).toInt = 0 := by decide
      unfold lnAt
      rw [s_ln H ha hb]
      by_cases hf : nI 10000000 ≤ (lrn g (-1000) (-1000)).1 (10 * a + b)
      · rw [if_pos hf, stM_no hf]
        by_cases i0 : z < 0
        · rw [if_pos i0]
        · rw [if_neg i0]
          rw [Int32.lt_iff_toInt_lt, z0] at i0
          rw [if_neg (by rw [Int32.lt_iff_toInt_lt, nNo]; omega)]
      · have hf' := Int32.not_le.mp hf
        obtain ⟨S, s1, s2, -⟩ := hX a b ha hb hf'
        rw [if_neg hf, ← stM_lt hf', s2, inL_iff, i64_of, nI_1_toInt (by omega), z64]
        by_cases i0 : z < 0
        · rw [if_pos i0]
          rw [Int32.lt_iff_toInt_lt, z0] at i0
          rw [decide_eq_false (by omega), if_neg Bool.false_ne_true]
        · rw [if_neg i0]
          obtain ⟨t, t1, rfl⟩ := nI_of i0
          rw [nI_clamp t1, nI_toInt t1]
          by_cases ht : t < S
          · rw [if_pos ((nI_ltI t1 (by omega)).mpr ht), decide_eq_true (by omega), if_pos rfl]
            exact ln_at G H hX ha hb hf' s2 s1 ht
          · rw [if_neg (fun q => ht ((nI_ltI t1 (by omega)).mp q)), decide_eq_false (by omega), if_neg Bool.false_ne_true]
    · have ez : inb y (gN g) = false := by simpa using iz
      rw [iy, ez, Bool.and_false, if_neg Bool.false_ne_true, if_pos rfl, if_neg Bool.false_ne_true]
  · have ey : inb x (gN g) = false := by simpa using iy
    rw [ey, Bool.false_and, if_neg Bool.false_ne_true, if_neg Bool.false_ne_true]
end WAY2
