/-! ===== 32 bits where nothing runs over ===== -/
theorem n64 : (nI 64).toInt = 64 := by decide
theorem n1 : (nI 1).toInt = 1 := by decide
theorem nBig : (nI 10000000).toInt = 10000000 := by decide
theorem nMax : (1073741824 : Int32).toInt = 1073741824 := by decide
theorem nNo : (-1000 : Int32).toInt = -1000 := by decide
theorem aAdd {a b : Int32} (h1 : -2147483648 ≤ a.toInt + b.toInt) (h2 : a.toInt + b.toInt < 2147483648) : (a + b).toInt = a.toInt + b.toInt := by
  rw [Int32.toInt_add]
  exact Int.bmod_eq_of_le_mul_two (by omega) (by omega)
theorem aSub {a b : Int32} (h1 : -2147483648 ≤ a.toInt - b.toInt) (h2 : a.toInt - b.toInt < 2147483648) : (a - b).toInt = a.toInt - b.toInt := by
  rw [Int32.toInt_sub]
  exact Int.bmod_eq_of_le_mul_two (by omega) (by omega)
theorem aM64 {a : Int32} (h1 : -2147483648 ≤ a.toInt * 64) (h2 : a.toInt * 64 < 2147483648) : (a * nI 64).toInt = a.toInt * 64 := by
  rw [Int32.toInt_mul, n64]
  exact Int.bmod_eq_of_le_mul_two (by omega) (by omega)
theorem aDiv (x : Int32) : (x / nI 64).toInt = x.toInt.tdiv 64 := by
  rw [Int32.toInt_div_of_ne_right _ _ (by decide), n64]
theorem tdP {x : Int} (h : 0 ≤ x) : x.tdiv 64 = x / 64 := Int.tdiv_eq_ediv_of_nonneg h
theorem tdN {x : Int} (h : x < 0) : x.tdiv 64 = -((-x) / 64) := by
  have h1 := Int.neg_tdiv (-x) 64
  have h2 : (-x).tdiv 64 = (-x) / 64 := tdP (by omega)
  have h3 : - -x = x := Int.neg_neg x
  rw [h2, h3] at h1
  exact h1
theorem xor64 (x : Int32) : 0 ≤ x ^^^ nI 64 ↔ 0 ≤ x.toInt := by
  rw [Int32.le_iff_toInt_le]
  have h0 : (0 : Int32).toInt = 0 := by decide
  rw [h0]
  have h1 : (x ^^^ nI 64).toBitVec.msb = x.toBitVec.msb := by
    rw [Int32.toBitVec_xor, BitVec.msb_xor]
    have h5 : (nI 64).toBitVec.msb = false := by decide
    rw [h5, Bool.xor_false]
  rw [BitVec.msb_eq_toInt, BitVec.msb_eq_toInt] at h1
  have h4 := decide_eq_decide.mp h1
  have h2 : (x ^^^ nI 64).toBitVec.toInt = (x ^^^ nI 64).toInt := rfl
  have h3 : x.toBitVec.toInt = x.toInt := rfl
  rw [h2, h3] at h4
  omega
theorem fdv64 (x : Int32) : (fdv x (nI 64)).toInt = x.toInt / 64 := by
  have hd := aDiv x
  have hl := x.le_toInt
  have hh := x.toInt_lt
  unfold fdv
  by_cases h : 0 ≤ x.toInt
  · rw [if_pos ((xor64 x).mpr h), hd, tdP h]
  · rw [if_neg (fun q => h ((xor64 x).mp q))]
    rw [tdN (by omega)] at hd
    have hm : (x / nI 64 * nI 64).toInt = (x / nI 64).toInt * 64 := aM64 (by omega) (by omega)
    by_cases e : x / nI 64 * nI 64 = x
    · rw [if_pos e, hd]
      have h7 := congrArg Int32.toInt e
      rw [hm, hd] at h7
      omega
    · rw [if_neg e]
      have e1 : (x / nI 64).toInt * 64 ≠ x.toInt := fun q => e (Int32.toInt_inj.mp (by rw [hm]; exact q))
      rw [aSub (by rw [n1]; omega) (by rw [n1]; omega), n1]
      rw [hd] at e1 ⊢
      omega
theorem fmd64 (x : Int32) : (fmd x (nI 64)).toInt = x.toInt % 64 := by
  have hd := aDiv x
  have hl := x.le_toInt
  have hh := x.toInt_lt
  unfold fmd
  by_cases h : 0 ≤ x.toInt
  · rw [if_pos ((xor64 x).mpr h)]
    rw [tdP h] at hd
    have hm : (x / nI 64 * nI 64).toInt = (x / nI 64).toInt * 64 := aM64 (by omega) (by omega)
    rw [aSub (by omega) (by omega), hm, hd]
    omega
  · rw [if_neg (fun q => h ((xor64 x).mp q))]
    rw [tdN (by omega)] at hd
    have hm : (x / nI 64 * nI 64).toInt = (x / nI 64).toInt * 64 := aM64 (by omega) (by omega)
    have hs : (x - x / nI 64 * nI 64).toInt = x.toInt - (x / nI 64).toInt * 64 := by rw [aSub (by omega) (by omega), hm]
    by_cases e : x - x / nI 64 * nI 64 = 0
    · rw [if_pos e, hs, hd]
      have h7 := congrArg Int32.toInt e
      have h0 : (0 : Int32).toInt = 0 := by decide
      rw [hs, hd, h0] at h7
      omega
    · rw [if_neg e]
      have h0 : (0 : Int32).toInt = 0 := by decide
      have e1 : x.toInt - (x / nI 64).toInt * 64 ≠ 0 := fun q => e (Int32.toInt_inj.mp (by rw [hs, h0]; exact q))
      rw [aAdd (by rw [n64]; omega) (by rw [n64]; omega), n64, hs]
      rw [hd] at e1 ⊢
      omega
theorem crs64 {v : Int32} (h1 : -10000000 ≤ v.toInt) (h2 : v.toInt < 10000000) : (crs v).toInt = v.toInt / 64 := by
  have hd := aDiv v
  have h0 : (0 : Int32).toInt = 0 := by decide
  have hlt : v < nI 10000000 := by rw [Int32.lt_iff_toInt_lt, nBig]; exact h2
  unfold crs
  rw [if_pos hlt]
  by_cases h : 0 ≤ v.toInt
  · rw [tdP h] at hd
    have hm : (v / nI 64 * nI 64).toInt = (v / nI 64).toInt * 64 := aM64 (by omega) (by omega)
    have hs : (v - v / nI 64 * nI 64).toInt = v.toInt - (v / nI 64).toInt * 64 := by rw [aSub (by omega) (by omega), hm]
    have hge : 0 ≤ v - v / nI 64 * nI 64 := by rw [Int32.le_iff_toInt_le, hs, h0]; omega
    have h3 : (v - (v - v / nI 64 * nI 64)).toInt = (v / nI 64).toInt * 64 := by rw [aSub (by omega) (by omega), hs]; omega
    rw [if_pos hge, aDiv, h3, tdP (by omega)]
    omega
  · rw [tdN (by omega)] at hd
    have hm : (v / nI 64 * nI 64).toInt = (v / nI 64).toInt * 64 := aM64 (by omega) (by omega)
    have hs : (v - v / nI 64 * nI 64).toInt = v.toInt - (v / nI 64).toInt * 64 := by rw [aSub (by omega) (by omega), hm]
    by_cases hge : 0 ≤ v - v / nI 64 * nI 64
    · have h3 : (v - (v - v / nI 64 * nI 64)).toInt = (v / nI 64).toInt * 64 := by rw [aSub (by omega) (by omega), hs]; omega
      rw [if_pos hge, aDiv, h3]
      rw [Int32.le_iff_toInt_le, hs, h0] at hge
      rw [tdN (by omega)]
      omega
    · rw [if_neg hge]
      rw [Int32.le_iff_toInt_le, hs, h0] at hge
      have h4 : (v - v / nI 64 * nI 64 + nI 64).toInt = v.toInt - (v / nI 64).toInt * 64 + 64 := by rw [aAdd (by rw [n64]; omega) (by rw [n64]; omega), n64, hs]
      have h3 : (v - (v - v / nI 64 * nI 64 + nI 64)).toInt = (v / nI 64).toInt * 64 - 64 := by rw [aSub (by omega) (by omega), h4]; omega
      rw [aDiv, h3, tdN (by omega)]
      omega
theorem crs_no {v : Int32} (h : nI 10000000 ≤ v) : crs v = (-1000) := by
  unfold crs
  rw [if_neg (Int32.not_lt.mpr h)]
theorem stM64 {v : Int32} (h1 : -10000000 ≤ v.toInt) (h2 : v.toInt < 10000000) : (stM v).toInt = v.toInt % 64 := by
  have hc := crs64 h1 h2
  have hlt : v < nI 10000000 := by rw [Int32.lt_iff_toInt_lt, nBig]; exact h2
  have hm : (nI 64 * crs v).toInt = (crs v).toInt * 64 := by rw [Int32.mul_comm]; exact aM64 (by omega) (by omega)
  unfold stM
  rw [if_pos hlt, aSub (by omega) (by omega), hm, hc]
  omega
theorem stM_no {v : Int32} (h : nI 10000000 ≤ v) : stM v = (-1000) := by
  unfold stM
  rw [if_neg (Int32.not_lt.mpr h)]
/-- the class's cost and the model's say the same: none, or the same number, small -/
def mt (c v : Int32) : Prop := (c = 1073741824 ∧ v = nI 10000000) ∨ (c = v ∧ -30000 ≤ c.toInt ∧ c.toInt ≤ 60000)
theorem mt_max {c v : Int32} (h : mt c v) : c = 1073741824 ↔ nI 10000000 ≤ v := by
  rcases h with ⟨rfl, rfl⟩ | ⟨rfl, h1, h2⟩
  · exact ⟨fun _ => (by decide), fun _ => rfl⟩
  · constructor
    · intro e
      rw [e, nMax] at h2
      omega
    · intro e
      rw [Int32.le_iff_toInt_le, nBig] at e
      omega
theorem mt_pr {c v : Int32} (h : mt c v) : prI c = crs v := by
  rcases h with ⟨rfl, rfl⟩ | ⟨rfl, h1, h2⟩
  · decide
  · have hn : ¬ c = 1073741824 := by
      intro e
      rw [e, nMax] at h2
      omega
    unfold prI
    rw [if_neg hn]
    apply Int32.toInt_inj.mp
    rw [fdv64, crs64 (by omega) (by omega)]
theorem mt_ln {c v : Int32} (h : mt c v) : lnI c = stM v := by
  rcases h with ⟨rfl, rfl⟩ | ⟨rfl, h1, h2⟩
  · decide
  · have hn : ¬ c = 1073741824 := by
      intro e
      rw [e, nMax] at h2
      omega
    unfold lnI
    rw [if_neg hn]
    apply Int32.toInt_inj.mp
    rw [fmd64, stM64 (by omega) (by omega)]
theorem mt_no {c v : Int32} (h : mt c v) : c = 1073741824 ↔ crs v = (-1000) := by
  rcases h with ⟨rfl, rfl⟩ | ⟨rfl, h1, h2⟩
  · exact ⟨fun _ => (by decide), fun _ => rfl⟩
  · constructor
    · intro e
      rw [e, nMax] at h2
      omega
    · intro e
      have h3 := congrArg Int32.toInt e
      rw [crs64 (by omega) (by omega), nNo] at h3
      omega
