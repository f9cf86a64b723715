/-! ===== the invariant of the law's loop ===== -/
def hOK (g : Gr) (rw : Nat) (F ke : Nat → Int32) : Prop := ∀ t, t < rw → ∀ p, p < 100 → (p / 10 < gN g ∧ p % 10 < gN g → F (t * 100 + p) = ke (100 * t + p)) ∧ (¬ (p / 10 < gN g ∧ p % 10 < gN g) → F (t * 100 + p) = (-1000))
def lenOK (len : Nat) : Prop := len = 1600 ∨ len = 3200 ∨ len = 6400 ∨ len = 12800 ∨ len = 25600 ∨ len = 40100
def LI (g : Gr) (C : Nat → Int32) (rw len : Nat) (F : Nat → Int32) (mk : Int32) (ac : Nat) (ke : Nat → Int32) : Prop :=
  Gok g ∧ (lrn g (-1000) (-1000)).2 = true ∧ (∀ p, p < 100 → C p = cst g (gN g) p) ∧ rw = ac + 1 ∧ ac ≤ 400 ∧ rw * 100 ≤ len ∧ lenOK len ∧ hOK g rw F ke ∧ ∃ s, s < 2 ^ gN g ∧ mk = nI s
theorem lenOK_le {len : Nat} (h : lenOK len) : 1600 ≤ len ∧ len ≤ 40100 := by
  unfold lenOK at h
  omega
theorem pot {rw len : Nat} (h : lenOK len) (h2 : rw * 100 ≤ len) (h3 : rw ≤ 400) : lenOK (gL rw len) ∧ len + gC rw len ≤ gL rw len ∧ 3 * len + gS rw len ≤ 3 * gL rw len := by
  unfold lenOK gC gS gL at *
  split
  · omega
  · split <;> omega
theorem gC_le (rw len : Nat) : gC rw len ≤ 1 := by
  unfold gC
  split <;> omega
theorem gS_le {rw len : Nat} (h : len ≤ 40100) : gS rw len ≤ 40100 := by
  unfold gS
  split
  · omega
  · exact gL_le h
