/-! ===== the invariant of the law's loop ===== -/
def hOK (g : Gr) (rw : Nat) (F ke : Nat → Int32) : Prop := ∀ t, t < rw → ∀ p, p < 100 → (p / 10 < gN g ∧ p % 10 < gN g → F (t * 100 + p) = ke (100 * t + p)) ∧ (¬ (p / 10 < gN g ∧ p % 10 < gN g) → F (t * 100 + p) = (-1000))
def lenOK (len : Nat) : Prop := len ≤ 401
def LI (g : Gr) (C : Nat → Int32) (rw len : Nat) (F : Nat → Int32) (mk : Int32) (ac : Nat) (ke : Nat → Int32) : Prop :=
  Gok g ∧ (lrn g (-1000) (-1000)).2 = true ∧ (∀ p, p < 100 → C p = cst g (gN g) p) ∧ rw = ac + 1 ∧ ac ≤ 400 ∧ rw ≤ len ∧ lenOK len ∧ hOK g rw F ke ∧ ∃ s, s < 2 ^ gN g ∧ mk = nI s
theorem lenOK_le {len : Nat} (h : lenOK len) : 0 ≤ len ∧ len ≤ 401 := ⟨Nat.zero_le _, h⟩
theorem pot {rw len : Nat} (h : lenOK len) (h2 : rw ≤ len) (h3 : rw ≤ 400) : lenOK (gL rw len) ∧ 2 * len + gC rw len ≤ 2 * gL rw len ∧ 101 * len + gS rw len ≤ 101 * gL rw len := by
  unfold lenOK gC gS gL at *
  split <;> omega
theorem gC_le (rw len : Nat) : gC rw len ≤ 2 := by
  unfold gC
  split <;> omega
theorem gS_le (rw len : Nat) : gS rw len ≤ 101 := by
  unfold gS
  split <;> omega
