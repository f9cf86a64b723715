/-! ===== the states as numbers: the lines (a graph), the class's world, the model's world ===== -/
abbrev Gr : Type := Nat × Nat × (Nat → Int32) × (Nat → Int32) × (Nat → Int32) × (Nat → Int32) × (Nat → Int32)
def gN (g : Gr) : Nat := g.1
def gK (g : Gr) : Nat := g.2.1
def gB (g : Gr) : Nat → Int32 := g.2.2.1
def gE (g : Gr) : Nat → Int32 := g.2.2.2.1
def gP (g : Gr) : Nat → Int32 := g.2.2.2.2.1
def gW (g : Gr) : Nat → Int32 := g.2.2.2.2.2.1
def gT (g : Gr) : Nat → Int32 := g.2.2.2.2.2.2
def sN (g : Gr) (n : Nat) : Gr := (n, gK g, gB g, gE g, gP g, gW g, gT g)
def sK (g : Gr) (n : Nat) : Gr := (gN g, n, gB g, gE g, gP g, gW g, gT g)
def sB (g : Gr) (f : Nat → Int32) : Gr := (gN g, gK g, f, gE g, gP g, gW g, gT g)
def sE (g : Gr) (f : Nat → Int32) : Gr := (gN g, gK g, gB g, f, gP g, gW g, gT g)
def sP (g : Gr) (f : Nat → Int32) : Gr := (gN g, gK g, gB g, gE g, f, gW g, gT g)
def sW (g : Gr) (f : Nat → Int32) : Gr := (gN g, gK g, gB g, gE g, gP g, f, gT g)
def sT (g : Gr) (f : Nat → Int32) : Gr := (gN g, gK g, gB g, gE g, gP g, gW g, f)
def e1 (g : Gr) (j : Nat) : Nat := (gB g j).toNatClampNeg
def e2 (g : Gr) (j : Nat) : Nat := (gE g j).toNatClampNeg
def bW (g : Gr) (j : Nat) : Bool := decide (gW g j ≠ 0)
def bT (g : Gr) (j : Nat) : Bool := decide (gT g j ≠ 0)
def Gok (g : Gr) : Prop := 2 ≤ gN g ∧ gN g ≤ 10 ∧ gK g ≤ 40 ∧ ∀ j, j < gK g → (∃ x, x < gN g ∧ gB g j = nI x) ∧ (∃ x, x < gN g ∧ gE g j = nI x) ∧ gB g j ≠ gE g j ∧ (gW g j = nI 0 ∨ gW g j = nI 1) ∧ (gT g j = nI 0 ∨ gT g j = nI 1) ∧ -50 ≤ (gP g j).toInt ∧ (gP g j).toInt ≤ 99 ∧ (gW g j = nI 1 → 0 ≤ (gP g j).toInt)
theorem Gok_N2 {g : Gr} (h : Gok g) : 2 ≤ gN g := h.1
theorem Gok_N {g : Gr} (h : Gok g) : gN g ≤ 10 := h.2.1
theorem Gok_K {g : Gr} (h : Gok g) : gK g ≤ 40 := h.2.2.1
theorem Gok_B2 {g : Gr} (h : Gok g) {j : Nat} (hj : j < gK g) : e1 g j < gN g := by
  obtain ⟨⟨x, hx, e⟩, -⟩ := h.2.2.2 j hj
  have := h.2.1
  unfold e1
  rw [e, nI_clamp (by omega)]
  exact hx
theorem Gok_E2 {g : Gr} (h : Gok g) {j : Nat} (hj : j < gK g) : e2 g j < gN g := by
  obtain ⟨-, ⟨x, hx, e⟩, -⟩ := h.2.2.2 j hj
  have := h.2.1
  unfold e2
  rw [e, nI_clamp (by omega)]
  exact hx
theorem Gok_B {g : Gr} (h : Gok g) {j : Nat} (hj : j < gK g) : gB g j = nI (e1 g j) := by
  obtain ⟨⟨x, hx, e⟩, -⟩ := h.2.2.2 j hj
  have := h.2.1
  unfold e1
  rw [e, nI_clamp (by omega)]
theorem Gok_E {g : Gr} (h : Gok g) {j : Nat} (hj : j < gK g) : gE g j = nI (e2 g j) := by
  obtain ⟨-, ⟨x, hx, e⟩, -⟩ := h.2.2.2 j hj
  have := h.2.1
  unfold e2
  rw [e, nI_clamp (by omega)]
theorem Gok_W {g : Gr} (h : Gok g) {j : Nat} (hj : j < gK g) : gW g j = bI (bW g j) := by
  obtain ⟨-, -, -, h1, -⟩ := h.2.2.2 j hj
  unfold bW
  rcases h1 with e | e <;> rw [e] <;> decide
theorem Gok_T {g : Gr} (h : Gok g) {j : Nat} (hj : j < gK g) : gT g j = bI (bT g j) := by
  obtain ⟨-, -, -, -, h1, -⟩ := h.2.2.2 j hj
  unfold bT
  rcases h1 with e | e <;> rw [e] <;> decide
theorem Gok_ne {g : Gr} (h : Gok g) {j : Nat} (hj : j < gK g) : e1 g j ≠ e2 g j := fun e => (h.2.2.2 j hj).2.2.1 (by rw [Gok_B h hj, Gok_E h hj, e])
/-- the class's world: 0 the object, 1 Net, 2 Ways, 3 Past, 4 Hitting, 5 .. 9 Net's rows, 10 costs, 11 reached, 12 fars (at qf), 13 asked -/
def wC (q : Nat → Nat) (qf : Nat) (cI cZ : ClassId) (g : Gr) (C R : Nat → Int32) (rw len : Nat) (F : Nat → Int32) (sz : Nat) (X : Nat → Int32) (mk : Int32) : va_W :=
  [(q 0, .inr (4, [.ref (q 1), .ref (q 2), .ref (q 3), .ref (q 4), .int mk])),
   (q 1, .inr (1, [.ref (q 5), .ref (q 6), .ref (q 7), .ref (q 8), .ref (q 9), .int (nI (gN g)), .int (nI (gK g))])),
   (q 2, .inr (3, [.ref (q 1), .ref (q 10), .ref (q 11)])),
   (q 3, .inr (2, [.ref qf, .int (nI rw)])),
   (q 4, .inr (0, [.ref (q 13), .int (nI sz)])),
   (q 5, .inl (cI, 40, .inl (gB g))), (q 6, .inl (cI, 40, .inl (gE g))), (q 7, .inl (cI, 40, .inl (gP g))), (q 8, .inl (cZ, 40, .inl (gW g))), (q 9, .inl (cZ, 40, .inl (gT g))),
   (q 10, .inl (cI, 100, .inl C)), (q 11, .inl (cI, 10, .inl R)), (qf, .inl (cI, len, .inl F)), (q 13, .inl (cI, 100, .inl X))]
/-- the model's world: 0 the object, 1 .. 5 from, to, price, isBoth, isThere, 6 fine, 7 kept, 8 inner -/
def wM (q : Nat → Nat) (cI cZ : ClassId) (g : Gr) (fi ke : Nat → Int32) (ac : Nat) (mk : Int32) (iv : Nat → Int32) : va_W :=
  [(q 0, .inr (5, [.int (nI 0), .int (nI (gN g)), .int (nI (gK g)), .ref (q 1), .ref (q 2), .ref (q 3), .ref (q 4), .ref (q 5), .ref (q 6), .ref (q 7), .int (nI ac), .int mk, .ref (q 8)])),
   (q 1, .inl (cI, 40, .inl (gB g))), (q 2, .inl (cI, 40, .inl (gE g))), (q 3, .inl (cI, 40, .inl (gP g))), (q 4, .inl (cZ, 40, .inl (gW g))), (q 5, .inl (cZ, 40, .inl (gT g))),
   (q 6, .inl (cI, 100, .inl fi)), (q 7, .inl (cI, 40100, .inl ke)), (q 8, .inl (cI, 100, .inl iv))]
def mmax (x y : Int32) : Int32 := if x < y then y else x
def mmin (x y : Int32) : Int32 := if y < x then y else x
/-! ===== what the methods answer, as functions ===== -/
def inb (x : Int32) (n : Nat) : Bool := !decide (x < 0) && !decide (nI n ≤ x)
theorem inb_nat {x : Int32} {n : Nat} (h : inb x n = true) (hn : n < 2 ^ 31) : ∃ j, j < n ∧ x = nI j := by
  simp only [inb, Bool.and_eq_true, Bool.not_eq_true', decide_eq_false_iff_not] at h
  obtain ⟨j, hj, e⟩ := nI_of h.1
  refine ⟨j, ?_, e⟩
  rcases Nat.lt_or_ge j n with q | q
  · exact q
  · exact absurd (by rw [e]; exact nI_le q hj) h.2
theorem inb_nI {j n : Nat} (hj : j < 2 ^ 31) (hn : n < 2 ^ 31) : inb (nI j) n = decide (j < n) := by
  have h0 : ¬ nI j < 0 := by
    have h := nI_pos' hj
    exact Int32.not_lt.mpr h
  by_cases q : j < n
  · have h1 : ¬ nI n ≤ nI j := fun z => absurd ((nI_leI hn hj).mp z) (by omega)
    simp only [inb, h0, h1, q, decide_false, decide_true, Bool.not_false, Bool.and_self]
  · have h1 : nI n ≤ nI j := (nI_leI hn hj).mpr (by omega)
    simp only [inb, h0, h1, q, decide_false, decide_true, Bool.not_false, Bool.not_true, Bool.and_false]
def addG (g : Gr) (a b : Nat) (p : Int32) (t : Bool) : Gr := sT (sW (sP (sE (sB (sK g (gK g + 1)) (upd (gB g) (gK g) (nI a))) (upd (gE g) (gK g) (nI b))) (upd (gP g) (gK g) p)) (upd (gW g) (gK g) (bI t))) (upd (gT g) (gK g) (nI 1))
def cntT (g : Gr) : Nat → Nat | 0 => 0 | i + 1 => cntT g i + (if bT g i then 1 else 0)
def tgN (g : Gr) (j : Nat) (y : Int32) : Int32 := if bT g j = true then (if nI (e1 g j) = y then nI (e2 g j) else if bW g j = true then (if nI (e2 g j) = y then nI (e1 g j) else (-1)) else (-1)) else (-1)
def tgt (g : Gr) (x y : Int32) : Int32 := if inb x (gK g) = true then tgN g x.toNatClampNeg y else (-1)
def tch (g : Gr) (j : Nat) (y : Int32) : Bool := decide (nI (e1 g j) = y) || decide (nI (e2 g j) = y)
