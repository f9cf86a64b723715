/-! ===== the states as numbers: the lines (a graph), the class's world, the model's world ===== -/
abbrev Gr : Type := Nat × Nat × (Nat → Int32) × (Nat → Int32) × (Nat → Int32) × (Nat → Int32) × (Nat → Int32)
def gN (g : Gr) : Nat := g.1
def gK (g : Gr) : Nat := g.2.1
def gB (g : Gr) : Nat → Int32 := g.2.2.1
def gE (g : Gr) : Nat → Int32 := g.2.2.2.1
def gP (g : Gr) : Nat → Int32 := g.2.2.2.2.1
def gW (g : Gr) : Nat → Int32 := g.2.2.2.2.2.1
def gT (g : Gr) : Nat → Int32 := g.2.2.2.2.2.2
def sN (g : Gr) (n : Nat) : Gr := (n, gK g, gB g, gE g, gP g, gW g, gT g)
def sK (g : Gr) (n : Nat) : Gr := (gN g, n, gB g, gE g, gP g, gW g, gT g)
def sB (g : Gr) (f : Nat → Int32) : Gr := (gN g, gK g, f, gE g, gP g, gW g, gT g)
def sE (g : Gr) (f : Nat → Int32) : Gr := (gN g, gK g, gB g, f, gP g, gW g, gT g)
def sP (g : Gr) (f : Nat → Int32) : Gr := (gN g, gK g, gB g, gE g, f, gW g, gT g)
def sW (g : Gr) (f : Nat → Int32) : Gr := (gN g, gK g, gB g, gE g, gP g, f, gT g)
def sT (g : Gr) (f : Nat → Int32) : Gr := (gN g, gK g, gB g, gE g, gP g, gW g, f)
def e1 (g : Gr) (j : Nat) : Nat := (gB g j).toNatClampNeg
def e2 (g : Gr) (j : Nat) : Nat := (gE g j).toNatClampNeg
def bW (g : Gr) (j : Nat) : Bool := decide (gW g j ≠ 0)
def bT (g : Gr) (j : Nat) : Bool := decide (gT g j ≠ 0)
def Gok (g : Gr) : Prop := 2 ≤ gN g ∧ gN g ≤ 10 ∧ gK g ≤ 40 ∧ ∀ j, j < gK g → (∃ x, x < gN g ∧ gB g j = nI x) ∧ (∃ x, x < gN g ∧ gE g j = nI x) ∧ gB g j ≠ gE g j ∧ (gW g j = nI 0 ∨ gW g j = nI 1) ∧ (gT g j = nI 0 ∨ gT g j = nI 1) ∧ -50 ≤ (gP g j).toInt ∧ (gP g j).toInt ≤ 99 ∧ (gW g j = nI 1 → 0 ≤ (gP g j).toInt)
theorem Gok_N2 {g : Gr} (h : Gok g) : 2 ≤ gN g := h.1
theorem Gok_N {g : Gr} (h : Gok g) : gN g ≤ 10 := h.2.1
theorem Gok_K {g : Gr} (h : Gok g) : gK g ≤ 40 := h.2.2.1
theorem Gok_B2 {g : Gr} (h : Gok g) {j : Nat} (hj : j < gK g) : e1 g j < gN g := by
  obtain ⟨⟨x, hx, e⟩, -⟩ := h.2.2.2 j hj
  have := h.2.1
  unfold e1
  rw [e, nI_clamp (by omega)]
  exact hx
theorem Gok_E2 {g : Gr} (h : Gok g) {j : Nat} (hj : j < gK g) : e2 g j < gN g := by
  obtain ⟨-, ⟨x, hx, e⟩, -⟩ := h.2.2.2 j hj
  have := h.2.1
  unfold e2
  rw [e, nI_clamp (by omega)]
  exact hx
theorem Gok_B {g : Gr} (h : Gok g) {j : Nat} (hj : j < gK g) : gB g j = nI (e1 g j) := by
  obtain ⟨⟨x, hx, e⟩, -⟩ := h.2.2.2 j hj
  have := h.2.1
  unfold e1
  rw [e, nI_clamp (by omega)]
theorem Gok_E {g : Gr} (h : Gok g) {j : Nat} (hj : j < gK g) : gE g j = nI (e2 g j) := by
  obtain ⟨-, ⟨x, hx, e⟩, -⟩ := h.2.2.2 j hj
  have := h.2.1
  unfold e2
  rw [e, nI_clamp (by omega)]
theorem Gok_W {g : Gr} (h : Gok g) {j : Nat} (hj : j < gK g) : gW g j = bI (bW g j) := by
  obtain ⟨-, -, -, h1, -⟩ := h.2.2.2 j hj
  unfold bW
  rcases h1 with e | e <;> rw [e] <;> decide
theorem Gok_T {g : Gr} (h : Gok g) {j : Nat} (hj : j < gK g) : gT g j = bI (bT g j) := by
  obtain ⟨-, -, -, -, h1, -⟩ := h.2.2.2 j hj
  unfold bT
  rcases h1 with e | e <;> rw [e] <;> decide
theorem Gok_ne {g : Gr} (h : Gok g) {j : Nat} (hj : j < gK g) : e1 g j ≠ e2 g j := fun e => (h.2.2.2 j hj).2.2.1 (by rw [Gok_B h hj, Gok_E h hj, e])
/-- Past's row of objects: the first n are made -/
def aF (qf : Nat → Nat) : Nat → Nat → Option Nat
  | 0 => fun _ => none
  | n + 1 => va_up (aF qf n) n (some (qf (2 * n)))
/-- how far it was as of one act -/
def fR (F : Nat → Int32) (i : Nat) : Nat → Int32 := fun p => if p < 100 then F (i * 100 + p) else 0
/-- the objects that Past has made, each with its row -/
def pT (qf : Nat → Nat) (cI : ClassId) (F : Nat → Int32) : Nat → va_W
  | 0 => []
  | n + 1 => pT qf cI F n ++ [(qf (2 * n), .inr (0, [.ref (qf (2 * n + 1))])), (qf (2 * n + 1), .inl (cI, 100, .inl (fR F n)))]
/-- the class's world: 0 the object, 1 Net, 2 Ways, 3 Past, 4 Hitting, 5 .. 9 Net's rows, 10 costs, 11 reached, 12 asOf, 13 asked; behind them the len objects of Past, each with its row -/
def wC (q : Nat → Nat) (qf : Nat → Nat) (cI cZ cF : ClassId) (g : Gr) (C R : Nat → Int32) (rw len : Nat) (F : Nat → Int32) (sz : Nat) (X : Nat → Int32) (mk : Int32) : va_W :=
  (q 0, .inr (5, [.ref (q 1), .ref (q 2), .ref (q 3), .ref (q 4), .int mk])) ::
  (q 1, .inr (2, [.ref (q 5), .ref (q 6), .ref (q 7), .ref (q 8), .ref (q 9), .int (nI (gN g)), .int (nI (gK g))])) ::
  (q 2, .inr (4, [.ref (q 1), .ref (q 10), .ref (q 11)])) ::
  (q 3, .inr (3, [.ref (q 12), .int (nI rw)])) ::
  (q 4, .inr (1, [.ref (q 13), .int (nI sz)])) ::
  (q 5, .inl (cI, 40, .inl (gB g))) :: (q 6, .inl (cI, 40, .inl (gE g))) :: (q 7, .inl (cI, 40, .inl (gP g))) :: (q 8, .inl (cZ, 40, .inl (gW g))) :: (q 9, .inl (cZ, 40, .inl (gT g))) ::
  (q 10, .inl (cI, 100, .inl C)) :: (q 11, .inl (cI, 10, .inl R)) :: (q 12, .inl (cF, 401, .inr (.inr (.inr (.inr (aF qf len)))))) :: (q 13, .inl (cI, 100, .inl X)) :: pT qf cI F len
/-- the model's world: 0 the object, 1 .. 5 from, to, price, isBoth, isThere, 6 fine, 7 kept, 8 inner -/
def wM (q : Nat → Nat) (cI cZ cF : ClassId) (g : Gr) (fi ke : Nat → Int32) (ac : Nat) (mk : Int32) (iv : Nat → Int32) : va_W :=
  [(q 0, .inr (6, [.int (nI 0), .int (nI (gN g)), .int (nI (gK g)), .ref (q 1), .ref (q 2), .ref (q 3), .ref (q 4), .ref (q 5), .ref (q 6), .ref (q 7), .int (nI ac), .int mk, .ref (q 8)])),
   (q 1, .inl (cI, 40, .inl (gB g))), (q 2, .inl (cI, 40, .inl (gE g))), (q 3, .inl (cI, 40, .inl (gP g))), (q 4, .inl (cZ, 40, .inl (gW g))), (q 5, .inl (cZ, 40, .inl (gT g))),
   (q 6, .inl (cI, 100, .inl fi)), (q 7, .inl (cI, 40100, .inl ke)), (q 8, .inl (cI, 100, .inl iv))]
def mmax (x y : Int32) : Int32 := if x < y then y else x
def mmin (x y : Int32) : Int32 := if y < x then y else x
/-! ===== what the methods answer, as functions ===== -/
def inb (x : Int32) (n : Nat) : Bool := !decide (x < 0) && !decide (nI n ≤ x)
theorem inb_nat {x : Int32} {n : Nat} (h : inb x n = true) (hn : n < 2 ^ 31) : ∃ j, j < n ∧ x = nI j := by
  simp only [inb, Bool.and_eq_true, Bool.not_eq_true', decide_eq_false_iff_not] at h
  obtain ⟨j, hj, e⟩ := nI_of h.1
  refine ⟨j, ?_, e⟩
  rcases Nat.lt_or_ge j n with q | q
  · exact q
  · exact absurd (by rw [e]; exact nI_le q hj) h.2
theorem inb_nI {j n : Nat} (hj : j < 2 ^ 31) (hn : n < 2 ^ 31) : inb (nI j) n = decide (j < n) := by
  have h0 : ¬ nI j < 0 := by
    have h := nI_pos' hj
    exact Int32.not_lt.mpr h
  by_cases q : j < n
  · have h1 : ¬ nI n ≤ nI j := fun z => absurd ((nI_leI hn hj).mp z) (by omega)
    simp only [inb, h0, h1, q, decide_false, decide_true, Bool.not_false, Bool.and_self]
  · have h1 : nI n ≤ nI j := (nI_leI hn hj).mpr (by omega)
    simp only [inb, h0, h1, q, decide_false, decide_true, Bool.not_false, Bool.not_true, Bool.and_false]
def addG (g : Gr) (a b : Nat) (p : Int32) (t : Bool) : Gr := sT (sW (sP (sE (sB (sK g (gK g + 1)) (upd (gB g) (gK g) (nI a))) (upd (gE g) (gK g) (nI b))) (upd (gP g) (gK g) p)) (upd (gW g) (gK g) (bI t))) (upd (gT g) (gK g) (nI 1))
def cntT (g : Gr) : Nat → Nat | 0 => 0 | i + 1 => cntT g i + (if bT g i then 1 else 0)
def tgN (g : Gr) (j : Nat) (y : Int32) : Int32 := if bT g j = true then (if nI (e1 g j) = y then nI (e2 g j) else if bW g j = true then (if nI (e2 g j) = y then nI (e1 g j) else (-1)) else (-1)) else (-1)
def tgt (g : Gr) (x y : Int32) : Int32 := if inb x (gK g) = true then tgN g x.toNatClampNeg y else (-1)
def tch (g : Gr) (j : Nat) (y : Int32) : Bool := decide (nI (e1 g j) = y) || decide (nI (e2 g j) = y)
def fdv (x y : Int32) : Int32 := if 0 ≤ x ^^^ y then x / y else if x / y * y = x then x / y else x / y - nI 1
def fmd (x y : Int32) : Int32 := if 0 ≤ x ^^^ y then x - x / y * y else if x - x / y * y = 0 then x - x / y * y else x - x / y * y + y
def bc1 (x : Int32) : Int32 := x - ((x.toUInt32 >>> ((nI 1).toUInt32 &&& Int32.toUInt32 31)).toInt32 &&& 1431655765)
def bc2 (x : Int32) : Int32 := (x &&& 858993459) + ((x.toUInt32 >>> ((nI 2).toUInt32 &&& Int32.toUInt32 31)).toInt32 &&& 858993459)
def bc3 (x : Int32) : Int32 := (x + (x.toUInt32 >>> ((nI 4).toUInt32 &&& Int32.toUInt32 31)).toInt32) &&& 252645135
def bc4 (x : Int32) : Int32 := x + (x.toUInt32 >>> ((nI 8).toUInt32 &&& Int32.toUInt32 31)).toInt32
def bc5 (x : Int32) : Int32 := x + (x.toUInt32 >>> ((nI 16).toUInt32 &&& Int32.toUInt32 31)).toInt32
def bcnt (x : Int32) : Int32 := bc5 (bc4 (bc3 (bc2 (bc1 x)))) &&& nI 63
def prI (c : Int32) : Int32 := if c = 1073741824 then (-1000) else fdv c (nI 64)
def lnI (c : Int32) : Int32 := if c = 1073741824 then (-1000) else fmd c (nI 64)
def ldB (C : Nat → Int32) (a b : Nat) : Bool := !decide (C (a * 10 + b) = 1073741824)
def cw (g : Gr) (j : Nat) : Int32 := gP g j * nI 64 + nI 1
def fj (P : Nat → Bool) : Nat → Nat → Option Nat | 0, _ => none | d + 1, i => if P i = true then some i else fj P d (i + 1)
def oI (z : Int32) : Option Nat → Int32 | none => z | some j => nI j
def nxP (g : Gr) (C : Nat → Int32) (a b j : Nat) : Bool := !decide (tgt g (nI j) (nI a) = (-1)) && (ldB C (tgt g (nI j) (nI a)).toNatClampNeg b && decide (cw g j + C ((tgt g (nI j) (nI a)).toNatClampNeg * 10 + b) = C (a * 10 + b)))
def nx (g : Gr) (C : Nat → Int32) (x : Int32) (b : Nat) : Int32 := if inb x (gN g) = true then (if ldB C x.toNatClampNeg b = true then oI (-1) (fj (nxP g C x.toNatClampNeg b) (gK g) 0) else (-1)) else (-1)
def ps (g : Gr) (C : Nat → Int32) (a b : Nat) : Nat → Int32 | 0 => nI a | t + 1 => tgt g (nx g C (ps g C a b t) b) (ps g C a b t)
def lnAt (g : Gr) (C : Nat → Int32) (a b : Nat) (i : Int32) : Int32 := if i < 0 then (-1000) else if i < lnI (C (a * 10 + b)) then nx g C (ps g C a b i.toNatClampNeg) b else (-1000)
def btS (g : Gr) (C : Nat → Int32) (a b : Nat) : Nat → Int32 | 0 => nI 0 | k + 1 => if ps g C a b (k + 1) = (-1) then btS g C a b k else btS g C a b k ||| (nI 1 <<< (ps g C a b (k + 1) &&& 31))
def low (R : Nat → Int32) (f t : Nat) (c : Int32) : Nat → Int32 := if R f = 1073741824 then R else if R f + c < R t then upd R t (R f + c) else R
def lowB (R : Nat → Int32) (f t : Nat) (c : Int32) : Bool := !decide (R f = 1073741824) && decide (R f + c < R t)
def rlx (g : Gr) (R : Nat → Int32) (j : Nat) : Nat → Int32 := if bW g j = true then low (low R (e1 g j) (e2 g j) (cw g j)) (e2 g j) (e1 g j) (cw g j) else low R (e1 g j) (e2 g j) (cw g j)
def rlxB (g : Gr) (R : Nat → Int32) (j : Nat) : Bool := (bW g j && lowB (low R (e1 g j) (e2 g j) (cw g j)) (e2 g j) (e1 g j) (cw g j)) || lowB R (e1 g j) (e2 g j) (cw g j)
def okL (g : Gr) (x y : Int32) (i : Nat) : Bool := bT g i && (!decide (nI i = x) && !tch g i y)
def swp (g : Gr) (x y : Int32) (R : Nat → Int32) : Nat → (Nat → Int32) × Bool
  | 0 => (R, false)
  | i + 1 => if okL g x y i = true then (rlx g (swp g x y R i).1 i, (swp g x y R i).2 || rlxB g (swp g x y R i).1 i) else swp g x y R i
def rnd (g : Gr) (x y : Int32) (R : Nat → Int32) : Nat → Nat → Int32 | 0 => R | r + 1 => (swp g x y (rnd g x y R r) (gK g)).1
def spr (g : Gr) (x y : Int32) (a : Nat) : Nat → Int32 := rnd g x y (upd (fun _ => 1073741824) a (nI 0)) (gN g)
def lav (g : Gr) (x y : Int32) (a b : Nat) : Int32 := prI (spr g x y a b)
def cst (g : Gr) (i p : Nat) : Int32 := if p / 10 < i then spr g (-1) (-1) (p / 10) (p % 10) else 1073741824
def anyN (P : Nat → Bool) : Nat → Bool | 0 => false | i + 1 => anyN P i || P i
def onw (g : Gr) (C : Nat → Int32) (a b j : Nat) : Bool := anyN (fun i => decide (lnAt g C a b (nI i) = nI j)) (lnI (C (a * 10 + b))).toNatClampNeg
def vit (g : Gr) (C : Nat → Int32) (a b j : Nat) : Bool := onw g C a b j && !decide (lav g (nI j) (-1) a b = prI (C (a * 10 + b)))
def clB (v h : Int32) : Bool := !decide (h = (-1000)) && !decide (0 ≤ v + h)
def snk (g : Gr) (a b : Nat) (v : Int32) (t : Bool) (x : Int32) : Bool := clB v (lav g x (-1) b a) || (t && clB v (lav g x (-1) a b))
def rov (g : Gr) (C : Nat → Int32) (j : Nat) : Int32 := if bT g j = true then (if bW g j = true then gP g j + mmin (prI (C (e1 g j * 10 + e2 g j))) (prI (C (e2 g j * 10 + e1 g j))) else if prI (C (e2 g j * 10 + e1 g j)) = (-1000) then (-1000) else gP g j + prI (C (e2 g j * 10 + e1 g j))) else (-1000)
def rgS (g : Gr) (C : Nat → Int32) : Nat → Int32 | 0 => (-1000) | j + 1 => if rov g C j = (-1000) then rgS g C j else if rgS g C j = (-1000) then rov g C j else if rgS g C j ≤ rov g C j then rgS g C j else rov g C j
def hgS (C : Nat → Int32) (p : Nat) : Nat → Int32 | 0 => nI 0 | a + 1 => if ldB C a p = true then mmin (hgS C p a) (prI (C (a * 10 + p))) else hgS C p a
def lif (g : Gr) (C : Nat → Int32) (j : Nat) : Int32 := if bW g j = true then mmin (gP g j + (hgS C (e1 g j) (gN g) - hgS C (e2 g j) (gN g))) (gP g j - (hgS C (e1 g j) (gN g) - hgS C (e2 g j) (gN g))) else gP g j + (hgS C (e1 g j) (gN g) - hgS C (e2 g j) (gN g))
def ltS (C : Nat → Int32) (a b : Nat) (s : Int32) : Nat → Int32 | 0 => (-1000) | m + 1 => if (s >>> (nI m &&& 31)) &&& nI 1 = 0 then ltS C a b s m else if ldB C a m = true then (if ldB C m b = true then (if ltS C a b s m = (-1000) then prI (C (a * 10 + m)) + prI (C (m * 10 + b)) else mmin (ltS C a b s m) (prI (C (a * 10 + m)) + prI (C (m * 10 + b)))) else ltS C a b s m) else ltS C a b s m
def clI (C : Nat → Int32) (a : Nat) : Nat → Nat | 0 => 0 | b + 1 => clI C a b + (if a = b then 0 else if ldB C a b = true then 1 else 0)
def clO (C : Nat → Int32) (n : Nat) : Nat → Nat | 0 => 0 | a + 1 => clO C n a + clI C a n
def mvB (F : Nat → Int32) (a b : Nat) : Bool := !decide (F (a * 100 + b) = F ((a - 1) * 100 + b))
def cmv (F : Nat → Int32) (a : Nat) : Nat → Nat | 0 => 0 | p + 1 => cmv F a p + (if mvB F a p = true then 1 else 0)
def mpP (F : Nat → Int32) (a : Nat) (x : Int32) (p : Nat) : Bool := mvB F a p && decide (nI (cmv F a p) = x)
def fwP (F : Nat → Int32) (b : Nat) (v : Int32) (t : Nat) : Bool := !decide (F (t * 100 + b) = (-1000)) && !decide (v < F (t * 100 + b))
def akI (g : Gr) (C : Nat → Int32) (a : Nat) (x : Int32) (s : Nat × (Nat → Int32)) : Nat → Nat × (Nat → Int32)
  | 0 => s
  | b + 1 => if a = b then akI g C a x s b else if lnI (C (a * 10 + b)) < x then akI g C a x s b else ((akI g C a x s b).1 + 1, upd (akI g C a x s b).2 (akI g C a x s b).1 (btS g C a b ((lnI (C (a * 10 + b))).toNatClampNeg - 1)))
def akO (g : Gr) (C : Nat → Int32) (n : Nat) (x : Int32) (X : Nat → Int32) : Nat → Nat × (Nat → Int32)
  | 0 => (0, X)
  | a + 1 => akI g C a x (akO g C n x X a) n
def allN (P : Nat → Bool) : Nat → Bool | 0 => true | i + 1 => allN P i && P i
def mtB (X : Nat → Int32) (x : Int32) (n : Nat) : Bool := allN (fun i => !decide (X i &&& x = 0)) n
def fwS (X : Nat → Int32) (sz n : Nat) : Nat → Int32 × Int32
  | 0 => ((-1000), nI (n + 1))
  | s + 1 => if (fwS X sz n s).2 ≤ bcnt (nI s) then fwS X sz n s else if mtB X (nI s) sz = true then (nI s, bcnt (nI s)) else fwS X sz n s
def mayC (v : Int32) (t : Bool) : Bool := !decide (v < cond t (nI 0) (-50)) && !decide (nI 99 < v)
def hasB (x : Int32) (rw : Nat) : Bool := !decide (x < nI 1) && !decide (nI rw ≤ x)
def gL (rw len : Nat) : Nat := if rw + 1 ≤ len then len else len + 1
def gC (rw len : Nat) : Nat := if rw + 1 ≤ len then 0 else 2
def gS (rw len : Nat) : Nat := if rw + 1 ≤ len then 0 else 101
def actP (q : Nat → Nat) (cI cZ cF : ClassId) (g : Gr) (rw len : Nat) (F : Nat → Int32) (sz : Nat) (X : Nat → Int32) (mk : Int32) (u : va_W) : Prop :=
  ∃ (qf' : Nat → Nat) (C' R' F' : Nat → Int32), (∀ p, p < 100 → C' p = cst g (gN g) p) ∧ (∀ p, p < rw * 100 → F' p = F p) ∧ (∀ p, p < 100 → F' (rw * 100 + p) = prI (C' p)) ∧ u = wC q qf' cI cZ cF g C' R' (rw + 1) (gL rw len) F' sz X mk
def fullO (rw : Nat) : Option Int32 := if (!decide (rw < 401)) = true then some (-1004) else none
def lineC (g : Gr) (x y v : Int32) (t : Bool) (rw : Nat) : Option Int32 := if (inb x (gN g) && inb y (gN g)) = true then (if mayC v t = true then (if x.toNatClampNeg = y.toNatClampNeg then some (-1003) else if snk g x.toNatClampNeg y.toNatClampNeg v t (-1) = true then some (-1003) else if 40 ≤ gK g then some (-1004) else fullO rw) else some (-1002)) else some (-1001)
def priceC (g : Gr) (x v : Int32) (rw : Nat) : Option Int32 := if inb x (gK g) = true then (if mayC v (bW g x.toNatClampNeg) = true then (if v = gP g x.toNatClampNeg then some (gP g x.toNatClampNeg) else if (bT g x.toNatClampNeg && snk g (e1 g x.toNatClampNeg) (e2 g x.toNatClampNeg) v (bW g x.toNatClampNeg) (nI x.toNatClampNeg)) = true then some (-1003) else fullO rw) else some (-1002)) else some (-1001)
def cutC (g : Gr) (x : Int32) (rw : Nat) : Option Int32 := if inb x (gK g) = true then (if bT g x.toNatClampNeg = true then fullO rw else some (-1003)) else some (-1001)
def backC (g : Gr) (x : Int32) (rw : Nat) : Option Int32 := if inb x (gK g) = true then (if bT g x.toNatClampNeg = true then some (-1003) else if snk g (e1 g x.toNatClampNeg) (e2 g x.toNatClampNeg) (gP g x.toNatClampNeg) (bW g x.toNatClampNeg) (nI x.toNatClampNeg) = true then some (-1003) else fullO rw) else some (-1001)
def postsC (x : Int32) : Option Int32 := if x < nI 2 then some (-1002) else if x ≤ nI 10 then none else some (-1002)
def farC (g : Gr) (C : Nat → Int32) (x y : Int32) : Int32 := if (inb x (gN g) && inb y (gN g)) = true then prI (C (x.toNatClampNeg * 10 + y.toNatClampNeg)) else (-1001)
def stpC (g : Gr) (C : Nat → Int32) (x y : Int32) : Int32 := if (inb x (gN g) && inb y (gN g)) = true then lnI (C (x.toNatClampNeg * 10 + y.toNatClampNeg)) else (-1001)
def wayC (g : Gr) (C : Nat → Int32) (x y i : Int32) : Int32 := if (inb x (gN g) && inb y (gN g)) = true then lnAt g C x.toNatClampNeg y.toNatClampNeg i else (-1001)
def wtoC (g : Gr) (x y z : Int32) : Int32 := if (inb x (gN g) && inb y (gN g)) = true then (if inb z (gK g) = true then lav g z (-1) x.toNatClampNeg y.toNatClampNeg else (-1001)) else (-1001)
def cvt (g : Gr) (C : Nat → Int32) (a b : Nat) : Nat → Nat | 0 => 0 | j + 1 => cvt g C a b j + (if vit g C a b j = true then 1 else 0)
def vitP (g : Gr) (C : Nat → Int32) (a b : Nat) (x : Int32) (j : Nat) : Bool := vit g C a b j && decide (nI (cvt g C a b j) = x)
def vtlC (g : Gr) (C : Nat → Int32) (x y i : Int32) : Int32 := if (inb x (gN g) && inb y (gN g)) = true then oI (-1000) (fj (vitP g C x.toNatClampNeg y.toNatClampNeg i) (gK g) 0) else (-1001)
def abtC (g : Gr) (x y z : Int32) : Int32 := if (inb x (gN g) && inb y (gN g)) = true then (if inb z (gN g) = true then (if z = x then (-1003) else if z = y then (-1003) else lav g (-1) z x.toNatClampNeg y.toNatClampNeg) else (-1001)) else (-1001)
def hgtC (g : Gr) (C : Nat → Int32) (x : Int32) : Int32 := if inb x (gN g) = true then hgS C x.toNatClampNeg (gN g) else (-1001)
def movC (F : Nat → Int32) (rw : Nat) (x : Int32) : Int32 := if hasB x rw = true then nI (cmv F x.toNatClampNeg 100) else (-1001)
def paiC (F : Nat → Int32) (rw : Nat) (x i : Int32) : Int32 := if hasB x rw = true then oI (-1000) (fj (mpP F x.toNatClampNeg i) 100 0) else (-1001)
def thnC (g : Gr) (F : Nat → Int32) (rw : Nat) (x y z : Int32) : Int32 := if (inb y (gN g) && inb z (gN g)) = true then (if x = 0 then F (x.toNatClampNeg * 100 + (y.toNatClampNeg * 10 + z.toNatClampNeg)) else if hasB x rw = true then F (x.toNatClampNeg * 100 + (y.toNatClampNeg * 10 + z.toNatClampNeg)) else (-1001)) else (-1001)
def sinC (g : Gr) (F : Nat → Int32) (rw : Nat) (x y z v : Int32) : Int32 := if (inb y (gN g) && inb z (gN g)) = true then (if hasB x rw = true then (if v < (-500) then (-1002) else if v ≤ nI 1000 then oI (-1000) (fj (fwP F (y.toNatClampNeg * 10 + z.toNatClampNeg) v) (rw - x.toNatClampNeg) x.toNatClampNeg) else (-1002)) else (-1001)) else (-1001)
def mrkB (g : Gr) (x : Int32) : Bool := !decide (x < 0) && decide (x < nI 1 <<< (nI (gN g) &&& 31))
def nerC (g : Gr) (C : Nat → Int32) (s x y : Int32) : Int32 := if (inb x (gN g) && inb y (gN g)) = true then ltS C x.toNatClampNeg y.toNatClampNeg s (gN g) else (-1001)
def wbI (C : Nat → Int32) (n : Nat) (s : Int32) (a b : Nat) : Bool := ldB C a b && decide (ltS C a b s n = (-1000))
def wmI (C : Nat → Int32) (n : Nat) (s : Int32) (a : Nat) (m : Int32) : Nat → Int32 | 0 => m | b + 1 => if ldB C a b = true then mmax (wmI C n s a m b) (ltS C a b s n - prI (C (a * 10 + b))) else wmI C n s a m b
def wmO (C : Nat → Int32) (n : Nat) (s : Int32) : Nat → Int32 | 0 => nI 0 | a + 1 => wmI C n s a (wmO C n s a) n
def wrsC (C : Nat → Int32) (n : Nat) (s : Int32) : Int32 := if anyN (fun a => anyN (wbI C n s a) n) n = true then (-1000) else wmO C n s n
def hitC (g : Gr) (C X : Nat → Int32) (x : Int32) : Int32 := if x < nI 1 then (-1002) else if x ≤ nI 9 then (fwS (akO g C (gN g) x X (gN g)).2 (akO g C (gN g) x X (gN g)).1 (gN g) (2 ^ gN g)).1 else (-1002)
