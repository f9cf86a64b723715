/-! ===== the model's methods as functions ===== -/
def inL (x lo hi : Int64) : Bool := !decide (lg_cmp x lo < 0) && !decide (0 < lg_cmp x hi)
def crs (v : Int32) : Int32 := if v < nI 10000000 then (if 0 ≤ v - v / nI 64 * nI 64 then (v - (v - v / nI 64 * nI 64)) / nI 64 else (v - (v - v / nI 64 * nI 64 + nI 64)) / nI 64) else (-1000)
def cfr (fi : Nat → Int32) (a b : Nat) : Int32 := crs (fi (10 * a + b))
def fi0 (k : Nat) : Int32 := if k / 10 = k % 10 then nI 0 else nI 10000000
def cwM (g : Gr) (l : Nat) : Int32 := nI 64 * gP g l + nI 1
def okM (g : Gr) (x y : Int32) (l : Nat) : Bool := bT g l && (!decide (nI l = x) && (!decide (nI (e1 g l) = y) && !decide (nI (e2 g l) = y)))
def mnU (f : Nat → Int32) (at_ : Nat) (w : Int32) : Nat → Int32 := upd f at_ (if f at_ ≤ w then f at_ else w)
def in1 (g : Gr) (f : Nat → Int32) (l : Nat) : Nat → Int32 := if bW g l = true then mnU (mnU f (10 * e1 g l + e2 g l) (cwM g l)) (10 * e2 g l + e1 g l) (cwM g l) else upd (mnU f (10 * e1 g l + e2 g l) (cwM g l)) (10 * e2 g l + e1 g l) (mnU f (10 * e1 g l + e2 g l) (cwM g l) (10 * e2 g l + e1 g l))
def p2 (g : Gr) (x y : Int32) : Nat → Nat → Int32 | 0 => fi0 | l + 1 => if okM g x y l = true then in1 g (p2 g x y l) l else p2 g x y l
def f3b (m a : Nat) (f : Nat → Int32) : Nat → Nat → Int32
  | 0 => f
  | b + 1 => if nI 10000000 ≤ f3b m a f b (10 * a + m) then f3b m a f b else if nI 10000000 ≤ f3b m a f b (10 * m + b) then f3b m a f b else upd (f3b m a f b) (10 * a + b) (if f3b m a f b (10 * a + b) ≤ f3b m a f b (10 * a + m) + f3b m a f b (10 * m + b) then f3b m a f b (10 * a + b) else f3b m a f b (10 * a + m) + f3b m a f b (10 * m + b))
def f3a (n m : Nat) (f : Nat → Int32) : Nat → Nat → Int32 | 0 => f | a + 1 => f3b m a (f3a n m f a) n
def d3 (f : Nat → Int32) (w : Bool) : Nat → (Nat → Int32) × Bool | 0 => (f, w) | a + 1 => (upd (d3 f w a).1 (10 * a + a) (nI 0), (d3 f w a).2 && !decide ((d3 f w a).1 (10 * a + a) < 0))
def f3m (n : Nat) (f : Nat → Int32) : Nat → (Nat → Int32) × Bool | 0 => (f, true) | m + 1 => d3 (f3a n m (f3m n f m).1 n) (f3m n f m).2 n
def lrn (g : Gr) (x y : Int32) : (Nat → Int32) × Bool := f3m (gN g) (p2 g x y (gK g)) (gN g)
def hgM (fi : Nat → Int32) (p : Nat) : Nat → Int32 | 0 => nI 0 | a + 1 => if cfr fi a p = (-1000) then hgM fi p a else if hgM fi p a ≤ cfr fi a p then hgM fi p a else cfr fi a p
def stM (v : Int32) : Int32 := if v < nI 10000000 then v - nI 64 * crs v else (-1000)
def tsM (g : Gr) (fi : Nat → Int32) (a b l y : Nat) : Bool := !decide (nI 10000000 ≤ fi (10 * y + b)) && decide (cwM g l + fi (10 * y + b) = fi (10 * a + b))
def nxM (g : Gr) (fi : Nat → Int32) (a b l : Nat) : Bool := bT g l && (if e1 g l = a then tsM g fi a b l (e2 g l) else if bW g l = true then (if e2 g l = a then tsM g fi a b l (e1 g l) else false) else false)
def otM (g : Gr) (l a : Nat) : Nat := if e1 g l = a then e2 g l else e1 g l
def nlM (g : Gr) (fi : Nat → Int32) (b a : Nat) : Nat := (fj (nxM g fi a b) (gK g) 0).getD 0
def atM (g : Gr) (fi : Nat → Int32) (a b : Nat) : Nat → Nat | 0 => a | t + 1 => otM g (nlM g fi b (atM g fi a b t)) (atM g fi a b t)
/-- on from each post there is a next line, and one line less to go -/
def Nxt (g : Gr) (fi : Nat → Int32) : Prop := ∀ a b, a < gN g → b < gN g → fi (10 * a + b) < nI 10000000 → ∃ S : Nat, S ≤ 63 ∧ stM (fi (10 * a + b)) = nI S ∧ (1 ≤ S → fj (nxM g fi a b) (gK g) 0 = some (nlM g fi b a) ∧ nlM g fi b a < gK g ∧ fi (10 * otM g (nlM g fi b a) a + b) < nI 10000000 ∧ stM (fi (10 * otM g (nlM g fi b a) a + b)) = nI (S - 1))
def cvM (g : Gr) (a b : Nat) (z : Int32) : Nat → Nat | 0 => 0 | l + 1 => cvM g a b z l + (if cfr (lrn g (nI l) (-1000)).1 a b = z then 0 else 1)
def vtP (g : Gr) (a b : Nat) (z x : Int32) (l : Nat) : Bool := !decide (cfr (lrn g (nI l) (-1000)).1 a b = z) && decide (nI (cvM g a b z l) = x)
def rgT (g : Gr) (fi : Nat → Int32) (l : Nat) (z : Int32) : Nat → Int32
  | 0 => z
  | t + 1 => if bT g l = true then (if (if nI t = 0 then cfr fi (e2 g l) (e1 g l) else cfr fi (e1 g l) (e2 g l)) = (-1000) then rgT g fi l z t else if rgT g fi l z t = (-1000) then gP g l + (if nI t = 0 then cfr fi (e2 g l) (e1 g l) else cfr fi (e1 g l) (e2 g l)) else if rgT g fi l z t ≤ gP g l + (if nI t = 0 then cfr fi (e2 g l) (e1 g l) else cfr fi (e1 g l) (e2 g l)) then rgT g fi l z t else gP g l + (if nI t = 0 then cfr fi (e2 g l) (e1 g l) else cfr fi (e1 g l) (e2 g l))) else rgT g fi l z t
def rgM (g : Gr) (fi : Nat → Int32) : Nat → Int32 | 0 => (-1000) | l + 1 => rgT g fi l (rgM g fi l) (if bW g l = true then 2 else 1)
def mvM (n : Nat) (ke : Nat → Int32) (a k : Nat) : Bool := !decide (n ≤ k / 10) && (!decide (n ≤ k % 10) && !decide (ke (100 * a + k) = ke (100 * a - 100 + k)))
def cmM (n : Nat) (ke : Nat → Int32) (a : Nat) : Nat → Nat | 0 => 0 | k + 1 => cmM n ke a k + (if mvM n ke a k = true then 1 else 0)
def mpM (n : Nat) (ke : Nat → Int32) (a : Nat) (x : Int32) (k : Nat) : Bool := mvM n ke a k && decide (nI (cmM n ke a k) = x)
def fwM (ke : Nat → Int32) (a b : Nat) (v : Int32) (t : Nat) : Bool := !decide (ke (100 * t + 10 * a + b) = (-1000)) && !decide (v < ke (100 * t + 10 * a + b))
def nrM (fi : Nat → Int32) (s : Int32) (a b : Nat) : Nat → Int32
  | 0 => (-1000)
  | m + 1 => if (s >>> (nI m &&& 31)) &&& nI 1 = nI 1 then (if cfr fi a m = (-1000) then nrM fi s a b m else if cfr fi m b = (-1000) then nrM fi s a b m else if nrM fi s a b m = (-1000) then cfr fi a m + cfr fi m b else if nrM fi s a b m ≤ cfr fi a m + cfr fi m b then nrM fi s a b m else cfr fi a m + cfr fi m b) else nrM fi s a b m
def wbM (fi : Nat → Int32) (n : Nat) (s : Int32) (a b : Nat) : Bool := !decide (cfr fi a b = (-1000)) && decide (nrM fi s a b n = (-1000))
def wiM (fi : Nat → Int32) (n : Nat) (s : Int32) (a : Nat) (m : Int32) : Nat → Int32 | 0 => m | b + 1 => if cfr fi a b = (-1000) then wiM fi n s a m b else if nrM fi s a b n - cfr fi a b ≤ wiM fi n s a m b then wiM fi n s a m b else nrM fi s a b n - cfr fi a b
def woM (fi : Nat → Int32) (n : Nat) (s : Int32) : Nat → Int32 | 0 => nI 0 | a + 1 => wiM fi n s a (woM fi n s a) n
def wrM (fi : Nat → Int32) (n : Nat) (s : Int32) : Int32 := if anyN (fun a => anyN (wbM fi n s a) n) n = true then (-1000) else woM fi n s n
def bsM (x : Int32) : Nat → Int32 | 0 => nI 0 | k + 1 => bsM x k + ((x >>> (nI k &&& 31)) &&& nI 1)
def clMI (fi : Nat → Int32) (a : Nat) : Nat → Nat | 0 => 0 | b + 1 => clMI fi a b + (if a = b then 0 else if cfr fi a b = (-1000) then 0 else 1)
def clMO (fi : Nat → Int32) (n : Nat) : Nat → Nat | 0 => 0 | a + 1 => clMO fi n a + clMI fi a n
def bbM (g : Gr) (fi : Nat → Int32) (a b : Nat) : Nat → Int32 | 0 => nI 0 | k + 1 => bbM g fi a b k ||| (nI 1 <<< (nI (atM g fi a b (k + 1)) &&& 31))
def hiI (g : Gr) (fi : Nat → Int32) (a : Nat) (x : Int32) (s : Nat × (Nat → Int32)) : Nat → Nat × (Nat → Int32)
  | 0 => s
  | b + 1 => if a = b then hiI g fi a x s b else if nI 10000000 ≤ fi (10 * a + b) then hiI g fi a x s b else if fi (10 * a + b) - nI 64 * crs (fi (10 * a + b)) < x then hiI g fi a x s b else ((hiI g fi a x s b).1 + 1, upd (hiI g fi a x s b).2 (hiI g fi a x s b).1 (bbM g fi a b ((fi (10 * a + b) - nI 64 * crs (fi (10 * a + b))).toNatClampNeg - 1)))
def hiO (g : Gr) (fi : Nat → Int32) (n : Nat) (x : Int32) (X : Nat → Int32) : Nat → Nat × (Nat → Int32) | 0 => (0, X) | a + 1 => hiI g fi a x (hiO g fi n x X a) n
def h0M (z s : Int32) : Bool := decide (z = (-1000)) || !decide (bsM z 10 ≤ bsM s 10)
def hsM (X : Nat → Int32) (sz : Nat) : Nat → Int32 | 0 => (-1000) | s + 1 => if (h0M (hsM X sz s) (nI s) && mtB X (nI s) sz) = true then nI s else hsM X sz s
theorem allN_mono {P : Nat → Bool} {p : Nat} (h : allN P p = false) : ∀ d : Nat, allN P (p + d) = false := by
  intro d
  induction d with
  | zero => exact h
  | succ d ih => show (allN P (p + d) && P (p + d)) = false; rw [ih]; rfl
theorem nI_neg {j : Nat} (h : j < 2 ^ 31) {z : Int32} (hz : z.toInt < 0) : ¬ nI j = z := by
  intro e
  have := nI_toInt h
  rw [e] at this
  omega
theorem wM_fi {D : va_G} {A : Nat → Prop} {s : State} {H : Heap} {locs : List Loc} {q : Nat → Nat} {cI cZ cF : ClassId} {g : Gr} {fi fi' ke : Nat → Int32} {ac : Nat} {mk : Int32} {iv : Nat → Int32} (h : wd D A s H locs (wM q cI cZ cF g fi ke ac mk iv)) (hf : ∀ k, k < 100 → fi k = fi' k) : wd D A s H locs (wM q cI cZ cF g fi' ke ac mk iv) := by
  refine wd_cong h (fun k p' hk => ?_)
  match k, hk with
  | 0, hk => exact ⟨_, hk, Or.inl rfl⟩
  | 1, hk => exact ⟨_, hk, Or.inl rfl⟩
  | 2, hk => exact ⟨_, hk, Or.inl rfl⟩
  | 3, hk => exact ⟨_, hk, Or.inl rfl⟩
  | 4, hk => exact ⟨_, hk, Or.inl rfl⟩
  | 5, hk => exact ⟨_, hk, Or.inl rfl⟩
  | 6, hk => cases hk; exact ⟨_, rfl, Or.inr ⟨_, _, _, _, _, rfl, rfl, hf⟩⟩
  | 7, hk => exact ⟨_, hk, Or.inl rfl⟩
  | 8, hk => exact ⟨_, hk, Or.inl rfl⟩
  | k + 9, hk => simp [wM] at hk
theorem inL_iff (x lo hi : Int64) : inL x lo hi = decide (lo.toInt ≤ x.toInt ∧ x.toInt ≤ hi.toInt) := by
  unfold inL lg_cmp
  simp only [gt_iff_lt, Int64.lt_iff_toInt_lt, ← Int64.toInt_inj]
  by_cases h1 : lo.toInt < x.toInt
  · by_cases h2 : hi.toInt < x.toInt
    · have : ¬ (lo.toInt ≤ x.toInt ∧ x.toInt ≤ hi.toInt) := by omega
      simp only [h1, h2, this, if_true]
      decide
    · by_cases h3 : x.toInt = hi.toInt
      · have : lo.toInt ≤ x.toInt ∧ x.toInt ≤ hi.toInt := by omega
        simp only [h1, h2, h3, this, if_true, if_false]
        have h4 : ¬ hi.toInt < hi.toInt := by omega
        have h5 : lo.toInt ≤ hi.toInt ∧ hi.toInt ≤ hi.toInt := by omega
        simp only [h3] at h1
        simp only [h1, h4, h5, if_true, if_false]
        decide
      · have : lo.toInt ≤ x.toInt ∧ x.toInt ≤ hi.toInt := by omega
        simp only [h1, h2, h3, this, if_true, if_false]
        decide
  · by_cases h0 : x.toInt = lo.toInt
    · by_cases h2 : hi.toInt < x.toInt
      · have : ¬ (lo.toInt ≤ x.toInt ∧ x.toInt ≤ hi.toInt) := by omega
        simp only [h1, h2, h0, this, if_true, if_false]
        have h4 : ¬ lo.toInt < lo.toInt := by omega
        have h5 : hi.toInt < lo.toInt := by omega
        have h6 : ¬ (lo.toInt ≤ lo.toInt ∧ lo.toInt ≤ hi.toInt) := by omega
        simp only [h4, h5, h6, if_true, if_false]
        decide
      · have h4 : ¬ lo.toInt < lo.toInt := by omega
        have h5 : ¬ hi.toInt < lo.toInt := by omega
        have h6 : lo.toInt ≤ lo.toInt ∧ lo.toInt ≤ hi.toInt := by omega
        simp only [h0, h4, h5, h6, if_true, if_false]
        by_cases h7 : lo.toInt = hi.toInt
        · simp only [h7, if_true]; decide
        · simp only [h7, if_false]; decide
    · have : ¬ (lo.toInt ≤ x.toInt ∧ x.toInt ≤ hi.toInt) := by omega
      simp only [h1, h0, this, if_false]
      have h9 : (!decide ((-1 : Int32) < 0)) = false := by decide
      rw [h9, Bool.false_and]
      decide
theorem i64_of (x : Int32) : x.toInt64.toInt = x.toInt := Int32.toInt_toInt64 x
theorem inL_nat {x : Int32} {lo hi : Int64} {a b : Nat} (h : inL x.toInt64 lo hi = true) (h1 : lo.toInt = (a : Int)) (h2 : hi.toInt = (b : Int)) : ∃ j, a ≤ j ∧ j ≤ b ∧ x = nI j := by
  rw [inL_iff, decide_eq_true_eq, i64_of, h1, h2] at h
  have hx := x.toInt_lt
  refine ⟨x.toInt.toNat, by omega, by omega, ?_⟩
  apply Int32.toInt_inj.mp
  rw [nI_toInt (by omega)]
  omega
theorem nI64 {j : Nat} (h : j < 2 ^ 31) : (nI j).toInt64.toInt = (j : Int) := by rw [i64_of, nI_toInt h]
theorem nI_1_toInt {n : Nat} (h : n < 2 ^ 30) : (nI n - nI 1).toInt64.toInt = (n : Int) - 1 := by
  rw [i64_of]
  exact pk_sub_toInt h (by decide)
theorem inL_inb {x : Int32} {n : Nat} (h : n < 2 ^ 30) : inL x.toInt64 0 (nI n - nI 1).toInt64 = inb x n := by
  rw [inL_iff, i64_of, nI_1_toInt h]
  unfold inb
  have h0 : (0 : Int64).toInt = 0 := by decide
  have h00 : (0 : Int32).toInt = 0 := by decide
  rw [h0, ← decide_not, ← decide_not, ← Bool.decide_and]
  apply decide_eq_decide.mpr
  rw [Int32.lt_iff_toInt_lt, Int32.le_iff_toInt_le, nI_toInt (by omega), h00]
  omega
theorem nf {b : Bool} (h : (!b) = false) : b = true := by cases b <;> simp at h ⊢
theorem nt {b : Bool} (h : (!b) = true) : b = false := by cases b <;> simp at h ⊢
section MYN
variable {p : Program} {l : Launch} {e : Env} {R : Room} {s : State} {m : MethodId} {args : Array Value} {below : List Frame} {meth : Method} {c : Code} {H : Heap} {locs : List Loc} {cells slots : Nat} {Q : State → Prop}
variable {pc nL : Nat} {ls : Array Slot} {rest : List Value} {cc : ByteArray} {Ts : List Cond} {own : String}
theorem ifeq_nb {b : Bool} {off : Int} {tgt : Nat} (S : CallFix p m c cc nL s args Ts own) (hdg : decode cc pc = .ok (.ifCond .eq off, 3)) (ht : (pc : Int) + off = (tgt : Int))
    (kt : b = true → W p l e R s m args below meth c H locs cells slots Q (F0 m tgt ls rest)) (kf : b = false → W p l e R s m args below meth c H locs cells slots Q (F0 m (pc + 3) ls rest)) : W p l e R s m args below meth c H locs cells slots Q (F0 m pc ls (.int (bI (!b)) :: rest)) :=
  ifeq_b S hdg ht (fun h => kt (nf h)) (fun h => kf (nt h))
theorem ifne_nb {b : Bool} {off : Int} {tgt : Nat} (S : CallFix p m c cc nL s args Ts own) (hdg : decode cc pc = .ok (.ifCond .ne off, 3)) (ht : (pc : Int) + off = (tgt : Int))
    (kt : b = false → W p l e R s m args below meth c H locs cells slots Q (F0 m tgt ls rest)) (kf : b = true → W p l e R s m args below meth c H locs cells slots Q (F0 m (pc + 3) ls rest)) : W p l e R s m args below meth c H locs cells slots Q (F0 m pc ls (.int (bI (!b)) :: rest)) :=
  ifne_b S hdg ht (fun h => kt (nt h)) (fun h => kf (nf h))
end MYN
theorem fi0_step {k : Nat} {f : Nat → Int32} {v : Int32} (h : ∀ i, i < k → f i = fi0 i) (hv : v = fi0 k) : ∀ i, i < k + 1 → upd f k v i = fi0 i := by
  intro i hi
  by_cases e : i = k
  · subst e; rw [pk_us]; exact hv
  · rw [pk_un e]; exact h i (by omega)
theorem keepM_step {ac i : Nat} {ke k1 fi : Nat → Int32} (hF : (∀ p, p < 100 * ac → k1 p = ke p) ∧ ∀ p, p < i → k1 (100 * ac + p) = crs (fi p)) : (∀ p, p < 100 * ac → upd k1 (100 * ac + i) (crs (fi i)) p = ke p) ∧ ∀ p, p < i + 1 → upd k1 (100 * ac + i) (crs (fi i)) (100 * ac + p) = crs (fi p) := by
  constructor
  · intro p hp
    rw [pk_un (by omega)]
    exact hF.1 p hp
  · intro p hp
    by_cases e : p = i
    · subst e; rw [pk_us]
    · rw [pk_un (by omega)]
      exact hF.2 p (by omega)
def actM (q : Nat → Nat) (cI cZ cF : ClassId) (g : Gr) (ac : Nat) (ke : Nat → Int32) (mk : Int32) (iv : Nat → Int32) (u : va_W) : Prop :=
  ∃ ke' : Nat → Int32, (∀ p, p < 100 * ac → ke' p = ke p) ∧ (∀ p, p < 100 → ke' (100 * ac + p) = crs ((lrn g (-1000) (-1000)).1 p)) ∧ u = wM q cI cZ cF g (lrn g (-1000) (-1000)).1 ke' ac mk iv
def fulM (ac : Nat) : Option Int32 := if ac = 400 then some (-1004) else none
def postsM (x : Int32) : Option Int32 := if inL x.toInt64 2 10 = true then none else some (-1002)
def badM (fi : Nat → Int32) (a b : Nat) (v : Int32) (t : Bool) : Bool := if t = true then ((!decide (cfr fi a b = (-1000)) && decide (cfr fi a b + v < 0)) || (!decide (cfr fi b a = (-1000)) && !decide (0 ≤ cfr fi b a + v))) else (!decide (cfr fi b a = (-1000)) && decide (cfr fi b a + v < 0))
def lineM (g : Gr) (x y v : Int32) (t : Bool) (ac : Nat) : Option Int32 := if inb x (gN g) = true then (if inb y (gN g) = true then (if inL v.toInt64 (cond t 0 (-50)) 99 = true then (if x.toNatClampNeg = y.toNatClampNeg then some (-1003) else if badM (lrn g (-1000) (-1000)).1 x.toNatClampNeg y.toNatClampNeg v t = true then some (-1003) else if gK g = 40 then some (-1004) else fulM ac) else some (-1002)) else some (-1001)) else some (-1001)
def priceM (g : Gr) (x v : Int32) (ac : Nat) : Option Int32 := if inb x (gK g) = true then (if inL v.toInt64 (cond (bW g x.toNatClampNeg) 0 (-50)) 99 = true then (if gP g x.toNatClampNeg = v then some (gP g x.toNatClampNeg) else if (lrn (sP g (upd (gP g) x.toNatClampNeg v)) (-1000) (-1000)).2 = true then fulM ac else some (-1003)) else some (-1002)) else some (-1001)
def cutM (g : Gr) (x : Int32) (ac : Nat) : Option Int32 := if inb x (gK g) = true then (if bT g x.toNatClampNeg = true then fulM ac else some (-1003)) else some (-1001)
def backM (g : Gr) (x : Int32) (ac : Nat) : Option Int32 := if inb x (gK g) = true then (if bT g x.toNatClampNeg = true then some (-1003) else if (lrn (sT g (upd (gT g) x.toNatClampNeg (nI 1))) (-1000) (-1000)).2 = true then fulM ac else some (-1003)) else some (-1001)
def farM (g : Gr) (x y : Int32) : Int32 := if inb x (gN g) = true then (if inb y (gN g) = true then cfr (lrn g (-1000) (-1000)).1 x.toNatClampNeg y.toNatClampNeg else (-1001)) else (-1001)
def stpM (g : Gr) (x y : Int32) : Int32 := if inb x (gN g) = true then (if inb y (gN g) = true then stM ((lrn g (-1000) (-1000)).1 (10 * x.toNatClampNeg + y.toNatClampNeg)) else (-1001)) else (-1001)
def wayM (g : Gr) (x y i : Int32) : Int32 := if inb x (gN g) = true then (if inb y (gN g) = true then (if nI 10000000 ≤ (lrn g (-1000) (-1000)).1 (10 * x.toNatClampNeg + y.toNatClampNeg) then (-1000) else if inL i.toInt64 0 ((lrn g (-1000) (-1000)).1 (10 * x.toNatClampNeg + y.toNatClampNeg) - nI 64 * crs ((lrn g (-1000) (-1000)).1 (10 * x.toNatClampNeg + y.toNatClampNeg)) - nI 1).toInt64 = true then nI (nlM g (lrn g (-1000) (-1000)).1 y.toNatClampNeg (atM g (lrn g (-1000) (-1000)).1 x.toNatClampNeg y.toNatClampNeg i.toNatClampNeg)) else (-1000)) else (-1001)) else (-1001)
def wtoM (g : Gr) (x y z : Int32) : Int32 := if inb x (gN g) = true then (if inb y (gN g) = true then (if inb z (gK g) = true then cfr (lrn g z (-1000)).1 x.toNatClampNeg y.toNatClampNeg else (-1001)) else (-1001)) else (-1001)
def vtlM (g : Gr) (x y i : Int32) : Int32 := if inb x (gN g) = true then (if inb y (gN g) = true then (if cfr (lrn g (-1000) (-1000)).1 x.toNatClampNeg y.toNatClampNeg = (-1000) then (-1000) else oI (-1000) (fj (vtP g x.toNatClampNeg y.toNatClampNeg (cfr (lrn g (-1000) (-1000)).1 x.toNatClampNeg y.toNatClampNeg) i) (gK g) 0)) else (-1001)) else (-1001)
def abtM (g : Gr) (x y z : Int32) : Int32 := if inb x (gN g) = true then (if inb y (gN g) = true then (if inb z (gN g) = true then (if z = x then (-1003) else if z = y then (-1003) else cfr (lrn g (-1000) z).1 x.toNatClampNeg y.toNatClampNeg) else (-1001)) else (-1001)) else (-1001)
def hgtM (g : Gr) (x : Int32) : Int32 := if inb x (gN g) = true then hgM (lrn g (-1000) (-1000)).1 x.toNatClampNeg (gN g) else (-1001)
def movM (n : Nat) (ke : Nat → Int32) (ac : Nat) (x : Int32) : Int32 := if inL x.toInt64 1 (nI ac).toInt64 = true then nI (cmM n ke x.toNatClampNeg 100) else (-1001)
def paiM (n : Nat) (ke : Nat → Int32) (ac : Nat) (x i : Int32) : Int32 := if inL x.toInt64 1 (nI ac).toInt64 = true then oI (-1000) (fj (mpM n ke x.toNatClampNeg i) 100 0) else (-1001)
def thnM (g : Gr) (ke : Nat → Int32) (ac : Nat) (x y z : Int32) : Int32 := if inb y (gN g) = true then (if inb z (gN g) = true then (if inL x.toInt64 0 (nI ac).toInt64 = true then ke (100 * x.toNatClampNeg + 10 * y.toNatClampNeg + z.toNatClampNeg) else (-1001)) else (-1001)) else (-1001)
def sinM (g : Gr) (ke : Nat → Int32) (ac : Nat) (x y z v : Int32) : Int32 := if inb y (gN g) = true then (if inb z (gN g) = true then (if inL x.toInt64 1 (nI ac).toInt64 = true then (if inL v.toInt64 (-500) 1000 = true then oI (-1000) (fj (fwM ke y.toNatClampNeg z.toNatClampNeg v) (ac + 1 - x.toNatClampNeg) x.toNatClampNeg) else (-1002)) else (-1001)) else (-1001)) else (-1001)
def mrkM (g : Gr) (x : Int32) : Bool := !decide (x < 0) && decide (x >>> (nI (gN g) &&& 31) = 0)
def nerM (g : Gr) (s x y : Int32) : Int32 := if inb x (gN g) = true then (if inb y (gN g) = true then nrM (lrn g (-1000) (-1000)).1 s x.toNatClampNeg y.toNatClampNeg (gN g) else (-1001)) else (-1001)
def hitM (g : Gr) (iv : Nat → Int32) (x : Int32) : Int32 := if inL x.toInt64 1 9 = true then hsM (hiO g (lrn g (-1000) (-1000)).1 (gN g) x iv (gN g)).2 (hiO g (lrn g (-1000) (-1000)).1 (gN g) x iv (gN g)).1 (2 ^ gN g) else (-1002)
theorem sP_back {g : Gr} {j : Nat} {v : Int32} : sP g (upd (upd (gP g) j v) j (gP g j)) = g := by
  have h : upd (upd (gP g) j v) j (gP g j) = gP g := by
    funext i
    by_cases e : i = j
    · subst e; rw [pk_us]
    · rw [pk_un e, pk_un e]
  rw [h]; rfl
theorem sT_back {g : Gr} {j : Nat} {v w : Int32} (hw : gT g j = w) : sT g (upd (upd (gT g) j v) j w) = g := by
  have h : upd (upd (gT g) j v) j w = gT g := by
    funext i
    by_cases e : i = j
    · subst e; rw [pk_us]; exact hw.symm
    · rw [pk_un e, pk_un e]
  rw [h]; rfl
theorem mayM (v : Int32) (t : Bool) : inL v.toInt64 (cond t 0 (-50)) 99 = mayC v t := by
  rw [inL_iff, i64_of]
  unfold mayC
  rw [← decide_not, ← decide_not, ← Bool.decide_and]
  apply decide_eq_decide.mpr
  rw [Int32.lt_iff_toInt_lt, Int32.lt_iff_toInt_lt]
  have e99 : (nI 99).toInt = 99 := by decide
  have e1 : (99 : Int64).toInt = 99 := by decide
  rw [e99, e1]
  cases t
  · have a1 : (cond false (0 : Int64) (-50)).toInt = -50 := by decide
    have a2 : (cond false (nI 0) (-50)).toInt = -50 := by decide
    rw [a1, a2]; omega
  · have a1 : (cond true (0 : Int64) (-50)).toInt = 0 := by decide
    have a2 : (cond true (nI 0) (-50)).toInt = 0 := by decide
    rw [a1, a2]; omega
theorem otM_lt {g : Gr} (G : Gok g) {l a : Nat} (hl : l < gK g) : otM g l a < gN g := by
  unfold otM
  split
  · exact Gok_E2 G hl
  · exact Gok_B2 G hl
theorem Nxt_at {g : Gr} {fi : Nat → Int32} (h : Nxt g fi) {a b S : Nat} (ha : a < gN g) (hb : b < gN g) (hf : fi (10 * a + b) < nI 10000000) (hS : stM (fi (10 * a + b)) = nI S) (h9 : S < 2 ^ 31) (h1 : 1 ≤ S) : fj (nxM g fi a b) (gK g) 0 = some (nlM g fi b a) ∧ nlM g fi b a < gK g ∧ fi (10 * otM g (nlM g fi b a) a + b) < nI 10000000 ∧ stM (fi (10 * otM g (nlM g fi b a) a + b)) = nI (S - 1) := by
  obtain ⟨T, hT9, hT, hTn⟩ := h a b ha hb hf
  have e : T = S := (nI_eq (by omega) h9).mp (hT.symm.trans hS)
  subst e
  exact hTn h1
theorem stM_lt {v : Int32} (h : v < nI 10000000) : stM v = v - nI 64 * crs v := if_pos h
theorem hiI_le {g : Gr} {fi : Nat → Int32} {a : Nat} {x : Int32} {s : Nat × (Nat → Int32)} : ∀ b : Nat, (hiI g fi a x s b).1 ≤ s.1 + b := by
  intro b
  induction b with
  | zero => exact Nat.le_refl _
  | succ b ih =>
    unfold hiI
    split
    · omega
    · split
      · omega
      · split
        · omega
        · show _ + 1 ≤ _
          omega
def upM (g : Gr) (fi : Nat → Int32) (j : Nat) : Int32 := hgM fi (e1 g j) (gN g) - hgM fi (e2 g j) (gN g)
def liM (g : Gr) (fi : Nat → Int32) (j : Nat) : Int32 := gP g j + (if bW g j = true then (if upM g fi j ≤ 0 then upM g fi j else -(upM g fi j)) else upM g fi j)
