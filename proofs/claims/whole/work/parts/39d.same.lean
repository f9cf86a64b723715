/-! ===== the plain part: what follows once the costs are the same ===== -/
def Mt (n : Nat) (C fi : Nat → Int32) : Prop := ∀ a b, a < n → b < n → mt (C (a * 10 + b)) (fi (10 * a + b))
section SAME
variable {g : Gr} {n : Nat} {C fi : Nat → Int32}
theorem mt_ld {c v : Int32} (h : mt c v) : (!decide (c = 1073741824)) = !decide (crs v = (-1000)) := by
  rw [decide_eq_decide.mpr (mt_no h)]
theorem s_pr (H : Mt n C fi) {a b : Nat} (ha : a < n) (hb : b < n) : prI (C (a * 10 + b)) = cfr fi a b := mt_pr (H a b ha hb)
theorem s_ln (H : Mt n C fi) {a b : Nat} (ha : a < n) (hb : b < n) : lnI (C (a * 10 + b)) = stM (fi (10 * a + b)) := mt_ln (H a b ha hb)
theorem s_ld (H : Mt n C fi) {a b : Nat} (ha : a < n) (hb : b < n) : ldB C a b = !decide (cfr fi a b = (-1000)) := mt_ld (H a b ha hb)
theorem s_big (H : Mt n C fi) {a b : Nat} (ha : a < n) (hb : b < n) : ldB C a b = !decide (nI 10000000 ≤ fi (10 * a + b)) := by
  unfold ldB
  rw [decide_eq_decide.mpr (mt_max (H a b ha hb))]
theorem s_t (H : Mt n C fi) {a b : Nat} (ha : a < n) (hb : b < n) (h : ¬ cfr fi a b = (-1000)) : ldB C a b = true := by rw [s_ld H ha hb, decide_eq_false h]; rfl
theorem s_f (H : Mt n C fi) {a b : Nat} (ha : a < n) (hb : b < n) (h : cfr fi a b = (-1000)) : ldB C a b = false := by rw [s_ld H ha hb, decide_eq_true h]; rfl
theorem mm_le (x y : Int32) : mmin x y = if x ≤ y then x else y := by
  unfold mmin
  by_cases h : y < x
  · rw [if_pos h, if_neg (Int32.not_le.mpr h)]
  · rw [if_neg h, if_pos (Int32.not_lt.mp h)]
theorem mx_le (x y : Int32) : mmax x y = if y ≤ x then x else y := by
  unfold mmax
  by_cases h : x < y
  · rw [if_pos h, if_neg (Int32.not_le.mpr h)]
  · rw [if_neg h, if_pos (Int32.not_lt.mp h)]
theorem S_far (H : Mt (gN g) C (lrn g (-1000) (-1000)).1) (hN : gN g ≤ 10) (x y : Int32) : farC g C x y = farM g x y := by
  unfold farC farM
  by_cases iy : inb x (gN g) = true
  · by_cases iz : inb y (gN g) = true
    · rw [iy, iz, if_pos (show (true && true) = true from rfl), if_pos rfl, if_pos rfl]
      obtain ⟨a, ha, rfl⟩ := inb_nat iy (by omega)
      obtain ⟨b, hb, rfl⟩ := inb_nat iz (by omega)
      rw [nI_clamp (show a < 2 ^ 31 by omega), nI_clamp (show b < 2 ^ 31 by omega)]
      exact s_pr H ha hb
    · have ez : inb y (gN g) = false := by simpa using iz
      rw [iy, ez, Bool.and_false, if_neg Bool.false_ne_true, if_pos rfl, if_neg Bool.false_ne_true]
  · have ey : inb x (gN g) = false := by simpa using iy
    rw [ey, Bool.false_and, if_neg Bool.false_ne_true, if_neg Bool.false_ne_true]
theorem S_stp (H : Mt (gN g) C (lrn g (-1000) (-1000)).1) (hN : gN g ≤ 10) (x y : Int32) : stpC g C x y = stpM g x y := by
  unfold stpC stpM
  by_cases iy : inb x (gN g) = true
  · by_cases iz : inb y (gN g) = true
    · rw [iy, iz, if_pos (show (true && true) = true from rfl), if_pos rfl, if_pos rfl]
      obtain ⟨a, ha, rfl⟩ := inb_nat iy (by omega)
      obtain ⟨b, hb, rfl⟩ := inb_nat iz (by omega)
      rw [nI_clamp (show a < 2 ^ 31 by omega), nI_clamp (show b < 2 ^ 31 by omega)]
      exact s_ln H ha hb
    · have ez : inb y (gN g) = false := by simpa using iz
      rw [iy, ez, Bool.and_false, if_neg Bool.false_ne_true, if_pos rfl, if_neg Bool.false_ne_true]
  · have ey : inb x (gN g) = false := by simpa using iy
    rw [ey, Bool.false_and, if_neg Bool.false_ne_true, if_neg Bool.false_ne_true]
/-- a search under an exclusion, and what the model learns under the same -/
def MtX (g : Gr) (x y x' y' : Int32) : Prop := ∀ a b, a < gN g → b < gN g → mt (spr g x y a b) ((lrn g x' y').1 (10 * a + b))
theorem S_wto (H : ∀ l, l < gK g → MtX g (nI l) (-1) (nI l) (-1000)) (hN : gN g ≤ 10) (hK : gK g ≤ 40) (x y z : Int32) : wtoC g x y z = wtoM g x y z := by
  unfold wtoC wtoM
  by_cases iy : inb x (gN g) = true
  · by_cases iz : inb y (gN g) = true
    · rw [iy, iz, if_pos (show (true && true) = true from rfl), if_pos rfl, if_pos rfl]
      obtain ⟨a, ha, rfl⟩ := inb_nat iy (by omega)
      obtain ⟨b, hb, rfl⟩ := inb_nat iz (by omega)
      rw [nI_clamp (show a < 2 ^ 31 by omega), nI_clamp (show b < 2 ^ 31 by omega)]
      by_cases il : inb z (gK g) = true
      · rw [il, if_pos rfl, if_pos rfl]
        obtain ⟨l, hl, rfl⟩ := inb_nat il (by omega)
        exact mt_pr (H l hl a b ha hb)
      · rw [if_neg il, if_neg il]
    · have ez : inb y (gN g) = false := by simpa using iz
      rw [iy, ez, Bool.and_false, if_neg Bool.false_ne_true, if_pos rfl, if_neg Bool.false_ne_true]
  · have ey : inb x (gN g) = false := by simpa using iy
    rw [ey, Bool.false_and, if_neg Bool.false_ne_true, if_neg Bool.false_ne_true]
/-- around a post the two say the same between the posts other than it -/
def MtY (g : Gr) (z : Nat) : Prop := ∀ a b, a < gN g → b < gN g → z ≠ a → z ≠ b → mt (spr g (-1) (nI z) a b) ((lrn g (-1000) (nI z)).1 (10 * a + b))
theorem S_abt (H : ∀ z, z < gN g → MtY g z) (hN : gN g ≤ 10) (x y z : Int32) : abtC g x y z = abtM g x y z := by
  unfold abtC abtM
  by_cases iy : inb x (gN g) = true
  · by_cases iz : inb y (gN g) = true
    · rw [iy, iz, if_pos (show (true && true) = true from rfl), if_pos rfl, if_pos rfl]
      obtain ⟨a, ha, rfl⟩ := inb_nat iy (by omega)
      obtain ⟨b, hb, rfl⟩ := inb_nat iz (by omega)
      rw [nI_clamp (show a < 2 ^ 31 by omega), nI_clamp (show b < 2 ^ 31 by omega)]
      by_cases il : inb z (gN g) = true
      · rw [il, if_pos rfl, if_pos rfl]
        obtain ⟨l, hl, rfl⟩ := inb_nat il (by omega)
        by_cases e1 : nI l = nI a
        · rw [if_pos e1, if_pos e1]
        · rw [if_neg e1, if_neg e1]
          by_cases e2 : nI l = nI b
          · rw [if_pos e2, if_pos e2]
          · rw [if_neg e2, if_neg e2]
            exact mt_pr (H l hl a b ha hb (fun q => e1 (by rw [q])) (fun q => e2 (by rw [q])))
      · rw [if_neg il, if_neg il]
    · have ez : inb y (gN g) = false := by simpa using iz
      rw [iy, ez, Bool.and_false, if_neg Bool.false_ne_true, if_pos rfl, if_neg Bool.false_ne_true]
  · have ey : inb x (gN g) = false := by simpa using iy
    rw [ey, Bool.false_and, if_neg Bool.false_ne_true, if_neg Bool.false_ne_true]
theorem S_cli (H : Mt n C fi) {a : Nat} (ha : a < n) : ∀ b, b ≤ n → clI C a b = clMI fi a b := by
  intro b
  induction b with
  | zero => intro _; rfl
  | succ b ih =>
    intro hb
    unfold clI clMI
    rw [ih (by omega)]
    by_cases e : a = b
    · rw [if_pos e, if_pos e]
    · rw [if_neg e, if_neg e]
      by_cases h : cfr fi a b = (-1000)
      · rw [if_pos h, s_f H ha (by omega) h, if_neg Bool.false_ne_true]
      · rw [if_neg h, s_t H ha (by omega) h, if_pos rfl]
theorem S_cnt (H : Mt n C fi) : ∀ a, a ≤ n → clO C n a = clMO fi n a := by
  intro a
  induction a with
  | zero => intro _; rfl
  | succ a ih =>
    intro ha
    unfold clO clMO
    rw [ih (by omega), S_cli H (by omega) n (by omega)]
theorem S_hg (H : Mt n C fi) {p : Nat} (hp : p < n) : ∀ a, a ≤ n → hgS C p a = hgM fi p a := by
  intro a
  induction a with
  | zero => intro _; rfl
  | succ a ih =>
    intro ha
    unfold hgS hgM
    rw [ih (by omega)]
    by_cases h : cfr fi a p = (-1000)
    · rw [if_pos h, s_f H (by omega) hp h, if_neg Bool.false_ne_true]
    · rw [if_neg h, s_t H (by omega) hp h, if_pos rfl, mm_le, s_pr H (by omega) hp]
theorem S_hgt (H : Mt (gN g) C (lrn g (-1000) (-1000)).1) (hN : gN g ≤ 10) (x : Int32) : hgtC g C x = hgtM g x := by
  unfold hgtC hgtM
  by_cases iy : inb x (gN g) = true
  · rw [if_pos iy, if_pos iy]
    obtain ⟨a, ha, rfl⟩ := inb_nat iy (by omega)
    rw [nI_clamp (show a < 2 ^ 31 by omega)]
    exact S_hg H ha _ (Nat.le_refl _)
  · rw [if_neg iy, if_neg iy]
def and1 (s m : Nat) : Bool := decide ((nI s >>> (nI m &&& 31)) &&& nI 1 = 0) || decide ((nI s >>> (nI m &&& 31)) &&& nI 1 = nI 1)
def and2 (s : Nat) : Bool := allN (and1 s) 10
theorem and_all : allN and2 1024 = true := by decide +kernel
theorem and_01 {s m : Nat} (hs : s < 1024) (hm : m < 10) : ¬ (nI s >>> (nI m &&& 31)) &&& nI 1 = 0 ↔ (nI s >>> (nI m &&& 31)) &&& nI 1 = nI 1 := by
  have h0 : and2 s = true := allN_at and_all hs
  have h : and1 s m = true := allN_at (P := and1 s) (n := 10) h0 hm
  unfold and1 at h
  rw [Bool.or_eq_true, decide_eq_true_eq, decide_eq_true_eq] at h
  have h01 : ¬ (nI 1 : Int32) = 0 := by decide
  constructor
  · intro q
    exact h.resolve_left q
  · intro q e
    exact h01 (q.symm.trans e)
theorem S_ner (H : Mt n C fi) {a b s : Nat} (ha : a < n) (hb : b < n) (hs : s < 1024) (hn : n ≤ 10) : ∀ m, m ≤ n → ltS C a b (nI s) m = nrM fi (nI s) a b m := by
  intro m
  induction m with
  | zero => intro _; rfl
  | succ m ih =>
    intro hm
    have i1 := ih (by omega)
    have h2 := and_01 hs (show m < 10 by omega)
    unfold ltS nrM
    rw [i1]
    by_cases e : (nI s >>> (nI m &&& 31)) &&& nI 1 = 0
    · rw [if_pos e, if_neg (fun q => h2.mpr q e)]
    · rw [if_neg e, if_pos (h2.mp e)]
      by_cases h : cfr fi a m = (-1000)
      · rw [if_pos h, s_f H ha (by omega) h, if_neg Bool.false_ne_true]
      · rw [if_neg h, s_t H ha (by omega) h, if_pos rfl]
        by_cases h' : cfr fi m b = (-1000)
        · rw [if_pos h', s_f H (by omega) hb h', if_neg Bool.false_ne_true]
        · rw [if_neg h', s_t H (by omega) hb h', if_pos rfl, mm_le, s_pr H ha (by omega), s_pr H (by omega) hb]
theorem S_nrr (H : Mt (gN g) C (lrn g (-1000) (-1000)).1) (hN : gN g ≤ 10) {s : Nat} (hs : s < 1024) (x y : Int32) : nerC g C (nI s) x y = nerM g (nI s) x y := by
  unfold nerC nerM
  by_cases iy : inb x (gN g) = true
  · by_cases iz : inb y (gN g) = true
    · rw [iy, iz, if_pos (show (true && true) = true from rfl), if_pos rfl, if_pos rfl]
      obtain ⟨a, ha, rfl⟩ := inb_nat iy (by omega)
      obtain ⟨b, hb, rfl⟩ := inb_nat iz (by omega)
      rw [nI_clamp (show a < 2 ^ 31 by omega), nI_clamp (show b < 2 ^ 31 by omega)]
      exact S_ner H ha hb hs hN _ (Nat.le_refl _)
    · have ez : inb y (gN g) = false := by simpa using iz
      rw [iy, ez, Bool.and_false, if_neg Bool.false_ne_true, if_pos rfl, if_neg Bool.false_ne_true]
  · have ey : inb x (gN g) = false := by simpa using iy
    rw [ey, Bool.false_and, if_neg Bool.false_ne_true, if_neg Bool.false_ne_true]
theorem anyN_cong {P Q : Nat → Bool} : ∀ {n : Nat}, (∀ j, j < n → P j = Q j) → anyN P n = anyN Q n := by
  intro n
  induction n with
  | zero => intro _; rfl
  | succ n ih =>
    intro h
    unfold anyN
    rw [ih (fun j hj => h j (by omega)), h n (by omega)]
theorem S_wi (H : Mt n C fi) {a s : Nat} (ha : a < n) (hs : s < 1024) (hn : n ≤ 10) (m : Int32) : ∀ b, b ≤ n → wmI C n (nI s) a m b = wiM fi n (nI s) a m b := by
  intro b
  induction b with
  | zero => intro _; rfl
  | succ b ih =>
    intro hb
    unfold wmI wiM
    rw [ih (by omega)]
    by_cases h : cfr fi a b = (-1000)
    · rw [if_pos h, s_f H ha (by omega) h, if_neg Bool.false_ne_true]
    · rw [if_neg h, s_t H ha (by omega) h, if_pos rfl, mx_le, s_pr H ha (by omega), S_ner H ha (by omega) hs hn n (Nat.le_refl _)]
theorem S_wo (H : Mt n C fi) {s : Nat} (hs : s < 1024) (hn : n ≤ 10) : ∀ a, a ≤ n → wmO C n (nI s) a = woM fi n (nI s) a := by
  intro a
  induction a with
  | zero => intro _; rfl
  | succ a ih =>
    intro ha
    unfold wmO woM
    rw [ih (by omega), S_wi H (by omega) hs hn _ n (Nat.le_refl _)]
theorem S_wrs (H : Mt n C fi) {s : Nat} (hs : s < 1024) (hn : n ≤ 10) : wrsC C n (nI s) = wrM fi n (nI s) := by
  unfold wrsC wrM
  have h1 : anyN (fun a => anyN (wbI C n (nI s) a) n) n = anyN (fun a => anyN (wbM fi n (nI s) a) n) n := by
    apply anyN_cong
    intro a ha
    apply anyN_cong
    intro b hb
    unfold wbI wbM
    rw [s_ld H ha hb, S_ner H ha hb hs hn n (Nat.le_refl _)]
  rw [h1, S_wo H hs hn n (Nat.le_refl _)]
end SAME
