/-! ===== walks over plain numbers ===== -/
def vWk (E : Nat → Nat → Int → Prop) : Nat → Nat → Nat → Int → Prop
  | 0, u, v, c => u = v ∧ c = 0
  | m + 1, u, v, c => ∃ (w : Nat) (d : Int), vWk E m u w (c - d) ∧ E w v d
section WALK
variable {E : Nat → Nat → Int → Prop}
theorem vW0 (u : Nat) : vWk E 0 u u 0 := ⟨rfl, rfl⟩
theorem vWs {m u w v : Nat} {c d : Int} (h : vWk E m u w c) (e : E w v d) : vWk E (m + 1) u v (c + d) := ⟨w, d, (by rw [show c + d - d = c by omega]; exact h), e⟩
theorem vW1 {u v : Nat} {d : Int} (e : E u v d) : vWk E 1 u v d := by
  have h := vWs (vW0 (E := E) u) e
  rw [show (0 : Int) + d = d by omega] at h
  exact h
theorem vW_cast {m m' u v : Nat} {c c' : Int} (h : vWk E m u v c) (h1 : m = m') (h2 : c = c') : vWk E m' u v c' := by
  subst h1
  subst h2
  exact h
theorem vWt {i u w : Nat} {c : Int} (h : vWk E i u w c) : ∀ (j v : Nat) (d : Int), vWk E j w v d → vWk E (i + j) u v (c + d) := by
  intro j
  induction j with
  | zero =>
    intro v d hd
    obtain ⟨e1, e2⟩ := hd
    subst e1
    subst e2
    exact vW_cast h rfl (by omega)
  | succ j ih =>
    intro v d hd
    obtain ⟨z, b, h1, h2⟩ := hd
    exact vW_cast (vWs (ih z (d - b) h1) h2) rfl (by omega)
theorem vW_mono {E' : Nat → Nat → Int → Prop} (hE : ∀ u v d, E u v d → E' u v d) : ∀ (m u v : Nat) (c : Int), vWk E m u v c → vWk E' m u v c := by
  intro m
  induction m with
  | zero => intro u v c h; exact h
  | succ m ih =>
    intro u v c h
    obtain ⟨w, d, h1, h2⟩ := h
    exact ⟨w, d, ih u w _ h1, hE _ _ _ h2⟩
/-- the posts and sums along a walk -/
theorem vW_pos : ∀ (m u v : Nat) (c : Int), vWk E m u v c → ∃ (p : Nat → Nat) (q : Nat → Int), p 0 = u ∧ q 0 = 0 ∧ p m = v ∧ q m = c ∧ ∀ i, i < m → E (p i) (p (i + 1)) (q (i + 1) - q i) := by
  intro m
  induction m with
  | zero =>
    intro u v c h
    obtain ⟨e1, e2⟩ := h
    exact ⟨fun _ => u, fun _ => 0, rfl, rfl, e1, e2.symm, fun i hi => absurd hi (Nat.not_lt_zero i)⟩
  | succ m ih =>
    intro u v c h
    obtain ⟨w, d, h1, h2⟩ := h
    obtain ⟨p, q, p0, q0, pm, qm, hs⟩ := ih u w (c - d) h1
    refine ⟨fun i => if i ≤ m then p i else v, fun i => if i ≤ m then q i else c, ?_, ?_, ?_, ?_, ?_⟩
    · show (if 0 ≤ m then p 0 else v) = u
      rw [if_pos (by omega), p0]
    · show (if 0 ≤ m then q 0 else c) = 0
      rw [if_pos (by omega), q0]
    · show (if m + 1 ≤ m then p (m + 1) else v) = v
      rw [if_neg (by omega)]
    · show (if m + 1 ≤ m then q (m + 1) else c) = c
      rw [if_neg (by omega)]
    · intro i hi
      show E (if i ≤ m then p i else v) (if i + 1 ≤ m then p (i + 1) else v) ((if i + 1 ≤ m then q (i + 1) else c) - (if i ≤ m then q i else c))
      by_cases e : i = m
      · subst e
        rw [if_pos (by omega), if_neg (by omega), if_neg (by omega), if_pos (by omega), pm, qm, show c - (c - d) = d by omega]
        exact h2
      · rw [if_pos (by omega), if_pos (by omega), if_pos (by omega), if_pos (by omega)]
        exact hs i (by omega)
theorem vW_of {p : Nat → Nat} {q : Nat → Int} {m : Nat} (hs : ∀ i, i < m → E (p i) (p (i + 1)) (q (i + 1) - q i)) (i : Nat) : ∀ j, i + j ≤ m → vWk E j (p i) (p (i + j)) (q (i + j) - q i) := by
  intro j
  induction j with
  | zero =>
    intro _
    exact ⟨rfl, by rw [Nat.add_zero]; omega⟩
  | succ j ih =>
    intro hj
    exact vW_cast (vWs (ih (by omega)) (hs (i + j) (by omega))) rfl (by rw [show i + (j + 1) = i + j + 1 by omega]; omega)
/-- a walk may be cut in two -/
theorem vW_split {i j u v : Nat} {c : Int} (h : vWk E (i + j) u v c) : ∃ (w : Nat) (d : Int), vWk E i u w d ∧ vWk E j w v (c - d) := by
  obtain ⟨p, q, p0, q0, pm, qm, hs⟩ := vW_pos (i + j) u v c h
  have h1 := vW_of hs 0 i (by omega)
  have h2 := vW_of hs i j (by omega)
  rw [Nat.zero_add, p0, q0] at h1
  rw [pm, qm] at h2
  exact ⟨p i, q i, vW_cast h1 rfl (by omega), h2⟩
theorem pigeon : ∀ (n : Nat) (f : Nat → Nat), (∀ i, i ≤ n → f i < n) → ∃ i j, i < j ∧ j ≤ n ∧ f i = f j := by
  intro n
  induction n with
  | zero => intro f h; exact absurd (h 0 (by omega)) (by omega)
  | succ n ih =>
    intro f h
    by_cases hx : ∃ i, i ≤ n ∧ f i = f (n + 1)
    · obtain ⟨i, h1, h2⟩ := hx
      exact ⟨i, n + 1, by omega, by omega, h2⟩
    · have hl := h (n + 1) (by omega)
      have hne : ∀ i, i ≤ n → f i ≠ f (n + 1) := fun i hi e => hx ⟨i, hi, e⟩
      obtain ⟨i, j, h1, h2, h3⟩ := ih (fun i => if f i = n then f (n + 1) else f i) (fun i hi => (by
        show (if f i = n then f (n + 1) else f i) < n
        have a1 := hne i hi
        have a2 := h i (by omega)
        by_cases e : f i = n
        · rw [if_pos e]; omega
        · rw [if_neg e]; omega))
      have a1 := hne i (by omega)
      have a2 := hne j h2
      have h4 : (if f i = n then f (n + 1) else f i) = (if f j = n then f (n + 1) else f j) := h3
      refine ⟨i, j, h1, by omega, ?_⟩
      by_cases e : f i = n
      · by_cases e' : f j = n
        · omega
        · rw [if_pos e, if_neg e'] at h4
          omega
      · by_cases e' : f j = n
        · rw [if_neg e, if_pos e'] at h4
          omega
        · rw [if_neg e, if_neg e'] at h4
          exact h4
/-- where no closed walk is below nothing, each walk has one of fewer than n lines that is no worse -/
theorem vW_short {n : Nat} (hE : ∀ u v d, E u v d → u < n ∧ v < n) (hc : ∀ m u c, vWk E m u u c → 0 ≤ c) : ∀ (k m u v : Nat) (c : Int), m ≤ k → u < n → vWk E m u v c → ∃ (m' : Nat) (c' : Int), m' < n ∧ m' ≤ m ∧ c' ≤ c ∧ vWk E m' u v c' := by
  intro k
  induction k with
  | zero =>
    intro m u v c hm hu h
    exact ⟨m, c, by omega, by omega, by omega, h⟩
  | succ k ih =>
    intro m u v c hm hu h
    by_cases hl : m < n
    · exact ⟨m, c, hl, by omega, by omega, h⟩
    · obtain ⟨p, q, p0, q0, pm, qm, hs⟩ := vW_pos m u v c h
      have hr : ∀ i, i ≤ n → p i < n := by
        intro i hi
        by_cases e : i = 0
        · subst e; rw [p0]; exact hu
        · have h1 := hE _ _ _ (hs (i - 1) (by omega))
          rw [show i - 1 + 1 = i by omega] at h1
          exact h1.2
      obtain ⟨i, j, h1, h2, h3⟩ := pigeon n p hr
      have w1 := vW_of hs 0 i (by omega)
      have w2 := vW_of hs i (j - i) (by omega)
      have w3 := vW_of hs j (m - j) (by omega)
      rw [Nat.zero_add, p0, q0] at w1
      rw [show i + (j - i) = j by omega, ← h3] at w2
      rw [show j + (m - j) = m by omega, pm, qm, ← h3] at w3
      have hp := hc _ _ _ w2
      have w4 := vWt w1 _ _ _ w3
      obtain ⟨m', c', a1, a2, a3, a4⟩ := ih (i + (m - j)) u v _ (by omega) hu w4
      exact ⟨m', c', a1, by omega, by omega, a4⟩
end WALK
