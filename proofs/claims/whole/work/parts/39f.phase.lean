/-! ===== a phase of the model's search, at once ===== -/
def phv (f : Nat → Int32) (m a b : Nat) : Int32 := if nI 10000000 ≤ f (10 * a + m) then f (10 * a + b) else if nI 10000000 ≤ f (10 * m + b) then f (10 * a + b) else if f (10 * a + b) ≤ f (10 * a + m) + f (10 * m + b) then f (10 * a + b) else f (10 * a + m) + f (10 * m + b)
section PHASE
variable {f : Nat → Int32} {m a b n : Nat}
theorem ph_col (h0 : f (10 * m + m) = nI 0) (a : Nat) : phv f m a m = f (10 * a + m) := by
  have e0 : (nI 0 : Int32) = 0 := by decide
  unfold phv
  by_cases h1 : nI 10000000 ≤ f (10 * a + m)
  · rw [if_pos h1]
  · rw [if_neg h1, h0, if_neg (by decide), e0, Int32.add_zero]
    by_cases h3 : f (10 * a + m) ≤ f (10 * a + m)
    · rw [if_pos h3]
    · rw [if_neg h3]
theorem ph_row (h0 : f (10 * m + m) = nI 0) (b : Nat) : phv f m m b = f (10 * m + b) := by
  have e0 : (nI 0 : Int32) = 0 := by decide
  unfold phv
  rw [h0, if_neg (by decide), e0, Int32.zero_add]
  by_cases h1 : nI 10000000 ≤ f (10 * m + b)
  · rw [if_pos h1]
  · rw [if_neg h1]
    by_cases h3 : f (10 * m + b) ≤ f (10 * m + b)
    · rw [if_pos h3]
    · rw [if_neg h3]
theorem f3b_ph (hm : m < 10) (ha : a < 10) (h0 : f (10 * m + m) = nI 0) : ∀ b, b ≤ 10 → (∀ b', b' < b → f3b m a f b (10 * a + b') = phv f m a b') ∧ ∀ i, i < 10 * a ∨ 10 * a + b ≤ i → f3b m a f b i = f i := by
  intro b
  induction b with
  | zero => intro _; exact ⟨fun b' h => absurd h (Nat.not_lt_zero _), fun i _ => rfl⟩
  | succ b ih =>
    intro hb
    obtain ⟨i1, i2⟩ := ih (by omega)
    have c1 : f3b m a f b (10 * a + m) = f (10 * a + m) := by
      by_cases e : m < b
      · rw [i1 m e, ph_col h0]
      · exact i2 _ (by omega)
    have c2 : f3b m a f b (10 * m + b) = f (10 * m + b) := by
      by_cases e : m = a
      · subst e; exact i2 _ (by omega)
      · exact i2 _ (by omega)
    have c3 : f3b m a f b (10 * a + b) = f (10 * a + b) := i2 _ (by omega)
    unfold f3b
    rw [c1, c2, c3]
    have key : (if nI 10000000 ≤ f (10 * a + m) then f3b m a f b else if nI 10000000 ≤ f (10 * m + b) then f3b m a f b else upd (f3b m a f b) (10 * a + b) (if f (10 * a + b) ≤ f (10 * a + m) + f (10 * m + b) then f (10 * a + b) else f (10 * a + m) + f (10 * m + b))) (10 * a + b) = phv f m a b := by
      unfold phv
      by_cases h1 : nI 10000000 ≤ f (10 * a + m)
      · rw [if_pos h1, if_pos h1, c3]
      · rw [if_neg h1, if_neg h1]
        by_cases h2 : nI 10000000 ≤ f (10 * m + b)
        · rw [if_pos h2, if_pos h2, c3]
        · rw [if_neg h2, if_neg h2, pk_us]
    have off : ∀ i, i ≠ 10 * a + b → (if nI 10000000 ≤ f (10 * a + m) then f3b m a f b else if nI 10000000 ≤ f (10 * m + b) then f3b m a f b else upd (f3b m a f b) (10 * a + b) (if f (10 * a + b) ≤ f (10 * a + m) + f (10 * m + b) then f (10 * a + b) else f (10 * a + m) + f (10 * m + b))) i = f3b m a f b i := by
      intro i hi
      by_cases h1 : nI 10000000 ≤ f (10 * a + m)
      · rw [if_pos h1]
      · rw [if_neg h1]
        by_cases h2 : nI 10000000 ≤ f (10 * m + b)
        · rw [if_pos h2]
        · rw [if_neg h2, pk_un hi]
    constructor
    · intro b' hb'
      by_cases e : b' = b
      · subst e; exact key
      · rw [off _ (by omega)]
        exact i1 b' (by omega)
    · intro i hi
      rw [off i (by omega)]
      exact i2 i (by omega)
theorem f3a_ph (hm : m < n) (hn : n ≤ 10) (h0 : f (10 * m + m) = nI 0) : ∀ a, a ≤ n → (∀ a' b', a' < a → b' < n → f3a n m f a (10 * a' + b') = phv f m a' b') ∧ ∀ i, 10 * a ≤ i → f3a n m f a i = f i := by
  intro a
  induction a with
  | zero => intro _; exact ⟨fun a' b' h => absurd h (Nat.not_lt_zero _), fun i _ => rfl⟩
  | succ a ih =>
    intro ha
    obtain ⟨i1, i2⟩ := ih (by omega)
    have d0 : f3a n m f a (10 * m + m) = nI 0 := by
      by_cases e : m < a
      · rw [i1 m m e hm, ph_col h0, h0]
      · rw [i2 _ (by omega), h0]
    have dr : ∀ b', b' < n → f3a n m f a (10 * m + b') = f (10 * m + b') := by
      intro b' hb'
      by_cases e : m < a
      · rw [i1 m b' e hb', ph_row h0]
      · exact i2 _ (by omega)
    obtain ⟨j1, j2⟩ := f3b_ph (f := f3a n m f a) (m := m) (a := a) (by omega) (by omega) d0 n hn
    have hu : f3a n m f (a + 1) = f3b m a (f3a n m f a) n := rfl
    rw [hu]
    constructor
    · intro a' b' ha' hb'
      by_cases e : a' = a
      · subst e
        rw [j1 b' hb']
        unfold phv
        rw [dr b' hb', i2 (10 * a' + m) (by omega), i2 (10 * a' + b') (by omega)]
      · rw [j2 _ (by omega)]
        exact i1 a' b' (by omega) hb'
    · intro i hi
      rw [j2 i (by omega)]
      exact i2 i (by omega)
theorem d3_val (w : Bool) : ∀ a, a ≤ 10 → (∀ a', a' < a → (d3 f w a).1 (10 * a' + a') = nI 0) ∧ (∀ i, (∀ a', a' < a → i ≠ 10 * a' + a') → (d3 f w a).1 i = f i) ∧ ((d3 f w a).2 = true ↔ w = true ∧ ∀ a', a' < a → ¬ f (10 * a' + a') < 0) := by
  intro a
  induction a with
  | zero => intro _; exact ⟨fun a' h => absurd h (Nat.not_lt_zero _), fun i _ => rfl, ⟨fun h => ⟨h, fun a' h => absurd h (Nat.not_lt_zero _)⟩, fun h => h.1⟩⟩
  | succ a ih =>
    intro ha
    obtain ⟨i1, i2, i3⟩ := ih (by omega)
    have c : (d3 f w a).1 (10 * a + a) = f (10 * a + a) := i2 _ (fun a' h => by omega)
    have hu : d3 f w (a + 1) = (upd (d3 f w a).1 (10 * a + a) (nI 0), (d3 f w a).2 && !decide ((d3 f w a).1 (10 * a + a) < 0)) := rfl
    rw [hu]
    refine ⟨?_, ?_, ?_⟩
    · intro a' ha'
      show upd (d3 f w a).1 (10 * a + a) (nI 0) (10 * a' + a') = nI 0
      by_cases e : a' = a
      · subst e; rw [pk_us]
      · rw [pk_un (by omega)]
        exact i1 a' (by omega)
    · intro i hi
      show upd (d3 f w a).1 (10 * a + a) (nI 0) i = f i
      rw [pk_un (hi a (by omega))]
      exact i2 i (fun a' h => hi a' (by omega))
    · show ((d3 f w a).2 && !decide ((d3 f w a).1 (10 * a + a) < 0)) = true ↔ _
      rw [c, Bool.and_eq_true, i3, Bool.not_eq_true', decide_eq_false_iff_not]
      constructor
      · intro q
        refine ⟨q.1.1, fun a' h => ?_⟩
        by_cases e : a' = a
        · subst e; exact q.2
        · exact q.1.2 a' (by omega)
      · intro q
        exact ⟨⟨q.1, fun a' h => q.2 a' (by omega)⟩, q.2 a (by omega)⟩
end PHASE
