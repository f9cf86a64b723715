/-! ===== one line more: what it does to closed walks ===== -/
def vA (E : Nat → Nat → Int → Prop) (a b : Nat) (w : Int) (t : Bool) (u v : Nat) (d : Int) : Prop := E u v d ∨ (d = w ∧ ((u = a ∧ v = b) ∨ (t = true ∧ u = b ∧ v = a)))
/-- a walk that is no worse: without the line, or once over it in one of its directions -/
def vF (E : Nat → Nat → Int → Prop) (a b : Nat) (w : Int) (t : Bool) (u v : Nat) (c : Int) : Prop :=
  (∃ (m : Nat) (c1 : Int), vWk E m u v c1 ∧ c1 ≤ c) ∨ (∃ (m1 m2 : Nat) (c1 c2 : Int), vWk E m1 u a c1 ∧ vWk E m2 b v c2 ∧ c1 + w + c2 ≤ c) ∨ (t = true ∧ ∃ (m1 m2 : Nat) (c1 c2 : Int), vWk E m1 u b c1 ∧ vWk E m2 a v c2 ∧ c1 + w + c2 ≤ c)
section ADD
variable {E : Nat → Nat → Int → Prop} {a b : Nat} {w : Int} {t : Bool}
theorem vF_of (H1 : ∀ m u c, vWk E m u u c → 0 ≤ c) (H2 : ∀ m c, vWk E m b a c → 0 ≤ c + w) (H3 : t = true → ∀ m c, vWk E m a b c → 0 ≤ c + w) (H4 : t = true → 0 ≤ w) : ∀ (m u v : Nat) (c : Int), vWk (vA E a b w t) m u v c → vF E a b w t u v c := by
  intro m
  induction m with
  | zero =>
    intro u v c h
    obtain ⟨rfl, rfl⟩ := h
    exact Or.inl ⟨0, 0, vW0 u, Int.le_refl _⟩
  | succ m ih =>
    intro u v c h
    obtain ⟨x, d, h1, h2⟩ := h
    have hi := ih u x (c - d) h1
    rcases h2 with h2 | ⟨rfl, ⟨rfl, rfl⟩ | ⟨ht, rfl, rfl⟩⟩
    · rcases hi with ⟨m1, c1, p1, p2⟩ | ⟨m1, m2, c1, c2, p1, p2, p3⟩ | ⟨ht, m1, m2, c1, c2, p1, p2, p3⟩
      · exact Or.inl ⟨m1 + 1, c1 + d, vWs p1 h2, by omega⟩
      · exact Or.inr (Or.inl ⟨m1, m2 + 1, c1, c2 + d, p1, vWs p2 h2, by omega⟩)
      · exact Or.inr (Or.inr ⟨ht, m1, m2 + 1, c1, c2 + d, p1, vWs p2 h2, by omega⟩)
    · rcases hi with ⟨m1, c1, p1, p2⟩ | ⟨m1, m2, c1, c2, p1, p2, p3⟩ | ⟨ht, m1, m2, c1, c2, p1, p2, p3⟩
      · exact Or.inr (Or.inl ⟨m1, 0, c1, 0, p1, vW0 _, by omega⟩)
      · have k := H2 m2 c2 p2
        exact Or.inr (Or.inl ⟨m1, 0, c1, 0, p1, vW0 _, by omega⟩)
      · have k := H1 m2 _ c2 p2
        have k2 := H4 ht
        exact Or.inl ⟨m1, c1, p1, by omega⟩
    · rcases hi with ⟨m1, c1, p1, p2⟩ | ⟨m1, m2, c1, c2, p1, p2, p3⟩ | ⟨ht', m1, m2, c1, c2, p1, p2, p3⟩
      · exact Or.inr (Or.inr ⟨ht, m1, 0, c1, 0, p1, vW0 _, by omega⟩)
      · have k := H1 m2 _ c2 p2
        have k2 := H4 ht
        exact Or.inl ⟨m1, c1, p1, by omega⟩
      · have k := H3 ht m2 c2 p2
        exact Or.inr (Or.inr ⟨ht, m1, 0, c1, 0, p1, vW0 _, by omega⟩)
theorem vA_iff (H1 : ∀ m u c, vWk E m u u c → 0 ≤ c) (H4 : t = true → 0 ≤ w) : (∀ m u c, vWk (vA E a b w t) m u u c → 0 ≤ c) ↔ ((∀ m c, vWk E m b a c → 0 ≤ c + w) ∧ (t = true → ∀ m c, vWk E m a b c → 0 ≤ c + w)) := by
  constructor
  · intro H
    have up : ∀ m u v c, vWk E m u v c → vWk (vA E a b w t) m u v c := vW_mono (fun u v d h => Or.inl h)
    constructor
    · intro m c h
      exact H (m + 1) b (c + w) (vWs (up m b a c h) (Or.inr ⟨rfl, Or.inl ⟨rfl, rfl⟩⟩))
    · intro ht m c h
      exact H (m + 1) a (c + w) (vWs (up m a b c h) (Or.inr ⟨rfl, Or.inr ⟨ht, rfl, rfl⟩⟩))
  · intro H m u c h
    rcases vF_of H1 H.1 H.2 H4 m u u c h with ⟨m1, c1, p1, p2⟩ | ⟨m1, m2, c1, c2, p1, p2, p3⟩ | ⟨ht, m1, m2, c1, c2, p1, p2, p3⟩
    · have k := H1 m1 u c1 p1
      omega
    · have k := H.1 (m2 + m1) (c2 + c1) (vWt p2 m1 a c1 p1)
      omega
    · have k := H.2 ht (m2 + m1) (c2 + c1) (vWt p2 m1 b c1 p1)
      omega
end ADD
