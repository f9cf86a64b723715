/-! ===== what the model learns: the shortest walks, or that a ring pays ===== -/
def vV (n : Nat) (E : Nat → Nat → Int → Prop) (K : Int) (f : Nat → Int32) : Prop := ∀ a b, a < n → b < n → (f (10 * a + b)).toInt = 10000000 ∨ ((∃ k, vWk E k a b (f (10 * a + b)).toInt) ∧ -K ≤ (f (10 * a + b)).toInt ∧ (f (10 * a + b)).toInt ≤ K)
def vI (n : Nat) (E : Nat → Nat → Int → Prop) (m : Nat) (K : Int) (f : Nat → Int32) (w : Bool) : Prop :=
  (∀ a, a < n → f (10 * a + a) = nI 0) ∧ vV n E K f ∧ (w = true → (∀ u v d, E u v d → (f (10 * u + v)).toInt ≤ d) ∧ ∀ k a b, k < m → a < n → b < n → (f (10 * a + k)).toInt < 10000000 → (f (10 * k + b)).toInt < 10000000 → (f (10 * a + b)).toInt ≤ (f (10 * a + k)).toInt + (f (10 * k + b)).toInt) ∧ (w = false → ∃ (a k : Nat) (c : Int), vWk E k a a c ∧ c < 0)
section LEARN
variable {n m : Nat} {E : Nat → Nat → Int → Prop} {K : Int} {f : Nat → Int32}
theorem big_i (v : Int32) : nI 10000000 ≤ v ↔ 10000000 ≤ v.toInt := by rw [Int32.le_iff_toInt_le, nBig]
theorem ph_3 (hV : vV n E K f) (hK : K ≤ 3244544) {a b : Nat} (ha : a < n) (hb : b < n) (hm : m < n) : ((phv f m a b).toInt = (f (10 * a + b)).toInt ∨ ((f (10 * a + m)).toInt < 10000000 ∧ (f (10 * m + b)).toInt < 10000000 ∧ (phv f m a b).toInt = (f (10 * a + m)).toInt + (f (10 * m + b)).toInt)) ∧ (phv f m a b).toInt ≤ (f (10 * a + b)).toInt ∧ ((f (10 * a + m)).toInt < 10000000 → (f (10 * m + b)).toInt < 10000000 → (phv f m a b).toInt ≤ (f (10 * a + m)).toInt + (f (10 * m + b)).toInt) := by
  have v1 := hV a m ha hm
  have v2 := hV m b hm hb
  unfold phv
  by_cases h1 : nI 10000000 ≤ f (10 * a + m)
  · rw [if_pos h1]
    rw [big_i] at h1
    exact ⟨Or.inl rfl, Int.le_refl _, fun q => by omega⟩
  · rw [if_neg h1]
    rw [big_i] at h1
    by_cases h2 : nI 10000000 ≤ f (10 * m + b)
    · rw [if_pos h2]
      rw [big_i] at h2
      exact ⟨Or.inl rfl, Int.le_refl _, fun _ q => by omega⟩
    · rw [if_neg h2]
      rw [big_i] at h2
      have w1 := (v1.resolve_left (by omega)).2
      have w2 := (v2.resolve_left (by omega)).2
      have hs : (f (10 * a + m) + f (10 * m + b)).toInt = (f (10 * a + m)).toInt + (f (10 * m + b)).toInt := aAdd (by omega) (by omega)
      by_cases h3 : f (10 * a + b) ≤ f (10 * a + m) + f (10 * m + b)
      · rw [if_pos h3]
        rw [Int32.le_iff_toInt_le, hs] at h3
        exact ⟨Or.inl rfl, Int.le_refl _, fun _ _ => h3⟩
      · rw [if_neg h3]
        rw [Int32.le_iff_toInt_le, hs] at h3
        rw [hs]
        exact ⟨Or.inr ⟨by omega, by omega, rfl⟩, by omega, fun _ _ => Int.le_refl _⟩
theorem vI_step {w : Bool} (h : vI n E m K f w) (hm : m < n) (hn : n ≤ 10) (hK : K ≤ 3244544) (hK0 : 0 ≤ K) (hE : ∀ u v d, E u v d → u < n ∧ v < n) : vI n E (m + 1) (2 * K) (d3 (f3a n m f n) w n).1 (d3 (f3a n m f n) w n).2 := by
  obtain ⟨h0, hV, hg, hb⟩ := h
  have e0 : (nI 0).toInt = 0 := by decide
  have z0 : (0 : Int32).toInt = 0 := by decide
  obtain ⟨p1, -⟩ := f3a_ph hm hn (h0 m hm) n (Nat.le_refl n)
  obtain ⟨d1, d2, d4⟩ := d3_val (f := f3a n m f n) w n hn
  have dv : ∀ a b, a < n → b < n → a ≠ b → (d3 (f3a n m f n) w n).1 (10 * a + b) = phv f m a b := by
    intro a b ha hb' hne
    rw [d2 _ (fun a' h' => by omega), p1 a b ha hb']
  have wk : ∀ a b, a < n → b < n → (phv f m a b).toInt = 10000000 ∨ ((∃ k, vWk E k a b (phv f m a b).toInt) ∧ -(2 * K) ≤ (phv f m a b).toInt ∧ (phv f m a b).toInt ≤ 2 * K) := by
    intro a b ha hb'
    have v0 := hV a b ha hb'
    have v1 := hV a m ha hm
    have v2 := hV m b hm hb'
    obtain ⟨q1, q2, q3⟩ := ph_3 hV hK ha hb' hm
    rcases q1 with q1 | ⟨s1, s2, s3⟩
    · rw [q1]
      rcases v0 with v0 | ⟨v0, v3, v4⟩
      · exact Or.inl v0
      · exact Or.inr ⟨v0, by omega, by omega⟩
    · rw [s3]
      obtain ⟨⟨k1, w1⟩, b1, b2⟩ := v1.resolve_left (by omega)
      obtain ⟨⟨k2, w2⟩, b3, b4⟩ := v2.resolve_left (by omega)
      exact Or.inr ⟨⟨k1 + k2, vWt w1 k2 b _ w2⟩, by omega, by omega⟩
  refine ⟨d1, ?_, ?_, ?_⟩
  · intro a b ha hb'
    by_cases e : a = b
    · subst e
      rw [d1 a ha, e0]
      exact Or.inr ⟨⟨0, vW0 a⟩, by omega, by omega⟩
    · rw [dv a b ha hb' e]
      exact wk a b ha hb'
  · intro hw
    obtain ⟨hw0, hd⟩ := d4.mp hw
    obtain ⟨g1, g2⟩ := hg hw0
    have full : ∀ a b, a < n → b < n → ((d3 (f3a n m f n) w n).1 (10 * a + b)).toInt = (phv f m a b).toInt := by
      intro a b ha hb'
      by_cases e : a = b
      · subst e
        rw [d1 a ha, e0]
        have h5 := hd a ha
        rw [p1 a a ha ha, Int32.lt_iff_toInt_lt, z0] at h5
        have h6 := (ph_3 (m := m) hV hK ha ha hm).2.1
        rw [h0 a ha, e0] at h6
        omega
      · rw [dv a b ha hb' e]
    constructor
    · intro u v d he
      obtain ⟨hu, hv⟩ := hE u v d he
      rw [full u v hu hv]
      have h6 := (ph_3 (m := m) hV hK hu hv hm).2.1
      have h7 := g1 u v d he
      omega
    · intro k a b hk ha hb'
      have hkn : k < n := by omega
      rw [full a k ha hkn, full k b hkn hb', full a b ha hb']
      intro t1 t2
      obtain ⟨q1, q2, q3⟩ := ph_3 hV hK ha hb' hm
      by_cases e : k = m
      · subst e
        have c1 := ph_col (h0 k hm) a
        have c2 := ph_row (h0 k hm) b
        rw [c1] at t1 ⊢
        rw [c2] at t2 ⊢
        exact q3 t1 t2
      · have hk2 : k < m := by omega
        obtain ⟨r1, r2, r3⟩ := ph_3 hV hK ha hkn hm
        obtain ⟨s1, s2, s3⟩ := ph_3 hV hK hkn hb' hm
        have hmm := h0 m hm
        have b1 := hV a m ha hm
        have b2 := hV m b hm hb'
        have b3 := hV m k hm hkn
        have b4 := hV k m hkn hm
        have b5 := hV k b hkn hb'
        have b6 := hV a k ha hkn
        have g_ab := g2 k a b hk2 ha hb'
        have g_mb := g2 k m b hk2 hm hb'
        have g_am := g2 k a m hk2 ha hm
        have g_mm := g2 k m m hk2 hm hm
        rw [hmm, e0] at g_mm
        rcases r1 with r1 | ⟨r4, r5, r6⟩
        · rcases s1 with s1 | ⟨s4, s5, s6⟩
          · have i1 := g_ab (by omega) (by omega)
            omega
          · have i1 := g_am (by omega) (by omega)
            have i2 := q3 (by omega) (by omega)
            omega
        · rcases s1 with s1 | ⟨s4, s5, s6⟩
          · have i1 := g_mb (by omega) (by omega)
            have i2 := q3 (by omega) (by omega)
            omega
          · have i1 := g_mm (by omega) (by omega)
            have i2 := q3 (by omega) (by omega)
            omega
  · intro hw
    by_cases hw0 : w = true
    · have hd : ¬ ∀ a', a' < n → ¬ f3a n m f n (10 * a' + a') < 0 := fun q => by rw [d4.mpr ⟨hw0, q⟩] at hw; cases hw
      have hd2 : ∃ a', a' < n ∧ f3a n m f n (10 * a' + a') < 0 := by
        apply Classical.byContradiction
        intro q
        exact hd (fun a' h1 h2 => q ⟨a', h1, h2⟩)
      obtain ⟨a, ha, hl⟩ := hd2
      rw [p1 a a ha ha, Int32.lt_iff_toInt_lt, z0] at hl
      obtain ⟨⟨k, hk⟩, -, -⟩ := (wk a a ha ha).resolve_left (by omega)
      exact ⟨a, k, _, hk, hl⟩
    · exact hb (by cases w with | true => exact absurd rfl hw0 | false => rfl)
end LEARN
