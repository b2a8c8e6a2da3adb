/-! The model: a beat -/
theorem goP_c (L A : Nat → Prop) (n i : Nat) (B : Bs) (c : Nat) : goP L A n i (B, c) = ((goP L A n i (B, 0)).1, c + (goP L A n i (B, 0)).2) := by
  unfold goP
  by_cases h1 : spB B i
  · rw [cif_y (show spB (B, c).1 i from h1), cif_y (show spB (B, 0).1 i from h1)]
    by_cases h2 : gvP L A n B i
    · rw [cif_y (show gvP L A n (B, c).1 i from h2), cif_y (show gvP L A n (B, 0).1 i from h2)]
      rfl
    · rw [cif_n (show ¬ gvP L A n (B, c).1 i from h2), cif_n (show ¬ gvP L A n (B, 0).1 i from h2)]
      by_cases h3 : bS B i 17 = nI 10
      · rw [cif_y (show bS (B, c).1 i 17 = nI 10 from h3), cif_y (show bS (B, 0).1 i 17 = nI 10 from h3)]
      · rw [cif_n (show ¬ bS (B, c).1 i 17 = nI 10 from h3), cif_n (show ¬ bS (B, 0).1 i 17 = nI 10 from h3)]
        rfl
  · rw [cif_n (show ¬ spB (B, c).1 i from h1), cif_n (show ¬ spB (B, 0).1 i from h1)]
    rfl
theorem goP_01 (L A : Nat → Prop) (n i : Nat) (B : Bs) : (goP L A n i (B, 0)).2 = 0 ∨ (goP L A n i (B, 0)).2 = 1 := by
  unfold goP
  by_cases h1 : spB B i
  · rw [cif_y (show spB (B, 0).1 i from h1)]
    by_cases h2 : gvP L A n B i
    · rw [cif_y (show gvP L A n (B, 0).1 i from h2)]
      exact Or.inl rfl
    · rw [cif_n (show ¬ gvP L A n (B, 0).1 i from h2)]
      by_cases h3 : bS B i 17 = nI 10
      · rw [cif_y (show bS (B, 0).1 i 17 = nI 10 from h3)]
        exact Or.inr rfl
      · rw [cif_n (show ¬ bS (B, 0).1 i 17 = nI 10 from h3)]
        exact Or.inl rfl
  · rw [cif_n (show ¬ spB (B, 0).1 i from h1)]
    exact Or.inl rfl
def FM (μ : Mm) (m : Nat) (ν : Mm) : Prop := ∀ a, a ≠ m + 7 → ν a = μ a
theorem FM.tr {μ ν κ : Mm} {m : Nat} (h : FM μ m ν) (k : FM ν m κ) : FM μ m κ := fun a ha => (k a ha).trans (h a ha)
