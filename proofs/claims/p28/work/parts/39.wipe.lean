/-! Texts: fault and wipe of the face -/
theorem CX.rd {σ : Sp} {μ ν : Mm} {o x : Nat} {A : Aw} (h : CX σ μ o x A) (k : RX (o + 562) μ ν) : CX σ ν o x A ∧ FX μ o ν := by
  obtain ⟨c1, c2, c3, c4, c5, c6⟩ := h
  exact ⟨⟨c1, c2.at fun a a1 a2 => k a (by omega), c3.at fun a a1 a2 => k a (by omega), c4.at fun a a1 a2 => k a (by omega), c5.at fun a a1 => k a (by omega), PD.fr (p := o + 562) c6 k⟩, fun a a1 a2 => k a (by omega)⟩
theorem CX.pd {σ : Sp} {μ ν : Mm} {o x : Nat} {A : Aw} {P : Pd} (h : CX σ μ o x A) (k : ∀ a, a ≠ o + 562 → a ≠ o + 563 → ν a = μ a) (hp : PD ν (o + 562) P) : CX σ ν o x (aB A, aH A, aS A, P) ∧ FX μ o ν := by
  obtain ⟨c1, c2, c3, c4, c5, c6⟩ := h
  exact ⟨⟨c1, c2.at fun a a1 a2 => k a (by omega) (by omega), c3.at fun a a1 a2 => k a (by omega) (by omega), c4.at fun a a1 a2 => k a (by omega) (by omega), c5.at fun a a1 => k a (by omega) (by omega), hp⟩, fun a a1 a2 => k a (by omega) (by omega)⟩
