/-! Texts of the model: wipe -/
theorem MX.pd {μ ν : Mm} {m : Nat} {A : Aw} {P : Pd} (h : MX μ m A) (e : ∀ a, m ≤ a → a < m + 9 → a ≠ m + 5 → a ≠ m + 6 → a ≠ m + 7 → a ≠ m + 8 → a ≠ m → ν a = μ a) (e2 : ν m 2 = μ m 2) (hq : QX ν m P) : MX ν m (aB A, aH A, aS A, P) := by
  have k : MX (fun a => if a = m then upd (ν m) 7 (μ m 7) else if a = m + 6 then μ (m + 6) else ν a) m A := by
    refine h.at (fun a a1 a2 a3 a4 a5 a6 => ?_) ?_ ?_
    · show (if a = m then upd (ν m) 7 (μ m 7) else if a = m + 6 then μ (m + 6) else ν a) = μ a
      rw [if_neg a6]
      rcases Classical.em (a = m + 6) with q9 | q9
      · rw [if_pos q9, q9]
      · rw [if_neg q9]
        exact e a a1 a2 a3 q9 a4 a5 a6
    · show (if m = m then upd (ν m) 7 (μ m 7) else if m = m + 6 then μ (m + 6) else ν m) 2 = μ m 2
      rw [if_pos rfl, upd_n _ _ (by decide)]
      exact e2
    · show (if m = m then upd (ν m) 7 (μ m 7) else if m = m + 6 then μ (m + 6) else ν m) 7 = μ m 7
      rw [if_pos rfl, upd_s]
  obtain ⟨k1, k2, k3, -⟩ := k
  have f : ∀ a, a ≠ m → a ≠ m + 6 → (fun a => if a = m then upd (ν m) 7 (μ m 7) else if a = m + 6 then μ (m + 6) else ν a) a = ν a := fun a a1 a2 => (if_neg a1).trans (if_neg a2)
  have f2 : (fun a => if a = m then upd (ν m) 7 (μ m 7) else if a = m + 6 then μ (m + 6) else ν a) m 2 = ν m 2 := by
    show (if m = m then upd (ν m) 7 (μ m 7) else if m = m + 6 then μ (m + 6) else ν m) 2 = ν m 2
    rw [if_pos rfl, upd_n _ _ (by decide)]
  generalize (fun a => if a = m then upd (ν m) 7 (μ m 7) else if a = m + 6 then μ (m + 6) else ν a) = κ at k1 k2 k3 f f2
  refine ⟨?_, ?_, ?_, hq⟩
  · rw [f (m + 1) (by omega) (by omega)] at k1
    exact k1
  · unfold PX at k2 ⊢
    rw [f2, f (m + 2) (by omega) (by omega)] at k2
    exact k2
  · unfold VX at k3 ⊢
    rw [f (m + 3) (by omega) (by omega), f (m + 4) (by omega) (by omega)] at k3
    exact k3
