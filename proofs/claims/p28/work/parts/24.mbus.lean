/-! The model: a bus and what happens to it -/
def LW (μ : Mm) (m : Nat) (p : Nat → Prop) (k : Nat) (ν : Mm) : Prop := (∀ a, a ≠ m + 7 → ν a = μ a) ∧ ∀ v, v < k → ν (m + 7) v = cif (p v) (nI 1) (nI 0)
theorem LW.set {μ ν : Mm} {m y : Nat} {p q : Nat → Prop} (h : LW μ m p 6 ν) (hq : ∀ v, q v ↔ (p v ∨ v = y)) : LW μ m q 6 (wr ν (m + 7) y (nI 1)) := by
  refine ⟨fun a ha => (wr_n _ _ _ ha).trans (h.1 a ha), fun v hv => ?_⟩
  rw [wr_s]
  by_cases e : v = y
  · subst e
    rw [upd_s, cif_y ((hq v).mpr (Or.inr rfl))]
  · rw [upd_n _ _ e, h.2 v hv]
    exact cif_cong ⟨fun k => (hq v).mpr (Or.inl k), fun k => ((hq v).mp k).resolve_right e⟩
theorem LW.cong {μ ν : Mm} {m k : Nat} {p q : Nat → Prop} (h : LW μ m p k ν) (e : ∀ v, p v ↔ q v) : LW μ m q k ν := ⟨h.1, fun v hv => (h.2 v hv).trans (cif_cong (e v))⟩
