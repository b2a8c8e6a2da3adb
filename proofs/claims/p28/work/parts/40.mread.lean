/-! Texts of the model: what it reads -/
def TW (m : Nat) (μ ν : Mm) : Prop := (∀ a, a ≠ m → ν a = μ a) ∧ ∀ j, j ≠ 11 → j ≠ 12 → ν m j = μ m j
theorem TW.rf {m : Nat} {μ : Mm} : TW m μ μ := ⟨fun _ _ => rfl, fun _ _ _ => rfl⟩
theorem TW.tr {m : Nat} {μ ν κ : Mm} (h : TW m μ ν) (k : TW m ν κ) : TW m μ κ := ⟨fun a ha => (k.1 a ha).trans (h.1 a ha), fun j j1 j2 => (k.2 j j1 j2).trans (h.2 j j1 j2)⟩
theorem TW.w {m k : Nat} {x : Int32} {μ ν : Mm} (h : TW m μ ν) (hk : k = 11 ∨ k = 12) : TW m μ (wr ν m k x) := ⟨fun a ha => (wr_n _ _ _ ha).trans (h.1 a ha), fun j j1 j2 => by
  rw [wr_s, upd_n _ _ (by omega)]
  exact h.2 j j1 j2⟩
