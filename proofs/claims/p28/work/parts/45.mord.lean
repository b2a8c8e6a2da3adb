/-! Texts of the model: an order read -/
def RS (m k : Nat) (μ ν : Mm) : Prop := (∀ a, a ≠ m → a ≠ m + 8 → ν a = μ a) ∧ (∀ j, j ≠ 10 → j ≠ 11 → j ≠ 12 → ν m j = μ m j) ∧ ∀ j, j < 4 * k → ν (m + 8) j = μ (m + 8) j
theorem RS.rf {m k : Nat} {μ : Mm} : RS m k μ μ := ⟨fun _ _ _ => rfl, fun _ _ _ _ => rfl, fun _ _ => rfl⟩
theorem RS.tr {m k l : Nat} {μ ν κ : Mm} (h : RS m k μ ν) (g : RS m l ν κ) (hkl : k ≤ l) : RS m k μ κ := ⟨fun a a1 a2 => (g.1 a a1 a2).trans (h.1 a a1 a2), fun j j1 j2 j3 => (g.2.1 j j1 j2 j3).trans (h.2.1 j j1 j2 j3), fun j hj => (g.2.2 j (by omega)).trans (h.2.2 j hj)⟩
theorem RS.f {m k f : Nat} {x : Int32} {μ ν : Mm} (h : RS m k μ ν) (hf : f = 10 ∨ f = 11 ∨ f = 12) : RS m k μ (wr ν m f x) := ⟨fun a a1 a2 => (wr_n _ _ _ a1).trans (h.1 a a1 a2), fun j j1 j2 j3 => by
  rw [wr_s, upd_n _ _ (by omega)]
  exact h.2.1 j j1 j2 j3, fun j hj => by
  rw [wr_n _ _ _ (by omega)]
  exact h.2.2 j hj⟩
theorem RS.o {m k e : Nat} {x : Int32} {μ ν : Mm} (h : RS m k μ ν) (he : 4 * k ≤ e) : RS m k μ (wr ν (m + 8) e x) := ⟨fun a a1 a2 => (wr_n _ _ _ a2).trans (h.1 a a1 a2), fun j j1 j2 j3 => by
  rw [wr_n _ _ _ (by omega)]
  exact h.2.1 j j1 j2 j3, fun j hj => by
  rw [wr_s, upd_n _ _ (by omega)]
  exact h.2.2 j hj⟩
/-- an order in the model's row -/
def MO (f : Nat → Int32) (k : Nat) (o : Od) : Prop := f (4 * k) = nI o.1 ∧ f (4 * k + 1) = o.2.1 ∧ (o.1 = 119 → f (4 * k + 2) = o.2.2.1 ∧ f (4 * k + 3) = o.2.2.2)
