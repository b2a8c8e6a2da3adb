/-! Texts: what is asked of a pad, and the reader of the class -/
abbrev Pd := (Nat → Int32) × Nat
def PD (μ : Mm) (p : Nat) (P : Pd) : Prop := μ p 1 = nI P.2 ∧ P.2 ≤ 80 ∧ ∀ j, j < P.2 → μ (p + 1) j = P.1 j
def RX (p : Nat) (μ ν : Mm) : Prop := ∀ a, a ≠ p + 2 → ν a = μ a
theorem RX.rf {p : Nat} {μ : Mm} : RX p μ μ := fun _ _ => rfl
theorem RX.tr {p : Nat} {μ ν κ : Mm} (h : RX p μ ν) (k : RX p ν κ) : RX p μ κ := fun a ha => (k a ha).trans (h a ha)
theorem RX.w {p k : Nat} {x : Int32} {μ ν : Mm} (h : RX p μ ν) : RX p μ (wr ν (p + 2) k x) := fun a ha => (wr_n _ _ _ ha).trans (h a ha)
def KP (p : Nat) (ks : List Nat) (μ ν : Mm) : Prop := ∀ j, j ∉ ks → ν (p + 2) j = μ (p + 2) j
theorem KP.rf {p : Nat} {ks : List Nat} {μ : Mm} : KP p ks μ μ := fun _ _ => rfl
theorem KP.w {p k : Nat} {ks : List Nat} {x : Int32} {μ ν : Mm} (h : KP p ks μ ν) (hk : k ∈ ks) : KP p ks μ (wr ν (p + 2) k x) := fun j hj => by
  rw [wr_s, upd_n _ _ (fun e => hj (by rw [e]; exact hk))]
  exact h j hj
theorem KP.tr {p : Nat} {ks is : List Nat} {μ ν κ : Mm} (h : KP p ks μ ν) (k : KP p is ν κ) (hs : ∀ j, j ∈ is → j ∈ ks) : KP p ks μ κ := fun j hj => (k j (fun e => hj (hs j e))).trans (h j hj)
theorem PD.fr {p : Nat} {P : Pd} {μ ν : Mm} (h : PD μ p P) (k : RX p μ ν) : PD ν p P := by
  refine ⟨?_, h.2.1, fun j hj => ?_⟩
  · rw [k p (by omega)]
    exact h.1
  · rw [k (p + 1) (by omega)]
    exact h.2.2 j hj
def dgT (P : Pd) (i : Nat) : Prop := i < P.2 ∧ ∃ d, d < 10 ∧ P.1 i = nI (48 + d)
def dgV (P : Pd) (i : Nat) : Nat := (P.1 i).toNatClampNeg - 48
def wrT (P : Pd) (i : Nat) : Prop := i < P.2 ∧ ∃ d, d < 6 ∧ P.1 i = nI (97 + d)
def wrV (P : Pd) (i : Nat) : Nat := (P.1 i).toNatClampNeg - 97
def chT (P : Pd) (i c : Nat) : Prop := i < P.2 ∧ P.1 i = nI c
noncomputable def nmG (P : Pd) : Nat → Nat → Nat → Nat × Nat
  | 0, v, i => (v, i)
  | f + 1, v, i => cif (0 < v ∧ dgT P i ∧ 10 * v + dgV P i ≤ 999) (nmG P f (10 * v + dgV P i) (i + 1)) (v, i)
noncomputable def wsG (P : Pd) : Nat → (Nat → Prop) → Nat → (Nat → Prop) × Nat
  | 0, s, i => (s, i)
  | f + 1, s, i => cif (wrT P i ∧ ¬ s (wrV P i)) (wsG P f (fun v => s v ∨ wrV P i = v) (i + 1)) (s, i)
