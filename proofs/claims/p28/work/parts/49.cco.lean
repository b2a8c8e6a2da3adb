/-! Texts of the class: carryOut -/
theorem CX.co {σ : Sp} {μ μ1 ν μ3 : Mm} {o x : Nat} {A : Aw} {B' : Bs} (h : CX σ μ o x A) (h1 : BU μ (hb (o + 125) x) (aB A) μ1) (f : ∀ a, (a < o + 1 ∨ o + 63 ≤ a) → a ≠ o + 564 → ν a = μ1 a) (h2 : BU ν (o + 1) B' ν)
    (e3 : ∀ a, a ≠ o + 125 → a ≠ o + 562 → μ3 a = ν a) (e1 : μ3 (o + 125) 1 = nI (if x < 6 then x + 1 else 0)) (e2 : μ3 (o + 125) 2 = nI (if (aH A).2 < 6 then (aH A).2 + 1 else 6)) (ep : μ3 (o + 562) 1 = nI 0) :
    CX σ μ3 o (if x < 6 then x + 1 else 0) (B', pushH (aH A) (aB A), aS A, ((aP A).1, 0)) ∧ FX μ o μ3 := by
  have hin := hb_in (hh := o + 125) h.2.2.2.1.2.1
  have hb2 : BU μ1 (o + 1) B' (fun a => if o + 562 ≤ a ∧ a < o + 565 then μ1 a else ν a) := by
    refine ⟨fun a ha => ?_, (h2.at (μ' := fun a => if o + 562 ≤ a ∧ a < o + 565 then μ1 a else ν a) (fun a a1 a2 => if_neg (by omega))).2⟩
    show (if o + 562 ≤ a ∧ a < o + 565 then μ1 a else ν a) = μ1 a
    rcases Classical.em (o + 562 ≤ a ∧ a < o + 565) with c | c
    · rw [if_pos c]
    · rw [if_neg c]
      exact f a (by omega) (by omega)
  obtain ⟨g1, -⟩ := h.opO (μ3 := fun a => if o + 562 ≤ a ∧ a < o + 565 then μ1 a else μ3 a) h1 hb2 (fun a ha => by
    show (if o + 562 ≤ a ∧ a < o + 565 then μ1 a else μ3 a) = (if o + 562 ≤ a ∧ a < o + 565 then μ1 a else ν a)
    rcases Classical.em (o + 562 ≤ a ∧ a < o + 565) with c | c
    · rw [if_pos c, if_pos c]
    · rw [if_neg c, if_neg c]
      exact e3 a ha (by omega)) (by
    show (if o + 562 ≤ o + 125 ∧ o + 125 < o + 565 then μ1 (o + 125) else μ3 (o + 125)) 1 = _
    rw [if_neg (by omega)]
    exact e1) (by
    show (if o + 562 ≤ o + 125 ∧ o + 125 < o + 565 then μ1 (o + 125) else μ3 (o + 125)) 2 = _
    rw [if_neg (by omega)]
    exact e2)
  have g2 := g1.pd (ν := fun a => if a = o + 564 then μ1 a else μ3 a) (P := ((aP A).1, 0)) (fun a a1 a2 => by
    show (if a = o + 564 then μ1 a else μ3 a) = (if o + 562 ≤ a ∧ a < o + 565 then μ1 a else μ3 a)
    rcases Classical.em (a = o + 564) with c | c
    · rw [if_pos c, if_pos (by omega)]
    · rw [if_neg c, if_neg (by omega)]) ⟨by
    show (if o + 562 = o + 564 then μ1 (o + 562) else μ3 (o + 562)) 1 = nI 0
    rw [if_neg (by omega)]
    exact ep, Nat.zero_le _, fun j hj => absurd hj (Nat.not_lt_zero j)⟩
  have g3 := g2.1.rd (ν := μ3) (fun a ha => by
    show μ3 a = (if a = o + 564 then μ1 a else μ3 a)
    rw [if_neg ha])
  exact ⟨g3.1, fun a a1 a2 => (e3 a (by omega) (by omega)).trans ((f a (by omega) (by omega)).trans (h1.1 a (by omega)))⟩
