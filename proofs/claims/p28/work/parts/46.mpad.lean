/-! Texts of the model: the pad read; its fault -/
noncomputable def olG (P : Pd) : Nat → Nat → List Od
  | 0, _ => []
  | f + 1, i => ((orG P i).1).elim [] (fun o => o :: cif ((orG P i).2 < P.2) (olG P f ((orG P i).2 + 1)) [])
theorem MO.cg {f g : Nat → Int32} {k : Nat} {o : Od} (h : MO f k o) (e : ∀ j, j < 4 * (k + 1) → g j = f j) : MO g k o := ⟨(e _ (by omega)).trans h.1, (e _ (by omega)).trans h.2.1, fun q => ⟨(e _ (by omega)).trans (h.2.2 q).1, (e _ (by omega)).trans (h.2.2 q).2⟩⟩
