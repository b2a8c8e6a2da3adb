/-! Texts: the fault of a text (class) -/
noncomputable def flG (P : Pd) : Nat → Nat → Int32
  | 0, i => nI i
  | f + 1, i => cif ((orG P i).1 = none) (nI (orG P i).2) (cif (P.2 ≤ (orG P i).2) (-6) (cif (chT P (orG P i).2 59) (flG P f ((orG P i).2 + 1)) (nI (orG P i).2)))
