/-! Texts of the model: carryOut -/
noncomputable def coG : List Od → Bs → Bs × Nat
  | [], B => (B, 0)
  | o :: os, B => if doR B o < 0 then (B, 0) else ((coG os (doN B o)).1, (coG os (doN B o)).2 + 1)
theorem co_e {o : Od} {os : List Od} {B : Bs} (h : doR B o < 0) : coG (o :: os) B = (B, 0) := if_pos h
theorem co_g {o : Od} {os : List Od} {B : Bs} (h : ¬ doR B o < 0) : coG (o :: os) B = ((coG os (doN B o)).1, (coG os (doN B o)).2 + 1) := if_neg h
noncomputable def coA (A : Aw) : Aw := cif (flG (aP A) 80 0 = -6) ((coG (olG (aP A) 80 0) (aB A)).1, pushH (aH A) (aB A), aS A, ((aP A).1, 0)) A
