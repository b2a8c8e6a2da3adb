/-! Texts: one order -/
noncomputable def orG (P : Pd) (i : Nat) : Option (Nat × Int32 × Int32 × Int32) × Nat :=
  cif (chT P i 33) (cif (wrT P (i + 1)) (some (33, nI (wrV P (i + 1)), 0, 0), i + 1 + 1) (none, i + 1)) (
  cif (chT P i 98) (cif (dgT P (i + 1)) (some (98, nI (nmG P 3 (dgV P (i + 1)) (i + 1 + 1)).1, 0, 0), (nmG P 3 (dgV P (i + 1)) (i + 1 + 1)).2) (none, i + 1)) (
  cif (chT P i 115) (cif (∃ w, w < 6 ∧ (wsG P 6 (fun _ => False) (i + 1)).1 w) (some (115, msk (wsG P 6 (fun _ => False) (i + 1)).1 6, 0, 0), (wsG P 6 (fun _ => False) (i + 1)).2) (none, (wsG P 6 (fun _ => False) (i + 1)).2)) (
  cif (chT P i 119) (cif (dgT P (i + 1)) (cif (wrT P (i + 1 + 1)) (cif (chT P (i + 1 + 1 + 1) 61) (cif (dgT P (i + 1 + 1 + 1 + 1)) (some (119, nI (dgV P (i + 1)), nI (wrV P (i + 1 + 1)), nI (nmG P 3 (dgV P (i + 1 + 1 + 1 + 1)) (i + 1 + 1 + 1 + 1 + 1)).1), (nmG P 3 (dgV P (i + 1 + 1 + 1 + 1)) (i + 1 + 1 + 1 + 1 + 1)).2) (none, i + 1 + 1 + 1 + 1)) (none, i + 1 + 1 + 1)) (none, i + 1 + 1)) (none, i + 1)) (
  cif (chT P i 122) (cif (dgT P (i + 1)) (some (122, nI (dgV P (i + 1)), 0, 0), i + 1 + 1) (none, i + 1)) (none, i)))))
