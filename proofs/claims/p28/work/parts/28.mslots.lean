/-! The model: forget, set, undo, slots -/
theorem cl_Gn {C : Bs} : ∀ k, bG (itr clS k C) = bG C
  | 0 => rfl
  | k + 1 => cl_Gn k
def unA (A : Aw) : Aw := if (aH A).2 = 0 then A else ((aH A).1 ((aH A).2 - 1), ((aH A).1, (aH A).2 - 1), aS A, aP A)
noncomputable def svA (A : Aw) (x : Int32) : Aw := cif (inN 2 x) (aB A, aH A, (fun k => if k = ixN x then some (aB A) else aS A k), aP A) A
noncomputable def rsA (A : Aw) (x : Int32) : Aw := cif (inN 2 x) ((aS A (ixN x)).elim A (fun C => (C, pushH (aH A) (aB A), aS A, aP A))) A
