/-! Texts: what is put behind the pad; longs as eight codes -/
def u64 (x : Int64) : Nat := x.toBitVec.toNat
def gdC (c : Nat) : Prop := 33 ≤ c ∧ c ≤ 126
noncomputable def cnG : Nat → Nat → Option Nat
  | 0, _ => some 0
  | f + 1, u => if u = 0 then some 0 else cif (gdC (u % 256)) ((cnG f (u / 256)).map (· + 1)) none
noncomputable def ptn (x : Int64) : Nat := (cnG 8 (u64 x)).getD 0
noncomputable def ptP (P : Pd) (x : Int64) : Pd := (fun j => if j < P.2 then P.1 j else nI (u64 x / 256 ^ (ptn x - 1 - (j - P.2)) % 256), P.2 + ptn x)
noncomputable def ptA (A : Aw) (x : Int64) : Aw := if ptn x = 0 ∨ 80 < (aP A).2 + ptn x then A else (aB A, aH A, aS A, ptP (aP A) x)
