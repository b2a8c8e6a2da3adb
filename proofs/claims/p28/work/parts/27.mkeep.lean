/-! The model as a whole: what it keeps -/
/-- a state of both: the bus, the history, the slots, the pad -/
abbrev Aw : Type := Bs × ((Nat → Bs) × Nat) × (Nat → Option Bs) × ((Nat → Int32) × Nat)
def aB (A : Aw) : Bs := A.1
def aH (A : Aw) : (Nat → Bs) × Nat := A.2.1
def aS (A : Aw) : Nat → Option Bs := A.2.2.1
def aP (A : Aw) : (Nat → Int32) × Nat := A.2.2.2
def pushH (H : (Nat → Bs) × Nat) (B : Bs) : (Nat → Bs) × Nat := if H.2 = 6 then (fun k => if k = 5 then B else H.1 (k + 1), 6) else (fun k => if k = H.2 then B else H.1 k, H.2 + 1)
def PX (μ : Mm) (m : Nat) (H : (Nat → Bs) × Nat) : Prop := μ m 2 = nI H.2 ∧ H.2 ≤ 6 ∧ ∀ k, k < H.2 → ZR (fun j => μ (m + 2) (k * 351 + j)) (H.1 k)
def cpF (f : Nat → Int32) (o : Nat) (g : Nat → Int32) (k : Nat) : Nat → Int32 := fun j => if o ≤ j ∧ j < o + k then g (j - o) else f j
theorem cp_in {f g : Nat → Int32} {o k j : Nat} (h : j < k) : cpF f o g k (o + j) = g j := by
  unfold cpF
  rw [if_pos (by omega), show o + j - o = j by omega]
theorem cp_out {f g : Nat → Int32} {o k j : Nat} (h : j < o ∨ o + k ≤ j) : cpF f o g k j = f j := if_neg (by omega)
def shF (f : Nat → Int32) (k : Nat) : Nat → Int32 := fun j => if j < k then f (j + 351) else f j
theorem ZR.cg {z z' : Nat → Int32} {B : Bs} (h : ZR z B) (e : ∀ j, j < 351 → z' j = z j) : ZR z' B :=
  ⟨fun k hk => (e _ (by omega)).trans (h.g hk), fun v hv k hk => (e _ (by omega)).trans (h.w hv hk), fun i hi k hk => (e _ (by omega)).trans (h.s hi hk)⟩
theorem PX.push {μ μ' : Mm} {m : Nat} {H : (Nat → Bs) × Nat} {B : Bs} {f : Nat → Int32} {p : Nat} (h : PX μ m H) (hz : ZR (μ (m + 1)) B) (hp : (H.2 = 6 ∧ p = 5 ∧ f = shF (μ (m + 2)) 1755) ∨ (H.2 ≠ 6 ∧ p = H.2 ∧ f = μ (m + 2)))
    (e2 : μ' m 2 = nI (p + 1)) (e : μ' (m + 2) = cpF f (p * 351) (μ (m + 1)) 351) : PX μ' m (pushH H B) := by
  obtain ⟨h1, h2, h3⟩ := h
  unfold pushH
  rcases hp with ⟨q1, rfl, rfl⟩ | ⟨q1, rfl, rfl⟩
  · rw [if_pos q1]
    refine ⟨e2, Nat.le_refl 6, fun k hk => ?_⟩
    show ZR (fun j => μ' (m + 2) (k * 351 + j)) (if k = 5 then B else H.1 (k + 1))
    rw [e]
    by_cases e5 : k = 5
    · subst e5
      rw [if_pos rfl]
      exact hz.cg fun j hj => cp_in hj
    · rw [if_neg e5]
      have hk' : k < 6 := hk
      refine (h3 (k + 1) (by omega)).cg fun j hj => ?_
      show cpF (shF (μ (m + 2)) 1755) (5 * 351) (μ (m + 1)) 351 (k * 351 + j) = _
      rw [cp_out (by omega)]
      unfold shF
      rw [if_pos (by omega)]
      exact congrArg (μ (m + 2)) (by omega)
  · rw [if_neg q1]
    refine ⟨e2, by show H.2 + 1 ≤ 6; omega, fun k hk => ?_⟩
    have hk' : k < H.2 + 1 := hk
    show ZR (fun j => μ' (m + 2) (k * 351 + j)) (if k = H.2 then B else H.1 k)
    rw [e]
    by_cases e5 : k = H.2
    · subst e5
      rw [if_pos rfl]
      exact hz.cg fun j hj => cp_in hj
    · rw [if_neg e5]
      refine (h3 k (by omega)).cg fun j hj => ?_
      exact cp_out (Or.inl (by have : k + 1 ≤ H.2 := by omega
                               have := Nat.mul_le_mul_right 351 this
                               omega))
/-- beats and words heard stay below a bound -/
def TB (B : Bs) : Prop := ∃ t, t ≤ 99999 ∧ bG B 5 = nI t ∧ ∀ s, s < 8 → ∃ g, g ≤ t ∧ bS B s 19 = nI g
def GD (B : Bs) : Prop := WF B ∧ TB B
def WA (A : Aw) : Prop := GD (aB A) ∧ (∀ k, k < (aH A).2 → GD ((aH A).1 k)) ∧ ∀ k C, aS A k = some C → GD C
def VX (μ : Mm) (m : Nat) (S : Nat → Option Bs) : Prop := ∀ k, k < 2 → (∀ C, S k = some C → μ (m + 4) k = nI 1 ∧ ZR (fun j => μ (m + 3) (k * 351 + j)) C) ∧ (S k = none → μ (m + 4) k = nI 0)
def QX (μ : Mm) (m : Nat) (P : (Nat → Int32) × Nat) : Prop := μ m 7 = nI P.2 ∧ P.2 ≤ 80 ∧ ∀ j, j < P.2 → μ (m + 6) j = P.1 j
def MX (μ : Mm) (m : Nat) (A : Aw) : Prop := ZR (μ (m + 1)) (aB A) ∧ PX μ m (aH A) ∧ VX μ m (aS A) ∧ QX μ m (aP A)
def FMm (μ : Mm) (m : Nat) (μ' : Mm) : Prop := ∀ a, (a < m ∨ m + 9 ≤ a) → μ' a = μ a
def upA (A : Aw) (r : Int32) (B' : Bs) : Aw := if r < 0 then A else (B', pushH (aH A) (aB A), aS A, aP A)
theorem upA_e {A : Aw} {r : Int32} {B' : Bs} (h : r < 0) : upA A r B' = A := if_pos h
theorem upA_o {A : Aw} {r : Int32} {B' : Bs} (h : ¬ r < 0) : upA A r B' = (B', pushH (aH A) (aB A), aS A, aP A) := if_neg h
theorem MX.at {μ μ' : Mm} {m : Nat} {A : Aw} (h : MX μ m A) (e : ∀ a, m ≤ a → a < m + 9 → a ≠ m + 5 → a ≠ m + 7 → a ≠ m + 8 → a ≠ m → μ' a = μ a) (e2 : μ' m 2 = μ m 2) (e7 : μ' m 7 = μ m 7) : MX μ' m A := by
  obtain ⟨h1, ⟨p1, p2, p3⟩, h3, ⟨q1, q2, q3⟩⟩ := h
  have e' := fun k (hk : k < 7) (h0 : 0 < k) (h5 : k ≠ 5) => e (m + k) (by omega) (by omega) (by omega) (by omega) (by omega) (by omega)
  refine ⟨by rw [e' 1 (by omega) (by omega) (by omega)]; exact h1, ⟨e2.trans p1, p2, by rw [e' 2 (by omega) (by omega) (by omega)]; exact p3⟩, ?_, ⟨e7.trans q1, q2, by rw [e' 6 (by omega) (by omega) (by omega)]; exact q3⟩⟩
  unfold VX
  rw [e' 3 (by omega) (by omega) (by omega), e' 4 (by omega) (by omega) (by omega)]
  exact h3
theorem MX.fin {μ μ1 ν : Mm} {m : Nat} {A : Aw} {z' : Nat → Int32} {B' : Bs} (hx : MX μ m A) (f1 : ∀ a, a ≠ m → a ≠ m + 2 → μ1 a = μ a) (f2 : ∀ k, k ≠ 2 → μ1 m k = μ m k) (hp : PX μ1 m (pushH (aH A) (aB A))) (f3 : FM μ1 m ν) (hz : ZR z' B') : FMm μ m (wC ν (m + 1) z') ∧ MX (wC ν (m + 1) z') m (B', pushH (aH A) (aB A), aS A, aP A) := by
  obtain ⟨h1, h2, h3, ⟨q1, q2, q3⟩⟩ := hx
  have e' := fun k (hk : k < 7) (h0 : 2 < k) => show wC ν (m + 1) z' (m + k) = μ (m + k) by rw [wC_ne _ _ (by omega), f3 _ (by omega), f1 _ (by omega) (by omega)]
  have em : ∀ k, wC ν (m + 1) z' m k = μ1 m k := fun k => by rw [wC_ne _ _ (by omega), f3 _ (by omega)]
  have e2 : wC ν (m + 1) z' (m + 2) = μ1 (m + 2) := by rw [wC_ne _ _ (by omega), f3 _ (by omega)]
  refine ⟨fun a ha => by rw [wC_ne _ _ (by omega), f3 _ (by omega), f1 _ (by omega) (by omega)], by rw [wC_self]; exact hz, ⟨(em 2).trans hp.1, hp.2.1, by rw [e2]; exact hp.2.2⟩, ?_, ⟨((em 7).trans (f2 7 (by omega))).trans q1, q2, by rw [e' 6 (by omega) (by omega)]; exact q3⟩⟩
  unfold VX
  rw [e' 3 (by omega) (by omega), e' 4 (by omega) (by omega)]
  exact h3
/-- what a change answers is below 0 only where nothing changes -/
theorem nnI {k : Nat} (h : k < 2 ^ 31) : ¬ nI k < 0 := nI_pos h
theorem goN_le {L A : Nat → Prop} {n : Nat} {B : Bs} : ∀ k, (itr (goP L A n) k (B, 0)).2 ≤ k
  | 0 => Nat.le_refl _
  | k + 1 => by
    have ih := goN_le (L := L) (A := A) (n := n) (B := B) k
    show (goP L A n k (itr (goP L A n) k (B, 0))).2 ≤ k + 1
    generalize itr (goP L A n) k (B, 0) = C at ih
    have e : goP L A n k C = ((goP L A n k (C.1, 0)).1, C.2 + (goP L A n k (C.1, 0)).2) := goP_c L A n k C.1 C.2
    rw [e]
    show C.2 + (goP L A n k (C.1, 0)).2 ≤ k + 1
    rcases goP_01 L A n k C.1 with q | q <;> omega
theorem btN_le {B : Bs} : btN B ≤ nS B := goN_le _
theorem bI_le {B : Bs} (wf : WF B) : ∀ k, (btI k B).2 ≤ 8 * k
  | 0 => Nat.le_refl _
  | k + 1 => by
    have ih := bI_le wf k
    have := btN_le (B := (btI k B).1)
    have h8 := (bI_wf wf k).n8
    show (btI k B).2 + btN (btI k B).1 ≤ 8 * (k + 1)
    omega
