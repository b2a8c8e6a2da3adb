/-! What if -/
noncomputable def bk (B : Bs) (k : Nat) : Bs := (btI k B).1
theorem bk_wf {B : Bs} (wf : WF B) (k : Nat) : WF (bk B k) := bI_wf wf k
theorem bk_n {B : Bs} (k : Nat) : nS (bk B k) = nS B := bI_n k
/-- the first from i on, within f -/
noncomputable def srch (p : Nat → Prop) : Nat → Nat → Nat
  | i, 0 => i
  | i, f + 1 => cif (p i) i (srch p (i + 1) f)
theorem sr_y {p : Nat → Prop} {k : Nat} (h : p k) : ∀ {f i : Nat}, i ≤ k → k < i + f → (∀ j, i ≤ j → j < k → ¬ p j) → srch p i f = k
  | 0, i, h1, h2, _ => absurd h2 (by omega)
  | f + 1, i, h1, h2, h3 => by
    show cif (p i) i (srch p (i + 1) f) = k
    by_cases e : i = k
    · subst e
      exact cif_y h
    · rw [cif_n (h3 i (Nat.le_refl i) (by omega))]
      exact sr_y h (by omega) (by omega) fun j h4 h5 => h3 j (by omega) h5
theorem sr_n {p : Nat → Prop} : ∀ {f i : Nat}, (∀ j, i ≤ j → j < i + f → ¬ p j) → srch p i f = i + f
  | 0, _, _ => rfl
  | f + 1, i, h => by
    show cif (p i) i (srch p (i + 1) f) = _
    rw [cif_n (h i (Nat.le_refl i) (by omega)), sr_n (f := f) fun j h1 h2 => h j (by omega) (by omega)]
    omega
def slP (B : Bs) (i k : Nat) : Prop := bS (bk B k) i 2 ≠ nI 0
def quP (B : Bs) (k : Nat) : Prop := ∀ s, s < nS B → nwF (bS (bk B k) s) = 0
def enP (B : Bs) (i k : Nat) : Prop := nwF (bS (bk B k) i) ≠ nwF (bS B i)
noncomputable def ssR (p : Nat → Prop) (n : Nat) : Int32 := if n < srch p 0 (n + 1) then -6 else nI (srch p 0 (n + 1))
theorem ss_y {p : Nat → Prop} {n k : Nat} (h : p k) (hk : k ≤ n) (hn : ∀ j, j < k → ¬ p j) : ssR p n = nI k := by
  unfold ssR
  rw [sr_y h (i := 0) (f := n + 1) (by omega) (by omega) fun j _ h2 => hn j h2, if_neg (by omega)]
theorem ss_n {p : Nat → Prop} {n : Nat} (hn : ∀ j, j < n + 1 → ¬ p j) : ssR p n = -6 := by
  unfold ssR
  rw [sr_n (i := 0) (f := n + 1) fun j _ h2 => hn j (by omega), if_pos (by omega)]
noncomputable def slR (B : Bs) (x : Int32) : Int32 := cif (inN (nS B) x) (ssR (slP B (ixN x)) 600) (-1)
noncomputable def quR (B : Bs) : Int32 := ssR (quP B) 900
noncomputable def enF (B : Bs) (i : Nat) (y : Int32) : Int32 := if 600 < srch (enP B i) 0 601 then -6 else if y = nI 0 then nI (srch (enP B i) 0 601) else if bS B i 19 < bS (bk B (srch (enP B i) 0 601)) i 19 then nI 1 else nI 2
noncomputable def enR (B : Bs) (x y : Int32) : Int32 := cif (inN (nS B) x) (cif (inN 2 y) (if nwF (bS B (ixN x)) = 0 then -5 else enF B (ixN x) y) (-2)) (-1)
theorem en_y {B : Bs} {i k : Nat} {y : Int32} (h : enP B i k) (hk : k ≤ 600) (hn : ∀ j, j < k → ¬ enP B i j) : enF B i y = if y = nI 0 then nI k else if bS B i 19 < bS (bk B k) i 19 then nI 1 else nI 2 := by
  unfold enF
  rw [sr_y h (i := 0) (f := 601) (by omega) (by omega) fun j _ h2 => hn j h2, if_neg (by omega)]
theorem en_n {B : Bs} {i : Nat} {y : Int32} (hn : ∀ j, j < 601 → ¬ enP B i j) : enF B i y = -6 := by
  unfold enF
  rw [sr_n (i := 0) (f := 601) fun j _ h2 => hn j (by omega), if_pos (by omega)]
noncomputable def brN (B : Bs) (b r : Nat) : Nat := (btI b (setG B 0 (nI r))).2
noncomputable def brS (B : Bs) (b k : Nat) (P : Int32 × Nat) : Int32 × Nat := if P.2 ≤ brN B b (k + 1) then (nI (k + 1), brN B b (k + 1)) else P
noncomputable def brI (B : Bs) (b k : Nat) : Int32 × Nat := itr (brS B b) k (nI 1, 0)
noncomputable def brR (B : Bs) (x y : Int32) : Int32 := cif ((∃ b, 1 ≤ b ∧ b ≤ 200 ∧ x = nI b) ∧ inN 2 y) (if y = nI 0 then (brI B (ixN x) 20).1 else nI (brI B (ixN x) 20).2) (-2)
theorem br_y {B : Bs} {b k : Nat} {P : Int32 × Nat} (h : P.2 ≤ brN B b (k + 1)) : brS B b k P = (nI (k + 1), brN B b (k + 1)) := if_pos h
theorem br_n {B : Bs} {b k : Nat} {P : Int32 × Nat} (h : ¬ P.2 ≤ brN B b (k + 1)) : brS B b k P = P := if_neg h
theorem wf_g0 {B : Bs} {r : Nat} (wf : WF B) (hr : r < 100) : WF (setG B 0 (nI r)) := wf.pG (by omega) hr (fun e => absurd e (by omega))
theorem brN_le {B : Bs} {b r : Nat} (wf : WF B) (hr : r < 100) : brN B b r ≤ 8 * b := bI_le (wf_g0 wf hr) b
theorem brI_le {B : Bs} {b : Nat} (wf : WF B) : ∀ k, k ≤ 20 → (brI B b k).2 ≤ 8 * b
  | 0, _ => Nat.zero_le _
  | k + 1, hk => by
    have ih := brI_le (b := b) wf k (by omega)
    show (brS B b k (brI B b k)).2 ≤ 8 * b
    by_cases h : (brI B b k).2 ≤ brN B b (k + 1)
    · rw [br_y h]
      exact brN_le wf (by omega)
    · rw [br_n h]
      exact ih
def SP (μ : Mm) (m : Nat) : Mm := wC μ (m + 5) (cpF (μ (m + 5)) 0 (μ (m + 1)) 351)
theorem cp0 {f g : Nat → Int32} {j : Nat} (hj : j < 351) : cpF f 0 g 351 j = g j := by
  have := cp_in (f := f) (g := g) (o := 0) hj
  rw [Nat.zero_add] at this
  exact this
theorem MX.bk {μ ν : Mm} {m : Nat} {A : Aw} {z : Nat → Int32} (hx : MX μ m A) (f : FM (SP μ m) m ν) : FMm μ m (wC (wC ν (m + 1) z) (m + 1) (cpF (wC ν (m + 1) z (m + 1)) 0 (wC ν (m + 1) z (m + 5)) 351)) ∧ MX (wC (wC ν (m + 1) z) (m + 1) (cpF (wC ν (m + 1) z (m + 1)) 0 (wC ν (m + 1) z (m + 5)) 351)) m A := by
  have hs : ∀ a, a ≠ m + 5 → SP μ m a = μ a := fun a ha => wC_ne _ _ ha
  have e : ∀ a, a ≠ m + 7 → a ≠ m + 5 → a ≠ m + 1 → wC (wC ν (m + 1) z) (m + 1) (cpF (wC ν (m + 1) z (m + 1)) 0 (wC ν (m + 1) z (m + 5)) 351) a = μ a := fun a h7 h5 h1 => by rw [wC_ne _ _ h1, wC_ne _ _ h1, f a h7, hs a h5]
  refine ⟨fun a ha => e a (by omega) (by omega) (by omega), ?_⟩
  obtain ⟨h1, ⟨p1, p2, p3⟩, h3, ⟨q1, q2, q3⟩⟩ := hx
  refine ⟨?_, ⟨by rw [e m (by omega) (by omega) (by omega)]; exact p1, p2, by rw [e (m + 2) (by omega) (by omega) (by omega)]; exact p3⟩, ?_, ⟨by rw [e m (by omega) (by omega) (by omega)]; exact q1, q2, by rw [e (m + 6) (by omega) (by omega) (by omega)]; exact q3⟩⟩
  · rw [wC_self, wC_ne _ _ (show m + 5 ≠ m + 1 by omega), f _ (by omega)]
    refine h1.cg fun j hj => ?_
    rw [cp0 hj]
    show wC μ (m + 5) _ (m + 5) j = _
    rw [wC_self, cp0 hj]
  · unfold VX
    rw [e (m + 3) (by omega) (by omega) (by omega), e (m + 4) (by omega) (by omega) (by omega)]
    exact h3
theorem sm4 {B : Bs} (wf : WF B) : ∀ k, k ≤ 8 → smI (fun s => bS B s 4) k = nI (smN (fun s => nwF (bS B s)) k)
  | 0, _ => rfl
  | k + 1, hk => by
    show smI (fun s => bS B s 4) k + bS B k 4 = _
    rw [sm4 wf k (by omega), (wf.w (i := k) (by omega)).1, nI_add]
    rfl
theorem sm0 {f : Nat → Nat} : ∀ {n : Nat}, smN f n = 0 ↔ ∀ s, s < n → f s = 0
  | 0 => ⟨fun _ s hs => absurd hs (by omega), fun _ => rfl⟩
  | n + 1 => by
    constructor
    · intro h s hs
      have h1 : smN f n + f n = 0 := h
      by_cases e : s = n
      · subst e
        omega
      · exact sm0.mp (show smN f n = 0 by omega) s (by omega)
    · intro h
      have h1 : smN f n = 0 := sm0.mpr fun s hs => h s (show s < n + 1 by omega)
      have h2 : f n = 0 := h n (by omega)
      show smN f n + f n = 0
      omega
