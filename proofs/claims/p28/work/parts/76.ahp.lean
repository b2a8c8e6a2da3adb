/-! What would be: the first time that something holds, the best of twenty (pure) -/
def FI (p : Nat → Prop) (m : Nat) (v : Int32) : Prop := (v = -6 ∧ ∀ j, j < m → ¬ p j) ∨ ∃ k, k < m ∧ p k ∧ (∀ j, j < k → ¬ p j) ∧ v = nI k
theorem FI.z (p : Nat → Prop) : FI p 0 (-6) := Or.inl ⟨rfl, fun j h => absurd h (Nat.not_lt_zero j)⟩
theorem FI.y {p : Nat → Prop} {m : Nat} (h : FI p m (-6)) (hm : m < 2 ^ 31) (hp : p m) : FI p (m + 1) (nI m) := by
  rcases h with ⟨-, h⟩ | ⟨k, hk, -, -, e⟩
  · exact Or.inr ⟨m, by omega, hp, h, rfl⟩
  · exact absurd e.symm (lx_m6 (by omega))
theorem FI.n {p : Nat → Prop} {m : Nat} (h : FI p m (-6)) (hm : m < 2 ^ 31) (hp : ¬ p m) : FI p (m + 1) (-6) := by
  rcases h with ⟨-, h⟩ | ⟨k, hk, -, -, e⟩
  · refine Or.inl ⟨rfl, fun j hj => ?_⟩
    by_cases e : j = m
    · rw [e]
      exact hp
    · exact h j (by omega)
  · exact absurd e.symm (lx_m6 (by omega))
theorem FI.k {p : Nat → Prop} {m k : Nat} (h : FI p m (nI k)) (hk : k < 2 ^ 31) : FI p (m + 1) (nI k) := by
  rcases h with ⟨e, -⟩ | ⟨j, hj, a, b, e⟩
  · exact absurd e (lx_m6 hk)
  · exact Or.inr ⟨j, by omega, a, b, e⟩
theorem FI.cs {p : Nat → Prop} {m : Nat} {v : Int32} (h : FI p m v) : v = -6 ∨ ∃ k, k < m ∧ v = nI k := by
  rcases h with ⟨e, -⟩ | ⟨k, hk, -, -, e⟩
  · exact Or.inl e
  · exact Or.inr ⟨k, hk, e⟩
theorem FI.ss {p : Nat → Prop} {n : Nat} {v : Int32} (h : FI p (n + 1) v) : ssR p n = v := by
  rcases h with ⟨e, h⟩ | ⟨k, hk, a, b, e⟩
  · rw [e]
    exact ss_n h
  · rw [e]
    exact ss_y a (by omega) b
/-- within a bound -/
theorem FI.ssb {p : Nat → Prop} {n N : Nat} {v : Int32} (h : FI (fun k => k ≤ n ∧ p k) N v) (hN : n < N) : ssR p n = v := by
  rcases h with ⟨e, h⟩ | ⟨k, hk, a, b, e⟩
  · rw [e]
    exact ss_n fun j hj hp => h j (by omega) ⟨by omega, hp⟩
  · rw [e]
    exact ss_y a.2 a.1 fun j hj hp => b j hj ⟨by omega, hp⟩
theorem m6_lt : ¬ (0 : Int32) ≤ -6 := by decide
/-- when a word ends, and how -/
noncomputable def hoV (B : Bs) (i k : Nat) : Int32 := if bS B i 19 < bS (bk B k) i 19 then nI 1 else nI 2
def EH (B : Bs) (i m : Nat) (e h : Int32) : Prop := (e = -6 ∧ h = -6 ∧ ∀ j, j < m → ¬ (j ≤ 600 ∧ enP B i j)) ∨ ∃ k, k < m ∧ (k ≤ 600 ∧ enP B i k) ∧ (∀ j, j < k → ¬ (j ≤ 600 ∧ enP B i j)) ∧ e = nI k ∧ h = hoV B i k
theorem EH.en {B : Bs} {i N : Nat} {e h : Int32} (x : EH B i N e h) (hN : 600 < N) : enF B i (nI 0) = e ∧ enF B i (nI 1) = h := by
  rcases x with ⟨e1, e2, x⟩ | ⟨k, hk, a, b, e1, e2⟩
  · have hn : ∀ j, j < 601 → ¬ enP B i j := fun j hj hp => x j (by omega) ⟨by omega, hp⟩
    rw [e1, e2]
    exact ⟨en_n hn, en_n hn⟩
  · have hn : ∀ j, j < k → ¬ enP B i j := fun j hj hp => b j hj ⟨by omega, hp⟩
    rw [e1, e2]
    refine ⟨(en_y a.2 a.1 hn).trans (if_pos rfl), (en_y a.2 a.1 hn).trans (if_neg (by decide))⟩
/-- the best of many, the last one of the best -/
def BST (h : Nat → Nat) (lo hi r m : Nat) : Prop := lo ≤ r ∧ r ≤ hi ∧ m = h r ∧ (∀ s, lo ≤ s → s ≤ hi → h s ≤ m) ∧ ∀ s, r < s → s ≤ hi → h s < m
theorem BST.uq {h : Nat → Nat} {lo hi r m r' m' : Nat} (a : BST h lo hi r m) (b : BST h lo hi r' m') : r = r' ∧ m = m' := by
  obtain ⟨a1, a2, a3, a4, a5⟩ := a
  obtain ⟨b1, b2, b3, b4, b5⟩ := b
  have e1 := a4 r' b1 b2
  have e2 := b4 r a1 a2
  have e : m = m' := by omega
  refine ⟨?_, e⟩
  rcases Nat.lt_trichotomy r r' with g | g | g
  · have := a5 r' g b2
    omega
  · exact g
  · have := b5 r g a2
    omega
theorem br_up {B : Bs} {b : Nat} : ∀ k, ∃ r m, BST (brN B b) 1 (k + 1) r m ∧ brI B b (k + 1) = (nI r, m)
  | 0 => ⟨1, brN B b 1, ⟨by omega, by omega, rfl, fun s h1 h2 => by rw [show s = 1 by omega]; exact Nat.le_refl _, fun s h1 h2 => by omega⟩, br_y (P := (nI 1, 0)) (k := 0) (Nat.zero_le _)⟩
  | k + 1 => by
    obtain ⟨r, m, ⟨a1, a2, a3, a4, a5⟩, e⟩ := br_up (B := B) (b := b) k
    have e2 : brI B b (k + 2) = brS B b (k + 1) (nI r, m) := by
      show brS B b (k + 1) (brI B b (k + 1)) = _
      rw [e]
    rcases Nat.lt_or_ge (brN B b (k + 2)) m with g | g
    · refine ⟨r, m, ⟨a1, by omega, a3, fun s h1 h2 => ?_, fun s h1 h2 => ?_⟩, e2.trans (br_n (by show ¬ m ≤ brN B b (k + 2); omega))⟩
      · rcases (by omega : s ≤ k + 1 ∨ s = k + 2) with q | q
        · exact a4 s h1 q
        · rw [q]
          omega
      · rcases (by omega : s ≤ k + 1 ∨ s = k + 2) with q | q
        · exact a5 s h1 q
        · rw [q]
          exact g
    · refine ⟨k + 2, brN B b (k + 2), ⟨by omega, by omega, rfl, fun s h1 h2 => ?_, fun s h1 h2 => by omega⟩, e2.trans (br_y g)⟩
      rcases (by omega : s ≤ k + 1 ∨ s = k + 2) with q | q
      · have := a4 s h1 q
        omega
      · rw [q]
        exact Nat.le_refl _
/-- downwards: behind rest r + 1 .. 20 -/
def DN (h : Nat → Nat) (r bb mm : Nat) : Prop := (r = 20 ∧ bb = 0 ∧ mm = 0) ∨ (r < 20 ∧ BST h (r + 1) 20 bb mm)
theorem DN.up {h : Nat → Nat} {r bb mm : Nat} (x : DN h (r + 1) bb mm) (hr : r < 20) : DN h r (if bb = 0 ∨ mm < h (r + 1) then r + 1 else bb) (if mm < h (r + 1) then h (r + 1) else mm) := by
  refine Or.inr ⟨hr, ?_⟩
  rcases x with ⟨e1, e2, e3⟩ | ⟨e1, a1, a2, a3, a4, a5⟩
  · rw [if_pos (Or.inl e2)]
    have e4 : (if mm < h (r + 1) then h (r + 1) else mm) = h (r + 1) := by
      split
      · rfl
      · omega
    rw [e4]
    exact ⟨Nat.le_refl _, by omega, rfl, fun s h1 h2 => by rw [show s = r + 1 by omega]; exact Nat.le_refl _, fun s h1 h2 => by omega⟩
  · by_cases g : mm < h (r + 1)
    · rw [if_pos (Or.inr g), if_pos g]
      refine ⟨Nat.le_refl _, by omega, rfl, fun s h1 h2 => ?_, fun s h1 h2 => ?_⟩
      · rcases (by omega : s = r + 1 ∨ r + 1 + 1 ≤ s) with q | q
        · rw [q]
          exact Nat.le_refl _
        · have := a4 s q h2
          omega
      · have := a4 s (by omega) h2
        omega
    · rw [if_neg (by omega), if_neg g]
      refine ⟨by omega, a2, a3, fun s h1 h2 => ?_, a5⟩
      rcases (by omega : s = r + 1 ∨ r + 1 + 1 ≤ s) with q | q
      · rw [q]
        omega
      · exact a4 s q h2
theorem DN.br {B : Bs} {b bb mm : Nat} (x : DN (brN B b) 0 bb mm) : (brI B b 20).1 = nI bb ∧ (brI B b 20).2 = mm := by
  obtain ⟨r, m, h1, h2⟩ := br_up (B := B) (b := b) 19
  rcases x with ⟨e1, -⟩ | ⟨-, h3⟩
  · omega
  · obtain ⟨e1, e2⟩ := h1.uq h3
    rw [show (20 : Nat) = 19 + 1 from rfl, h2, e1, e2]
    exact ⟨rfl, rfl⟩
theorem bk_s (B : Bs) (k : Nat) : bk B (k + 1) = btO (bk B k) := rfl
theorem bI_s2 (B : Bs) (k : Nat) : (btI (k + 1) B).2 = (btI k B).2 + btN (bk B k) := rfl
theorem GDn.bkk {n m : Nat} {B : Bs} (h : GDn n B) (ht : WT m B) : ∀ k, m + k < 131072 → GDn n (bk B k) ∧ WT (m + k) (bk B k)
  | 0, _ => ⟨h, ht⟩
  | k + 1, hk => by
    obtain ⟨h1, h2⟩ := GDn.bkk h ht k (by omega)
    exact ⟨h1.bt h2 (by omega), h2.bt⟩
theorem bk_mono {B : Bs} {i : Nat} (wf : WF B) (hi : i < nS B) : ∀ k, nwF (bS (bk B k) i) ≤ nwF (bS B i)
  | 0 => Nat.le_refl _
  | k + 1 => by
    have ih := bk_mono wf hi k
    have t := bt_TR (B := bk B k) (s := i) (bk_wf wf k) (by rw [bk_n]; exact hi)
    rw [bk_s]
    rcases t with t | t | t
    · rw [t.2.2]
      exact ih
    · have := t.2.2
      omega
    · have := t.2.2
      omega
theorem en_iff {B : Bs} {i k : Nat} (wf : WF B) (hi : i < nS B) : enP B i k ↔ nwF (bS (bk B k) i) < nwF (bS B i) := by
  have := bk_mono wf hi k
  unfold enP
  omega
/-- a copy of the six rows -/
theorem LU.cpy {κ κ' : Prop} {μ0 μ ν : Mm} {p p2 : Nat} {B : Bs} (h : LU κ μ0 p B μ) (hk : κ' → κ) (ea : ∀ j, j < 64 → ν p2 j = μ p j) (eb : ∀ j, j < 32 → ν (p2 + 1) j = μ (p + 1) j) (eq : ∀ j, j < 32 → ν (p2 + 2) j = μ (p + 2) j) (ek : κ' → ∀ j, j < 32 → ν (p2 + 3) j = μ (p + 3) j) (ew : ∀ j, j < 24 → ν (p2 + 4) j = μ (p + 4) j) (et : ∀ j, j < 7 → ν (p2 + 5) j = μ (p + 5) j) : LU κ' ν p2 B ν := by
  obtain ⟨-, ha, hb, hq, hkk, hw, ht⟩ := h
  exact ⟨fun _ _ => rfl, fun i hi c hc => by rw [ea _ (by omega)]; exact ha i hi c hc, fun i hi c hc => by rw [eb _ (by omega)]; exact hb i hi c hc, fun i hi r h4 hr => by rw [eq _ (by omega)]; exact hq i hi r h4 hr, fun kk i hi r h4 hr => by rw [ek kk _ (by omega)]; exact hkk (hk kk) i hi r h4 hr, fun v hv k hk => by rw [ew _ (by omega)]; exact hw v hv k hk, fun k hk => by rw [et _ (by omega)]; exact ht k hk⟩
