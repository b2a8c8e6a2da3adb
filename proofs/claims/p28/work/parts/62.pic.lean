/-! The law's six rows hold a bus -/
def spV (x : Int32) : Int32 := if x = -6 then -1 else x
theorem spV_s {x : Int32} (h : x = -6) : spV x = -1 := if_pos h
theorem spV_n {x : Int32} (h : x ≠ -6) : spV x = x := if_neg h
def aF : Nat → Nat
  | 0 => 0
  | 1 => 1
  | 2 => 2
  | 3 => 3
  | 4 => 4
  | 5 => 17
  | 6 => 18
  | _ => 19
def aV (f : Nat → Int32) (c : Nat) : Int32 := if c = 5 then spV (f 17) else f (aF c)
def qV (f : Nat → Int32) (r : Nat) : Int32 := f (5 + 3 * r) + nI 256 * f (6 + 3 * r) + nI 2048 * f (7 + 3 * r)
def kV (f : Nat → Int32) (r : Nat) : Int32 := f (24 + 4 * r) + nI 256 * f (25 + 4 * r) + nI 2048 * f (26 + 4 * r) + nI 16384 * f (27 + 4 * r)
theorem aV_n {g : Nat → Int32} {k d : Nat} {y : Int32} (hd : d < 8) (h : k ≠ aF d) : aV (upd g k y) d = aV g d := by
  unfold aV
  rcases (by omega : d = 5 ∨ d ≠ 5) with e | e
  · subst e
    rw [if_pos rfl, if_pos rfl, upd_n _ _ (Ne.symm h)]
  · rw [if_neg e, if_neg e, upd_n _ _ (Ne.symm h)]
theorem aV_s {g : Nat → Int32} {d : Nat} {y : Int32} (h : d ≠ 5) : aV (upd g (aF d) y) d = y := by
  unfold aV
  rw [if_neg h, upd_s]
theorem aV_5 {g : Nat → Int32} {y : Int32} : aV (upd g 17 y) 5 = spV y := by
  unfold aV
  rw [if_pos rfl, upd_s]
theorem qV_n {g : Nat → Int32} {k r : Nat} {y : Int32} (hr : r < 4) (h : k < 5 ∨ 16 < k) : qV (upd g k y) r = qV g r := by
  unfold qV
  rw [upd_n _ _ (by omega), upd_n _ _ (by omega), upd_n _ _ (by omega)]
theorem kV_n {g : Nat → Int32} {k r : Nat} {y : Int32} (h : k < 24) : kV (upd g k y) r = kV g r := by
  unfold kV
  rw [upd_n _ _ (by omega), upd_n _ _ (by omega), upd_n _ _ (by omega), upd_n _ _ (by omega)]
theorem nwF_n {g : Nat → Int32} {k : Nat} {y : Int32} (h : k ≠ 4) : nwF (upd g k y) = nwF g := by
  unfold nwF
  rw [upd_n _ _ (Ne.symm h)]
theorem nkF_n {g : Nat → Int32} {k : Nat} {y : Int32} (h : k ≠ 23) : nkF (upd g k y) = nkF g := by
  unfold nkF
  rw [upd_n _ _ (Ne.symm h)]
def LU (κ : Prop) (μ0 : Mm) (p : Nat) (B : Bs) (μ : Mm) : Prop :=
  (∀ a, (a < p ∨ p + 6 ≤ a) → μ a = μ0 a) ∧ (∀ i, i < 8 → ∀ c, c < 8 → μ p (8 * c + i) = aV (bS B i) c) ∧ (∀ i, i < 8 → ∀ c, c < 4 → μ (p + 1) (8 * c + i) = bS B i (20 + c)) ∧
  (∀ i, i < 8 → ∀ r, r < 4 → r < nwF (bS B i) → μ (p + 2) (8 * r + i) = qV (bS B i) r) ∧ (κ → ∀ i, i < 8 → ∀ r, r < 4 → r < nkF (bS B i) → μ (p + 3) (8 * r + i) = kV (bS B i) r) ∧
  (∀ w, w < 6 → ∀ k, k < 4 → μ (p + 4) (6 * k + w) = bW B w k) ∧ (∀ k, k < 7 → μ (p + 5) k = bG B k)
section LUS
variable {κ : Prop} {μ0 μ ν : Mm} {p i : Nat} {B : Bs} {g f : Nat → Int32}
theorem LU.st (h : LU κ μ0 p B μ) (hi : i < 8) (e0 : ∀ a, (a < p ∨ p + 6 ≤ a) → ν a = μ a) (ea : ∀ c, c < 8 → ν p (8 * c + i) = aV f c) (eao : ∀ j, j < 8 → j ≠ i → ∀ c, ν p (8 * c + j) = μ p (8 * c + j))
    (eb : ∀ c, c < 4 → ν (p + 1) (8 * c + i) = f (20 + c)) (ebo : ∀ j, j < 8 → j ≠ i → ∀ c, ν (p + 1) (8 * c + j) = μ (p + 1) (8 * c + j)) (eq : ∀ r, r < 4 → r < nwF f → ν (p + 2) (8 * r + i) = qV f r) (eqo : ∀ j, j < 8 → j ≠ i → ∀ r, ν (p + 2) (8 * r + j) = μ (p + 2) (8 * r + j))
    (ek : κ → ∀ r, r < 4 → r < nkF f → ν (p + 3) (8 * r + i) = kV f r) (eko : ∀ j, j < 8 → j ≠ i → ∀ r, ν (p + 3) (8 * r + j) = μ (p + 3) (8 * r + j)) (ew : ν (p + 4) = μ (p + 4)) (et : ν (p + 5) = μ (p + 5)) : LU κ μ0 p (setS B i f) ν := by
  obtain ⟨h0, ha, hb, hq, hk, hw, ht⟩ := h
  refine ⟨fun a a1 => (e0 a a1).trans (h0 a a1), fun j hj c hc => ?_, fun j hj c hc => ?_, fun j hj r h4 hr => ?_, fun kk j hj r h4 hr => ?_, fun v hv k hk => ?_, fun k hk => ?_⟩
  · by_cases e : j = i
    · subst e
      rw [bS_setS_s]
      exact ea c hc
    · rw [bS_setS_n _ _ e, eao j hj e]
      exact ha j hj c hc
  · by_cases e : j = i
    · subst e
      rw [bS_setS_s]
      exact eb c hc
    · rw [bS_setS_n _ _ e, ebo j hj e]
      exact hb j hj c hc
  · by_cases e : j = i
    · subst e
      rw [bS_setS_s] at hr ⊢
      exact eq r h4 hr
    · rw [bS_setS_n _ _ e] at hr ⊢
      rw [eqo j hj e]
      exact hq j hj r h4 hr
  · by_cases e : j = i
    · subst e
      rw [bS_setS_s] at hr ⊢
      exact ek kk r h4 hr
    · rw [bS_setS_n _ _ e] at hr ⊢
      rw [eko j hj e]
      exact hk kk j hj r h4 hr
  · rw [ew]
    exact hw v hv k hk
  · rw [et]
    exact ht k hk
theorem LU.self (h : LU κ μ0 p B μ) (i : Nat) : LU κ μ0 p (setS B i (bS B i)) μ := by
  rw [setS_id]
  exact h
theorem LU.aa (h : LU κ μ0 p B μ) {c : Nat} (hi : i < 8) (hc : c < 8) : μ p (8 * c + i) = aV (bS B i) c := h.2.1 i hi c hc
theorem LU.aag (h : LU κ μ0 p (setS B i g) μ) {c : Nat} (hi : i < 8) (hc : c < 8) : μ p (8 * c + i) = aV g c := by
  rw [h.2.1 i hi c hc, bS_setS_s]
theorem LU.bbg (h : LU κ μ0 p (setS B i g) μ) {c : Nat} (hi : i < 8) (hc : c < 4) : μ (p + 1) (8 * c + i) = g (20 + c) := by
  rw [h.2.2.1 i hi c hc, bS_setS_s]
theorem LU.qqg (h : LU κ μ0 p (setS B i g) μ) {r : Nat} (hi : i < 8) (h4 : r < 4) (hr : r < nwF g) : μ (p + 2) (8 * r + i) = qV g r := by
  rw [h.2.2.2.1 i hi r h4 (by rw [bS_setS_s]; exact hr), bS_setS_s]
theorem LU.kkg (h : LU κ μ0 p (setS B i g) μ) (kk : κ) {r : Nat} (hi : i < 8) (h4 : r < 4) (hr : r < nkF g) : μ (p + 3) (8 * r + i) = kV g r := by
  rw [h.2.2.2.2.1 kk i hi r h4 (by rw [bS_setS_s]; exact hr), bS_setS_s]
theorem LU.qq (h : LU κ μ0 p B μ) {r : Nat} (hi : i < 8) (h4 : r < 4) (hr : r < nwF (bS B i)) : μ (p + 2) (8 * r + i) = qV (bS B i) r := h.2.2.2.1 i hi r h4 hr
theorem LU.kk (h : LU κ μ0 p B μ) (kk : κ) {r : Nat} (hi : i < 8) (h4 : r < 4) (hr : r < nkF (bS B i)) : μ (p + 3) (8 * r + i) = kV (bS B i) r := h.2.2.2.2.1 kk i hi r h4 hr
theorem LU.ww (h : LU κ μ0 p B μ) {v k : Nat} (hv : v < 6) (hk : k < 4) : μ (p + 4) (6 * k + v) = bW B v k := h.2.2.2.2.2.1 v hv k hk
theorem LU.t (h : LU κ μ0 p B μ) {k : Nat} (hk : k < 7) : μ (p + 5) k = bG B k := h.2.2.2.2.2.2 k hk
theorem LU.out (h : LU κ μ0 p B μ) {a : Nat} (ha : a < p ∨ p + 6 ≤ a) : μ a = μ0 a := h.1 a ha
theorem wr_at {μ : Mm} {a k j : Nat} {x : Int32} (h : j ≠ k) : wr μ a k x a j = μ a j := by rw [wr_s, upd_n _ _ h]
theorem wr_it {μ : Mm} {a k : Nat} {x : Int32} : wr μ a k x a k = x := by rw [wr_s, upd_s]
/-- a number of row a at a station -/
theorem LU.wA (h : LU κ μ0 p (setS B i g) μ) {c k : Nat} {x y : Int32} (hi : i < 8) (hc : c < 8) (hk : k = aF c) (hk4 : k ≠ 4) (hx : aV (upd g k y) c = x) : LU κ μ0 p (setS B i (upd g k y)) (wr μ p (8 * c + i) x) := by
  have hkF : k < 4 ∨ (16 < k ∧ k < 20) := by
    subst hk
    match c, hc, hk4 with
    | 0, _, _ => exact Or.inl (by decide)
    | 1, _, _ => exact Or.inl (by decide)
    | 2, _, _ => exact Or.inl (by decide)
    | 3, _, _ => exact Or.inl (by decide)
    | 4, _, h4 => exact absurd rfl h4
    | 5, _, _ => exact Or.inr (by decide)
    | 6, _, _ => exact Or.inr (by decide)
    | 7, _, _ => exact Or.inr (by decide)
  have hne : ∀ d, d < 8 → d ≠ c → k ≠ aF d := by
    intro d hd hdc
    subst hk
    have : ∀ a, a < 8 → ∀ b, b < 8 → b ≠ a → aF a ≠ aF b := by decide
    exact this c hc d hd hdc
  have h' := h
  rw [← setS_setS B i g (upd g k y)]
  refine LU.st h hi (fun a a1 => wr_n _ _ _ (by omega)) (fun d hd => ?_) (fun j hj hji d => wr_at (by omega)) (fun d hd => ?_) (fun j hj hji d => by rw [wr_n _ _ _ (by omega)]) (fun r h4 hr => ?_) (fun j hj hji d => by rw [wr_n _ _ _ (by omega)]) (fun kk r h4 hr => ?_) (fun j hj hji d => by rw [wr_n _ _ _ (by omega)]) (wr_n _ _ _ (by omega)) (wr_n _ _ _ (by omega))
  · by_cases e : d = c
    · subst e
      rw [wr_it, hx]
    · rw [wr_at (by omega), aV_n hd (hne d hd e)]
      exact h'.aag hi hd
  · rw [wr_n _ _ _ (by omega), upd_n _ _ (by omega)]
    exact h'.bbg hi hd
  · rw [nwF_n hk4] at hr
    rw [wr_n _ _ _ (by omega)]
    have := h'.qqg hi h4 hr
    rw [this]
    unfold qV
    rw [upd_n _ _ (by omega), upd_n _ _ (by omega), upd_n _ _ (by omega)]
  · rw [nkF_n (by omega)] at hr
    rw [wr_n _ _ _ (by omega), kV_n (by omega)]
    exact h'.kkg kk hi h4 hr
/-- a number of row b at a station -/
theorem LU.wB (h : LU κ μ0 p (setS B i g) μ) {c : Nat} {x : Int32} (hi : i < 8) (hc : c < 3) : LU κ μ0 p (setS B i (upd g (20 + c) x)) (wr μ (p + 1) (8 * c + i) x) := by
  have h' := h
  rw [← setS_setS B i g (upd g (20 + c) x)]
  refine LU.st h hi (fun a a1 => wr_n _ _ _ (by omega)) (fun d hd => ?_) (fun j hj hji d => by rw [wr_n _ _ _ (by omega)]) (fun d hd => ?_) (fun j hj hji d => wr_at (by omega)) (fun r h4 hr => ?_) (fun j hj hji d => by rw [wr_n _ _ _ (by omega)]) (fun kk r h4 hr => ?_) (fun j hj hji d => by rw [wr_n _ _ _ (by omega)]) (wr_n _ _ _ (by omega)) (wr_n _ _ _ (by omega))
  · have : ∀ a, a < 8 → aF a < 20 := by decide
    rw [wr_n _ _ _ (by omega), aV_n hd (by have := this d hd; omega)]
    exact h'.aag hi hd
  · by_cases e : d = c
    · subst e
      rw [wr_it, upd_s]
    · rw [wr_at (by omega), upd_n _ _ (by omega)]
      exact h'.bbg hi hd
  · rw [nwF_n (by omega)] at hr
    rw [wr_n _ _ _ (by omega), h'.qqg hi h4 hr]
    unfold qV
    rw [upd_n _ _ (by omega), upd_n _ _ (by omega), upd_n _ _ (by omega)]
  · rw [nkF_n (by omega)] at hr
    rw [wr_n _ _ _ (by omega), kV_n (by omega)]
    exact h'.kkg kk hi h4 hr
end LUS
