/-! The law's six rows hold a bus -/
def spV (x : Int32) : Int32 := if x = -6 then -1 else x
theorem spV_s {x : Int32} (h : x = -6) : spV x = -1 := if_pos h
theorem spV_n {x : Int32} (h : x ≠ -6) : spV x = x := if_neg h
def aF : Nat → Nat
  | 0 => 0
  | 1 => 1
  | 2 => 2
  | 3 => 3
  | 4 => 4
  | 5 => 17
  | 6 => 18
  | _ => 19
def aV (f : Nat → Int32) (c : Nat) : Int32 := if c = 5 then spV (f 17) else f (aF c)
def qV (f : Nat → Int32) (r : Nat) : Int32 := f (5 + 3 * r) + nI 256 * f (6 + 3 * r) + nI 2048 * f (7 + 3 * r)
def kV (f : Nat → Int32) (r : Nat) : Int32 := f (24 + 4 * r) + nI 256 * f (25 + 4 * r) + nI 2048 * f (26 + 4 * r) + nI 16384 * f (27 + 4 * r)
theorem aV_n {g : Nat → Int32} {k d : Nat} {y : Int32} (hd : d < 8) (h : k ≠ aF d) : aV (upd g k y) d = aV g d := by
  unfold aV
  rcases (by omega : d = 5 ∨ d ≠ 5) with e | e
  · subst e
    rw [if_pos rfl, if_pos rfl, upd_n _ _ (show 17 ≠ k from Ne.symm h)]
  · rw [if_neg e, if_neg e, upd_n _ _ (Ne.symm h)]
theorem aV_s {g : Nat → Int32} {d : Nat} {y : Int32} (h : d ≠ 5) : aV (upd g (aF d) y) d = y := by
  unfold aV
  rw [if_neg h, upd_s]
theorem aV_5 {g : Nat → Int32} {y : Int32} : aV (upd g 17 y) 5 = spV y := by
  unfold aV
  rw [if_pos rfl, upd_s]
theorem qV_n {g : Nat → Int32} {k r : Nat} {y : Int32} (hr : r < 4) (h : k < 5 ∨ 16 < k) : qV (upd g k y) r = qV g r := by
  unfold qV
  rw [upd_n _ _ (by omega), upd_n _ _ (by omega), upd_n _ _ (by omega)]
theorem kV_n {g : Nat → Int32} {k r : Nat} {y : Int32} (h : k < 24) : kV (upd g k y) r = kV g r := by
  unfold kV
  rw [upd_n _ _ (by omega), upd_n _ _ (by omega), upd_n _ _ (by omega), upd_n _ _ (by omega)]
theorem nwF_n {g : Nat → Int32} {k : Nat} {y : Int32} (h : k ≠ 4) : nwF (upd g k y) = nwF g := by
  unfold nwF
  rw [upd_n _ _ (Ne.symm h)]
theorem nkF_n {g : Nat → Int32} {k : Nat} {y : Int32} (h : k ≠ 23) : nkF (upd g k y) = nkF g := by
  unfold nkF
  rw [upd_n _ _ (Ne.symm h)]
def LU (κ : Prop) (μ0 : Mm) (p : Nat) (B : Bs) (μ : Mm) : Prop :=
  (∀ a, (a < p ∨ p + 6 ≤ a) → μ a = μ0 a) ∧ (∀ i, i < 8 → ∀ c, c < 8 → μ p (8 * c + i) = aV (bS B i) c) ∧ (∀ i, i < 8 → ∀ c, c < 4 → μ (p + 1) (8 * c + i) = bS B i (20 + c)) ∧
  (∀ i, i < 8 → ∀ r, r < 4 → r < nwF (bS B i) → μ (p + 2) (8 * r + i) = qV (bS B i) r) ∧ (κ → ∀ i, i < 8 → ∀ r, r < 4 → r < nkF (bS B i) → μ (p + 3) (8 * r + i) = kV (bS B i) r) ∧
  (∀ w, w < 6 → ∀ k, k < 4 → μ (p + 4) (6 * k + w) = bW B w k) ∧ (∀ k, k < 7 → μ (p + 5) k = bG B k)
section LUS
variable {κ : Prop} {μ0 μ ν : Mm} {p i : Nat} {B : Bs} {g f : Nat → Int32}
theorem LU.st (h : LU κ μ0 p B μ) (hi : i < 8) (e0 : ∀ a, (a < p ∨ p + 6 ≤ a) → ν a = μ a) (ea : ∀ c, c < 8 → ν p (8 * c + i) = aV f c) (eao : ∀ j, j < 8 → j ≠ i → ∀ c, ν p (8 * c + j) = μ p (8 * c + j))
    (eb : ∀ c, c < 4 → ν (p + 1) (8 * c + i) = f (20 + c)) (ebo : ∀ j, j < 8 → j ≠ i → ∀ c, ν (p + 1) (8 * c + j) = μ (p + 1) (8 * c + j)) (eq : ∀ r, r < 4 → r < nwF f → ν (p + 2) (8 * r + i) = qV f r) (eqo : ∀ j, j < 8 → j ≠ i → ∀ r, ν (p + 2) (8 * r + j) = μ (p + 2) (8 * r + j))
    (ek : κ → ∀ r, r < 4 → r < nkF f → ν (p + 3) (8 * r + i) = kV f r) (eko : ∀ j, j < 8 → j ≠ i → ∀ r, ν (p + 3) (8 * r + j) = μ (p + 3) (8 * r + j)) (ew : ν (p + 4) = μ (p + 4)) (et : ν (p + 5) = μ (p + 5)) : LU κ μ0 p (setS B i f) ν := by
  obtain ⟨h0, ha, hb, hq, hk, hw, ht⟩ := h
  refine ⟨fun a a1 => (e0 a a1).trans (h0 a a1), fun j hj c hc => ?_, fun j hj c hc => ?_, fun j hj r h4 hr => ?_, fun kk j hj r h4 hr => ?_, fun v hv k hk => ?_, fun k hk => ?_⟩
  · by_cases e : j = i
    · subst e
      rw [bS_setS_s]
      exact ea c hc
    · rw [bS_setS_n _ _ e, eao j hj e]
      exact ha j hj c hc
  · by_cases e : j = i
    · subst e
      rw [bS_setS_s]
      exact eb c hc
    · rw [bS_setS_n _ _ e, ebo j hj e]
      exact hb j hj c hc
  · by_cases e : j = i
    · subst e
      rw [bS_setS_s] at hr ⊢
      exact eq r h4 hr
    · rw [bS_setS_n _ _ e] at hr ⊢
      rw [eqo j hj e]
      exact hq j hj r h4 hr
  · by_cases e : j = i
    · subst e
      rw [bS_setS_s] at hr ⊢
      exact ek kk r h4 hr
    · rw [bS_setS_n _ _ e] at hr ⊢
      rw [eko j hj e]
      exact hk kk j hj r h4 hr
  · rw [ew]
    exact hw v hv k hk
  · rw [et]
    exact ht k hk
theorem LU.self (h : LU κ μ0 p B μ) (i : Nat) : LU κ μ0 p (setS B i (bS B i)) μ := by
  rw [setS_id]
  exact h
theorem LU.aa (h : LU κ μ0 p B μ) {c : Nat} (hi : i < 8) (hc : c < 8) : μ p (8 * c + i) = aV (bS B i) c := h.2.1 i hi c hc
theorem LU.aag (h : LU κ μ0 p (setS B i g) μ) {c : Nat} (hi : i < 8) (hc : c < 8) : μ p (8 * c + i) = aV g c := by
  rw [h.2.1 i hi c hc, bS_setS_s]
theorem LU.bbg (h : LU κ μ0 p (setS B i g) μ) {c : Nat} (hi : i < 8) (hc : c < 4) : μ (p + 1) (8 * c + i) = g (20 + c) := by
  rw [h.2.2.1 i hi c hc, bS_setS_s]
theorem LU.qqg (h : LU κ μ0 p (setS B i g) μ) {r : Nat} (hi : i < 8) (h4 : r < 4) (hr : r < nwF g) : μ (p + 2) (8 * r + i) = qV g r := by
  rw [h.2.2.2.1 i hi r h4 (by rw [bS_setS_s]; exact hr), bS_setS_s]
theorem LU.kkg (h : LU κ μ0 p (setS B i g) μ) (kk : κ) {r : Nat} (hi : i < 8) (h4 : r < 4) (hr : r < nkF g) : μ (p + 3) (8 * r + i) = kV g r := by
  rw [h.2.2.2.2.1 kk i hi r h4 (by rw [bS_setS_s]; exact hr), bS_setS_s]
theorem LU.qq (h : LU κ μ0 p B μ) {r : Nat} (hi : i < 8) (h4 : r < 4) (hr : r < nwF (bS B i)) : μ (p + 2) (8 * r + i) = qV (bS B i) r := h.2.2.2.1 i hi r h4 hr
theorem LU.kk (h : LU κ μ0 p B μ) (kk : κ) {r : Nat} (hi : i < 8) (h4 : r < 4) (hr : r < nkF (bS B i)) : μ (p + 3) (8 * r + i) = kV (bS B i) r := h.2.2.2.2.1 kk i hi r h4 hr
theorem LU.ww (h : LU κ μ0 p B μ) {v k : Nat} (hv : v < 6) (hk : k < 4) : μ (p + 4) (6 * k + v) = bW B v k := h.2.2.2.2.2.1 v hv k hk
theorem LU.t (h : LU κ μ0 p B μ) {k : Nat} (hk : k < 7) : μ (p + 5) k = bG B k := h.2.2.2.2.2.2 k hk
theorem LU.out (h : LU κ μ0 p B μ) {a : Nat} (ha : a < p ∨ p + 6 ≤ a) : μ a = μ0 a := h.1 a ha
theorem wr_at {μ : Mm} {a k j : Nat} {x : Int32} (h : j ≠ k) : wr μ a k x a j = μ a j := by rw [wr_s, upd_n _ _ h]
theorem wr_it {μ : Mm} {a k : Nat} {x : Int32} : wr μ a k x a k = x := by rw [wr_s, upd_s]
/-- a number of row a at a station -/
theorem LU.wA (h : LU κ μ0 p (setS B i g) μ) (c k : Nat) {e : Nat} {x y : Int32} (he : e = 8 * c + i) (hi : i < 8) (hc : c < 8) (hk : k = aF c) (hk4 : k ≠ 4) (hx : aV (upd g k y) c = x) : LU κ μ0 p (setS B i (upd g k y)) (wr μ p e x) := by
  subst he
  have hkF : k < 4 ∨ (16 < k ∧ k < 20) := by
    subst hk
    match c, hc, hk4 with
    | 0, _, _ => exact Or.inl (by decide)
    | 1, _, _ => exact Or.inl (by decide)
    | 2, _, _ => exact Or.inl (by decide)
    | 3, _, _ => exact Or.inl (by decide)
    | 4, _, h4 => exact absurd rfl h4
    | 5, _, _ => exact Or.inr (by decide)
    | 6, _, _ => exact Or.inr (by decide)
    | 7, _, _ => exact Or.inr (by decide)
  have hne : ∀ d, d < 8 → d ≠ c → k ≠ aF d := by
    intro d hd hdc
    subst hk
    have : ∀ a, a < 8 → ∀ b, b < 8 → b ≠ a → aF a ≠ aF b := by decide
    exact this c hc d hd hdc
  have h' := h
  rw [← setS_setS B i g (upd g k y)]
  refine LU.st h hi (fun a a1 => wr_n _ _ _ (by omega)) (fun d hd => ?_) (fun j hj hji d => wr_at (by omega)) (fun d hd => ?_) (fun j hj hji d => by rw [wr_n _ _ _ (by omega)]) (fun r h4 hr => ?_) (fun j hj hji d => by rw [wr_n _ _ _ (by omega)]) (fun kk r h4 hr => ?_) (fun j hj hji d => by rw [wr_n _ _ _ (by omega)]) (wr_n _ _ _ (by omega)) (wr_n _ _ _ (by omega))
  · by_cases e : d = c
    · subst e
      rw [wr_it, hx]
    · rw [wr_at (by omega), aV_n hd (hne d hd e)]
      exact h'.aag hi hd
  · rw [wr_n _ _ _ (by omega), upd_n _ _ (by omega)]
    exact h'.bbg hi hd
  · rw [nwF_n hk4] at hr
    rw [wr_n _ _ _ (by omega)]
    have := h'.qqg hi h4 hr
    rw [this]
    unfold qV
    rw [upd_n _ _ (by omega), upd_n _ _ (by omega), upd_n _ _ (by omega)]
  · rw [nkF_n (by omega)] at hr
    rw [wr_n _ _ _ (by omega), kV_n (by omega)]
    exact h'.kkg kk hi h4 hr
/-- a number of row b at a station -/
theorem LU.wB (h : LU κ μ0 p (setS B i g) μ) (c k : Nat) {e : Nat} {x : Int32} (he : e = 8 * c + i) (hk : k = 20 + c) (hi : i < 8) (hc : c < 3) : LU κ μ0 p (setS B i (upd g k x)) (wr μ (p + 1) e x) := by
  subst he
  subst hk
  have h' := h
  rw [← setS_setS B i g (upd g (20 + c) x)]
  refine LU.st h hi (fun a a1 => wr_n _ _ _ (by omega)) (fun d hd => ?_) (fun j hj hji d => by rw [wr_n _ _ _ (by omega)]) (fun d hd => ?_) (fun j hj hji d => wr_at (by omega)) (fun r h4 hr => ?_) (fun j hj hji d => by rw [wr_n _ _ _ (by omega)]) (fun kk r h4 hr => ?_) (fun j hj hji d => by rw [wr_n _ _ _ (by omega)]) (wr_n _ _ _ (by omega)) (wr_n _ _ _ (by omega))
  · have : ∀ a, a < 8 → aF a < 20 := by decide
    rw [wr_n _ _ _ (by omega), aV_n hd (by have := this d hd; omega)]
    exact h'.aag hi hd
  · by_cases e : d = c
    · subst e
      rw [wr_it, upd_s]
    · rw [wr_at (by omega), upd_n _ _ (by omega)]
      exact h'.bbg hi hd
  · rw [nwF_n (by omega)] at hr
    rw [wr_n _ _ _ (by omega), h'.qqg hi h4 hr]
    unfold qV
    rw [upd_n _ _ (by omega), upd_n _ _ (by omega), upd_n _ _ (by omega)]
  · rw [nkF_n (by omega)] at hr
    rw [wr_n _ _ _ (by omega), kV_n (by omega)]
    exact h'.kkg kk hi h4 hr
theorem LU.ra (h : LU κ μ0 p B μ) (c : Nat) {e : Nat} (he : e = 8 * c + i) (hi : i < 8) (hc : c < 8) : μ p e = aV (bS B i) c := by
  subst he
  exact h.aa hi hc
theorem LU.rag (h : LU κ μ0 p (setS B i g) μ) (c : Nat) {e : Nat} (he : e = 8 * c + i) (hi : i < 8) (hc : c < 8) : μ p e = aV g c := by
  subst he
  exact h.aag hi hc
theorem LU.rb (h : LU κ μ0 p B μ) (c k : Nat) {e : Nat} (he : e = 8 * c + i) (hk : k = 20 + c) (hi : i < 8) (hc : c < 4) : μ (p + 1) e = bS B i k := by
  subst he
  subst hk
  exact h.2.2.1 i hi c hc
theorem LU.rbg (h : LU κ μ0 p (setS B i g) μ) (c k : Nat) {e : Nat} (he : e = 8 * c + i) (hk : k = 20 + c) (hi : i < 8) (hc : c < 4) : μ (p + 1) e = g k := by
  subst he
  subst hk
  exact h.bbg hi hc
theorem LU.rq (h : LU κ μ0 p B μ) (r : Nat) {e : Nat} (he : e = 8 * r + i) (hi : i < 8) (h4 : r < 4) (hr : r < nwF (bS B i)) : μ (p + 2) e = qV (bS B i) r := by
  subst he
  exact h.qq hi h4 hr
theorem LU.rqg (h : LU κ μ0 p (setS B i g) μ) (r : Nat) {e : Nat} (he : e = 8 * r + i) (hi : i < 8) (h4 : r < 4) (hr : r < nwF g) : μ (p + 2) e = qV g r := by
  subst he
  exact h.qqg hi h4 hr
theorem LU.rk (h : LU κ μ0 p B μ) (kk : κ) (r : Nat) {e : Nat} (he : e = 8 * r + i) (hi : i < 8) (h4 : r < 4) (hr : r < nkF (bS B i)) : μ (p + 3) e = kV (bS B i) r := by
  subst he
  exact h.kk kk hi h4 hr
theorem LU.rw (h : LU κ μ0 p B μ) (v k : Nat) {e : Nat} (he : e = 6 * k + v) (hv : v < 6) (hk : k < 4) : μ (p + 4) e = bW B v k := by
  subst he
  exact h.ww hv hk
theorem LU.wW (h : LU κ μ0 p B μ) (v k : Nat) {e : Nat} {x : Int32} (he : e = 6 * k + v) (hv : v < 6) (hk : k < 4) : LU κ μ0 p (setW B v k x) (wr μ (p + 4) e x) := by
  subst he
  obtain ⟨h0, ha, hb, hq, hkk, hw, ht⟩ := h
  refine ⟨fun a a1 => (wr_n _ _ _ (by omega)).trans (h0 a a1), fun i hi c hc => by rw [wr_n _ _ _ (by omega), bS_setW]; exact ha i hi c hc, fun i hi c hc => by rw [wr_n _ _ _ (by omega), bS_setW]; exact hb i hi c hc, fun i hi r h4 hr => by rw [wr_n _ _ _ (by omega), bS_setW]; exact hq i hi r h4 hr, fun kk i hi r h4 hr => by rw [wr_n _ _ _ (by omega), bS_setW]; exact hkk kk i hi r h4 hr, fun u hu j hj => ?_, fun j hj => by rw [wr_n _ _ _ (by omega), bG_setW]; exact ht j hj⟩
  by_cases huv : u = v
  · subst huv
    rw [bW_setW_s]
    by_cases hjk : j = k
    · subst hjk
      rw [wr_it, upd_s]
    · rw [wr_at (by omega), upd_n _ _ hjk]
      exact hw u hu j hj
  · rw [bW_setW_n _ _ _ huv, wr_at (by omega)]
    exact hw u hu j hj
theorem LU.wT (h : LU κ μ0 p B μ) (k : Nat) {x : Int32} (hk : k < 7) : LU κ μ0 p (setG B k x) (wr μ (p + 5) k x) := by
  obtain ⟨h0, ha, hb, hq, hkk, hw, ht⟩ := h
  refine ⟨fun a a1 => (wr_n _ _ _ (by omega)).trans (h0 a a1), fun i hi c hc => by rw [wr_n _ _ _ (by omega), bS_setG]; exact ha i hi c hc, fun i hi c hc => by rw [wr_n _ _ _ (by omega), bS_setG]; exact hb i hi c hc, fun i hi r h4 hr => by rw [wr_n _ _ _ (by omega), bS_setG]; exact hq i hi r h4 hr, fun kk i hi r h4 hr => by rw [wr_n _ _ _ (by omega), bS_setG]; exact hkk kk i hi r h4 hr, fun u hu j hj => by rw [wr_n _ _ _ (by omega), bW_setG]; exact hw u hu j hj, fun j hj => ?_⟩
  rw [bG_setG]
  by_cases hjk : j = k
  · subst hjk
    rw [wr_it, upd_s]
  · rw [wr_at hjk, upd_n _ _ hjk]
    exact ht j hj
/-- the tries of the first word -/
theorem LU.wQ (h : LU κ μ0 p (setS B i g) μ) {x y : Int32} (hi : i < 8) (hx : qV (upd g 7 y) 0 = x) : LU κ μ0 p (setS B i (upd g 7 y)) (wr μ (p + 2) i x) := by
  have h' := h
  rw [← setS_setS B i g (upd g 7 y)]
  refine LU.st h hi (fun a a1 => wr_n _ _ _ (by omega)) (fun d hd => ?_) (fun j hj hji d => by rw [wr_n _ _ _ (by omega)]) (fun d hd => ?_) (fun j hj hji d => by rw [wr_n _ _ _ (by omega)]) (fun r h4 hr => ?_) (fun j hj hji d => wr_at (by omega)) (fun kk r h4 hr => ?_) (fun j hj hji d => by rw [wr_n _ _ _ (by omega)]) (wr_n _ _ _ (by omega)) (wr_n _ _ _ (by omega))
  · have : ∀ a, a < 8 → aF a ≠ 7 := by decide
    rw [wr_n _ _ _ (by omega), aV_n hd (Ne.symm (this d hd))]
    exact h'.aag hi hd
  · rw [wr_n _ _ _ (by omega), upd_n _ _ (by omega)]
    exact h'.bbg hi hd
  · rw [nwF_n (by omega)] at hr
    by_cases e : r = 0
    · subst e
      rw [show 8 * 0 + i = i by omega, wr_it, hx]
    · rw [wr_at (by omega), h'.qqg hi h4 hr]
      unfold qV
      rw [upd_n _ _ (by omega), upd_n _ _ (by omega), upd_n _ _ (by omega)]
  · rw [nkF_n (by omega)] at hr
    rw [wr_n _ _ _ (by omega), kV_n (by omega)]
    exact h'.kkg kk hi h4 hr
theorem LU.a0 (h : LU κ μ0 p B μ) {e : Nat} (he : e = 0 + i) (hi : i < 8) : μ p e = bS B i 0 := by
  rw [h.ra 0 (show e = 8 * 0 + i by omega) hi (by omega)]
  rfl
theorem LU.a1 (h : LU κ μ0 p B μ) {e : Nat} (he : e = 8 + i) (hi : i < 8) : μ p e = bS B i 1 := by
  rw [h.ra 1 (show e = 8 * 1 + i by omega) hi (by omega)]
  rfl
theorem LU.a2 (h : LU κ μ0 p B μ) {e : Nat} (he : e = 16 + i) (hi : i < 8) : μ p e = bS B i 2 := by
  rw [h.ra 2 (show e = 8 * 2 + i by omega) hi (by omega)]
  rfl
theorem LU.a3 (h : LU κ μ0 p B μ) {e : Nat} (he : e = 24 + i) (hi : i < 8) : μ p e = bS B i 3 := by
  rw [h.ra 3 (show e = 8 * 3 + i by omega) hi (by omega)]
  rfl
theorem LU.a4 (h : LU κ μ0 p B μ) {e : Nat} (he : e = 32 + i) (hi : i < 8) : μ p e = bS B i 4 := by
  rw [h.ra 4 (show e = 8 * 4 + i by omega) hi (by omega)]
  rfl
theorem LU.a5 (h : LU κ μ0 p B μ) {e : Nat} (he : e = 40 + i) (hi : i < 8) : μ p e = spV (bS B i 17) := by
  rw [h.ra 5 (show e = 8 * 5 + i by omega) hi (by omega)]
  rfl
theorem LU.a6 (h : LU κ μ0 p B μ) {e : Nat} (he : e = 48 + i) (hi : i < 8) : μ p e = bS B i 18 := by
  rw [h.ra 6 (show e = 8 * 6 + i by omega) hi (by omega)]
  rfl
theorem LU.a7 (h : LU κ μ0 p B μ) {e : Nat} (he : e = 56 + i) (hi : i < 8) : μ p e = bS B i 19 := by
  rw [h.ra 7 (show e = 8 * 7 + i by omega) hi (by omega)]
  rfl
theorem LU.word (h : LU κ μ0 p B μ) {v x y : Nat} (hi : i < 8) (h0 : 0 < nwF (bS B i)) (e5 : bS B i 5 = nI v) (e6 : bS B i 6 = nI x) (e7 : bS B i 7 = nI y) : μ (p + 2) i = nI (v + 256 * x + 2048 * y) := by
  rw [h.rq 0 (by omega) hi (by omega) h0]
  unfold qV
  rw [show bS B i (5 + 3 * 0) = nI v from e5, show bS B i (6 + 3 * 0) = nI x from e6, show bS B i (7 + 3 * 0) = nI y from e7, pk_mul, pk_mul, nI_add, nI_add]
end LUS
/-- what a word's number says -/
theorem qV_of {f : Nat → Int32} {r v x y : Nat} (h5 : f (5 + 3 * r) = nI v) (h6 : f (6 + 3 * r) = nI x) (h7 : f (7 + 3 * r) = nI y) : qV f r = nI (v + 256 * x + 2048 * y) := by
  unfold qV
  rw [h5, h6, h7, pk_mul, pk_mul, nI_add, nI_add]
theorem kV_of {f : Nat → Int32} {r v x y z : Nat} (h5 : f (24 + 4 * r) = nI v) (h6 : f (25 + 4 * r) = nI x) (h7 : f (26 + 4 * r) = nI y) (h8 : f (27 + 4 * r) = nI z) : kV f r = nI (v + 256 * x + 2048 * y + 16384 * z) := by
  unfold kV
  rw [h5, h6, h7, h8, pk_mul, pk_mul, pk_mul, nI_add, nI_add, nI_add]
/-- bounds of tries, of what was heard, of the beats -/
def WLs (f : Nat → Int32) : Prop := (∀ r, r < 4 → r < nwF f → ∃ y, y < 100 ∧ f (7 + 3 * r) = nI y) ∧ ∀ r, r < 4 → r < nkF f → (∃ v, v < 256 ∧ f (24 + 4 * r) = nI v) ∧ (∃ x, x < 8 ∧ f (25 + 4 * r) = nI x) ∧ (∃ y, y < 8 ∧ f (26 + 4 * r) = nI y) ∧ ∃ z, z < 131072 ∧ f (27 + 4 * r) = nI z
def WL (B : Bs) : Prop := ∀ i, i < nS B → WLs (bS B i)
theorem WLs.wd {n r : Nat} {f : Nat → Int32} (h : WLs f) (wf : WS n f) (h4 : r < 4) (hr : r < nwF f) : ∃ v x y, v < 256 ∧ x < 6 ∧ y < 100 ∧ f (5 + 3 * r) = nI v ∧ f (6 + 3 * r) = nI x ∧ f (7 + 3 * r) = nI y := by
  obtain ⟨⟨v, hv, e5⟩, x, hx, e6⟩ := wf.word hr
  obtain ⟨y, hy, e7⟩ := h.1 r h4 hr
  exact ⟨v, x, y, hv, hx, hy, e5, e6, e7⟩
theorem gu_n {f : Nat → Int32} {k : Nat} (h : k ≠ 7 ∧ k ≠ 22 ∧ k ≠ 17 ∧ k ≠ 18) : guF f k = f k := by
  unfold guF qtF
  rw [upd_n _ _ (by omega), upd_n _ _ (by omega), upd_n _ _ (by omega), upd_n _ _ (by omega)]
theorem gu_7 (f : Nat → Int32) : guF f 7 = f 7 + nI 1 := by
  unfold guF qtF
  rw [upd_n _ _ (by omega), upd_n _ _ (by omega), upd_n _ _ (by omega), upd_s]
theorem gu_nw9 (f : Nat → Int32) : nwF (guF f) = nwF f := by
  unfold nwF
  rw [gu_n (by omega)]
