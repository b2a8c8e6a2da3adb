/-! The class's memory holds a bus -/
def SU (μ : Mm) (a i n : Nat) (f : Nat → Int32) : Prop := μ a 0 = nI i ∧ μ a 3 = f 0 ∧ μ a 4 = f 1 ∧ μ a 5 = f 2 ∧ μ a 6 = f 3 ∧
  ((n ≤ i ∨ f 17 = -6) → μ a 7 = -1 ∧ μ a 8 = nI 0 ∧ μ a 9 = nI 0) ∧ (i < n → f 17 ≠ -6 → μ a 7 = f 17 ∧ μ a 8 = nI 1 <<< (f 6 &&& 31) ∧ μ a 9 = (nI i <<< (nI 8 &&& 31)) ||| f 5) ∧
  μ a 10 = f 18 ∧ μ a 11 = f 19 ∧ μ a 12 = f 20 ∧ μ a 13 = f 21 ∧ μ a 14 = f 22 ∧ μ (a + 1) 3 = f 4 ∧ (∀ r, r < 4 → μ (a + 2) r = f (5 + 3 * r)) ∧ (∀ r, r < 4 → μ (a + 3) r = f (6 + 3 * r)) ∧ (∀ r, r < 4 → μ (a + 4) r = f (7 + 3 * r)) ∧ μ (a + 5) 1 = f 23 ∧ ∀ k, k < 16 → μ (a + 6) k = f (24 + k)
def GU (μ : Mm) (b : Nat) (B : Bs) : Prop := (∀ k, k < 5 → μ (b + 1) k = bG B k) ∧ (∀ v, v < 6 → μ (b + 2) v = bW B v 0 ∧ μ (b + 3) v = bW B v 2 ∧ μ (b + 4) v = bW B v 3) ∧ μ b 5 = bG B 6 ∧ μ b 6 = msk (fun v => bW B v 1 = nI 1) 6 ∧ μ b 7 = bG B 5
def BU (μ0 : Mm) (b : Nat) (B : Bs) (μ : Mm) : Prop := (∀ a, (a < b ∨ b + 62 ≤ a) → μ a = μ0 a) ∧ GU μ b B ∧ ∀ i, i < 8 → SU μ (st b i) i (nS B) (bS B i)
theorem SU.cong {μ μ' : Mm} {a i n : Nat} {f : Nat → Int32} (h : SU μ a i n f) (e : ∀ k, k < 7 → μ' (a + k) = μ (a + k)) : SU μ' a i n f := by
  have e0 : μ' a = μ a := e 0 (by omega)
  unfold SU at h ⊢
  rw [e0, e 1 (by omega), e 2 (by omega), e 3 (by omega), e 4 (by omega), e 5 (by omega), e 6 (by omega)]
  exact h
theorem SU.nn {μ : Mm} {a i n n' : Nat} {f : Nat → Int32} (h : SU μ a i n f) (e : i < n ↔ i < n') : SU μ a i n' f := by
  obtain ⟨h0, h3, h4, h5, h6, hq, hs, hr⟩ := h
  exact ⟨h0, h3, h4, h5, h6, fun q => hq (q.imp (fun _ => by omega) id), fun q => hs (by omega), hr⟩
theorem SU.wires {μ : Mm} {a i n : Nat} {f : Nat → Int32} (h : SU μ a i n f) (x : Int32) : SU (wr μ a 3 x) a i n (upd f 0 x) := by
  obtain ⟨h0, h3, h4, h5, h6, hq, hs, h10, h11, h12, h13, h14, hl, hN, hX, hT, hk, hL⟩ := h
  refine ⟨?_, ?_, ?_, ?_, ?_, ?_, ?_, ?_, ?_, ?_, ?_, ?_, ?_, ?_, ?_, ?_, ?_, ?_⟩
  · first | (simp (disch := omega) only [wr_s, wr_n, upd_s, upd_n]; done) | (simp (disch := omega) only [wr_s, wr_n, upd_s, upd_n]; exact h0) | exact h0
  · first | (simp (disch := omega) only [wr_s, wr_n, upd_s, upd_n]; done) | (simp (disch := omega) only [wr_s, wr_n, upd_s, upd_n]; exact h3) | exact h3
  · first | (simp (disch := omega) only [wr_s, wr_n, upd_s, upd_n]; done) | (simp (disch := omega) only [wr_s, wr_n, upd_s, upd_n]; exact h4) | exact h4
  · first | (simp (disch := omega) only [wr_s, wr_n, upd_s, upd_n]; done) | (simp (disch := omega) only [wr_s, wr_n, upd_s, upd_n]; exact h5) | exact h5
  · first | (simp (disch := omega) only [wr_s, wr_n, upd_s, upd_n]; done) | (simp (disch := omega) only [wr_s, wr_n, upd_s, upd_n]; exact h6) | exact h6
  · intro q
    simp (disch := omega) only [wr_s, wr_n, upd_s, upd_n] at q ⊢
    exact hq q
  · intro q q2
    simp (disch := omega) only [wr_s, wr_n, upd_s, upd_n] at q q2 ⊢
    exact hs q q2
  · first | (simp (disch := omega) only [wr_s, wr_n, upd_s, upd_n]; done) | (simp (disch := omega) only [wr_s, wr_n, upd_s, upd_n]; exact h10) | exact h10
  · first | (simp (disch := omega) only [wr_s, wr_n, upd_s, upd_n]; done) | (simp (disch := omega) only [wr_s, wr_n, upd_s, upd_n]; exact h11) | exact h11
  · first | (simp (disch := omega) only [wr_s, wr_n, upd_s, upd_n]; done) | (simp (disch := omega) only [wr_s, wr_n, upd_s, upd_n]; exact h12) | exact h12
  · first | (simp (disch := omega) only [wr_s, wr_n, upd_s, upd_n]; done) | (simp (disch := omega) only [wr_s, wr_n, upd_s, upd_n]; exact h13) | exact h13
  · first | (simp (disch := omega) only [wr_s, wr_n, upd_s, upd_n]; done) | (simp (disch := omega) only [wr_s, wr_n, upd_s, upd_n]; exact h14) | exact h14
  · first | (simp (disch := omega) only [wr_s, wr_n, upd_s, upd_n]; done) | (simp (disch := omega) only [wr_s, wr_n, upd_s, upd_n]; exact hl) | exact hl
  · intro r hr
    first | exact hN r hr | (simp (disch := omega) only [wr_s, wr_n, upd_s, upd_n]; exact hN r hr)
  · intro r hr
    first | exact hX r hr | (simp (disch := omega) only [wr_s, wr_n, upd_s, upd_n]; exact hX r hr)
  · intro r hr
    first | exact hT r hr | (simp (disch := omega) only [wr_s, wr_n, upd_s, upd_n]; exact hT r hr)
  · first | (simp (disch := omega) only [wr_s, wr_n, upd_s, upd_n]; done) | (simp (disch := omega) only [wr_s, wr_n, upd_s, upd_n]; exact hk) | exact hk
  · intro r hr
    first | exact hL r hr | (simp (disch := omega) only [wr_s, wr_n, upd_s, upd_n]; exact hL r hr)
theorem SU.charge {μ : Mm} {a i n : Nat} {f : Nat → Int32} (h : SU μ a i n f) (x : Int32) : SU (wr μ a 4 x) a i n (upd f 1 x) := by
  obtain ⟨h0, h3, h4, h5, h6, hq, hs, h10, h11, h12, h13, h14, hl, hN, hX, hT, hk, hL⟩ := h
  refine ⟨?_, ?_, ?_, ?_, ?_, ?_, ?_, ?_, ?_, ?_, ?_, ?_, ?_, ?_, ?_, ?_, ?_, ?_⟩
  · first | (simp (disch := omega) only [wr_s, wr_n, upd_s, upd_n]; done) | (simp (disch := omega) only [wr_s, wr_n, upd_s, upd_n]; exact h0) | exact h0
  · first | (simp (disch := omega) only [wr_s, wr_n, upd_s, upd_n]; done) | (simp (disch := omega) only [wr_s, wr_n, upd_s, upd_n]; exact h3) | exact h3
  · first | (simp (disch := omega) only [wr_s, wr_n, upd_s, upd_n]; done) | (simp (disch := omega) only [wr_s, wr_n, upd_s, upd_n]; exact h4) | exact h4
  · first | (simp (disch := omega) only [wr_s, wr_n, upd_s, upd_n]; done) | (simp (disch := omega) only [wr_s, wr_n, upd_s, upd_n]; exact h5) | exact h5
  · first | (simp (disch := omega) only [wr_s, wr_n, upd_s, upd_n]; done) | (simp (disch := omega) only [wr_s, wr_n, upd_s, upd_n]; exact h6) | exact h6
  · intro q
    simp (disch := omega) only [wr_s, wr_n, upd_s, upd_n] at q ⊢
    exact hq q
  · intro q q2
    simp (disch := omega) only [wr_s, wr_n, upd_s, upd_n] at q q2 ⊢
    exact hs q q2
  · first | (simp (disch := omega) only [wr_s, wr_n, upd_s, upd_n]; done) | (simp (disch := omega) only [wr_s, wr_n, upd_s, upd_n]; exact h10) | exact h10
  · first | (simp (disch := omega) only [wr_s, wr_n, upd_s, upd_n]; done) | (simp (disch := omega) only [wr_s, wr_n, upd_s, upd_n]; exact h11) | exact h11
  · first | (simp (disch := omega) only [wr_s, wr_n, upd_s, upd_n]; done) | (simp (disch := omega) only [wr_s, wr_n, upd_s, upd_n]; exact h12) | exact h12
  · first | (simp (disch := omega) only [wr_s, wr_n, upd_s, upd_n]; done) | (simp (disch := omega) only [wr_s, wr_n, upd_s, upd_n]; exact h13) | exact h13
  · first | (simp (disch := omega) only [wr_s, wr_n, upd_s, upd_n]; done) | (simp (disch := omega) only [wr_s, wr_n, upd_s, upd_n]; exact h14) | exact h14
  · first | (simp (disch := omega) only [wr_s, wr_n, upd_s, upd_n]; done) | (simp (disch := omega) only [wr_s, wr_n, upd_s, upd_n]; exact hl) | exact hl
  · intro r hr
    first | exact hN r hr | (simp (disch := omega) only [wr_s, wr_n, upd_s, upd_n]; exact hN r hr)
  · intro r hr
    first | exact hX r hr | (simp (disch := omega) only [wr_s, wr_n, upd_s, upd_n]; exact hX r hr)
  · intro r hr
    first | exact hT r hr | (simp (disch := omega) only [wr_s, wr_n, upd_s, upd_n]; exact hT r hr)
  · first | (simp (disch := omega) only [wr_s, wr_n, upd_s, upd_n]; done) | (simp (disch := omega) only [wr_s, wr_n, upd_s, upd_n]; exact hk) | exact hk
  · intro r hr
    first | exact hL r hr | (simp (disch := omega) only [wr_s, wr_n, upd_s, upd_n]; exact hL r hr)
theorem SU.asleep {μ : Mm} {a i n : Nat} {f : Nat → Int32} (h : SU μ a i n f) (x : Int32) : SU (wr μ a 5 x) a i n (upd f 2 x) := by
  obtain ⟨h0, h3, h4, h5, h6, hq, hs, h10, h11, h12, h13, h14, hl, hN, hX, hT, hk, hL⟩ := h
  refine ⟨?_, ?_, ?_, ?_, ?_, ?_, ?_, ?_, ?_, ?_, ?_, ?_, ?_, ?_, ?_, ?_, ?_, ?_⟩
  · first | (simp (disch := omega) only [wr_s, wr_n, upd_s, upd_n]; done) | (simp (disch := omega) only [wr_s, wr_n, upd_s, upd_n]; exact h0) | exact h0
  · first | (simp (disch := omega) only [wr_s, wr_n, upd_s, upd_n]; done) | (simp (disch := omega) only [wr_s, wr_n, upd_s, upd_n]; exact h3) | exact h3
  · first | (simp (disch := omega) only [wr_s, wr_n, upd_s, upd_n]; done) | (simp (disch := omega) only [wr_s, wr_n, upd_s, upd_n]; exact h4) | exact h4
  · first | (simp (disch := omega) only [wr_s, wr_n, upd_s, upd_n]; done) | (simp (disch := omega) only [wr_s, wr_n, upd_s, upd_n]; exact h5) | exact h5
  · first | (simp (disch := omega) only [wr_s, wr_n, upd_s, upd_n]; done) | (simp (disch := omega) only [wr_s, wr_n, upd_s, upd_n]; exact h6) | exact h6
  · intro q
    simp (disch := omega) only [wr_s, wr_n, upd_s, upd_n] at q ⊢
    exact hq q
  · intro q q2
    simp (disch := omega) only [wr_s, wr_n, upd_s, upd_n] at q q2 ⊢
    exact hs q q2
  · first | (simp (disch := omega) only [wr_s, wr_n, upd_s, upd_n]; done) | (simp (disch := omega) only [wr_s, wr_n, upd_s, upd_n]; exact h10) | exact h10
  · first | (simp (disch := omega) only [wr_s, wr_n, upd_s, upd_n]; done) | (simp (disch := omega) only [wr_s, wr_n, upd_s, upd_n]; exact h11) | exact h11
  · first | (simp (disch := omega) only [wr_s, wr_n, upd_s, upd_n]; done) | (simp (disch := omega) only [wr_s, wr_n, upd_s, upd_n]; exact h12) | exact h12
  · first | (simp (disch := omega) only [wr_s, wr_n, upd_s, upd_n]; done) | (simp (disch := omega) only [wr_s, wr_n, upd_s, upd_n]; exact h13) | exact h13
  · first | (simp (disch := omega) only [wr_s, wr_n, upd_s, upd_n]; done) | (simp (disch := omega) only [wr_s, wr_n, upd_s, upd_n]; exact h14) | exact h14
  · first | (simp (disch := omega) only [wr_s, wr_n, upd_s, upd_n]; done) | (simp (disch := omega) only [wr_s, wr_n, upd_s, upd_n]; exact hl) | exact hl
  · intro r hr
    first | exact hN r hr | (simp (disch := omega) only [wr_s, wr_n, upd_s, upd_n]; exact hN r hr)
  · intro r hr
    first | exact hX r hr | (simp (disch := omega) only [wr_s, wr_n, upd_s, upd_n]; exact hX r hr)
  · intro r hr
    first | exact hT r hr | (simp (disch := omega) only [wr_s, wr_n, upd_s, upd_n]; exact hT r hr)
  · first | (simp (disch := omega) only [wr_s, wr_n, upd_s, upd_n]; done) | (simp (disch := omega) only [wr_s, wr_n, upd_s, upd_n]; exact hk) | exact hk
  · intro r hr
    first | exact hL r hr | (simp (disch := omega) only [wr_s, wr_n, upd_s, upd_n]; exact hL r hr)
theorem SU.dozing {μ : Mm} {a i n : Nat} {f : Nat → Int32} (h : SU μ a i n f) (x : Int32) : SU (wr μ a 6 x) a i n (upd f 3 x) := by
  obtain ⟨h0, h3, h4, h5, h6, hq, hs, h10, h11, h12, h13, h14, hl, hN, hX, hT, hk, hL⟩ := h
  refine ⟨?_, ?_, ?_, ?_, ?_, ?_, ?_, ?_, ?_, ?_, ?_, ?_, ?_, ?_, ?_, ?_, ?_, ?_⟩
  · first | (simp (disch := omega) only [wr_s, wr_n, upd_s, upd_n]; done) | (simp (disch := omega) only [wr_s, wr_n, upd_s, upd_n]; exact h0) | exact h0
  · first | (simp (disch := omega) only [wr_s, wr_n, upd_s, upd_n]; done) | (simp (disch := omega) only [wr_s, wr_n, upd_s, upd_n]; exact h3) | exact h3
  · first | (simp (disch := omega) only [wr_s, wr_n, upd_s, upd_n]; done) | (simp (disch := omega) only [wr_s, wr_n, upd_s, upd_n]; exact h4) | exact h4
  · first | (simp (disch := omega) only [wr_s, wr_n, upd_s, upd_n]; done) | (simp (disch := omega) only [wr_s, wr_n, upd_s, upd_n]; exact h5) | exact h5
  · first | (simp (disch := omega) only [wr_s, wr_n, upd_s, upd_n]; done) | (simp (disch := omega) only [wr_s, wr_n, upd_s, upd_n]; exact h6) | exact h6
  · intro q
    simp (disch := omega) only [wr_s, wr_n, upd_s, upd_n] at q ⊢
    exact hq q
  · intro q q2
    simp (disch := omega) only [wr_s, wr_n, upd_s, upd_n] at q q2 ⊢
    exact hs q q2
  · first | (simp (disch := omega) only [wr_s, wr_n, upd_s, upd_n]; done) | (simp (disch := omega) only [wr_s, wr_n, upd_s, upd_n]; exact h10) | exact h10
  · first | (simp (disch := omega) only [wr_s, wr_n, upd_s, upd_n]; done) | (simp (disch := omega) only [wr_s, wr_n, upd_s, upd_n]; exact h11) | exact h11
  · first | (simp (disch := omega) only [wr_s, wr_n, upd_s, upd_n]; done) | (simp (disch := omega) only [wr_s, wr_n, upd_s, upd_n]; exact h12) | exact h12
  · first | (simp (disch := omega) only [wr_s, wr_n, upd_s, upd_n]; done) | (simp (disch := omega) only [wr_s, wr_n, upd_s, upd_n]; exact h13) | exact h13
  · first | (simp (disch := omega) only [wr_s, wr_n, upd_s, upd_n]; done) | (simp (disch := omega) only [wr_s, wr_n, upd_s, upd_n]; exact h14) | exact h14
  · first | (simp (disch := omega) only [wr_s, wr_n, upd_s, upd_n]; done) | (simp (disch := omega) only [wr_s, wr_n, upd_s, upd_n]; exact hl) | exact hl
  · intro r hr
    first | exact hN r hr | (simp (disch := omega) only [wr_s, wr_n, upd_s, upd_n]; exact hN r hr)
  · intro r hr
    first | exact hX r hr | (simp (disch := omega) only [wr_s, wr_n, upd_s, upd_n]; exact hX r hr)
  · intro r hr
    first | exact hT r hr | (simp (disch := omega) only [wr_s, wr_n, upd_s, upd_n]; exact hT r hr)
  · first | (simp (disch := omega) only [wr_s, wr_n, upd_s, upd_n]; done) | (simp (disch := omega) only [wr_s, wr_n, upd_s, upd_n]; exact hk) | exact hk
  · intro r hr
    first | exact hL r hr | (simp (disch := omega) only [wr_s, wr_n, upd_s, upd_n]; exact hL r hr)
theorem SU.ears {μ : Mm} {a i n : Nat} {f : Nat → Int32} (h : SU μ a i n f) (x : Int32) : SU (wr μ a 10 x) a i n (upd f 18 x) := by
  obtain ⟨h0, h3, h4, h5, h6, hq, hs, h10, h11, h12, h13, h14, hl, hN, hX, hT, hk, hL⟩ := h
  refine ⟨?_, ?_, ?_, ?_, ?_, ?_, ?_, ?_, ?_, ?_, ?_, ?_, ?_, ?_, ?_, ?_, ?_, ?_⟩
  · first | (simp (disch := omega) only [wr_s, wr_n, upd_s, upd_n]; done) | (simp (disch := omega) only [wr_s, wr_n, upd_s, upd_n]; exact h0) | exact h0
  · first | (simp (disch := omega) only [wr_s, wr_n, upd_s, upd_n]; done) | (simp (disch := omega) only [wr_s, wr_n, upd_s, upd_n]; exact h3) | exact h3
  · first | (simp (disch := omega) only [wr_s, wr_n, upd_s, upd_n]; done) | (simp (disch := omega) only [wr_s, wr_n, upd_s, upd_n]; exact h4) | exact h4
  · first | (simp (disch := omega) only [wr_s, wr_n, upd_s, upd_n]; done) | (simp (disch := omega) only [wr_s, wr_n, upd_s, upd_n]; exact h5) | exact h5
  · first | (simp (disch := omega) only [wr_s, wr_n, upd_s, upd_n]; done) | (simp (disch := omega) only [wr_s, wr_n, upd_s, upd_n]; exact h6) | exact h6
  · intro q
    simp (disch := omega) only [wr_s, wr_n, upd_s, upd_n] at q ⊢
    exact hq q
  · intro q q2
    simp (disch := omega) only [wr_s, wr_n, upd_s, upd_n] at q q2 ⊢
    exact hs q q2
  · first | (simp (disch := omega) only [wr_s, wr_n, upd_s, upd_n]; done) | (simp (disch := omega) only [wr_s, wr_n, upd_s, upd_n]; exact h10) | exact h10
  · first | (simp (disch := omega) only [wr_s, wr_n, upd_s, upd_n]; done) | (simp (disch := omega) only [wr_s, wr_n, upd_s, upd_n]; exact h11) | exact h11
  · first | (simp (disch := omega) only [wr_s, wr_n, upd_s, upd_n]; done) | (simp (disch := omega) only [wr_s, wr_n, upd_s, upd_n]; exact h12) | exact h12
  · first | (simp (disch := omega) only [wr_s, wr_n, upd_s, upd_n]; done) | (simp (disch := omega) only [wr_s, wr_n, upd_s, upd_n]; exact h13) | exact h13
  · first | (simp (disch := omega) only [wr_s, wr_n, upd_s, upd_n]; done) | (simp (disch := omega) only [wr_s, wr_n, upd_s, upd_n]; exact h14) | exact h14
  · first | (simp (disch := omega) only [wr_s, wr_n, upd_s, upd_n]; done) | (simp (disch := omega) only [wr_s, wr_n, upd_s, upd_n]; exact hl) | exact hl
  · intro r hr
    first | exact hN r hr | (simp (disch := omega) only [wr_s, wr_n, upd_s, upd_n]; exact hN r hr)
  · intro r hr
    first | exact hX r hr | (simp (disch := omega) only [wr_s, wr_n, upd_s, upd_n]; exact hX r hr)
  · intro r hr
    first | exact hT r hr | (simp (disch := omega) only [wr_s, wr_n, upd_s, upd_n]; exact hT r hr)
  · first | (simp (disch := omega) only [wr_s, wr_n, upd_s, upd_n]; done) | (simp (disch := omega) only [wr_s, wr_n, upd_s, upd_n]; exact hk) | exact hk
  · intro r hr
    first | exact hL r hr | (simp (disch := omega) only [wr_s, wr_n, upd_s, upd_n]; exact hL r hr)
theorem SU.good {μ : Mm} {a i n : Nat} {f : Nat → Int32} (h : SU μ a i n f) (x : Int32) : SU (wr μ a 11 x) a i n (upd f 19 x) := by
  obtain ⟨h0, h3, h4, h5, h6, hq, hs, h10, h11, h12, h13, h14, hl, hN, hX, hT, hk, hL⟩ := h
  refine ⟨?_, ?_, ?_, ?_, ?_, ?_, ?_, ?_, ?_, ?_, ?_, ?_, ?_, ?_, ?_, ?_, ?_, ?_⟩
  · first | (simp (disch := omega) only [wr_s, wr_n, upd_s, upd_n]; done) | (simp (disch := omega) only [wr_s, wr_n, upd_s, upd_n]; exact h0) | exact h0
  · first | (simp (disch := omega) only [wr_s, wr_n, upd_s, upd_n]; done) | (simp (disch := omega) only [wr_s, wr_n, upd_s, upd_n]; exact h3) | exact h3
  · first | (simp (disch := omega) only [wr_s, wr_n, upd_s, upd_n]; done) | (simp (disch := omega) only [wr_s, wr_n, upd_s, upd_n]; exact h4) | exact h4
  · first | (simp (disch := omega) only [wr_s, wr_n, upd_s, upd_n]; done) | (simp (disch := omega) only [wr_s, wr_n, upd_s, upd_n]; exact h5) | exact h5
  · first | (simp (disch := omega) only [wr_s, wr_n, upd_s, upd_n]; done) | (simp (disch := omega) only [wr_s, wr_n, upd_s, upd_n]; exact h6) | exact h6
  · intro q
    simp (disch := omega) only [wr_s, wr_n, upd_s, upd_n] at q ⊢
    exact hq q
  · intro q q2
    simp (disch := omega) only [wr_s, wr_n, upd_s, upd_n] at q q2 ⊢
    exact hs q q2
  · first | (simp (disch := omega) only [wr_s, wr_n, upd_s, upd_n]; done) | (simp (disch := omega) only [wr_s, wr_n, upd_s, upd_n]; exact h10) | exact h10
  · first | (simp (disch := omega) only [wr_s, wr_n, upd_s, upd_n]; done) | (simp (disch := omega) only [wr_s, wr_n, upd_s, upd_n]; exact h11) | exact h11
  · first | (simp (disch := omega) only [wr_s, wr_n, upd_s, upd_n]; done) | (simp (disch := omega) only [wr_s, wr_n, upd_s, upd_n]; exact h12) | exact h12
  · first | (simp (disch := omega) only [wr_s, wr_n, upd_s, upd_n]; done) | (simp (disch := omega) only [wr_s, wr_n, upd_s, upd_n]; exact h13) | exact h13
  · first | (simp (disch := omega) only [wr_s, wr_n, upd_s, upd_n]; done) | (simp (disch := omega) only [wr_s, wr_n, upd_s, upd_n]; exact h14) | exact h14
  · first | (simp (disch := omega) only [wr_s, wr_n, upd_s, upd_n]; done) | (simp (disch := omega) only [wr_s, wr_n, upd_s, upd_n]; exact hl) | exact hl
  · intro r hr
    first | exact hN r hr | (simp (disch := omega) only [wr_s, wr_n, upd_s, upd_n]; exact hN r hr)
  · intro r hr
    first | exact hX r hr | (simp (disch := omega) only [wr_s, wr_n, upd_s, upd_n]; exact hX r hr)
  · intro r hr
    first | exact hT r hr | (simp (disch := omega) only [wr_s, wr_n, upd_s, upd_n]; exact hT r hr)
  · first | (simp (disch := omega) only [wr_s, wr_n, upd_s, upd_n]; done) | (simp (disch := omega) only [wr_s, wr_n, upd_s, upd_n]; exact hk) | exact hk
  · intro r hr
    first | exact hL r hr | (simp (disch := omega) only [wr_s, wr_n, upd_s, upd_n]; exact hL r hr)
theorem SU.lost {μ : Mm} {a i n : Nat} {f : Nat → Int32} (h : SU μ a i n f) (x : Int32) : SU (wr μ a 12 x) a i n (upd f 20 x) := by
  obtain ⟨h0, h3, h4, h5, h6, hq, hs, h10, h11, h12, h13, h14, hl, hN, hX, hT, hk, hL⟩ := h
  refine ⟨?_, ?_, ?_, ?_, ?_, ?_, ?_, ?_, ?_, ?_, ?_, ?_, ?_, ?_, ?_, ?_, ?_, ?_⟩
  · first | (simp (disch := omega) only [wr_s, wr_n, upd_s, upd_n]; done) | (simp (disch := omega) only [wr_s, wr_n, upd_s, upd_n]; exact h0) | exact h0
  · first | (simp (disch := omega) only [wr_s, wr_n, upd_s, upd_n]; done) | (simp (disch := omega) only [wr_s, wr_n, upd_s, upd_n]; exact h3) | exact h3
  · first | (simp (disch := omega) only [wr_s, wr_n, upd_s, upd_n]; done) | (simp (disch := omega) only [wr_s, wr_n, upd_s, upd_n]; exact h4) | exact h4
  · first | (simp (disch := omega) only [wr_s, wr_n, upd_s, upd_n]; done) | (simp (disch := omega) only [wr_s, wr_n, upd_s, upd_n]; exact h5) | exact h5
  · first | (simp (disch := omega) only [wr_s, wr_n, upd_s, upd_n]; done) | (simp (disch := omega) only [wr_s, wr_n, upd_s, upd_n]; exact h6) | exact h6
  · intro q
    simp (disch := omega) only [wr_s, wr_n, upd_s, upd_n] at q ⊢
    exact hq q
  · intro q q2
    simp (disch := omega) only [wr_s, wr_n, upd_s, upd_n] at q q2 ⊢
    exact hs q q2
  · first | (simp (disch := omega) only [wr_s, wr_n, upd_s, upd_n]; done) | (simp (disch := omega) only [wr_s, wr_n, upd_s, upd_n]; exact h10) | exact h10
  · first | (simp (disch := omega) only [wr_s, wr_n, upd_s, upd_n]; done) | (simp (disch := omega) only [wr_s, wr_n, upd_s, upd_n]; exact h11) | exact h11
  · first | (simp (disch := omega) only [wr_s, wr_n, upd_s, upd_n]; done) | (simp (disch := omega) only [wr_s, wr_n, upd_s, upd_n]; exact h12) | exact h12
  · first | (simp (disch := omega) only [wr_s, wr_n, upd_s, upd_n]; done) | (simp (disch := omega) only [wr_s, wr_n, upd_s, upd_n]; exact h13) | exact h13
  · first | (simp (disch := omega) only [wr_s, wr_n, upd_s, upd_n]; done) | (simp (disch := omega) only [wr_s, wr_n, upd_s, upd_n]; exact h14) | exact h14
  · first | (simp (disch := omega) only [wr_s, wr_n, upd_s, upd_n]; done) | (simp (disch := omega) only [wr_s, wr_n, upd_s, upd_n]; exact hl) | exact hl
  · intro r hr
    first | exact hN r hr | (simp (disch := omega) only [wr_s, wr_n, upd_s, upd_n]; exact hN r hr)
  · intro r hr
    first | exact hX r hr | (simp (disch := omega) only [wr_s, wr_n, upd_s, upd_n]; exact hX r hr)
  · intro r hr
    first | exact hT r hr | (simp (disch := omega) only [wr_s, wr_n, upd_s, upd_n]; exact hT r hr)
  · first | (simp (disch := omega) only [wr_s, wr_n, upd_s, upd_n]; done) | (simp (disch := omega) only [wr_s, wr_n, upd_s, upd_n]; exact hk) | exact hk
  · intro r hr
    first | exact hL r hr | (simp (disch := omega) only [wr_s, wr_n, upd_s, upd_n]; exact hL r hr)
theorem SU.got {μ : Mm} {a i n : Nat} {f : Nat → Int32} (h : SU μ a i n f) (x : Int32) : SU (wr μ a 13 x) a i n (upd f 21 x) := by
  obtain ⟨h0, h3, h4, h5, h6, hq, hs, h10, h11, h12, h13, h14, hl, hN, hX, hT, hk, hL⟩ := h
  refine ⟨?_, ?_, ?_, ?_, ?_, ?_, ?_, ?_, ?_, ?_, ?_, ?_, ?_, ?_, ?_, ?_, ?_, ?_⟩
  · first | (simp (disch := omega) only [wr_s, wr_n, upd_s, upd_n]; done) | (simp (disch := omega) only [wr_s, wr_n, upd_s, upd_n]; exact h0) | exact h0
  · first | (simp (disch := omega) only [wr_s, wr_n, upd_s, upd_n]; done) | (simp (disch := omega) only [wr_s, wr_n, upd_s, upd_n]; exact h3) | exact h3
  · first | (simp (disch := omega) only [wr_s, wr_n, upd_s, upd_n]; done) | (simp (disch := omega) only [wr_s, wr_n, upd_s, upd_n]; exact h4) | exact h4
  · first | (simp (disch := omega) only [wr_s, wr_n, upd_s, upd_n]; done) | (simp (disch := omega) only [wr_s, wr_n, upd_s, upd_n]; exact h5) | exact h5
  · first | (simp (disch := omega) only [wr_s, wr_n, upd_s, upd_n]; done) | (simp (disch := omega) only [wr_s, wr_n, upd_s, upd_n]; exact h6) | exact h6
  · intro q
    simp (disch := omega) only [wr_s, wr_n, upd_s, upd_n] at q ⊢
    exact hq q
  · intro q q2
    simp (disch := omega) only [wr_s, wr_n, upd_s, upd_n] at q q2 ⊢
    exact hs q q2
  · first | (simp (disch := omega) only [wr_s, wr_n, upd_s, upd_n]; done) | (simp (disch := omega) only [wr_s, wr_n, upd_s, upd_n]; exact h10) | exact h10
  · first | (simp (disch := omega) only [wr_s, wr_n, upd_s, upd_n]; done) | (simp (disch := omega) only [wr_s, wr_n, upd_s, upd_n]; exact h11) | exact h11
  · first | (simp (disch := omega) only [wr_s, wr_n, upd_s, upd_n]; done) | (simp (disch := omega) only [wr_s, wr_n, upd_s, upd_n]; exact h12) | exact h12
  · first | (simp (disch := omega) only [wr_s, wr_n, upd_s, upd_n]; done) | (simp (disch := omega) only [wr_s, wr_n, upd_s, upd_n]; exact h13) | exact h13
  · first | (simp (disch := omega) only [wr_s, wr_n, upd_s, upd_n]; done) | (simp (disch := omega) only [wr_s, wr_n, upd_s, upd_n]; exact h14) | exact h14
  · first | (simp (disch := omega) only [wr_s, wr_n, upd_s, upd_n]; done) | (simp (disch := omega) only [wr_s, wr_n, upd_s, upd_n]; exact hl) | exact hl
  · intro r hr
    first | exact hN r hr | (simp (disch := omega) only [wr_s, wr_n, upd_s, upd_n]; exact hN r hr)
  · intro r hr
    first | exact hX r hr | (simp (disch := omega) only [wr_s, wr_n, upd_s, upd_n]; exact hX r hr)
  · intro r hr
    first | exact hT r hr | (simp (disch := omega) only [wr_s, wr_n, upd_s, upd_n]; exact hT r hr)
  · first | (simp (disch := omega) only [wr_s, wr_n, upd_s, upd_n]; done) | (simp (disch := omega) only [wr_s, wr_n, upd_s, upd_n]; exact hk) | exact hk
  · intro r hr
    first | exact hL r hr | (simp (disch := omega) only [wr_s, wr_n, upd_s, upd_n]; exact hL r hr)
theorem SU.gave {μ : Mm} {a i n : Nat} {f : Nat → Int32} (h : SU μ a i n f) (x : Int32) : SU (wr μ a 14 x) a i n (upd f 22 x) := by
  obtain ⟨h0, h3, h4, h5, h6, hq, hs, h10, h11, h12, h13, h14, hl, hN, hX, hT, hk, hL⟩ := h
  refine ⟨?_, ?_, ?_, ?_, ?_, ?_, ?_, ?_, ?_, ?_, ?_, ?_, ?_, ?_, ?_, ?_, ?_, ?_⟩
  · first | (simp (disch := omega) only [wr_s, wr_n, upd_s, upd_n]; done) | (simp (disch := omega) only [wr_s, wr_n, upd_s, upd_n]; exact h0) | exact h0
  · first | (simp (disch := omega) only [wr_s, wr_n, upd_s, upd_n]; done) | (simp (disch := omega) only [wr_s, wr_n, upd_s, upd_n]; exact h3) | exact h3
  · first | (simp (disch := omega) only [wr_s, wr_n, upd_s, upd_n]; done) | (simp (disch := omega) only [wr_s, wr_n, upd_s, upd_n]; exact h4) | exact h4
  · first | (simp (disch := omega) only [wr_s, wr_n, upd_s, upd_n]; done) | (simp (disch := omega) only [wr_s, wr_n, upd_s, upd_n]; exact h5) | exact h5
  · first | (simp (disch := omega) only [wr_s, wr_n, upd_s, upd_n]; done) | (simp (disch := omega) only [wr_s, wr_n, upd_s, upd_n]; exact h6) | exact h6
  · intro q
    simp (disch := omega) only [wr_s, wr_n, upd_s, upd_n] at q ⊢
    exact hq q
  · intro q q2
    simp (disch := omega) only [wr_s, wr_n, upd_s, upd_n] at q q2 ⊢
    exact hs q q2
  · first | (simp (disch := omega) only [wr_s, wr_n, upd_s, upd_n]; done) | (simp (disch := omega) only [wr_s, wr_n, upd_s, upd_n]; exact h10) | exact h10
  · first | (simp (disch := omega) only [wr_s, wr_n, upd_s, upd_n]; done) | (simp (disch := omega) only [wr_s, wr_n, upd_s, upd_n]; exact h11) | exact h11
  · first | (simp (disch := omega) only [wr_s, wr_n, upd_s, upd_n]; done) | (simp (disch := omega) only [wr_s, wr_n, upd_s, upd_n]; exact h12) | exact h12
  · first | (simp (disch := omega) only [wr_s, wr_n, upd_s, upd_n]; done) | (simp (disch := omega) only [wr_s, wr_n, upd_s, upd_n]; exact h13) | exact h13
  · first | (simp (disch := omega) only [wr_s, wr_n, upd_s, upd_n]; done) | (simp (disch := omega) only [wr_s, wr_n, upd_s, upd_n]; exact h14) | exact h14
  · first | (simp (disch := omega) only [wr_s, wr_n, upd_s, upd_n]; done) | (simp (disch := omega) only [wr_s, wr_n, upd_s, upd_n]; exact hl) | exact hl
  · intro r hr
    first | exact hN r hr | (simp (disch := omega) only [wr_s, wr_n, upd_s, upd_n]; exact hN r hr)
  · intro r hr
    first | exact hX r hr | (simp (disch := omega) only [wr_s, wr_n, upd_s, upd_n]; exact hX r hr)
  · intro r hr
    first | exact hT r hr | (simp (disch := omega) only [wr_s, wr_n, upd_s, upd_n]; exact hT r hr)
  · first | (simp (disch := omega) only [wr_s, wr_n, upd_s, upd_n]; done) | (simp (disch := omega) only [wr_s, wr_n, upd_s, upd_n]; exact hk) | exact hk
  · intro r hr
    first | exact hL r hr | (simp (disch := omega) only [wr_s, wr_n, upd_s, upd_n]; exact hL r hr)
theorem SU.sil {μ : Mm} {a i n : Nat} {f : Nat → Int32} (h : SU μ a i n f) : SU (silF μ a) a i n (qtF f) := by
  obtain ⟨h0, h3, h4, h5, h6, hq, hs, h10, h11, h12, h13, h14, hl, hN, hX, hT, hk, hL⟩ := h
  refine ⟨?_, ?_, ?_, ?_, ?_, ?_, ?_, ?_, ?_, ?_, ?_, ?_, ?_, ?_, ?_, ?_, ?_, ?_⟩
  · first | (simp (disch := omega) only [silF, qtF, wr_s, wr_n, upd_s, upd_n]; done) | (simp (disch := omega) only [silF, qtF, wr_s, wr_n, upd_s, upd_n]; exact h0) | exact h0
  · first | (simp (disch := omega) only [silF, qtF, wr_s, wr_n, upd_s, upd_n]; done) | (simp (disch := omega) only [silF, qtF, wr_s, wr_n, upd_s, upd_n]; exact h3) | exact h3
  · first | (simp (disch := omega) only [silF, qtF, wr_s, wr_n, upd_s, upd_n]; done) | (simp (disch := omega) only [silF, qtF, wr_s, wr_n, upd_s, upd_n]; exact h4) | exact h4
  · first | (simp (disch := omega) only [silF, qtF, wr_s, wr_n, upd_s, upd_n]; done) | (simp (disch := omega) only [silF, qtF, wr_s, wr_n, upd_s, upd_n]; exact h5) | exact h5
  · first | (simp (disch := omega) only [silF, qtF, wr_s, wr_n, upd_s, upd_n]; done) | (simp (disch := omega) only [silF, qtF, wr_s, wr_n, upd_s, upd_n]; exact h6) | exact h6
  · intro q
    simp (disch := omega) only [silF, wr_s, wr_n, upd_s, upd_n]
    exact ⟨trivial, trivial, trivial⟩
  · intro q q2
    exact absurd (by simp (disch := omega) only [qtF, upd_s, upd_n]) q2
  · first | (simp (disch := omega) only [silF, qtF, wr_s, wr_n, upd_s, upd_n]; done) | (simp (disch := omega) only [silF, qtF, wr_s, wr_n, upd_s, upd_n]; exact h10) | exact h10
  · first | (simp (disch := omega) only [silF, qtF, wr_s, wr_n, upd_s, upd_n]; done) | (simp (disch := omega) only [silF, qtF, wr_s, wr_n, upd_s, upd_n]; exact h11) | exact h11
  · first | (simp (disch := omega) only [silF, qtF, wr_s, wr_n, upd_s, upd_n]; done) | (simp (disch := omega) only [silF, qtF, wr_s, wr_n, upd_s, upd_n]; exact h12) | exact h12
  · first | (simp (disch := omega) only [silF, qtF, wr_s, wr_n, upd_s, upd_n]; done) | (simp (disch := omega) only [silF, qtF, wr_s, wr_n, upd_s, upd_n]; exact h13) | exact h13
  · first | (simp (disch := omega) only [silF, qtF, wr_s, wr_n, upd_s, upd_n]; done) | (simp (disch := omega) only [silF, qtF, wr_s, wr_n, upd_s, upd_n]; exact h14) | exact h14
  · first | (simp (disch := omega) only [silF, qtF, wr_s, wr_n, upd_s, upd_n]; done) | (simp (disch := omega) only [silF, qtF, wr_s, wr_n, upd_s, upd_n]; exact hl) | exact hl
  · intro r hr
    first | exact hN r hr | (simp (disch := omega) only [silF, qtF, wr_s, wr_n, upd_s, upd_n]; exact hN r hr)
  · intro r hr
    first | exact hX r hr | (simp (disch := omega) only [silF, qtF, wr_s, wr_n, upd_s, upd_n]; exact hX r hr)
  · intro r hr
    first | exact hT r hr | (simp (disch := omega) only [silF, qtF, wr_s, wr_n, upd_s, upd_n]; exact hT r hr)
  · first | (simp (disch := omega) only [silF, qtF, wr_s, wr_n, upd_s, upd_n]; done) | (simp (disch := omega) only [silF, qtF, wr_s, wr_n, upd_s, upd_n]; exact hk) | exact hk
  · intro r hr
    first | exact hL r hr | (simp (disch := omega) only [silF, qtF, wr_s, wr_n, upd_s, upd_n]; exact hL r hr)
theorem SU.beg {μ : Mm} {a i n : Nat} {f : Nat → Int32} (h : SU μ a i n f) (hi : i < n) (z : Int32) : SU (begF μ a (f 6) (f 5) z) a i n (upd (upd f 17 (nI 0)) 18 z) := by
  obtain ⟨h0, h3, h4, h5, h6, hq, hs, h10, h11, h12, h13, h14, hl, hN, hX, hT, hk, hL⟩ := h
  refine ⟨?_, ?_, ?_, ?_, ?_, ?_, ?_, ?_, ?_, ?_, ?_, ?_, ?_, ?_, ?_, ?_, ?_, ?_⟩
  · first | (simp (disch := omega) only [begF, wr_s, wr_n, upd_s, upd_n]; done) | (simp (disch := omega) only [begF, wr_s, wr_n, upd_s, upd_n]; exact h0) | exact h0
  · first | (simp (disch := omega) only [begF, wr_s, wr_n, upd_s, upd_n]; done) | (simp (disch := omega) only [begF, wr_s, wr_n, upd_s, upd_n]; exact h3) | exact h3
  · first | (simp (disch := omega) only [begF, wr_s, wr_n, upd_s, upd_n]; done) | (simp (disch := omega) only [begF, wr_s, wr_n, upd_s, upd_n]; exact h4) | exact h4
  · first | (simp (disch := omega) only [begF, wr_s, wr_n, upd_s, upd_n]; done) | (simp (disch := omega) only [begF, wr_s, wr_n, upd_s, upd_n]; exact h5) | exact h5
  · first | (simp (disch := omega) only [begF, wr_s, wr_n, upd_s, upd_n]; done) | (simp (disch := omega) only [begF, wr_s, wr_n, upd_s, upd_n]; exact h6) | exact h6
  · intro q
    simp (disch := omega) only [upd_s, upd_n] at q
    rcases q with q | q
    · omega
    · exact absurd q (by decide)
  · intro q q2
    simp (disch := omega) only [begF, wr_s, wr_n, upd_s, upd_n, h0]
    exact ⟨trivial, trivial, trivial⟩
  · first | (simp (disch := omega) only [begF, wr_s, wr_n, upd_s, upd_n]; done) | (simp (disch := omega) only [begF, wr_s, wr_n, upd_s, upd_n]; exact h10) | exact h10
  · first | (simp (disch := omega) only [begF, wr_s, wr_n, upd_s, upd_n]; done) | (simp (disch := omega) only [begF, wr_s, wr_n, upd_s, upd_n]; exact h11) | exact h11
  · first | (simp (disch := omega) only [begF, wr_s, wr_n, upd_s, upd_n]; done) | (simp (disch := omega) only [begF, wr_s, wr_n, upd_s, upd_n]; exact h12) | exact h12
  · first | (simp (disch := omega) only [begF, wr_s, wr_n, upd_s, upd_n]; done) | (simp (disch := omega) only [begF, wr_s, wr_n, upd_s, upd_n]; exact h13) | exact h13
  · first | (simp (disch := omega) only [begF, wr_s, wr_n, upd_s, upd_n]; done) | (simp (disch := omega) only [begF, wr_s, wr_n, upd_s, upd_n]; exact h14) | exact h14
  · first | (simp (disch := omega) only [begF, wr_s, wr_n, upd_s, upd_n]; done) | (simp (disch := omega) only [begF, wr_s, wr_n, upd_s, upd_n]; exact hl) | exact hl
  · intro r hr
    first | exact hN r hr | (simp (disch := omega) only [begF, wr_s, wr_n, upd_s, upd_n]; exact hN r hr)
  · intro r hr
    first | exact hX r hr | (simp (disch := omega) only [begF, wr_s, wr_n, upd_s, upd_n]; exact hX r hr)
  · intro r hr
    first | exact hT r hr | (simp (disch := omega) only [begF, wr_s, wr_n, upd_s, upd_n]; exact hT r hr)
  · first | (simp (disch := omega) only [begF, wr_s, wr_n, upd_s, upd_n]; done) | (simp (disch := omega) only [begF, wr_s, wr_n, upd_s, upd_n]; exact hk) | exact hk
  · intro r hr
    first | exact hL r hr | (simp (disch := omega) only [begF, wr_s, wr_n, upd_s, upd_n]; exact hL r hr)
theorem SU.next {μ : Mm} {a i n : Nat} {f : Nat → Int32} (h : SU μ a i n f) (hi : i < n) (h7 : f 17 ≠ -6) (h8 : f 17 + nI 1 ≠ -6) : SU (wr μ a 7 (f 17 + nI 1)) a i n (upd f 17 (f 17 + nI 1)) := by
  obtain ⟨h0, h3, h4, h5, h6, hq, hs, h10, h11, h12, h13, h14, hl, hN, hX, hT, hk, hL⟩ := h
  refine ⟨?_, ?_, ?_, ?_, ?_, ?_, ?_, ?_, ?_, ?_, ?_, ?_, ?_, ?_, ?_, ?_, ?_, ?_⟩
  · first | (simp (disch := omega) only [wr_s, wr_n, upd_s, upd_n]; done) | (simp (disch := omega) only [wr_s, wr_n, upd_s, upd_n]; exact h0) | exact h0
  · first | (simp (disch := omega) only [wr_s, wr_n, upd_s, upd_n]; done) | (simp (disch := omega) only [wr_s, wr_n, upd_s, upd_n]; exact h3) | exact h3
  · first | (simp (disch := omega) only [wr_s, wr_n, upd_s, upd_n]; done) | (simp (disch := omega) only [wr_s, wr_n, upd_s, upd_n]; exact h4) | exact h4
  · first | (simp (disch := omega) only [wr_s, wr_n, upd_s, upd_n]; done) | (simp (disch := omega) only [wr_s, wr_n, upd_s, upd_n]; exact h5) | exact h5
  · first | (simp (disch := omega) only [wr_s, wr_n, upd_s, upd_n]; done) | (simp (disch := omega) only [wr_s, wr_n, upd_s, upd_n]; exact h6) | exact h6
  · intro q
    simp (disch := omega) only [upd_s] at q
    rcases q with q | q
    · omega
    · exact absurd q h8
  · intro q q2
    simp (disch := omega) only [wr_s, wr_n, upd_s, upd_n]
    exact ⟨trivial, (hs hi h7).2⟩
  · first | (simp (disch := omega) only [wr_s, wr_n, upd_s, upd_n]; done) | (simp (disch := omega) only [wr_s, wr_n, upd_s, upd_n]; exact h10) | exact h10
  · first | (simp (disch := omega) only [wr_s, wr_n, upd_s, upd_n]; done) | (simp (disch := omega) only [wr_s, wr_n, upd_s, upd_n]; exact h11) | exact h11
  · first | (simp (disch := omega) only [wr_s, wr_n, upd_s, upd_n]; done) | (simp (disch := omega) only [wr_s, wr_n, upd_s, upd_n]; exact h12) | exact h12
  · first | (simp (disch := omega) only [wr_s, wr_n, upd_s, upd_n]; done) | (simp (disch := omega) only [wr_s, wr_n, upd_s, upd_n]; exact h13) | exact h13
  · first | (simp (disch := omega) only [wr_s, wr_n, upd_s, upd_n]; done) | (simp (disch := omega) only [wr_s, wr_n, upd_s, upd_n]; exact h14) | exact h14
  · first | (simp (disch := omega) only [wr_s, wr_n, upd_s, upd_n]; done) | (simp (disch := omega) only [wr_s, wr_n, upd_s, upd_n]; exact hl) | exact hl
  · intro r hr
    first | exact hN r hr | (simp (disch := omega) only [wr_s, wr_n, upd_s, upd_n]; exact hN r hr)
  · intro r hr
    first | exact hX r hr | (simp (disch := omega) only [wr_s, wr_n, upd_s, upd_n]; exact hX r hr)
  · intro r hr
    first | exact hT r hr | (simp (disch := omega) only [wr_s, wr_n, upd_s, upd_n]; exact hT r hr)
  · first | (simp (disch := omega) only [wr_s, wr_n, upd_s, upd_n]; done) | (simp (disch := omega) only [wr_s, wr_n, upd_s, upd_n]; exact hk) | exact hk
  · intro r hr
    first | exact hL r hr | (simp (disch := omega) only [wr_s, wr_n, upd_s, upd_n]; exact hL r hr)
theorem SU.try {μ : Mm} {a i n : Nat} {f : Nat → Int32} (h : SU μ a i n f) : SU (tryF μ a) a i n (upd f 7 (f 7 + nI 1)) := by
  obtain ⟨h0, h3, h4, h5, h6, hq, hs, h10, h11, h12, h13, h14, hl, hN, hX, hT, hk, hL⟩ := h
  refine ⟨?_, ?_, ?_, ?_, ?_, ?_, ?_, ?_, ?_, ?_, ?_, ?_, ?_, ?_, ?_, ?_, ?_, ?_⟩
  · first | (simp (disch := omega) only [tryF, wr_s, wr_n, upd_s, upd_n]; done) | (simp (disch := omega) only [tryF, wr_s, wr_n, upd_s, upd_n]; exact h0) | exact h0
  · first | (simp (disch := omega) only [tryF, wr_s, wr_n, upd_s, upd_n]; done) | (simp (disch := omega) only [tryF, wr_s, wr_n, upd_s, upd_n]; exact h3) | exact h3
  · first | (simp (disch := omega) only [tryF, wr_s, wr_n, upd_s, upd_n]; done) | (simp (disch := omega) only [tryF, wr_s, wr_n, upd_s, upd_n]; exact h4) | exact h4
  · first | (simp (disch := omega) only [tryF, wr_s, wr_n, upd_s, upd_n]; done) | (simp (disch := omega) only [tryF, wr_s, wr_n, upd_s, upd_n]; exact h5) | exact h5
  · first | (simp (disch := omega) only [tryF, wr_s, wr_n, upd_s, upd_n]; done) | (simp (disch := omega) only [tryF, wr_s, wr_n, upd_s, upd_n]; exact h6) | exact h6
  · intro q
    simp (disch := omega) only [tryF, wr_s, wr_n, upd_s, upd_n] at q ⊢
    exact hq q
  · intro q q2
    simp (disch := omega) only [tryF, wr_s, wr_n, upd_s, upd_n] at q q2 ⊢
    exact hs q q2
  · first | (simp (disch := omega) only [tryF, wr_s, wr_n, upd_s, upd_n]; done) | (simp (disch := omega) only [tryF, wr_s, wr_n, upd_s, upd_n]; exact h10) | exact h10
  · first | (simp (disch := omega) only [tryF, wr_s, wr_n, upd_s, upd_n]; done) | (simp (disch := omega) only [tryF, wr_s, wr_n, upd_s, upd_n]; exact h11) | exact h11
  · first | (simp (disch := omega) only [tryF, wr_s, wr_n, upd_s, upd_n]; done) | (simp (disch := omega) only [tryF, wr_s, wr_n, upd_s, upd_n]; exact h12) | exact h12
  · first | (simp (disch := omega) only [tryF, wr_s, wr_n, upd_s, upd_n]; done) | (simp (disch := omega) only [tryF, wr_s, wr_n, upd_s, upd_n]; exact h13) | exact h13
  · first | (simp (disch := omega) only [tryF, wr_s, wr_n, upd_s, upd_n]; done) | (simp (disch := omega) only [tryF, wr_s, wr_n, upd_s, upd_n]; exact h14) | exact h14
  · first | (simp (disch := omega) only [tryF, wr_s, wr_n, upd_s, upd_n]; done) | (simp (disch := omega) only [tryF, wr_s, wr_n, upd_s, upd_n]; exact hl) | exact hl
  · intro r hr
    first | exact hN r hr | (simp (disch := omega) only [tryF, wr_s, wr_n, upd_s, upd_n]; exact hN r hr)
  · intro r hr
    first | exact hX r hr | (simp (disch := omega) only [tryF, wr_s, wr_n, upd_s, upd_n]; exact hX r hr)
  · intro r hr
    simp (disch := omega) only [tryF, wr_s, wr_n]
    by_cases e : r = 0
    · subst e
      rw [upd_s, hT 0 (by omega)]
      exact (upd_s _ _ _).symm
    · rw [upd_n _ _ e, upd_n _ _ (by omega)]
      exact hT r hr
  · first | (simp (disch := omega) only [tryF, wr_s, wr_n, upd_s, upd_n]; done) | (simp (disch := omega) only [tryF, wr_s, wr_n, upd_s, upd_n]; exact hk) | exact hk
  · intro r hr
    first | exact hL r hr | (simp (disch := omega) only [tryF, wr_s, wr_n, upd_s, upd_n]; exact hL r hr)
theorem SU.drop {μ : Mm} {a i n : Nat} {f : Nat → Int32} (h : SU μ a i n f) {w : Nat} (hw : f 4 = nI w) (hw4 : w ≤ 4) (h0w : 0 < w) (h17 : f 17 = -6) (h18 : f 18 = nI 0) : SU (dropF μ a w) a i n (lvF f) := by
  obtain ⟨h0, h3, h4, h5, h6, hq, hs, h10, h11, h12, h13, h14, hl, hN, hX, hT, hk, hL⟩ := h
  have hw0 : ¬ w = 0 := by omega
  have hnw : nwF f = w := nw_of hw hw4
  have e17 : lvF f 17 = -6 := by (unfold lvF qtF; rw [if_neg (by rw [hnw]; omega), upd_n _ _ (by omega), upd_n _ _ (by omega), upd_s])
  have e18 : lvF f 18 = nI 0 := by (unfold lvF qtF; rw [if_neg (by rw [hnw]; omega), upd_n _ _ (by omega), upd_s])
  have e4 : lvF f 4 = nI (w - 1) := by (unfold lvF; rw [if_neg (by rw [hnw]; omega), upd_s, hnw])
  refine ⟨?_, ?_, ?_, ?_, ?_, ?_, ?_, ?_, ?_, ?_, ?_, ?_, ?_, ?_, ?_, ?_, ?_, ?_⟩
  · simp (disch := omega) only [dropF, dropW, if_neg hw0, wr_s, wr_n, wC_self, wC_ne, upd_s, upd_n]
    exact h0
  · simp (disch := omega) only [dropF, dropW, if_neg hw0, wr_s, wr_n, wC_self, wC_ne, upd_s, upd_n]
    rw [lv_hi (by omega) (by rw [hnw]; exact hw4)]
    exact h3
  · simp (disch := omega) only [dropF, dropW, if_neg hw0, wr_s, wr_n, wC_self, wC_ne, upd_s, upd_n]
    rw [lv_hi (by omega) (by rw [hnw]; exact hw4)]
    exact h4
  · simp (disch := omega) only [dropF, dropW, if_neg hw0, wr_s, wr_n, wC_self, wC_ne, upd_s, upd_n]
    rw [lv_hi (by omega) (by rw [hnw]; exact hw4)]
    exact h5
  · simp (disch := omega) only [dropF, dropW, if_neg hw0, wr_s, wr_n, wC_self, wC_ne, upd_s, upd_n]
    rw [lv_hi (by omega) (by rw [hnw]; exact hw4)]
    exact h6
  · intro _
    simp (disch := omega) only [dropF, dropW, if_neg hw0, wr_s, wr_n, wC_self, wC_ne, upd_s, upd_n]
    exact hq (Or.inr h17)
  · intro _ q2
    exact absurd e17 q2
  · simp (disch := omega) only [dropF, dropW, if_neg hw0, wr_s, wr_n, wC_self, wC_ne, upd_s, upd_n]
    rw [e18]
    exact h10.trans h18
  · simp (disch := omega) only [dropF, dropW, if_neg hw0, wr_s, wr_n, wC_self, wC_ne, upd_s, upd_n]
    rw [lv_hi (by omega) (by rw [hnw]; exact hw4)]
    exact h11
  · simp (disch := omega) only [dropF, dropW, if_neg hw0, wr_s, wr_n, wC_self, wC_ne, upd_s, upd_n]
    rw [lv_hi (by omega) (by rw [hnw]; exact hw4)]
    exact h12
  · simp (disch := omega) only [dropF, dropW, if_neg hw0, wr_s, wr_n, wC_self, wC_ne, upd_s, upd_n]
    rw [lv_hi (by omega) (by rw [hnw]; exact hw4)]
    exact h13
  · simp (disch := omega) only [dropF, dropW, if_neg hw0, wr_s, wr_n, wC_self, wC_ne, upd_s, upd_n]
    rw [lv_hi (by omega) (by rw [hnw]; exact hw4)]
    exact h14
  · simp (disch := omega) only [dropF, dropW, if_neg hw0, wr_s, wr_n, wC_self, wC_ne, upd_s, upd_n]
    exact e4.symm
  · intro r hr
    simp (disch := omega) only [dropF, dropW, if_neg hw0, wr_n, wC_self, wC_ne]
    unfold shf lvF qtF
    by_cases e : r + 1 < w
    · rw [if_pos e, if_pos (by rw [hnw]; omega), hN (r + 1) (by omega), show 5 + 3 * r + 3 = 5 + 3 * (r + 1) by omega]
    · rw [if_neg e, if_neg (by rw [hnw]; omega), upd_n _ _ (by omega), upd_n _ _ (by omega), upd_n _ _ (by omega)]
      exact hN r hr
  · intro r hr
    simp (disch := omega) only [dropF, dropW, if_neg hw0, wr_n, wC_self, wC_ne]
    unfold shf lvF qtF
    by_cases e : r + 1 < w
    · rw [if_pos e, if_pos (by rw [hnw]; omega), hX (r + 1) (by omega), show 6 + 3 * r + 3 = 6 + 3 * (r + 1) by omega]
    · rw [if_neg e, if_neg (by rw [hnw]; omega), upd_n _ _ (by omega), upd_n _ _ (by omega), upd_n _ _ (by omega)]
      exact hX r hr
  · intro r hr
    simp (disch := omega) only [dropF, dropW, if_neg hw0, wr_n, wC_self, wC_ne]
    unfold shf lvF qtF
    by_cases e : r + 1 < w
    · rw [if_pos e, if_pos (by rw [hnw]; omega), hT (r + 1) (by omega), show 7 + 3 * r + 3 = 7 + 3 * (r + 1) by omega]
    · rw [if_neg e, if_neg (by rw [hnw]; omega), upd_n _ _ (by omega), upd_n _ _ (by omega), upd_n _ _ (by omega)]
      exact hT r hr
  · simp (disch := omega) only [dropF, dropW, if_neg hw0, wr_s, wr_n, wC_self, wC_ne, upd_s, upd_n]
    rw [lv_hi (by omega) (by rw [hnw]; exact hw4)]
    exact hk
  · intro r hr
    simp (disch := omega) only [dropF, dropW, if_neg hw0, wr_s, wr_n, wC_self, wC_ne, upd_s, upd_n]
    rw [lv_hi (by omega) (by rw [hnw]; exact hw4)]
    exact hL r hr
theorem SU.dropSil {μ : Mm} {a i n : Nat} {f : Nat → Int32} (h : SU μ a i n f) {w : Nat} (hw : f 4 = nI w) (hw4 : w ≤ 4) (h0w : 0 < w) : SU (silF (dropF μ a w) a) a i n (lvF f) := by
  obtain ⟨h0, h3, h4, h5, h6, hq, hs, h10, h11, h12, h13, h14, hl, hN, hX, hT, hk, hL⟩ := h
  have hw0 : ¬ w = 0 := by omega
  have hnw : nwF f = w := nw_of hw hw4
  have e17 : lvF f 17 = -6 := by (unfold lvF qtF; rw [if_neg (by rw [hnw]; omega), upd_n _ _ (by omega), upd_n _ _ (by omega), upd_s])
  have e18 : lvF f 18 = nI 0 := by (unfold lvF qtF; rw [if_neg (by rw [hnw]; omega), upd_n _ _ (by omega), upd_s])
  have e4 : lvF f 4 = nI (w - 1) := by (unfold lvF; rw [if_neg (by rw [hnw]; omega), upd_s, hnw])
  refine ⟨?_, ?_, ?_, ?_, ?_, ?_, ?_, ?_, ?_, ?_, ?_, ?_, ?_, ?_, ?_, ?_, ?_, ?_⟩
  · simp (disch := omega) only [silF, dropF, dropW, if_neg hw0, wr_s, wr_n, wC_self, wC_ne, upd_s, upd_n]
    exact h0
  · simp (disch := omega) only [silF, dropF, dropW, if_neg hw0, wr_s, wr_n, wC_self, wC_ne, upd_s, upd_n]
    rw [lv_hi (by omega) (by rw [hnw]; exact hw4)]
    exact h3
  · simp (disch := omega) only [silF, dropF, dropW, if_neg hw0, wr_s, wr_n, wC_self, wC_ne, upd_s, upd_n]
    rw [lv_hi (by omega) (by rw [hnw]; exact hw4)]
    exact h4
  · simp (disch := omega) only [silF, dropF, dropW, if_neg hw0, wr_s, wr_n, wC_self, wC_ne, upd_s, upd_n]
    rw [lv_hi (by omega) (by rw [hnw]; exact hw4)]
    exact h5
  · simp (disch := omega) only [silF, dropF, dropW, if_neg hw0, wr_s, wr_n, wC_self, wC_ne, upd_s, upd_n]
    rw [lv_hi (by omega) (by rw [hnw]; exact hw4)]
    exact h6
  · intro _
    simp (disch := omega) only [silF, dropF, dropW, if_neg hw0, wr_s, wr_n, wC_self, wC_ne, upd_s, upd_n]
    exact ⟨trivial, trivial, trivial⟩
  · intro _ q2
    exact absurd e17 q2
  · simp (disch := omega) only [silF, dropF, dropW, if_neg hw0, wr_s, wr_n, wC_self, wC_ne, upd_s, upd_n]
    exact e18.symm
  · simp (disch := omega) only [silF, dropF, dropW, if_neg hw0, wr_s, wr_n, wC_self, wC_ne, upd_s, upd_n]
    rw [lv_hi (by omega) (by rw [hnw]; exact hw4)]
    exact h11
  · simp (disch := omega) only [silF, dropF, dropW, if_neg hw0, wr_s, wr_n, wC_self, wC_ne, upd_s, upd_n]
    rw [lv_hi (by omega) (by rw [hnw]; exact hw4)]
    exact h12
  · simp (disch := omega) only [silF, dropF, dropW, if_neg hw0, wr_s, wr_n, wC_self, wC_ne, upd_s, upd_n]
    rw [lv_hi (by omega) (by rw [hnw]; exact hw4)]
    exact h13
  · simp (disch := omega) only [silF, dropF, dropW, if_neg hw0, wr_s, wr_n, wC_self, wC_ne, upd_s, upd_n]
    rw [lv_hi (by omega) (by rw [hnw]; exact hw4)]
    exact h14
  · simp (disch := omega) only [silF, dropF, dropW, if_neg hw0, wr_s, wr_n, wC_self, wC_ne, upd_s, upd_n]
    exact e4.symm
  · intro r hr
    simp (disch := omega) only [silF, dropF, dropW, if_neg hw0, wr_n, wC_self, wC_ne]
    unfold shf lvF qtF
    by_cases e : r + 1 < w
    · rw [if_pos e, if_pos (by rw [hnw]; omega), hN (r + 1) (by omega), show 5 + 3 * r + 3 = 5 + 3 * (r + 1) by omega]
    · rw [if_neg e, if_neg (by rw [hnw]; omega), upd_n _ _ (by omega), upd_n _ _ (by omega), upd_n _ _ (by omega)]
      exact hN r hr
  · intro r hr
    simp (disch := omega) only [silF, dropF, dropW, if_neg hw0, wr_n, wC_self, wC_ne]
    unfold shf lvF qtF
    by_cases e : r + 1 < w
    · rw [if_pos e, if_pos (by rw [hnw]; omega), hX (r + 1) (by omega), show 6 + 3 * r + 3 = 6 + 3 * (r + 1) by omega]
    · rw [if_neg e, if_neg (by rw [hnw]; omega), upd_n _ _ (by omega), upd_n _ _ (by omega), upd_n _ _ (by omega)]
      exact hX r hr
  · intro r hr
    simp (disch := omega) only [silF, dropF, dropW, if_neg hw0, wr_n, wC_self, wC_ne]
    unfold shf lvF qtF
    by_cases e : r + 1 < w
    · rw [if_pos e, if_pos (by rw [hnw]; omega), hT (r + 1) (by omega), show 7 + 3 * r + 3 = 7 + 3 * (r + 1) by omega]
    · rw [if_neg e, if_neg (by rw [hnw]; omega), upd_n _ _ (by omega), upd_n _ _ (by omega), upd_n _ _ (by omega)]
      exact hT r hr
  · simp (disch := omega) only [silF, dropF, dropW, if_neg hw0, wr_s, wr_n, wC_self, wC_ne, upd_s, upd_n]
    rw [lv_hi (by omega) (by rw [hnw]; exact hw4)]
    exact hk
  · intro r hr
    simp (disch := omega) only [silF, dropF, dropW, if_neg hw0, wr_s, wr_n, wC_self, wC_ne, upd_s, upd_n]
    rw [lv_hi (by omega) (by rw [hnw]; exact hw4)]
    exact hL r hr
/-- a word behind the others -/
def gtF (f : Nat → Int32) (w : Nat) (x y : Int32) : Nat → Int32 := upd (upd (upd (upd f (5 + 3 * w) x) (6 + 3 * w) y) (7 + 3 * w) (nI 0)) 4 (nI (w + 1))
theorem SU.add {μ : Mm} {a i n : Nat} {f : Nat → Int32} (h : SU μ a i n f) {w : Nat} (hw4 : w < 4) (x y : Int32) (hsp : f 17 ≠ -6 → 0 < w) : SU (addF μ a w x y) a i n (gtF f w x y) := by
  obtain ⟨h0, h3, h4, h5, h6, hq, hs, h10, h11, h12, h13, h14, hl, hN, hX, hT, hk, hL⟩ := h
  refine ⟨?_, ?_, ?_, ?_, ?_, ?_, ?_, ?_, ?_, ?_, ?_, ?_, ?_, ?_, ?_, ?_, ?_, ?_⟩
  · first | (simp (disch := omega) only [addF, gtF, wr_s, wr_n, upd_s, upd_n]; done) | (simp (disch := omega) only [addF, gtF, wr_s, wr_n, upd_s, upd_n]; exact h0) | exact h0
  · first | (simp (disch := omega) only [addF, gtF, wr_s, wr_n, upd_s, upd_n]; done) | (simp (disch := omega) only [addF, gtF, wr_s, wr_n, upd_s, upd_n]; exact h3) | exact h3
  · first | (simp (disch := omega) only [addF, gtF, wr_s, wr_n, upd_s, upd_n]; done) | (simp (disch := omega) only [addF, gtF, wr_s, wr_n, upd_s, upd_n]; exact h4) | exact h4
  · first | (simp (disch := omega) only [addF, gtF, wr_s, wr_n, upd_s, upd_n]; done) | (simp (disch := omega) only [addF, gtF, wr_s, wr_n, upd_s, upd_n]; exact h5) | exact h5
  · first | (simp (disch := omega) only [addF, gtF, wr_s, wr_n, upd_s, upd_n]; done) | (simp (disch := omega) only [addF, gtF, wr_s, wr_n, upd_s, upd_n]; exact h6) | exact h6
  · intro q
    simp (disch := omega) only [addF, gtF, wr_s, wr_n, upd_s, upd_n] at q ⊢
    exact hq q
  · intro q q2
    have q3 : f 17 ≠ -6 := by (simpa (disch := omega) only [gtF, upd_s, upd_n] using q2)
    have := hsp q3
    simp (disch := omega) only [addF, gtF, wr_s, wr_n, upd_s, upd_n]
    exact hs q q3
  · first | (simp (disch := omega) only [addF, gtF, wr_s, wr_n, upd_s, upd_n]; done) | (simp (disch := omega) only [addF, gtF, wr_s, wr_n, upd_s, upd_n]; exact h10) | exact h10
  · first | (simp (disch := omega) only [addF, gtF, wr_s, wr_n, upd_s, upd_n]; done) | (simp (disch := omega) only [addF, gtF, wr_s, wr_n, upd_s, upd_n]; exact h11) | exact h11
  · first | (simp (disch := omega) only [addF, gtF, wr_s, wr_n, upd_s, upd_n]; done) | (simp (disch := omega) only [addF, gtF, wr_s, wr_n, upd_s, upd_n]; exact h12) | exact h12
  · first | (simp (disch := omega) only [addF, gtF, wr_s, wr_n, upd_s, upd_n]; done) | (simp (disch := omega) only [addF, gtF, wr_s, wr_n, upd_s, upd_n]; exact h13) | exact h13
  · first | (simp (disch := omega) only [addF, gtF, wr_s, wr_n, upd_s, upd_n]; done) | (simp (disch := omega) only [addF, gtF, wr_s, wr_n, upd_s, upd_n]; exact h14) | exact h14
  · first | (simp (disch := omega) only [addF, gtF, wr_s, wr_n, upd_s, upd_n]; done) | (simp (disch := omega) only [addF, gtF, wr_s, wr_n, upd_s, upd_n]; exact hl) | exact hl
  · intro r hr
    unfold gtF
    by_cases e : r = w
    · subst e
      simp (disch := omega) only [addF, wr_s, wr_n, upd_s, upd_n]
    · simp (disch := omega) only [addF, wr_s, wr_n, upd_s, upd_n]
      exact hN r hr
  · intro r hr
    unfold gtF
    by_cases e : r = w
    · subst e
      simp (disch := omega) only [addF, wr_s, wr_n, upd_s, upd_n]
    · simp (disch := omega) only [addF, wr_s, wr_n, upd_s, upd_n]
      exact hX r hr
  · intro r hr
    unfold gtF
    by_cases e : r = w
    · subst e
      simp (disch := omega) only [addF, wr_s, wr_n, upd_s, upd_n]
    · simp (disch := omega) only [addF, wr_s, wr_n, upd_s, upd_n]
      exact hT r hr
  · first | (simp (disch := omega) only [addF, gtF, wr_s, wr_n, upd_s, upd_n]; done) | (simp (disch := omega) only [addF, gtF, wr_s, wr_n, upd_s, upd_n]; exact hk) | exact hk
  · intro r hr
    first | exact hL r hr | (simp (disch := omega) only [addF, gtF, wr_s, wr_n, upd_s, upd_n]; exact hL r hr)
theorem lt_he {f g : Nat → Int32} {x y z u : Int32} {k : Nat} (hk : f 23 = nI k) (h4 : k ≤ 4) (hz : ∀ j, 24 + 4 * k ≤ j → j < 40 → f j = nI 0) (hL : ∀ j, j < 16 → g j = f (24 + j)) : ∀ j, j < 16 → ltF g x y z u j = heF f x y z u (24 + j) := by
  intro j hj
  have ek : hkF f = if k < 4 then k + 1 else 4 := by (unfold hkF; rw [hk, nI_clamp (by omega)])
  unfold ltF heF
  by_cases e3 : j = 3
  · subst e3; rw [upd_s, upd_s]
  rw [upd_n _ _ e3, upd_n _ _ (show 24 + j ≠ 27 by omega)]
  by_cases e2 : j = 2
  · subst e2; rw [upd_s, upd_s]
  rw [upd_n _ _ e2, upd_n _ _ (show 24 + j ≠ 26 by omega)]
  by_cases e1 : j = 1
  · subst e1; rw [upd_s, upd_s]
  rw [upd_n _ _ e1, upd_n _ _ (show 24 + j ≠ 25 by omega)]
  by_cases e0 : j = 0
  · subst e0; rw [upd_s, upd_s]
  rw [upd_n _ _ e0, upd_n _ _ (show 24 + j ≠ 24 by omega)]
  have ev : va_cpy g g 0 4 12 j = g (j - 4) := by
    unfold va_cpy
    rw [if_pos (by omega)]
    congr 1
    omega
  rw [ev, hL _ (by omega)]
  unfold shL
  by_cases hh : 24 + j < 24 + 4 * hkF f
  · rw [if_pos ⟨by omega, hh⟩, upd_n _ _ (by omega), upd_n _ _ (by omega)]
    congr 1
    omega
  · rw [if_neg (by omega), upd_n _ _ (by omega), upd_n _ _ (by omega)]
    rw [ek] at hh
    rw [hz (24 + j) (by split at hh <;> omega) (by omega)]
    exact hz _ (by split at hh <;> omega) (by omega)
theorem SU.he {μ : Mm} {a i n : Nat} {f : Nat → Int32} (h : SU μ a i n f) {k : Nat} (hkn : f 23 = nI k) (h4k : k ≤ 4) (hz : ∀ j, 24 + 4 * k ≤ j → j < 40 → f j = nI 0) (x y z u : Int32) : SU (wr (ladF μ a k x y z u) a 13 (f 21 + nI 1)) a i n (heF f x y z u) := by
  obtain ⟨h0, h3, h4, h5, h6, hq, hs, h10, h11, h12, h13, h14, hl, hN, hX, hT, hk, hL⟩ := h
  refine ⟨?_, ?_, ?_, ?_, ?_, ?_, ?_, ?_, ?_, ?_, ?_, ?_, ?_, ?_, ?_, ?_, ?_, ?_⟩
  · simp (disch := omega) only [ladF, wr_s, wr_n, wC_self, wC_ne, upd_s, upd_n]
    exact h0
  · simp (disch := omega) only [ladF, wr_s, wr_n, wC_self, wC_ne, upd_s, upd_n]
    rw [he_lo (by omega)]
    exact h3
  · simp (disch := omega) only [ladF, wr_s, wr_n, wC_self, wC_ne, upd_s, upd_n]
    rw [he_lo (by omega)]
    exact h4
  · simp (disch := omega) only [ladF, wr_s, wr_n, wC_self, wC_ne, upd_s, upd_n]
    rw [he_lo (by omega)]
    exact h5
  · simp (disch := omega) only [ladF, wr_s, wr_n, wC_self, wC_ne, upd_s, upd_n]
    rw [he_lo (by omega)]
    exact h6
  · intro q
    simp (disch := omega) only [ladF, wr_s, wr_n, wC_self, wC_ne, upd_s, upd_n]
    rw [he_lo (by omega)] at q
    exact hq q
  · intro q q2
    simp (disch := omega) only [ladF, wr_s, wr_n, wC_self, wC_ne, upd_s, upd_n]
    rw [he_lo (by omega)] at q2 ⊢
    rw [he_lo (by omega), he_lo (by omega)]
    exact hs q q2
  · simp (disch := omega) only [ladF, wr_s, wr_n, wC_self, wC_ne, upd_s, upd_n]
    rw [he_lo (by omega)]
    exact h10
  · simp (disch := omega) only [ladF, wr_s, wr_n, wC_self, wC_ne, upd_s, upd_n]
    rw [he_lo (by omega)]
    exact h11
  · simp (disch := omega) only [ladF, wr_s, wr_n, wC_self, wC_ne, upd_s, upd_n]
    rw [he_lo (by omega)]
    exact h12
  · simp (disch := omega) only [ladF, wr_s, wr_n, wC_self, wC_ne, upd_s, upd_n]
    unfold heF shL
    rw [upd_n _ _ (by omega), upd_n _ _ (by omega), upd_n _ _ (by omega), upd_n _ _ (by omega), if_neg (by omega), upd_n _ _ (by omega), upd_s]
  · simp (disch := omega) only [ladF, wr_s, wr_n, wC_self, wC_ne, upd_s, upd_n]
    unfold heF shL
    rw [upd_n _ _ (by omega), upd_n _ _ (by omega), upd_n _ _ (by omega), upd_n _ _ (by omega), if_neg (by omega), upd_n _ _ (by omega), upd_n _ _ (by omega)]
    exact h14
  · simp (disch := omega) only [ladF, wr_s, wr_n, wC_self, wC_ne, upd_s, upd_n]
    rw [he_lo (by omega)]
    exact hl
  · intro r hr
    simp (disch := omega) only [ladF, wr_s, wr_n, wC_self, wC_ne, upd_s, upd_n]
    rw [he_lo (by omega)]
    exact hN r hr
  · intro r hr
    simp (disch := omega) only [ladF, wr_s, wr_n, wC_self, wC_ne, upd_s, upd_n]
    rw [he_lo (by omega)]
    exact hX r hr
  · intro r hr
    simp (disch := omega) only [ladF, wr_s, wr_n, wC_self, wC_ne, upd_s, upd_n]
    rw [he_lo (by omega)]
    exact hT r hr
  · have ek : hkF f = if k < 4 then k + 1 else 4 := by (unfold hkF; rw [hkn, nI_clamp (by omega)])
    simp (disch := omega) only [ladF, wr_s, wr_n, wC_self, wC_ne, upd_s, upd_n]
    rw [← ek]
    unfold heF shL
    rw [upd_n _ _ (by omega), upd_n _ _ (by omega), upd_n _ _ (by omega), upd_n _ _ (by omega), if_neg (by omega), upd_s]
  · simp (disch := omega) only [ladF, wr_s, wr_n, wC_self, wC_ne, upd_s, upd_n]
    exact lt_he hkn h4k hz hL
def cmF (x c : Int32) : Nat → Int32 := upd (upd (upd (fun _ => nI 0) 0 x) 1 c) 17 (-6)
theorem SU.come {μ : Mm} {a i n : Nat} {f : Nat → Int32} (h : SU μ a i n f) (hi : i = n) (hz : ∀ k, k < 40 → f k = nI 0) (x c : Int32) : SU (wr (wr μ a 3 x) a 4 c) a i (n + 1) (cmF x c) := by
  obtain ⟨h0, h3, h4, h5, h6, hq, hs, h10, h11, h12, h13, h14, hl, hN, hX, hT, hk, hL⟩ := h
  refine ⟨?_, ?_, ?_, ?_, ?_, ?_, ?_, ?_, ?_, ?_, ?_, ?_, ?_, ?_, ?_, ?_, ?_, ?_⟩
  · simp (disch := omega) only [wr_s, wr_n, upd_s, upd_n]
    exact h0
  · simp (disch := omega) only [cmF, wr_s, wr_n, upd_s, upd_n]
  · simp (disch := omega) only [cmF, wr_s, wr_n, upd_s, upd_n]
  · simp (disch := omega) only [cmF, wr_s, wr_n, upd_s, upd_n]
    exact h5.trans (hz _ (by omega))
  · simp (disch := omega) only [cmF, wr_s, wr_n, upd_s, upd_n]
    exact h6.trans (hz _ (by omega))
  · intro _
    simp (disch := omega) only [wr_s, wr_n, upd_s, upd_n]
    exact hq (Or.inl (by omega))
  · intro _ q2
    exact absurd (upd_s _ _ _) q2
  · simp (disch := omega) only [cmF, wr_s, wr_n, upd_s, upd_n]
    exact h10.trans (hz _ (by omega))
  · simp (disch := omega) only [cmF, wr_s, wr_n, upd_s, upd_n]
    exact h11.trans (hz _ (by omega))
  · simp (disch := omega) only [cmF, wr_s, wr_n, upd_s, upd_n]
    exact h12.trans (hz _ (by omega))
  · simp (disch := omega) only [cmF, wr_s, wr_n, upd_s, upd_n]
    exact h13.trans (hz _ (by omega))
  · simp (disch := omega) only [cmF, wr_s, wr_n, upd_s, upd_n]
    exact h14.trans (hz _ (by omega))
  · simp (disch := omega) only [cmF, wr_s, wr_n, upd_s, upd_n]
    exact hl.trans (hz _ (by omega))
  · intro r hr
    simp (disch := omega) only [cmF, wr_s, wr_n, upd_s, upd_n]
    exact (hN r hr).trans (hz _ (by omega))
  · intro r hr
    simp (disch := omega) only [cmF, wr_s, wr_n, upd_s, upd_n]
    exact (hX r hr).trans (hz _ (by omega))
  · intro r hr
    simp (disch := omega) only [cmF, wr_s, wr_n, upd_s, upd_n]
    exact (hT r hr).trans (hz _ (by omega))
  · simp (disch := omega) only [cmF, wr_s, wr_n, upd_s, upd_n]
    exact hk.trans (hz _ (by omega))
  · intro r hr
    simp (disch := omega) only [cmF, wr_s, wr_n, upd_s, upd_n]
    exact (hL r hr).trans (hz _ (by omega))
theorem st_ne {b i j k : Nat} (h : i ≠ j) (hk : k < 7) : st b j + k < st b i ∨ st b i + 7 ≤ st b j + k := by
  unfold st
  rcases Nat.lt_or_gt_of_ne h with h | h <;> omega
theorem st_in {b i : Nat} (h : i < 8) : b + 6 ≤ st b i ∧ st b i + 7 ≤ b + 62 := by
  unfold st
  omega
theorem GU.cong {μ μ' : Mm} {b : Nat} {B : Bs} (h : GU μ b B) (e : ∀ k, k < 5 → μ' (b + k) = μ (b + k)) : GU μ' b B := by
  have e0 : μ' b = μ b := e 0 (by omega)
  unfold GU at h ⊢
  rw [e0, e 1 (by omega), e 2 (by omega), e 3 (by omega), e 4 (by omega)]
  exact h
/-- one station changed -/
theorem BU.oneSt {μ0 μ μ' : Mm} {b i : Nat} {B : Bs} {f : Nat → Int32} (h : BU μ0 b B μ) (hi : i < 8) (hf : ∀ a, (a < st b i ∨ st b i + 7 ≤ a) → μ' a = μ a) (hs : SU μ' (st b i) i (nS B) f) : BU μ0 b (setS B i f) μ' := by
  have h6 := st_in (b := b) hi
  refine ⟨fun a ha => (hf a (by omega)).trans (h.1 a ha), ?_, fun j hj => ?_⟩
  · have g : GU μ' b B := h.2.1.cong fun k hk => hf _ (by omega)
    exact g
  · by_cases e : j = i
    · subst e
      rw [bS_setS_s]
      exact hs
    · rw [bS_setS_n _ _ e]
      exact (h.2.2 j hj).cong fun k hk => hf _ (st_ne (Ne.symm e) hk)
/-- one of the others changed -/
theorem BU.gl {μ0 μ μ' : Mm} {b : Nat} {B B' : Bs} (h : BU μ0 b B μ) (hf : ∀ a, (a < b ∨ b + 5 ≤ a) → μ' a = μ a) (hg : GU μ' b B') (hS : bS B' = bS B) (hn : nS B' = nS B) : BU μ0 b B' μ' := by
  refine ⟨fun a ha => (hf a (by omega)).trans (h.1 a (by omega)), hg, fun j hj => ?_⟩
  have h6 := st_in (b := b) hj
  rw [hS, hn]
  exact (h.2.2 j hj).cong fun k hk => hf _ (by omega)
theorem wr_fr {μ : Mm} {a k : Nat} {x : Int32} {p q : Nat} (hp : p ≤ a) (hq : a < q) : ∀ c, (c < p ∨ q ≤ c) → wr μ a k x c = μ c := fun c hc => wr_n _ _ _ (by omega)
theorem BU.self {μ0 μ : Mm} {b : Nat} {B : Bs} (h : BU μ0 b B μ) : BU μ b B μ := ⟨fun _ _ => rfl, h.2⟩
theorem BU.at {μ0 μ μ' : Mm} {b : Nat} {B : Bs} (h : BU μ0 b B μ) (e : ∀ a, b ≤ a → a < b + 62 → μ' a = μ a) : BU μ' b B μ' :=
  ⟨fun _ _ => rfl, h.2.1.cong fun k hk => e _ (by omega) (by omega), fun i hi => (h.2.2 i hi).cong fun k hk => by have := st_in (b := b) hi; exact e _ (by omega) (by omega)⟩
theorem BU.fr {μ0 μ : Mm} {b : Nat} {B : Bs} (h : BU μ0 b B μ) {a : Nat} (ha : a < b ∨ b + 62 ≤ a) : μ a = μ0 a := h.1 a ha
theorem BU.tr {μ0 μ1 μ : Mm} {b : Nat} {B B' : Bs} (h : BU μ0 b B μ1) (k : BU μ1 b B' μ) : BU μ0 b B' μ := ⟨fun a ha => (k.1 a ha).trans (h.1 a ha), k.2⟩
theorem BU.wires {μ0 μ : Mm} {b i : Nat} {B : Bs} (h : BU μ0 b B μ) (hi : i < 8) (x : Int32) : BU μ0 b (setS B i (upd (bS B i) 0 x)) (wr μ (st b i) 3 x) := h.oneSt hi (wr_fr (Nat.le_refl _) (by omega)) ((h.2.2 i hi).wires x)
theorem BU.charge {μ0 μ : Mm} {b i : Nat} {B : Bs} (h : BU μ0 b B μ) (hi : i < 8) (x : Int32) : BU μ0 b (setS B i (upd (bS B i) 1 x)) (wr μ (st b i) 4 x) := h.oneSt hi (wr_fr (Nat.le_refl _) (by omega)) ((h.2.2 i hi).charge x)
theorem BU.asleep {μ0 μ : Mm} {b i : Nat} {B : Bs} (h : BU μ0 b B μ) (hi : i < 8) (x : Int32) : BU μ0 b (setS B i (upd (bS B i) 2 x)) (wr μ (st b i) 5 x) := h.oneSt hi (wr_fr (Nat.le_refl _) (by omega)) ((h.2.2 i hi).asleep x)
theorem BU.dozing {μ0 μ : Mm} {b i : Nat} {B : Bs} (h : BU μ0 b B μ) (hi : i < 8) (x : Int32) : BU μ0 b (setS B i (upd (bS B i) 3 x)) (wr μ (st b i) 6 x) := h.oneSt hi (wr_fr (Nat.le_refl _) (by omega)) ((h.2.2 i hi).dozing x)
theorem BU.ears {μ0 μ : Mm} {b i : Nat} {B : Bs} (h : BU μ0 b B μ) (hi : i < 8) (x : Int32) : BU μ0 b (setS B i (upd (bS B i) 18 x)) (wr μ (st b i) 10 x) := h.oneSt hi (wr_fr (Nat.le_refl _) (by omega)) ((h.2.2 i hi).ears x)
theorem BU.good {μ0 μ : Mm} {b i : Nat} {B : Bs} (h : BU μ0 b B μ) (hi : i < 8) (x : Int32) : BU μ0 b (setS B i (upd (bS B i) 19 x)) (wr μ (st b i) 11 x) := h.oneSt hi (wr_fr (Nat.le_refl _) (by omega)) ((h.2.2 i hi).good x)
theorem BU.lost {μ0 μ : Mm} {b i : Nat} {B : Bs} (h : BU μ0 b B μ) (hi : i < 8) (x : Int32) : BU μ0 b (setS B i (upd (bS B i) 20 x)) (wr μ (st b i) 12 x) := h.oneSt hi (wr_fr (Nat.le_refl _) (by omega)) ((h.2.2 i hi).lost x)
theorem BU.got {μ0 μ : Mm} {b i : Nat} {B : Bs} (h : BU μ0 b B μ) (hi : i < 8) (x : Int32) : BU μ0 b (setS B i (upd (bS B i) 21 x)) (wr μ (st b i) 13 x) := h.oneSt hi (wr_fr (Nat.le_refl _) (by omega)) ((h.2.2 i hi).got x)
theorem BU.gave {μ0 μ : Mm} {b i : Nat} {B : Bs} (h : BU μ0 b B μ) (hi : i < 8) (x : Int32) : BU μ0 b (setS B i (upd (bS B i) 22 x)) (wr μ (st b i) 14 x) := h.oneSt hi (wr_fr (Nat.le_refl _) (by omega)) ((h.2.2 i hi).gave x)
theorem BU.sil {μ0 μ : Mm} {b i : Nat} {B : Bs} (h : BU μ0 b B μ) (hi : i < 8)  : BU μ0 b (setS B i (qtF (bS B i))) (silF μ (st b i)) := h.oneSt hi (fun c hc => by simp (disch := omega) only [silF, wr_n]) ((h.2.2 i hi).sil )
theorem BU.beg {μ0 μ : Mm} {b i : Nat} {B : Bs} (h : BU μ0 b B μ) (hi : i < 8) (hn : i < nS B) (z : Int32) : BU μ0 b (setS B i (upd (upd (bS B i) 17 (nI 0)) 18 z)) (begF μ (st b i) (bS B i 6) (bS B i 5) z) := h.oneSt hi (fun c hc => by simp (disch := omega) only [begF, wr_n]) ((h.2.2 i hi).beg hn z)
theorem BU.next {μ0 μ : Mm} {b i : Nat} {B : Bs} (h : BU μ0 b B μ) (hi : i < 8) (hn : i < nS B) (h7 : bS B i 17 ≠ -6) (h8 : bS B i 17 + nI 1 ≠ -6) : BU μ0 b (setS B i (upd (bS B i) 17 (bS B i 17 + nI 1))) (wr μ (st b i) 7 (bS B i 17 + nI 1)) := h.oneSt hi (fun c hc => by simp (disch := omega) only [wr_n]) ((h.2.2 i hi).next hn h7 h8)
theorem BU.try {μ0 μ : Mm} {b i : Nat} {B : Bs} (h : BU μ0 b B μ) (hi : i < 8)  : BU μ0 b (setS B i (upd (bS B i) 7 (bS B i 7 + nI 1))) (tryF μ (st b i)) := h.oneSt hi (fun c hc => by simp (disch := omega) only [tryF, wr_n]) ((h.2.2 i hi).try )
theorem BU.drop {μ0 μ : Mm} {b i : Nat} {B : Bs} (h : BU μ0 b B μ) (hi : i < 8) {w : Nat} (hw : bS B i 4 = nI w) (hw4 : w ≤ 4) (h0w : 0 < w) (h17 : bS B i 17 = -6) (h18 : bS B i 18 = nI 0) : BU μ0 b (setS B i (lvF (bS B i))) (dropF μ (st b i) w) := h.oneSt hi (fun c hc => by simp (disch := omega) only [dropF, dropW, if_neg (show ¬ w = 0 by omega), wr_n, wC_ne]) ((h.2.2 i hi).drop hw hw4 h0w h17 h18)
theorem BU.dropSil {μ0 μ : Mm} {b i : Nat} {B : Bs} (h : BU μ0 b B μ) (hi : i < 8) {w : Nat} (hw : bS B i 4 = nI w) (hw4 : w ≤ 4) (h0w : 0 < w) : BU μ0 b (setS B i (lvF (bS B i))) (silF (dropF μ (st b i) w) (st b i)) := h.oneSt hi (fun c hc => by simp (disch := omega) only [silF, dropF, dropW, if_neg (show ¬ w = 0 by omega), wr_n, wC_ne]) ((h.2.2 i hi).dropSil hw hw4 h0w)
theorem BU.add {μ0 μ : Mm} {b i : Nat} {B : Bs} (h : BU μ0 b B μ) (hi : i < 8) {w : Nat} (hw4 : w < 4) (x y : Int32) (hsp : bS B i 17 ≠ -6 → 0 < w) : BU μ0 b (setS B i (gtF (bS B i) w x y)) (addF μ (st b i) w x y) := h.oneSt hi (fun c hc => by simp (disch := omega) only [addF, wr_n]) ((h.2.2 i hi).add hw4 x y hsp)
theorem BU.he {μ0 μ : Mm} {b i : Nat} {B : Bs} (h : BU μ0 b B μ) (hi : i < 8) {k : Nat} (hkn : bS B i 23 = nI k) (h4k : k ≤ 4) (hz : ∀ j, 24 + 4 * k ≤ j → j < 40 → bS B i j = nI 0) (x y z u : Int32) : BU μ0 b (setS B i (heF (bS B i) x y z u)) (wr (ladF μ (st b i) k x y z u) (st b i) 13 (bS B i 21 + nI 1)) := h.oneSt hi (fun c hc => by simp (disch := omega) only [ladF, wr_n, wC_ne]) ((h.2.2 i hi).he hkn h4k hz x y z u)
theorem BU.set {μ0 μ : Mm} {b k : Nat} {B : Bs} (h : BU μ0 b B μ) (hk : k < 5) (x : Int32) : BU μ0 b (setG B k x) (wr μ (b + 1) k x) := by
  obtain ⟨g1, g2, g3, g4, g5⟩ := h.2.1
  refine h.gl (wr_fr (by omega) (by omega)) ⟨fun j hj => ?_, fun v hv => ?_, ?_, ?_, ?_⟩ rfl (nS_setG _ _ (by omega))
  · rw [wr_s, bG_setG]
    by_cases e : j = k
    · subst e
      rw [upd_s, upd_s]
    · rw [upd_n _ _ e, upd_n _ _ e]
      exact g1 j hj
  · simp (disch := omega) only [wr_n]
    exact g2 v hv
  · rw [wr_n _ _ _ (by omega), bG_setG, upd_n _ _ (by omega)]
    exact g3
  · rw [wr_n _ _ _ (by omega)]
    exact g4
  · rw [wr_n _ _ _ (by omega), bG_setG, upd_n _ _ (by omega)]
    exact g5
theorem BU.beats {μ0 μ : Mm} {b : Nat} {B : Bs} (h : BU μ0 b B μ) (x : Int32) : BU μ0 b (setG B 5 x) (wr μ b 7 x) := by
  obtain ⟨g1, g2, g3, g4, g5⟩ := h.2.1
  refine h.gl (wr_fr (by omega) (by omega)) ⟨fun j hj => ?_, fun v hv => ?_, ?_, ?_, ?_⟩ rfl (nS_setG _ _ (by omega))
  · rw [wr_n _ _ _ (by omega), bG_setG, upd_n _ _ (by omega)]
    exact g1 j hj
  · simp (disch := omega) only [wr_n]
    exact g2 v hv
  · rw [wr_s, upd_n _ _ (by omega), bG_setG, upd_n _ _ (by omega)]
    exact g3
  · rw [wr_s, upd_n _ _ (by omega)]
    exact g4
  · rw [wr_s, upd_s, bG_setG, upd_s]
theorem BU.fault {μ0 μ : Mm} {b w : Nat} {B : Bs} {x y : Int32} (h : BU μ0 b B μ) (e : y = msk (fun v => bW (setW B w 1 x) v 1 = nI 1) 6) : BU μ0 b (setW B w 1 x) (wr μ b 6 y) := by
  obtain ⟨g1, g2, g3, g4, g5⟩ := h.2.1
  refine h.gl (wr_fr (by omega) (by omega)) ⟨fun j hj => ?_, fun v hv => ?_, ?_, ?_, ?_⟩ rfl rfl
  · rw [wr_n _ _ _ (by omega)]
    exact g1 j hj
  · simp (disch := omega) only [wr_n]
    by_cases hv2 : v = w
    · subst hv2
      rw [bW_setW_s, upd_n _ _ (by omega), upd_n _ _ (by omega), upd_n _ _ (by omega)]
      exact g2 v hv
    · rw [bW_setW_n _ _ _ hv2]
      exact g2 v hv
  · rw [wr_s, upd_n _ _ (by omega)]
    exact g3
  · rw [wr_s, upd_s]
    exact e
  · rw [wr_s, upd_n _ _ (by omega)]
    exact g5
theorem BU.high {μ0 μ : Mm} {b w : Nat} {B : Bs} (h : BU μ0 b B μ) (x : Int32) : BU μ0 b (setW B w 0 x) (wr μ (b + 2) w x) := by
  obtain ⟨g1, g2, g3, g4, g5⟩ := h.2.1
  refine h.gl (wr_fr (by omega) (by omega)) ⟨fun j hj => ?_, fun v hv => ?_, ?_, ?_, ?_⟩ rfl rfl
  · rw [wr_n _ _ _ (by omega)]
    exact g1 j hj
  · by_cases hv2 : v = w
    · subst hv2
      simp (disch := omega) only [wr_s, wr_n, bW_setW_s, upd_s, upd_n]
      have := g2 v hv
      simp only [this, and_self, true_and, and_true]
    · rw [bW_setW_n _ _ _ hv2]
      simp (disch := omega) only [wr_s, wr_n, upd_n]
      exact g2 v hv
  · rw [wr_n _ _ _ (by omega)]
    exact g3
  · rw [wr_n _ _ _ (by omega), g4]
    refine msk_cong fun v _ => ?_
    by_cases hv2 : v = w
    · subst hv2
      rw [bW_setW_s, upd_n _ _ (by omega)]
    · rw [bW_setW_n _ _ _ hv2]
  · rw [wr_n _ _ _ (by omega)]
    exact g5
theorem BU.heardOn {μ0 μ : Mm} {b w : Nat} {B : Bs} (h : BU μ0 b B μ) (x : Int32) : BU μ0 b (setW B w 2 x) (wr μ (b + 3) w x) := by
  obtain ⟨g1, g2, g3, g4, g5⟩ := h.2.1
  refine h.gl (wr_fr (by omega) (by omega)) ⟨fun j hj => ?_, fun v hv => ?_, ?_, ?_, ?_⟩ rfl rfl
  · rw [wr_n _ _ _ (by omega)]
    exact g1 j hj
  · by_cases hv2 : v = w
    · subst hv2
      simp (disch := omega) only [wr_s, wr_n, bW_setW_s, upd_s, upd_n]
      have := g2 v hv
      simp only [this, and_self, true_and, and_true]
    · rw [bW_setW_n _ _ _ hv2]
      simp (disch := omega) only [wr_s, wr_n, upd_n]
      exact g2 v hv
  · rw [wr_n _ _ _ (by omega)]
    exact g3
  · rw [wr_n _ _ _ (by omega), g4]
    refine msk_cong fun v _ => ?_
    by_cases hv2 : v = w
    · subst hv2
      rw [bW_setW_s, upd_n _ _ (by omega)]
    · rw [bW_setW_n _ _ _ hv2]
  · rw [wr_n _ _ _ (by omega)]
    exact g5
theorem BU.lostOn {μ0 μ : Mm} {b w : Nat} {B : Bs} (h : BU μ0 b B μ) (x : Int32) : BU μ0 b (setW B w 3 x) (wr μ (b + 4) w x) := by
  obtain ⟨g1, g2, g3, g4, g5⟩ := h.2.1
  refine h.gl (wr_fr (by omega) (by omega)) ⟨fun j hj => ?_, fun v hv => ?_, ?_, ?_, ?_⟩ rfl rfl
  · rw [wr_n _ _ _ (by omega)]
    exact g1 j hj
  · by_cases hv2 : v = w
    · subst hv2
      simp (disch := omega) only [wr_s, wr_n, bW_setW_s, upd_s, upd_n]
      have := g2 v hv
      simp only [this, and_self, true_and, and_true]
    · rw [bW_setW_n _ _ _ hv2]
      simp (disch := omega) only [wr_s, wr_n, upd_n]
      exact g2 v hv
  · rw [wr_n _ _ _ (by omega)]
    exact g3
  · rw [wr_n _ _ _ (by omega), g4]
    refine msk_cong fun v _ => ?_
    by_cases hv2 : v = w
    · subst hv2
      rw [bW_setW_s, upd_n _ _ (by omega)]
    · rw [bW_setW_n _ _ _ hv2]
  · rw [wr_n _ _ _ (by omega)]
    exact g5
/-- one comes -/
noncomputable def cmB (B : Bs) (x : Int32) : Bs := setG (setS B (nS B) (cmF x (bG B 1))) 6 (nI (nS B + 1))
theorem nS_cm {B : Bs} {x : Int32} (h : nS B < 8) : nS (cmB B x) = nS B + 1 := by
  show (upd (bG B) 6 (nI (nS B + 1)) 6).toNatClampNeg = _
  rw [upd_s, nI_clamp (by omega)]
theorem BU.come {μ0 μ : Mm} {b : Nat} {B : Bs} {x : Int32} (h : BU μ0 b B μ) (hn : nS B < 8) (hz : ∀ k, k < 40 → bS B (nS B) k = nI 0) : BU μ0 b (cmB B x) (wr (wr (wr μ (st b (nS B)) 3 x) (st b (nS B)) 4 (bG B 1)) b 5 (nI (nS B + 1))) := by
  obtain ⟨g1, g2, g3, g4, g5⟩ := h.2.1
  have h6 := st_in (b := b) hn
  have hc := (h.2.2 (nS B) hn).come rfl hz x (bG B 1)
  have en := nS_cm (B := B) (x := x) hn
  refine ⟨fun a ha => ?_, ⟨fun j hj => ?_, fun v hv => ?_, ?_, ?_, ?_⟩, fun j hj => ?_⟩
  · simp (disch := omega) only [wr_n]
    exact h.1 a ha
  · simp (disch := omega) only [wr_n]
    exact (g1 j hj).trans (upd_n (bG B) (nI (nS B + 1)) (show j ≠ 6 by omega)).symm
  · simp (disch := omega) only [wr_n]
    exact g2 v hv
  · rw [wr_s, upd_s]
    exact (upd_s (bG B) 6 _).symm
  · rw [wr_s, upd_n _ _ (by omega)]
    simp (disch := omega) only [wr_n]
    exact g4
  · rw [wr_s, upd_n _ _ (by omega)]
    simp (disch := omega) only [wr_n]
    exact g5.trans (upd_n (bG B) (nI (nS B + 1)) (show 5 ≠ 6 by omega)).symm
  · rw [en]
    by_cases e : j = nS B
    · subst e
      show SU _ _ _ _ (bS (setS B (nS B) (cmF x (bG B 1))) (nS B))
      rw [bS_setS_s]
      exact hc.cong fun k hk => wr_n _ _ _ (by omega)
    · show SU _ _ _ _ (bS (setS B (nS B) (cmF x (bG B 1))) j)
      rw [bS_setS_n _ _ e]
      have hj6 := st_in (b := b) hj
      refine ((h.2.2 j hj).nn (by omega)).cong fun k hk => ?_
      have := st_ne (b := b) (Ne.symm e) hk
      simp (disch := omega) only [wr_n]

