/-! The class: copies -/
theorem cpy_in {f g : Nat → Int32} {l j : Nat} (h : j < l) : va_cpy f g 0 0 l j = f j := sb_cpy0 h
/-- a station's numbers at c are at a too, but for its name -/
def SE (μ : Mm) (c : Nat) (μ' : Mm) (a : Nat) : Prop := μ' a 0 = μ a 0 ∧ (∀ k, 3 ≤ k → k < 15 → μ' a k = μ c k) ∧ μ' (a + 1) 3 = μ (c + 1) 3 ∧ (∀ r, r < 4 → μ' (a + 2) r = μ (c + 2) r) ∧ (∀ r, r < 4 → μ' (a + 3) r = μ (c + 3) r) ∧ (∀ r, r < 4 → μ' (a + 4) r = μ (c + 4) r) ∧ μ' (a + 5) 1 = μ (c + 5) 1 ∧ ∀ k, k < 16 → μ' (a + 6) k = μ (c + 6) k
theorem SE.su {μ μ' : Mm} {c a i n : Nat} {f : Nat → Int32} (h : SE μ c μ' a) (hs : SU μ c i n f) (h0 : μ a 0 = nI i) : SU μ' a i n f := by
  obtain ⟨e0, e1, e2, e3, e4, e5, e6, e7⟩ := h
  obtain ⟨-, s3, s4, s5, s6, sq, sp, s10, s11, s12, s13, s14, sl, sN, sX, sT, sk, sL⟩ := hs
  have e := fun k (h3 : 3 ≤ k) (h15 : k < 15) => e1 k h3 h15
  refine ⟨e0.trans h0, (e 3 (by omega) (by omega)).trans s3, (e 4 (by omega) (by omega)).trans s4, (e 5 (by omega) (by omega)).trans s5, (e 6 (by omega) (by omega)).trans s6, ?_, ?_, (e 10 (by omega) (by omega)).trans s10, (e 11 (by omega) (by omega)).trans s11, (e 12 (by omega) (by omega)).trans s12, (e 13 (by omega) (by omega)).trans s13, (e 14 (by omega) (by omega)).trans s14, e2.trans sl, fun r hr => (e3 r hr).trans (sN r hr), fun r hr => (e4 r hr).trans (sX r hr), fun r hr => (e5 r hr).trans (sT r hr), e6.trans sk, fun k hk => (e7 k hk).trans (sL k hk)⟩
  · rw [e 7 (by omega) (by omega), e 8 (by omega) (by omega), e 9 (by omega) (by omega)]
    exact sq
  · rw [e 7 (by omega) (by omega), e 8 (by omega) (by omega), e 9 (by omega) (by omega)]
    exact sp
set_option maxRecDepth 100000 in
set_option maxHeartbeats 4000000 in
theorem c_copyNumbers {X : Cx} {σ : Sp} {μ : Mm} {Q : Sp → Mm → Prop} {a0 a l : Nat} (h0 : ShA σ a0 11 l) (h1 : ShA σ a 11 l) (hl : l < 2 ^ 31) (q : Q σ (wC μ a (va_cpy (μ a0) (μ a) 0 0 l))) : CTv X mX7_copyNumbers [.ref a0, .ref a] σ μ Q := by
  refine CT.of (by decide +kernel) (Nat.le_of_ble_eq_true rfl) ?_
  show PW X mX7_copyNumbers 0 0 0 [some (.ref a0), some (.ref a)] [] σ μ (LV Q)
  refine pw_aload_0 dX7_copyNumbers_0 ?_
  refine pw_iconst (v := nI 0) dX7_copyNumbers_1 (by decide) ?_
  refine pw_aload_1 dX7_copyNumbers_2 ?_
  refine pw_iconst (v := nI 0) dX7_copyNumbers_3 (by decide) ?_
  refine pw_aload_0 dX7_copyNumbers_4 ?_
  refine pw_alenI dX7_copyNumbers_5 h0.1 ?_
  refine pw_top (show _ = nI l by rw [h0.2]; rfl) ?_
  refine pw_aload_1 dX7_copyNumbers_6 ?_
  refine pw_alenI dX7_copyNumbers_7 h1.1 ?_
  refine pw_top (show _ = nI l by rw [h1.2]; rfl) ?_
  refine pw_min dX7_copyNumbers_8 kX7_243 tm_mins tm_i tm_minc (by decide) (Nat.le_of_ble_eq_true rfl) ?_
  refine pw_top (show _ = nI l by split <;> rfl) ?_
  refine pw_acopy dX7_copyNumbers_11 kX7_248 ts_n ts_s ts_i h0.1 h1.1 (by decide) (by decide) (nI_pos hl) (by rw [h0.2, nI_clamp (by decide), nI_clamp hl]; omega) (by rw [h1.2, nI_clamp (by decide), nI_clamp hl]; omega) (by decide) (Nat.le_of_ble_eq_true rfl) ?_
  refine pw_return dX7_copyNumbers_14 rfl ?_
  refine Eq.mp (congrArg (fun m => Q σ m) ?_) q
  simp (disch := omega) only [nI_clamp]
def cpR (μ : Mm) (c a : Nat) : Mm := wr (wC (wC (wC μ (a + 2) (va_cpy (μ (c + 2)) (μ (a + 2)) 0 0 4)) (a + 3) (va_cpy (μ (c + 3)) (μ (a + 3)) 0 0 4)) (a + 4) (va_cpy (μ (c + 4)) (μ (a + 4)) 0 0 4)) (a + 1) 3 (μ (c + 1) 3)
def cpL (μ : Mm) (c a : Nat) : Mm := wr (wC μ (a + 6) (va_cpy (μ (c + 6)) (μ (a + 6)) 0 0 16)) (a + 5) 1 (μ (c + 5) 1)
set_option maxRecDepth 100000 in
set_option maxHeartbeats 4000000 in
theorem c_X5_copyFrom {X : Cx} {σ : Sp} {μ : Mm} {Q : Sp → Mm → Prop} {a c : Nat} (h : ShSt σ a) (h2 : ShSt σ c) (hd : c + 7 ≤ a ∨ a + 7 ≤ c) (q : Q σ (cpR μ c a)) : CTv X mX5_copyFrom [.ref (a + 1), .ref (c + 1)] σ μ Q := by
  refine CT.of (by decide +kernel) (Nat.le_of_ble_eq_true rfl) ?_
  show PW X mX5_copyFrom 0 0 0 [some (.ref (a + 1)), some (.ref (c + 1))] [] σ μ (LV Q)
  refine pw_aload_1 dX5_copyFrom_0 ?_
  refine pw_getr 5 0 dX5_copyFrom_1 fX5_9 rfl (by decide) rfl h2.w h2.w0 ?_
  refine pw_aload_0 dX5_copyFrom_4 ?_
  refine pw_getr 5 0 dX5_copyFrom_5 fX5_9 rfl (by decide) rfl h.w h.w0 ?_
  refine pw_cSN2v dX5_copyFrom_8 kX5_21 vX7_copyNumbers sX7_copyNumbers ⟨by decide, by decide⟩ ⟨rfl, rfl⟩ (Nat.le_of_ble_eq_true rfl) (c_copyNumbers (l := 4) h2.n h.n (by decide) ?_)
  refine pw_aload_1 dX5_copyFrom_11 ?_
  refine pw_getr 5 1 dX5_copyFrom_12 fX5_15 rfl (by decide) rfl h2.w h2.w1 ?_
  refine pw_aload_0 dX5_copyFrom_15 ?_
  refine pw_getr 5 1 dX5_copyFrom_16 fX5_15 rfl (by decide) rfl h.w h.w1 ?_
  refine pw_cSN2v dX5_copyFrom_19 kX5_21 vX7_copyNumbers sX7_copyNumbers ⟨by decide, by decide⟩ ⟨rfl, rfl⟩ (Nat.le_of_ble_eq_true rfl) (c_copyNumbers (l := 4) h2.x h.x (by decide) ?_)
  refine pw_aload_1 dX5_copyFrom_22 ?_
  refine pw_getr 5 2 dX5_copyFrom_23 fX5_18 rfl (by decide) rfl h2.w h2.w2 ?_
  refine pw_aload_0 dX5_copyFrom_26 ?_
  refine pw_getr 5 2 dX5_copyFrom_27 fX5_18 rfl (by decide) rfl h.w h.w2 ?_
  refine pw_cSN2v dX5_copyFrom_30 kX5_21 vX7_copyNumbers sX7_copyNumbers ⟨by decide, by decide⟩ ⟨rfl, rfl⟩ (Nat.le_of_ble_eq_true rfl) (c_copyNumbers (l := 4) h2.y h.y (by decide) ?_)
  refine pw_aload_0 dX5_copyFrom_33 ?_
  refine pw_aload_1 dX5_copyFrom_34 ?_
  refine pw_getI 5 3 dX5_copyFrom_35 fX5_25 rfl (by decide) rfl h2.w ?_
  refine pw_putI 5 3 dX5_copyFrom_38 fX5_25 rfl (by decide) rfl (Or.inl rfl) rfl (by decide) h.w ?_
  refine pw_return dX5_copyFrom_41 rfl ?_
  refine Eq.mp (congrArg (fun m => Q σ m) ?_) q
  unfold cpR
  simp (disch := omega) only [wC_ne]
set_option maxRecDepth 100000 in
set_option maxHeartbeats 4000000 in
theorem c_X2_copyFrom {X : Cx} {σ : Sp} {μ : Mm} {Q : Sp → Mm → Prop} {a c : Nat} (h : ShSt σ a) (h2 : ShSt σ c) (hd : c + 7 ≤ a ∨ a + 7 ≤ c) (q : Q σ (cpL μ c a)) : CTv X mX2_copyFrom [.ref (a + 5), .ref (c + 5)] σ μ Q := by
  refine CT.of (by decide +kernel) (Nat.le_of_ble_eq_true rfl) ?_
  show PW X mX2_copyFrom 0 0 0 [some (.ref (a + 5)), some (.ref (c + 5))] [] σ μ (LV Q)
  refine pw_aload_1 dX2_copyFrom_0 ?_
  refine pw_getr 2 0 dX2_copyFrom_1 fX2_9 rfl (by decide) rfl h2.l h2.l0 ?_
  refine pw_aload_0 dX2_copyFrom_4 ?_
  refine pw_getr 2 0 dX2_copyFrom_5 fX2_9 rfl (by decide) rfl h.l h.l0 ?_
  refine pw_cSN2v dX2_copyFrom_8 kX2_15 vX7_copyNumbers sX7_copyNumbers ⟨by decide, by decide⟩ ⟨rfl, rfl⟩ (Nat.le_of_ble_eq_true rfl) (c_copyNumbers (l := 16) h2.f h.f (by decide) ?_)
  refine pw_aload_0 dX2_copyFrom_11 ?_
  refine pw_aload_1 dX2_copyFrom_12 ?_
  refine pw_getI 2 1 dX2_copyFrom_13 fX2_19 rfl (by decide) rfl h2.l ?_
  refine pw_putI 2 1 dX2_copyFrom_16 fX2_19 rfl (by decide) rfl (Or.inl rfl) rfl (by decide) h.l ?_
  refine pw_return dX2_copyFrom_19 rfl ?_
  refine Eq.mp (congrArg (fun m => Q σ m) ?_) q
  unfold cpL
  simp (disch := omega) only [wC_ne]
set_option maxRecDepth 100000 in
set_option maxHeartbeats 4000000 in
theorem c_X6_copyFrom {X : Cx} {σ : Sp} {μ : Mm} {Q : Sp → Mm → Prop} {a c : Nat} (h : ShSt σ a) (h2 : ShSt σ c) (hd : c + 7 ≤ a ∨ a + 7 ≤ c) (z5 : μ c 5 = 0 ∨ μ c 5 = 1) (z6 : μ c 6 = 0 ∨ μ c 6 = 1) (q : ∀ μ', (∀ d, (d < a ∨ a + 7 ≤ d) → μ' d = μ d) → SE μ c μ' a → Q σ μ') : CTv X mX6_copyFrom [.ref a, .ref c] σ μ Q := by
  refine CT.of (by decide +kernel) (Nat.le_of_ble_eq_true rfl) ?_
  show PW X mX6_copyFrom 0 0 0 [some (.ref a), some (.ref c)] [] σ μ (LV Q)
  refine pw_aload_0 dX6_copyFrom_0 ?_
  refine pw_getr 6 1 dX6_copyFrom_1 fX6_12 rfl (by decide) rfl h.t h.r1 ?_
  refine pw_aload_1 dX6_copyFrom_4 ?_
  refine pw_getr 6 1 dX6_copyFrom_5 fX6_12 rfl (by decide) rfl h2.t h2.r1 ?_
  refine pw_cV1v 5 dX6_copyFrom_8 kX6_32 vX5_copyFrom iX5_copyFrom ⟨by decide, by decide⟩ ⟨rfl, rfl⟩ (by decide) rfl (Nat.le_of_ble_eq_true rfl) h.w (c_X5_copyFrom h h2 hd ?_)
  refine pw_aload_0 dX6_copyFrom_11 ?_
  refine pw_getr 6 2 dX6_copyFrom_12 fX6_21 rfl (by decide) rfl h.t h.r2 ?_
  refine pw_aload_1 dX6_copyFrom_15 ?_
  refine pw_getr 6 2 dX6_copyFrom_16 fX6_21 rfl (by decide) rfl h2.t h2.r2 ?_
  refine pw_cV1v 2 dX6_copyFrom_19 kX6_36 vX2_copyFrom iX2_copyFrom ⟨by decide, by decide⟩ ⟨rfl, rfl⟩ (by decide) rfl (Nat.le_of_ble_eq_true rfl) h.l (c_X2_copyFrom h h2 hd ?_)
  refine pw_aload_0 dX6_copyFrom_22 ?_
  refine pw_aload_1 dX6_copyFrom_23 ?_
  refine pw_getI 6 3 dX6_copyFrom_24 fX6_39 rfl (by decide) rfl h2.t ?_
  refine pw_putI 6 3 dX6_copyFrom_27 fX6_39 rfl (by decide) rfl (Or.inl rfl) rfl (by decide) h.t ?_
  refine pw_aload_0 dX6_copyFrom_30 ?_
  refine pw_aload_1 dX6_copyFrom_31 ?_
  refine pw_getI 6 4 dX6_copyFrom_32 fX6_42 rfl (by decide) rfl h2.t ?_
  refine pw_putI 6 4 dX6_copyFrom_35 fX6_42 rfl (by decide) rfl (Or.inl rfl) rfl (by decide) h.t ?_
  refine pw_aload_0 dX6_copyFrom_38 ?_
  refine pw_aload_1 dX6_copyFrom_39 ?_
  refine pw_getI 6 5 dX6_copyFrom_40 fX6_45 rfl (by decide) rfl h2.t ?_
  refine pw_putZ 6 5 dX6_copyFrom_43 fX6_45 rfl (by decide) rfl (Or.inl rfl) rfl (by simp (disch := omega) only [cpL, cpR, wr_s, wr_n, wC_self, wC_ne, upd_s, upd_n]; exact z5) h.t ?_
  refine pw_aload_0 dX6_copyFrom_46 ?_
  refine pw_aload_1 dX6_copyFrom_47 ?_
  refine pw_getI 6 6 dX6_copyFrom_48 fX6_49 rfl (by decide) rfl h2.t ?_
  refine pw_putZ 6 6 dX6_copyFrom_51 fX6_49 rfl (by decide) rfl (Or.inl rfl) rfl (by simp (disch := omega) only [cpL, cpR, wr_s, wr_n, wC_self, wC_ne, upd_s, upd_n]; exact z6) h.t ?_
  refine pw_aload_0 dX6_copyFrom_54 ?_
  refine pw_aload_1 dX6_copyFrom_55 ?_
  refine pw_getI 6 7 dX6_copyFrom_56 fX6_25 rfl (by decide) rfl h2.t ?_
  refine pw_putI 6 7 dX6_copyFrom_59 fX6_25 rfl (by decide) rfl (Or.inl rfl) rfl (by decide) h.t ?_
  refine pw_aload_0 dX6_copyFrom_62 ?_
  refine pw_aload_1 dX6_copyFrom_63 ?_
  refine pw_getI 6 8 dX6_copyFrom_64 fX6_52 rfl (by decide) rfl h2.t ?_
  refine pw_putI 6 8 dX6_copyFrom_67 fX6_52 rfl (by decide) rfl (Or.inl rfl) rfl (by decide) h.t ?_
  refine pw_aload_0 dX6_copyFrom_70 ?_
  refine pw_aload_1 dX6_copyFrom_71 ?_
  refine pw_getI 6 9 dX6_copyFrom_72 fX6_55 rfl (by decide) rfl h2.t ?_
  refine pw_putI 6 9 dX6_copyFrom_75 fX6_55 rfl (by decide) rfl (Or.inl rfl) rfl (by decide) h.t ?_
  refine pw_aload_0 dX6_copyFrom_78 ?_
  refine pw_aload_1 dX6_copyFrom_79 ?_
  refine pw_getI 6 10 dX6_copyFrom_80 fX6_58 rfl (by decide) rfl h2.t ?_
  refine pw_putI 6 10 dX6_copyFrom_83 fX6_58 rfl (by decide) rfl (Or.inl rfl) rfl (by decide) h.t ?_
  refine pw_aload_0 dX6_copyFrom_86 ?_
  refine pw_aload_1 dX6_copyFrom_87 ?_
  refine pw_getI 6 11 dX6_copyFrom_88 fX6_61 rfl (by decide) rfl h2.t ?_
  refine pw_putI 6 11 dX6_copyFrom_91 fX6_61 rfl (by decide) rfl (Or.inl rfl) rfl (by decide) h.t ?_
  refine pw_aload_0 dX6_copyFrom_94 ?_
  refine pw_aload_1 dX6_copyFrom_95 ?_
  refine pw_getI 6 12 dX6_copyFrom_96 fX6_64 rfl (by decide) rfl h2.t ?_
  refine pw_putI 6 12 dX6_copyFrom_99 fX6_64 rfl (by decide) rfl (Or.inl rfl) rfl (by decide) h.t ?_
  refine pw_aload_0 dX6_copyFrom_102 ?_
  refine pw_aload_1 dX6_copyFrom_103 ?_
  refine pw_getI 6 13 dX6_copyFrom_104 fX6_67 rfl (by decide) rfl h2.t ?_
  refine pw_putI 6 13 dX6_copyFrom_107 fX6_67 rfl (by decide) rfl (Or.inl rfl) rfl (by decide) h.t ?_
  refine pw_aload_0 dX6_copyFrom_110 ?_
  refine pw_aload_1 dX6_copyFrom_111 ?_
  refine pw_getI 6 14 dX6_copyFrom_112 fX6_70 rfl (by decide) rfl h2.t ?_
  refine pw_putI 6 14 dX6_copyFrom_115 fX6_70 rfl (by decide) rfl (Or.inl rfl) rfl (by decide) h.t ?_
  refine pw_return dX6_copyFrom_118 rfl ?_
  refine q _ (fun d hd2 => ?_) ⟨?_, fun k h3 h15 => ?_, ?_, fun r hr => ?_, fun r hr => ?_, fun r hr => ?_, ?_, fun k hk => ?_⟩
  · simp (disch := omega) only [cpL, cpR, wr_s, wr_n, wC_self, wC_ne, upd_s, upd_n]
  · simp (disch := omega) only [cpL, cpR, wr_s, wr_n, wC_self, wC_ne, upd_s, upd_n]
  · match k, h3, h15 with
    | 3, _, _ => simp (disch := omega) only [cpL, cpR, wr_s, wr_n, wC_self, wC_ne, upd_s, upd_n]
    | 4, _, _ => simp (disch := omega) only [cpL, cpR, wr_s, wr_n, wC_self, wC_ne, upd_s, upd_n]
    | 5, _, _ => simp (disch := omega) only [cpL, cpR, wr_s, wr_n, wC_self, wC_ne, upd_s, upd_n]
    | 6, _, _ => simp (disch := omega) only [cpL, cpR, wr_s, wr_n, wC_self, wC_ne, upd_s, upd_n]
    | 7, _, _ => simp (disch := omega) only [cpL, cpR, wr_s, wr_n, wC_self, wC_ne, upd_s, upd_n]
    | 8, _, _ => simp (disch := omega) only [cpL, cpR, wr_s, wr_n, wC_self, wC_ne, upd_s, upd_n]
    | 9, _, _ => simp (disch := omega) only [cpL, cpR, wr_s, wr_n, wC_self, wC_ne, upd_s, upd_n]
    | 10, _, _ => simp (disch := omega) only [cpL, cpR, wr_s, wr_n, wC_self, wC_ne, upd_s, upd_n]
    | 11, _, _ => simp (disch := omega) only [cpL, cpR, wr_s, wr_n, wC_self, wC_ne, upd_s, upd_n]
    | 12, _, _ => simp (disch := omega) only [cpL, cpR, wr_s, wr_n, wC_self, wC_ne, upd_s, upd_n]
    | 13, _, _ => simp (disch := omega) only [cpL, cpR, wr_s, wr_n, wC_self, wC_ne, upd_s, upd_n]
    | 14, _, _ => simp (disch := omega) only [cpL, cpR, wr_s, wr_n, wC_self, wC_ne, upd_s, upd_n]
    | k + 15, _, hk => exact absurd hk (by omega)
    | 0, hk, _ => exact absurd hk (by omega)
    | 1, hk, _ => exact absurd hk (by omega)
    | 2, hk, _ => exact absurd hk (by omega)
  · simp (disch := omega) only [cpL, cpR, wr_s, wr_n, wC_self, wC_ne, upd_s, upd_n]
  · simp (disch := omega) only [cpL, cpR, wr_s, wr_n, wC_self, wC_ne, upd_s, upd_n]
    exact cpy_in hr
  · simp (disch := omega) only [cpL, cpR, wr_s, wr_n, wC_self, wC_ne, upd_s, upd_n]
    exact cpy_in hr
  · simp (disch := omega) only [cpL, cpR, wr_s, wr_n, wC_self, wC_ne, upd_s, upd_n]
    exact cpy_in hr
  · simp (disch := omega) only [cpL, cpR, wr_s, wr_n, wC_self, wC_ne, upd_s, upd_n]
  · simp (disch := omega) only [cpL, cpR, wr_s, wr_n, wC_self, wC_ne, upd_s, upd_n]
    exact cpy_in hk
def NU (μ : Mm) (b : Nat) : Prop := ∀ i, i < 8 → μ (st b i) 0 = nI i
theorem BU.nu {μ0 μ : Mm} {b : Nat} {B : Bs} (h : BU μ0 b B μ) : NU μ b := fun i hi => h.s0 hi
theorem NU.at {μ μ' : Mm} {b : Nat} (h : NU μ b) (e : ∀ a, b ≤ a → a < b + 62 → μ' a = μ a) : NU μ' b := fun i hi => by
  have := st_in (b := b) hi
  rw [e _ (by omega) (by omega)]
  exact h i hi
theorem WF.z8 {B : Bs} {i : Nat} (h : WF B) (hi : i < 8) : (bS B i 2 = nI 0 ∨ bS B i 2 = nI 1) ∧ (bS B i 3 = nI 0 ∨ bS B i 3 = nI 1) := by
  rcases Nat.lt_or_ge i (nS B) with q | q
  · exact (h.s q).2.1
  · exact ⟨Or.inl (h.dead q hi (by omega)), Or.inl (h.dead q hi (by omega))⟩
def CPk (μ : Mm) (b : Nat) (B : Bs) (k : Nat) (μ' : Mm) : Prop := (∀ a, (a < b ∨ b + 62 ≤ a) → μ' a = μ a) ∧ (∀ j, j < 5 → μ' (b + 1) j = bG B j) ∧ (∀ v, v < 6 → μ' (b + 2) v = bW B v 0 ∧ μ' (b + 3) v = bW B v 2 ∧ μ' (b + 4) v = bW B v 3) ∧ (∀ i, i < 8 → μ' (st b i) 0 = nI i) ∧ ∀ i, i < k → SU μ' (st b i) i (nS B) (bS B i)
theorem CPk.zero {μ0 μ : Mm} {b c : Nat} {B : Bs} (hb : BU μ0 c B μ) (hN : NU μ b) (hd : c + 62 ≤ b ∨ b + 62 ≤ c) : CPk μ b B 0 (wC (wC (wC (wC μ (b + 1) (va_cpy (μ (c + 1)) (μ (b + 1)) 0 0 5)) (b + 2) (va_cpy (μ (c + 2)) (μ (b + 2)) 0 0 6)) (b + 3) (va_cpy (μ (c + 3)) (μ (b + 3)) 0 0 6)) (b + 4) (va_cpy (μ (c + 4)) (μ (b + 4)) 0 0 6)) := by
  refine ⟨fun a ha => ?_, fun j hj => ?_, fun v hv => ⟨?_, ?_, ?_⟩, fun i hi => ?_, fun i hi => absurd hi (by omega)⟩
  · simp (disch := omega) only [wC_ne]
  · simp (disch := omega) only [wC_ne, wC_self]
    exact (cpy_in hj).trans (hb.g hj)
  · simp (disch := omega) only [wC_ne, wC_self]
    exact (cpy_in hv).trans (hb.w0 hv)
  · simp (disch := omega) only [wC_ne, wC_self]
    exact (cpy_in hv).trans (hb.w2 hv)
  · simp (disch := omega) only [wC_ne, wC_self]
    exact (cpy_in hv).trans (hb.w3 hv)
  · have := st_in (b := b) hi
    simp (disch := omega) only [wC_ne]
    exact hN i hi
theorem CPk.succ {μ0 μ μ' μ2 : Mm} {b c k : Nat} {B : Bs} (h : CPk μ b B k μ') (hk : k < 8) (hb : BU μ0 c B μ') (hf : ∀ d, (d < st b k ∨ st b k + 7 ≤ d) → μ2 d = μ' d) (he : SE μ' (st c k) μ2 (st b k)) : CPk μ b B (k + 1) μ2 := by
  have hs := st_in (b := b) hk
  obtain ⟨h1, h2, h3, h4, h5⟩ := h
  refine ⟨fun a ha => (hf a (by omega)).trans (h1 a ha), fun j hj => by rw [hf _ (by omega)]; exact h2 j hj, fun v hv => by rw [hf _ (by omega), hf _ (by omega), hf _ (by omega)]; exact h3 v hv, fun i hi => ?_, fun i hi => ?_⟩
  · by_cases e : i = k
    · subst e
      exact he.1.trans (h4 i hi)
    · have := st_ne (b := b) (k := 0) (Ne.symm e) (by omega)
      rw [hf _ (by omega)]
      exact h4 i hi
  · by_cases e : i = k
    · subst e
      exact he.su (hb.2.2 i hk) (h4 i hk)
    · refine (h5 i (by omega)).cong fun j hj => ?_
      have := st_ne (b := b) (Ne.symm e) hj
      rw [hf _ (by omega)]
theorem CPk.fin {μ0 μ μ' : Mm} {b c : Nat} {B : Bs} (h : CPk μ b B 8 μ') (hb : BU μ0 c B μ') (hd : c + 62 ≤ b ∨ b + 62 ≤ c) : BU μ b B (wr (wr (wr μ' b 5 (μ' c 5)) b 6 (μ' c 6)) b 7 (μ' c 7)) := by
  obtain ⟨h1, h2, h3, h4, h5⟩ := h
  obtain ⟨g1, g2, g3, g4, g5⟩ := hb.2.1
  refine ⟨fun a ha => ?_, ⟨fun j hj => ?_, fun v hv => ?_, ?_, ?_, ?_⟩, fun i hi => ?_⟩
  · simp (disch := omega) only [wr_n]
    exact h1 a ha
  · simp (disch := omega) only [wr_n]
    exact h2 j hj
  · simp (disch := omega) only [wr_n]
    exact h3 v hv
  · simp (disch := omega) only [wr_s, upd_s, upd_n]
    exact g3
  · simp (disch := omega) only [wr_s, upd_s, upd_n]
    exact g4
  · simp (disch := omega) only [wr_s, upd_s]
    exact g5
  · have := st_in (b := b) hi
    exact (h5 i hi).cong fun k hk => by simp (disch := omega) only [wr_n]
set_option maxRecDepth 100000 in
set_option maxHeartbeats 4000000 in
theorem k_copyFrom {X : Cx} {σ : Sp} {μ : Mm} {Q : Sp → Mm → Prop} {μ0 : Mm} {b c : Nat} {B : Bs} (h : ShBus σ b) (h2 : ShBus σ c) (hd : c + 62 ≤ b ∨ b + 62 ≤ c) (hb : BU μ0 c B μ) (wf : WF B) (hN : NU μ b) (q : ∀ μ', BU μ b B μ' → Q σ μ') : CTv X mX0_copyFrom [.ref b, .ref c] σ μ Q := by
  refine CT.of (by decide +kernel) (Nat.le_of_ble_eq_true rfl) ?_
  show PW X mX0_copyFrom 0 0 0 [some (.ref b), some (.ref c), none] [] σ μ (LV Q)
  refine pw_aload_1 dX0_copyFrom_0 ?_
  refine pw_getr 0 0 dX0_copyFrom_1 fX0_18 rfl (by decide) rfl h2.t h2.r0 ?_
  refine pw_aload_0 dX0_copyFrom_4 ?_
  refine pw_getr 0 0 dX0_copyFrom_5 fX0_18 rfl (by decide) rfl h.t h.r0 ?_
  refine pw_cSN2v dX0_copyFrom_8 kX0_41 vX7_copyNumbers sX7_copyNumbers ⟨by decide, by decide⟩ ⟨rfl, rfl⟩ (Nat.le_of_ble_eq_true rfl) (c_copyNumbers (l := 5) h2.a1 h.a1 (by decide) ?_)
  refine pw_aload_1 dX0_copyFrom_11 ?_
  refine pw_getr 0 1 dX0_copyFrom_12 fX0_23 rfl (by decide) rfl h2.t h2.r1 ?_
  refine pw_aload_0 dX0_copyFrom_15 ?_
  refine pw_getr 0 1 dX0_copyFrom_16 fX0_23 rfl (by decide) rfl h.t h.r1 ?_
  refine pw_cSN2v dX0_copyFrom_19 kX0_41 vX7_copyNumbers sX7_copyNumbers ⟨by decide, by decide⟩ ⟨rfl, rfl⟩ (Nat.le_of_ble_eq_true rfl) (c_copyNumbers (l := 6) h2.a2 h.a2 (by decide) ?_)
  refine pw_aload_1 dX0_copyFrom_22 ?_
  refine pw_getr 0 2 dX0_copyFrom_23 fX0_26 rfl (by decide) rfl h2.t h2.r2 ?_
  refine pw_aload_0 dX0_copyFrom_26 ?_
  refine pw_getr 0 2 dX0_copyFrom_27 fX0_26 rfl (by decide) rfl h.t h.r2 ?_
  refine pw_cSN2v dX0_copyFrom_30 kX0_41 vX7_copyNumbers sX7_copyNumbers ⟨by decide, by decide⟩ ⟨rfl, rfl⟩ (Nat.le_of_ble_eq_true rfl) (c_copyNumbers (l := 6) h2.a3 h.a3 (by decide) ?_)
  refine pw_aload_1 dX0_copyFrom_33 ?_
  refine pw_getr 0 3 dX0_copyFrom_34 fX0_29 rfl (by decide) rfl h2.t h2.r3 ?_
  refine pw_aload_0 dX0_copyFrom_37 ?_
  refine pw_getr 0 3 dX0_copyFrom_38 fX0_29 rfl (by decide) rfl h.t h.r3 ?_
  refine pw_cSN2v dX0_copyFrom_41 kX0_41 vX7_copyNumbers sX7_copyNumbers ⟨by decide, by decide⟩ ⟨rfl, rfl⟩ (Nat.le_of_ble_eq_true rfl) (c_copyNumbers (l := 6) h2.a4 h.a4 (by decide) ?_)
  refine pw_iconst (v := nI 0) dX0_copyFrom_44 (by decide) ?_
  refine pw_istore_2 dX0_copyFrom_45 (by decide) ?_
  have hz := CPk.zero hb hN hd
  refine pw_mem (show _ = _ by simp (disch := omega) only [wC_ne]; rfl) ?_
  refine pw_up (P := fun k => ∀ μ', CPk μ b B k μ' → PW X mX0_copyFrom 0 0 46 [some (.ref b), some (.ref c), some (.int (nI k))] [] σ μ' (LV Q)) 8 ?_ ?_ 0 (by omega) _ hz
  · intro μ1 hz1
    have hb1 : BU μ1 c B μ1 := hb.at (fun a h3 h4 => hz1.1 a (by omega))
    refine pw_iload_2 dX0_copyFrom_46 ?_
    refine pw_bipush (v := nI 8) dX0_copyFrom_47 (by decide) ?_
    refine pw_icmp_ge 73 dX0_copyFrom_49 (by decide) (fun _ => ?_) (fun hh => absurd (by rw [nI_leI (by omega) (by omega)]; omega) hh)
    refine pw_aload_0 dX0_copyFrom_73 ?_
    refine pw_aload_1 dX0_copyFrom_74 ?_
    refine pw_getI 0 5 dX0_copyFrom_75 fX0_49 rfl (by decide) rfl h2.t ?_
    refine pw_putI 0 5 dX0_copyFrom_78 fX0_49 rfl (by decide) rfl (Or.inl rfl) rfl (by decide) h.t ?_
    refine pw_aload_0 dX0_copyFrom_81 ?_
    refine pw_aload_1 dX0_copyFrom_82 ?_
    refine pw_getI 0 6 dX0_copyFrom_83 fX0_53 rfl (by decide) rfl h2.t ?_
    refine pw_putI 0 6 dX0_copyFrom_86 fX0_53 rfl (by decide) rfl (Or.inl rfl) rfl (by decide) h.t ?_
    refine pw_aload_0 dX0_copyFrom_89 ?_
    refine pw_aload_1 dX0_copyFrom_90 ?_
    refine pw_getI 0 7 dX0_copyFrom_91 fX0_56 rfl (by decide) rfl h2.t ?_
    refine pw_putI 0 7 dX0_copyFrom_94 fX0_56 rfl (by decide) rfl (Or.inl rfl) rfl (by decide) h.t ?_
    refine pw_return dX0_copyFrom_97 rfl ?_
    refine Eq.mp (congrArg (fun m => Q σ m) ?_) (q _ (hz1.fin hb1 hd))
    simp (disch := omega) only [wr_n]
  · intro k hk ih μ1 hz1
    have hb1 : BU μ1 c B μ1 := hb.at (fun a h3 h4 => hz1.1 a (by omega))
    refine pw_iload_2 dX0_copyFrom_46 ?_
    refine pw_bipush (v := nI 8) dX0_copyFrom_47 (by decide) ?_
    refine pw_icmp_ge 73 dX0_copyFrom_49 (by decide) (fun hh => absurd hh (by rw [nI_leI (by omega) (by omega)]; omega)) (fun _ => ?_)
    refine pw_aload_0 dX0_copyFrom_52 ?_
    refine pw_getr 0 4 dX0_copyFrom_53 fX0_34 rfl (by decide) rfl h.t h.r4 ?_
    refine pw_iload_2 dX0_copyFrom_56 ?_
    refine pw_aaldSr dX0_copyFrom_57 h.a5 (by omega) (by decide) (h.s (by omega)) ?_
    refine pw_aload_1 dX0_copyFrom_58 ?_
    refine pw_getr 0 4 dX0_copyFrom_59 fX0_34 rfl (by decide) rfl h2.t h2.r4 ?_
    refine pw_iload_2 dX0_copyFrom_62 ?_
    refine pw_aaldSr dX0_copyFrom_63 h2.a5 (by omega) (by decide) (h2.s (by omega)) ?_
    refine pw_cV1v 6 dX0_copyFrom_64 kX0_45 vX6_copyFrom iX6_copyFrom ⟨by decide, by decide⟩ ⟨rfl, rfl⟩ (by decide) rfl (Nat.le_of_ble_eq_true rfl) ((h.S (by omega))).t (c_X6_copyFrom (h.S (by omega)) (h2.S (by omega)) (by have := st_in (b := b) hk; have := st_in (b := c) hk; omega) (by rw [hb1.s5 hk]; exact (wf.z8 hk).1) (by rw [hb1.s6 hk]; exact (wf.z8 hk).2) (fun μ2 hf he => ?_))
    refine pw_iincN_2 dX0_copyFrom_67 (by decide) ?_
    refine pw_goto 46 dX0_copyFrom_70 (by decide) ?_
    exact ih μ2 (hz1.succ hk hb1 hf he)
theorem BU.mv {μ μ' : Mm} {b c : Nat} {B C : Bs} (h : BU μ b B μ') {μ0 : Mm} (k : BU μ0 c C μ) (hd : c + 62 ≤ b ∨ b + 62 ≤ c) : BU μ' c C μ' := k.at fun a h1 h2 => h.1 a (by omega)
