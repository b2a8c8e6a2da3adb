/-! The class: copies -/
theorem cpy_in {f g : Nat → Int32} {l j : Nat} (h : j < l) : va_cpy f g 0 0 l j = f j := sb_cpy0 h
/-- a station's numbers at c are at a too, but for its name -/
def SE (μ : Mm) (c : Nat) (μ' : Mm) (a : Nat) : Prop := μ' a 0 = μ a 0 ∧ (∀ k, 3 ≤ k → k < 15 → μ' a k = μ c k) ∧ μ' (a + 1) 3 = μ (c + 1) 3 ∧ (∀ r, r < 4 → μ' (a + 2) r = μ (c + 2) r) ∧ (∀ r, r < 4 → μ' (a + 3) r = μ (c + 3) r) ∧ (∀ r, r < 4 → μ' (a + 4) r = μ (c + 4) r) ∧ μ' (a + 5) 1 = μ (c + 5) 1 ∧ ∀ k, k < 16 → μ' (a + 6) k = μ (c + 6) k
theorem SE.su {μ μ' : Mm} {c a i n : Nat} {f : Nat → Int32} (h : SE μ c μ' a) (hs : SU μ c i n f) (h0 : μ a 0 = nI i) : SU μ' a i n f := by
  obtain ⟨e0, e1, e2, e3, e4, e5, e6, e7⟩ := h
  obtain ⟨-, s3, s4, s5, s6, sq, sp, s10, s11, s12, s13, s14, sl, sN, sX, sT, sk, sL⟩ := hs
  have e := fun k (h3 : 3 ≤ k) (h15 : k < 15) => e1 k h3 h15
  refine ⟨e0.trans h0, (e 3 (by omega) (by omega)).trans s3, (e 4 (by omega) (by omega)).trans s4, (e 5 (by omega) (by omega)).trans s5, (e 6 (by omega) (by omega)).trans s6, ?_, ?_, (e 10 (by omega) (by omega)).trans s10, (e 11 (by omega) (by omega)).trans s11, (e 12 (by omega) (by omega)).trans s12, (e 13 (by omega) (by omega)).trans s13, (e 14 (by omega) (by omega)).trans s14, e2.trans sl, fun r hr => (e3 r hr).trans (sN r hr), fun r hr => (e4 r hr).trans (sX r hr), fun r hr => (e5 r hr).trans (sT r hr), e6.trans sk, fun k hk => (e7 k hk).trans (sL k hk)⟩
  · rw [e 7 (by omega) (by omega), e 8 (by omega) (by omega), e 9 (by omega) (by omega)]
    exact sq
  · rw [e 7 (by omega) (by omega), e 8 (by omega) (by omega), e 9 (by omega) (by omega)]
    exact sp
set_option maxRecDepth 100000 in
set_option maxHeartbeats 4000000 in
theorem c_copyNumbers {X : Cx} {σ : Sp} {μ : Mm} {Q : Sp → Mm → Prop} {a0 a l : Nat} (h0 : ShA σ a0 11 l) (h1 : ShA σ a 11 l) (hl : l < 2 ^ 31) (q : Q σ (wC μ a (va_cpy (μ a0) (μ a) 0 0 l))) : CTv X mX7_copyNumbers [.ref a0, .ref a] σ μ Q := by
  refine CT.of (by decide +kernel) (Nat.le_of_ble_eq_true rfl) ?_
  show PW X mX7_copyNumbers 0 0 0 [some (.ref a0), some (.ref a)] [] σ μ (LV Q)
  refine pw_aload_0 dX7_copyNumbers_0 ?_
  refine pw_iconst (v := nI 0) dX7_copyNumbers_1 (by decide) ?_
  refine pw_aload_1 dX7_copyNumbers_2 ?_
  refine pw_iconst (v := nI 0) dX7_copyNumbers_3 (by decide) ?_
  refine pw_aload_0 dX7_copyNumbers_4 ?_
  refine pw_alenI dX7_copyNumbers_5 h0.1 ?_
  refine pw_top (show _ = nI l by rw [h0.2]; rfl) ?_
  refine pw_aload_1 dX7_copyNumbers_6 ?_
  refine pw_alenI dX7_copyNumbers_7 h1.1 ?_
  refine pw_top (show _ = nI l by rw [h1.2]; rfl) ?_
  refine pw_min dX7_copyNumbers_8 kX7_243 tm_mins tm_i tm_minc (by decide) (Nat.le_of_ble_eq_true rfl) ?_
  refine pw_top (show _ = nI l by split <;> rfl) ?_
  refine pw_acopy dX7_copyNumbers_11 kX7_248 ts_n ts_s ts_i h0.1 h1.1 (by decide) (by decide) (nI_pos hl) (by rw [h0.2, nI_clamp (by decide), nI_clamp hl]; omega) (by rw [h1.2, nI_clamp (by decide), nI_clamp hl]; omega) (by decide) (Nat.le_of_ble_eq_true rfl) ?_
  refine pw_return dX7_copyNumbers_14 rfl ?_
  refine Eq.mp (congrArg (fun m => Q σ m) ?_) q
  simp (disch := omega) only [nI_clamp]
def cpR (μ : Mm) (c a : Nat) : Mm := wr (wC (wC (wC μ (a + 2) (va_cpy (μ (c + 2)) (μ (a + 2)) 0 0 4)) (a + 3) (va_cpy (μ (c + 3)) (μ (a + 3)) 0 0 4)) (a + 4) (va_cpy (μ (c + 4)) (μ (a + 4)) 0 0 4)) (a + 1) 3 (μ (c + 1) 3)
def cpL (μ : Mm) (c a : Nat) : Mm := wr (wC μ (a + 6) (va_cpy (μ (c + 6)) (μ (a + 6)) 0 0 16)) (a + 5) 1 (μ (c + 5) 1)
set_option maxRecDepth 100000 in
set_option maxHeartbeats 4000000 in
theorem c_X5_copyFrom {X : Cx} {σ : Sp} {μ : Mm} {Q : Sp → Mm → Prop} {a c : Nat} (h : ShSt σ a) (h2 : ShSt σ c) (hd : c + 7 ≤ a ∨ a + 7 ≤ c) (q : Q σ (cpR μ c a)) : CTv X mX5_copyFrom [.ref (a + 1), .ref (c + 1)] σ μ Q := by
  refine CT.of (by decide +kernel) (Nat.le_of_ble_eq_true rfl) ?_
  show PW X mX5_copyFrom 0 0 0 [some (.ref (a + 1)), some (.ref (c + 1))] [] σ μ (LV Q)
  refine pw_aload_1 dX5_copyFrom_0 ?_
  refine pw_getr 5 0 dX5_copyFrom_1 fX5_9 rfl (by decide) rfl h2.w h2.w0 ?_
  refine pw_aload_0 dX5_copyFrom_4 ?_
  refine pw_getr 5 0 dX5_copyFrom_5 fX5_9 rfl (by decide) rfl h.w h.w0 ?_
  refine pw_cSN2v dX5_copyFrom_8 kX5_21 vX7_copyNumbers sX7_copyNumbers ⟨by decide, by decide⟩ ⟨rfl, rfl⟩ (Nat.le_of_ble_eq_true rfl) (c_copyNumbers (l := 4) h2.n h.n (by decide) ?_)
  refine pw_aload_1 dX5_copyFrom_11 ?_
  refine pw_getr 5 1 dX5_copyFrom_12 fX5_15 rfl (by decide) rfl h2.w h2.w1 ?_
  refine pw_aload_0 dX5_copyFrom_15 ?_
  refine pw_getr 5 1 dX5_copyFrom_16 fX5_15 rfl (by decide) rfl h.w h.w1 ?_
  refine pw_cSN2v dX5_copyFrom_19 kX5_21 vX7_copyNumbers sX7_copyNumbers ⟨by decide, by decide⟩ ⟨rfl, rfl⟩ (Nat.le_of_ble_eq_true rfl) (c_copyNumbers (l := 4) h2.x h.x (by decide) ?_)
  refine pw_aload_1 dX5_copyFrom_22 ?_
  refine pw_getr 5 2 dX5_copyFrom_23 fX5_18 rfl (by decide) rfl h2.w h2.w2 ?_
  refine pw_aload_0 dX5_copyFrom_26 ?_
  refine pw_getr 5 2 dX5_copyFrom_27 fX5_18 rfl (by decide) rfl h.w h.w2 ?_
  refine pw_cSN2v dX5_copyFrom_30 kX5_21 vX7_copyNumbers sX7_copyNumbers ⟨by decide, by decide⟩ ⟨rfl, rfl⟩ (Nat.le_of_ble_eq_true rfl) (c_copyNumbers (l := 4) h2.y h.y (by decide) ?_)
  refine pw_aload_0 dX5_copyFrom_33 ?_
  refine pw_aload_1 dX5_copyFrom_34 ?_
  refine pw_getI 5 3 dX5_copyFrom_35 fX5_25 rfl (by decide) rfl h2.w ?_
  refine pw_putI 5 3 dX5_copyFrom_38 fX5_25 rfl (by decide) rfl (Or.inl rfl) rfl (by decide) h.w ?_
  refine pw_return dX5_copyFrom_41 rfl ?_
  refine Eq.mp (congrArg (fun m => Q σ m) ?_) q
  unfold cpR
  simp (disch := omega) only [wC_ne]
set_option maxRecDepth 100000 in
set_option maxHeartbeats 4000000 in
theorem c_X2_copyFrom {X : Cx} {σ : Sp} {μ : Mm} {Q : Sp → Mm → Prop} {a c : Nat} (h : ShSt σ a) (h2 : ShSt σ c) (hd : c + 7 ≤ a ∨ a + 7 ≤ c) (q : Q σ (cpL μ c a)) : CTv X mX2_copyFrom [.ref (a + 5), .ref (c + 5)] σ μ Q := by
  refine CT.of (by decide +kernel) (Nat.le_of_ble_eq_true rfl) ?_
  show PW X mX2_copyFrom 0 0 0 [some (.ref (a + 5)), some (.ref (c + 5))] [] σ μ (LV Q)
  refine pw_aload_1 dX2_copyFrom_0 ?_
  refine pw_getr 2 0 dX2_copyFrom_1 fX2_9 rfl (by decide) rfl h2.l h2.l0 ?_
  refine pw_aload_0 dX2_copyFrom_4 ?_
  refine pw_getr 2 0 dX2_copyFrom_5 fX2_9 rfl (by decide) rfl h.l h.l0 ?_
  refine pw_cSN2v dX2_copyFrom_8 kX2_15 vX7_copyNumbers sX7_copyNumbers ⟨by decide, by decide⟩ ⟨rfl, rfl⟩ (Nat.le_of_ble_eq_true rfl) (c_copyNumbers (l := 16) h2.f h.f (by decide) ?_)
  refine pw_aload_0 dX2_copyFrom_11 ?_
  refine pw_aload_1 dX2_copyFrom_12 ?_
  refine pw_getI 2 1 dX2_copyFrom_13 fX2_19 rfl (by decide) rfl h2.l ?_
  refine pw_putI 2 1 dX2_copyFrom_16 fX2_19 rfl (by decide) rfl (Or.inl rfl) rfl (by decide) h.l ?_
  refine pw_return dX2_copyFrom_19 rfl ?_
  refine Eq.mp (congrArg (fun m => Q σ m) ?_) q
  unfold cpL
  simp (disch := omega) only [wC_ne]
set_option maxRecDepth 100000 in
set_option maxHeartbeats 4000000 in
theorem c_X6_copyFrom {X : Cx} {σ : Sp} {μ : Mm} {Q : Sp → Mm → Prop} {a c : Nat} (h : ShSt σ a) (h2 : ShSt σ c) (hd : c + 7 ≤ a ∨ a + 7 ≤ c) (z5 : μ c 5 = 0 ∨ μ c 5 = 1) (z6 : μ c 6 = 0 ∨ μ c 6 = 1) (q : ∀ μ', (∀ d, (d < a ∨ a + 7 ≤ d) → μ' d = μ d) → SE μ c μ' a → Q σ μ') : CTv X mX6_copyFrom [.ref a, .ref c] σ μ Q := by
  refine CT.of (by decide +kernel) (Nat.le_of_ble_eq_true rfl) ?_
  show PW X mX6_copyFrom 0 0 0 [some (.ref a), some (.ref c)] [] σ μ (LV Q)
  refine pw_aload_0 dX6_copyFrom_0 ?_
  refine pw_getr 6 1 dX6_copyFrom_1 fX6_12 rfl (by decide) rfl h.t h.r1 ?_
  refine pw_aload_1 dX6_copyFrom_4 ?_
  refine pw_getr 6 1 dX6_copyFrom_5 fX6_12 rfl (by decide) rfl h2.t h2.r1 ?_
  refine pw_cV1v 5 dX6_copyFrom_8 kX6_32 vX5_copyFrom iX5_copyFrom ⟨by decide, by decide⟩ ⟨rfl, rfl⟩ (by decide) rfl (Nat.le_of_ble_eq_true rfl) h.w (c_X5_copyFrom h h2 hd ?_)
  refine pw_aload_0 dX6_copyFrom_11 ?_
  refine pw_getr 6 2 dX6_copyFrom_12 fX6_21 rfl (by decide) rfl h.t h.r2 ?_
  refine pw_aload_1 dX6_copyFrom_15 ?_
  refine pw_getr 6 2 dX6_copyFrom_16 fX6_21 rfl (by decide) rfl h2.t h2.r2 ?_
  refine pw_cV1v 2 dX6_copyFrom_19 kX6_36 vX2_copyFrom iX2_copyFrom ⟨by decide, by decide⟩ ⟨rfl, rfl⟩ (by decide) rfl (Nat.le_of_ble_eq_true rfl) h.l (c_X2_copyFrom h h2 hd ?_)
  refine pw_aload_0 dX6_copyFrom_22 ?_
  refine pw_aload_1 dX6_copyFrom_23 ?_
  refine pw_getI 6 3 dX6_copyFrom_24 fX6_39 rfl (by decide) rfl h2.t ?_
  refine pw_putI 6 3 dX6_copyFrom_27 fX6_39 rfl (by decide) rfl (Or.inl rfl) rfl (by decide) h.t ?_
  refine pw_aload_0 dX6_copyFrom_30 ?_
  refine pw_aload_1 dX6_copyFrom_31 ?_
  refine pw_getI 6 4 dX6_copyFrom_32 fX6_42 rfl (by decide) rfl h2.t ?_
  refine pw_putI 6 4 dX6_copyFrom_35 fX6_42 rfl (by decide) rfl (Or.inl rfl) rfl (by decide) h.t ?_
  refine pw_aload_0 dX6_copyFrom_38 ?_
  refine pw_aload_1 dX6_copyFrom_39 ?_
  refine pw_getI 6 5 dX6_copyFrom_40 fX6_45 rfl (by decide) rfl h2.t ?_
  refine pw_putZ 6 5 dX6_copyFrom_43 fX6_45 rfl (by decide) rfl (Or.inl rfl) rfl (by simp (disch := omega) only [cpL, cpR, wr_s, wr_n, wC_self, wC_ne, upd_s, upd_n]; exact z5) h.t ?_
  refine pw_aload_0 dX6_copyFrom_46 ?_
  refine pw_aload_1 dX6_copyFrom_47 ?_
  refine pw_getI 6 6 dX6_copyFrom_48 fX6_49 rfl (by decide) rfl h2.t ?_
  refine pw_putZ 6 6 dX6_copyFrom_51 fX6_49 rfl (by decide) rfl (Or.inl rfl) rfl (by simp (disch := omega) only [cpL, cpR, wr_s, wr_n, wC_self, wC_ne, upd_s, upd_n]; exact z6) h.t ?_
  refine pw_aload_0 dX6_copyFrom_54 ?_
  refine pw_aload_1 dX6_copyFrom_55 ?_
  refine pw_getI 6 7 dX6_copyFrom_56 fX6_25 rfl (by decide) rfl h2.t ?_
  refine pw_putI 6 7 dX6_copyFrom_59 fX6_25 rfl (by decide) rfl (Or.inl rfl) rfl (by decide) h.t ?_
  refine pw_aload_0 dX6_copyFrom_62 ?_
  refine pw_aload_1 dX6_copyFrom_63 ?_
  refine pw_getI 6 8 dX6_copyFrom_64 fX6_52 rfl (by decide) rfl h2.t ?_
  refine pw_putI 6 8 dX6_copyFrom_67 fX6_52 rfl (by decide) rfl (Or.inl rfl) rfl (by decide) h.t ?_
  refine pw_aload_0 dX6_copyFrom_70 ?_
  refine pw_aload_1 dX6_copyFrom_71 ?_
  refine pw_getI 6 9 dX6_copyFrom_72 fX6_55 rfl (by decide) rfl h2.t ?_
  refine pw_putI 6 9 dX6_copyFrom_75 fX6_55 rfl (by decide) rfl (Or.inl rfl) rfl (by decide) h.t ?_
  refine pw_aload_0 dX6_copyFrom_78 ?_
  refine pw_aload_1 dX6_copyFrom_79 ?_
  refine pw_getI 6 10 dX6_copyFrom_80 fX6_58 rfl (by decide) rfl h2.t ?_
  refine pw_putI 6 10 dX6_copyFrom_83 fX6_58 rfl (by decide) rfl (Or.inl rfl) rfl (by decide) h.t ?_
  refine pw_aload_0 dX6_copyFrom_86 ?_
  refine pw_aload_1 dX6_copyFrom_87 ?_
  refine pw_getI 6 11 dX6_copyFrom_88 fX6_61 rfl (by decide) rfl h2.t ?_
  refine pw_putI 6 11 dX6_copyFrom_91 fX6_61 rfl (by decide) rfl (Or.inl rfl) rfl (by decide) h.t ?_
  refine pw_aload_0 dX6_copyFrom_94 ?_
  refine pw_aload_1 dX6_copyFrom_95 ?_
  refine pw_getI 6 12 dX6_copyFrom_96 fX6_64 rfl (by decide) rfl h2.t ?_
  refine pw_putI 6 12 dX6_copyFrom_99 fX6_64 rfl (by decide) rfl (Or.inl rfl) rfl (by decide) h.t ?_
  refine pw_aload_0 dX6_copyFrom_102 ?_
  refine pw_aload_1 dX6_copyFrom_103 ?_
  refine pw_getI 6 13 dX6_copyFrom_104 fX6_67 rfl (by decide) rfl h2.t ?_
  refine pw_putI 6 13 dX6_copyFrom_107 fX6_67 rfl (by decide) rfl (Or.inl rfl) rfl (by decide) h.t ?_
  refine pw_aload_0 dX6_copyFrom_110 ?_
  refine pw_aload_1 dX6_copyFrom_111 ?_
  refine pw_getI 6 14 dX6_copyFrom_112 fX6_70 rfl (by decide) rfl h2.t ?_
  refine pw_putI 6 14 dX6_copyFrom_115 fX6_70 rfl (by decide) rfl (Or.inl rfl) rfl (by decide) h.t ?_
  refine pw_return dX6_copyFrom_118 rfl ?_
  refine q _ (fun d hd2 => ?_) ⟨?_, fun k h3 h15 => ?_, ?_, fun r hr => ?_, fun r hr => ?_, fun r hr => ?_, ?_, fun k hk => ?_⟩
  · simp (disch := omega) only [cpL, cpR, wr_s, wr_n, wC_self, wC_ne, upd_s, upd_n]
  · simp (disch := omega) only [cpL, cpR, wr_s, wr_n, wC_self, wC_ne, upd_s, upd_n]
  · match k, h3, h15 with
    | 3, _, _ => simp (disch := omega) only [cpL, cpR, wr_s, wr_n, wC_self, wC_ne, upd_s, upd_n]
    | 4, _, _ => simp (disch := omega) only [cpL, cpR, wr_s, wr_n, wC_self, wC_ne, upd_s, upd_n]
    | 5, _, _ => simp (disch := omega) only [cpL, cpR, wr_s, wr_n, wC_self, wC_ne, upd_s, upd_n]
    | 6, _, _ => simp (disch := omega) only [cpL, cpR, wr_s, wr_n, wC_self, wC_ne, upd_s, upd_n]
    | 7, _, _ => simp (disch := omega) only [cpL, cpR, wr_s, wr_n, wC_self, wC_ne, upd_s, upd_n]
    | 8, _, _ => simp (disch := omega) only [cpL, cpR, wr_s, wr_n, wC_self, wC_ne, upd_s, upd_n]
    | 9, _, _ => simp (disch := omega) only [cpL, cpR, wr_s, wr_n, wC_self, wC_ne, upd_s, upd_n]
    | 10, _, _ => simp (disch := omega) only [cpL, cpR, wr_s, wr_n, wC_self, wC_ne, upd_s, upd_n]
    | 11, _, _ => simp (disch := omega) only [cpL, cpR, wr_s, wr_n, wC_self, wC_ne, upd_s, upd_n]
    | 12, _, _ => simp (disch := omega) only [cpL, cpR, wr_s, wr_n, wC_self, wC_ne, upd_s, upd_n]
    | 13, _, _ => simp (disch := omega) only [cpL, cpR, wr_s, wr_n, wC_self, wC_ne, upd_s, upd_n]
    | 14, _, _ => simp (disch := omega) only [cpL, cpR, wr_s, wr_n, wC_self, wC_ne, upd_s, upd_n]
    | k + 15, _, hk => exact absurd hk (by omega)
    | 0, hk, _ => exact absurd hk (by omega)
    | 1, hk, _ => exact absurd hk (by omega)
    | 2, hk, _ => exact absurd hk (by omega)
  · simp (disch := omega) only [cpL, cpR, wr_s, wr_n, wC_self, wC_ne, upd_s, upd_n]
  · simp (disch := omega) only [cpL, cpR, wr_s, wr_n, wC_self, wC_ne, upd_s, upd_n]
    exact cpy_in hr
  · simp (disch := omega) only [cpL, cpR, wr_s, wr_n, wC_self, wC_ne, upd_s, upd_n]
    exact cpy_in hr
  · simp (disch := omega) only [cpL, cpR, wr_s, wr_n, wC_self, wC_ne, upd_s, upd_n]
    exact cpy_in hr
  · simp (disch := omega) only [cpL, cpR, wr_s, wr_n, wC_self, wC_ne, upd_s, upd_n]
  · simp (disch := omega) only [cpL, cpR, wr_s, wr_n, wC_self, wC_ne, upd_s, upd_n]
    exact cpy_in hk
