/-! Constructors: a bus, a history -/
def B0 : Bs := (pw_AF, fun _ _ => nI 0, fun _ _ => nI 0)
theorem nS_B0 : nS B0 = 0 := by decide
def SB (b k : Nat) (σ : Sp) (μ : Mm) : Prop := ∀ i, i < k → rf σ (b + 5) i = some (st b i) ∧ ShSt σ (st b i) ∧ SU μ (st b i) i 0 (fun _ => nI 0)
theorem st_lt {b i k : Nat} (h : i < k) : b + 6 ≤ st b i ∧ st b i + 7 ≤ st b k := by
  unfold st
  omega
def BK (σ0 : Sp) (μ0 : Mm) (b k : Nat) (σ : Sp) (μ : Mm) : Prop := OLD b σ0 μ0 σ μ ∧ (tg σ b = 1 ∧ rf σ b 0 = some (b + 1) ∧ rf σ b 1 = some (b + 2) ∧ rf σ b 2 = some (b + 3) ∧ rf σ b 3 = some (b + 4) ∧ rf σ b 4 = some (b + 5)) ∧ (ShA σ (b + 1) 11 5 ∧ ShA σ (b + 2) 11 6 ∧ ShA σ (b + 3) 11 6 ∧ ShA σ (b + 4) 11 6 ∧ ShA σ (b + 5) 14 8) ∧ (μ b = Z0 ∧ μ (b + 1) = pw_AF ∧ μ (b + 2) = Z0 ∧ μ (b + 3) = Z0 ∧ μ (b + 4) = Z0) ∧ SB b k σ μ
theorem BK.cg {σ0 σ σ' : Sp} {μ0 μ μ' : Mm} {b k : Nat} (h : BK σ0 μ0 b k σ μ) (e : ∀ c, c < st b k → SEq σ σ' c ∧ μ' c = μ c) : BK σ0 μ0 b k σ' μ' := by
  obtain ⟨h1, ⟨t, r0, r1, r2, r3, r4⟩, ⟨a1, a2, a3, a4, a5⟩, ⟨m0, m1, m2, m3, m4⟩, h5⟩ := h
  have hs : b + 6 ≤ st b k := by unfold st; omega
  have s : ∀ c, c < b + 6 → SEq σ σ' c := fun c hc => (e c (by omega)).1
  have u : ∀ c, c < b + 6 → μ' c = μ c := fun c hc => (e c (by omega)).2
  refine ⟨fun c hc => ⟨(h1 c hc).1.tr (s c (by omega)), (u c (by omega)).trans (h1 c hc).2⟩, ⟨(s b (by omega)).1.trans t, rf_cg r0 (s b (by omega)), rf_cg r1 (s b (by omega)), rf_cg r2 (s b (by omega)), rf_cg r3 (s b (by omega)), rf_cg r4 (s b (by omega))⟩, ⟨a1.cg (s _ (by omega)), a2.cg (s _ (by omega)), a3.cg (s _ (by omega)), a4.cg (s _ (by omega)), a5.cg (s _ (by omega))⟩, ⟨(u _ (by omega)).trans m0, (u _ (by omega)).trans m1, (u _ (by omega)).trans m2, (u _ (by omega)).trans m3, (u _ (by omega)).trans m4⟩, fun i hi => ?_⟩
  have hi2 := st_lt (b := b) hi
  obtain ⟨g1, g2, g3⟩ := h5 i hi
  exact ⟨rf_cg g1 (s _ (by omega)), g2.cg (fun c c1 c2 => (e c (by omega)).1), g3.cong (fun j hj => (e _ (by omega)).2)⟩
theorem BK.put {σ0 σ : Sp} {μ0 μ : Mm} {b k : Nat} (h : BK σ0 μ0 b k σ μ) (h2 : ShSt σ (st b k)) (h3 : SU μ (st b k) k 0 (fun _ => nI 0)) : BK σ0 μ0 b (k + 1) (wR σ (b + 5) k (some (st b k))) μ := by
  obtain ⟨h1, ⟨t, r0, r1, r2, r3, r4⟩, ⟨a1, a2, a3, a4, a5⟩, ⟨m0, m1, m2, m3, m4⟩, h5⟩ := h
  have s : ∀ c, c ≠ b + 5 → SEq σ (wR σ (b + 5) k (some (st b k))) c := fun c hc => seqR hc
  refine ⟨fun c hc => ⟨(h1 c hc).1.tr (s c (by omega)), (h1 c hc).2⟩, ⟨t, rf_cg r0 (s b (by omega)), rf_cg r1 (s b (by omega)), rf_cg r2 (s b (by omega)), rf_cg r3 (s b (by omega)), rf_cg r4 (s b (by omega))⟩, ⟨a1, a2, a3, a4, a5⟩, ⟨m0, m1, m2, m3, m4⟩, fun i hi => ?_⟩
  rcases Classical.em (i = k) with c | c
  · subst c
    have hs : b + 6 ≤ st b i := by unfold st; omega
    exact ⟨wR_s, h2.cg (fun c c1 c2 => s c (by omega)), h3⟩
  · have hi2 := st_lt (b := b) (i := i) (k := k) (by omega)
    obtain ⟨g1, g2, g3⟩ := h5 i (by omega)
    exact ⟨(wR_n c).trans g1, g2.cg (fun c c1 c2 => s c (by omega)), g3⟩
theorem BK.bus {σ0 σ : Sp} {μ0 μ : Mm} {b : Nat} (h : BK σ0 μ0 b 8 σ μ) : ShBus σ b ∧ BU μ b B0 μ := by
  obtain ⟨h1, h2, ⟨a1, a2, a3, a4, a5⟩, ⟨m0, m1, m2, m3, m4⟩, h5⟩ := h
  refine ⟨⟨h2, a1, a2, a3, a4, a5, fun i hi => ⟨(h5 i hi).1, (h5 i hi).2.1⟩⟩, fun _ _ => rfl, ⟨fun k hk => by rw [m1]; rfl, fun v hv => ⟨by rw [m2]; rfl, by rw [m3]; rfl, by rw [m4]; rfl⟩, by rw [m0]; decide, ?_, by rw [m0]; decide⟩, fun i hi => ?_⟩
  · rw [m0]
    exact (msk_0 (n := 6) (p := fun v => bW B0 v 1 = nI 1) (fun v hv => show ¬ nI 0 = nI 1 by decide)).symm
  · rw [nS_B0]
    exact (h5 i hi).2.2
set_option maxRecDepth 100000 in
set_option maxHeartbeats 4000000 in
theorem i_Bus {X : Cx} {σ : Sp} {μ : Mm} {Q : Sp → Mm → Prop} {b : Nat} (hn : cxB X + nn σ = b + 1) (ht : tg σ b = 1) (hm : μ b = Z0) (q : ∀ σ' μ', OLD b σ μ σ' μ' → cxB X + nn σ' = b + 62 → ShBus σ' b → BU μ' b B0 μ' → Q σ' μ') : CTv X mX0_init [.ref b] σ μ Q := by
  refine CT.of (by decide +kernel) (Nat.le_of_ble_eq_true rfl) ?_
  show PW X mX0_init 61 423 0 [some (.ref b), none] [] σ μ (LV Q)
  have loop : ∀ r k σ9 μ9, k + r = 8 → cxB X + nn σ9 = st b k → BK σ μ b k σ9 μ9 → PW X mX0_init (7 * r) (49 * r) 52 [some (.ref b), some (.int (nI k))] [] σ9 μ9 (LV Q) := by
    intro r
    induction r with
    | zero =>
      intro k σ9 μ9 hkr hn9 hk
      refine pw_iload_1 dX0_init_52 ?_
      refine pw_bipush (v := nI 8) dX0_init_53 (by decide) ?_
      refine pw_icmp_ge 78 dX0_init_55 (by decide) (fun _ => ?_) (fun hh => absurd (by rw [nI_leI (by omega) (by omega)]; omega) hh)
      refine pw_return dX0_init_78 rfl ?_
      have hk8 : k = 8 := by omega
      subst hk8
      exact q _ _ hk.1 (by rw [hn9]; unfold st; omega) hk.bus.1 hk.bus.2
    | succ r ih =>
      intro k σ9 μ9 hkr hn9 hk
      have hst : b + 6 ≤ st b k ∧ st b (k + 1) = st b k + 7 := by unfold st; omega
      refine pw_iload_1 dX0_init_52 ?_
      refine pw_bipush (v := nI 8) dX0_init_53 (by decide) ?_
      refine pw_icmp_ge 78 dX0_init_55 (by decide) (fun hh => absurd hh (by rw [nI_leI (by omega) (by omega)]; omega)) (fun _ => ?_)
      refine pw_aload_0 dX0_init_58 ?_
      refine pw_getr 0 4 dX0_init_59 fX0_34 rfl (by decide) rfl hk.2.1.1 hk.2.1.2.2.2.2.2 ?_
      refine pw_iload_1 dX0_init_62 ?_
      refine pw_new 6 dX0_init_63 lX0_32 tX6 uX6 (by decide) (a := st b k) (b1' := 7 * r + 6) (b2' := 49 * r + 34) (by omega) (by omega) (show 49 * r + 34 + 15 ≤ 49 * (r + 1) by omega) ?_
      refine pw_dup dX0_init_66 ?_
      refine pw_iload_1 dX0_init_67 ?_
      refine pw_cI1 dX0_init_68 kX0_38 vX6_init nX6_init rfl rfl ⟨by decide, by decide⟩ (Nat.le_of_ble_eq_true rfl) (b1' := 7 * r) (b2' := 49 * r) (show 7 * r + 6 ≤ 7 * r + 6 from Nat.le_refl _) (show 49 * r + 34 ≤ 49 * r + 34 from Nat.le_refl _) (i_Station (i := k) (by rw [wN_nn]; omega) (wN_tg (by omega)) (wC_self _ _ _) (fun σ8 μ8 o8 n8 s8 u8 => ?_))
      have hk8 := (hk.cg (fun c hc => ⟨seqN (by omega), wC_ne _ _ (by omega)⟩)).cg o8
      refine pw_aastS dX0_init_71 hk8.2.2.1.2.2.2.2.1 s8.t (pw_vin hk8.2.2.1.2.2.2.2.2 (by omega) (by decide)) ?_
      rw [nI_clamp (by omega)]
      refine pw_iincN_1 dX0_init_72 (by decide) ?_
      refine pw_goto 52 dX0_init_75 (by decide) ?_
      exact ih (k + 1) _ _ (by omega) (by show cxB X + nn σ8 = _; omega) (hk8.put s8 u8)
  refine pw_aload_0 dX0_init_0 ?_
  refine pw_oinit dX0_init_1 kX0_3 to_i to_c (by decide) (Nat.le_of_ble_eq_true rfl) ?_
  refine pw_aload_0 dX0_init_4 ?_
  refine pw_getsN (n := "AT_FIRST") (t := (cxT X).1) dX0_init_5 (by decide +kernel) (fun s S => S.2.2.2.2.1.1) ?_
  refine pw_clone (f := pw_AF) dX0_init_8 kX0_13 tc_m tc_n tc_i tc_s (fun s S => ⟨S.2.2.2.2.2.1.1, S.2.2.2.2.2.2.1.1⟩) (by decide) (Nat.le_of_ble_eq_true rfl) (a := b + 1) (b1' := 60) (b2' := 418) (by omega) (show 60 + 1 ≤ 61 from by omega) (show 418 + 5 ≤ 423 from by omega) ?_
  have oa0 : OLD (b + 1) σ μ (wN σ (cxB X) 11 5) (wC μ (b + 1) (pw_AF)) := OLD.rf.n (Eq.symm hn) (Nat.le_refl _)
  refine pw_genA (P := fun s9 u9 => cxB X + nn s9 = b + 2 ∧ OLD (b) σ μ s9 u9 ∧ TG s9 (b) (1) ∧ u9 (b) = Z0 ∧ TG s9 (b + 1) (11) ∧ u9 (b + 1) = pw_AF ∧ LN s9 (b + 1) 5) ⟨(congrArg Nat.succ hn), ((OLD.rf : OLD _ σ μ σ μ).c oa0 (Nat.le_add_right _ _)), (TG.o ht oa0 (Nat.lt_add_of_pos_right (by decide))), (MU.o hm oa0 (Nat.lt_add_of_pos_right (by decide))), (wN_tg (Eq.symm hn)), (wC_self _ _ _), (wN_ln (Eq.symm hn))⟩ (fun σ1 μ1 hh9 => ?_)
  obtain ⟨f1_0, f1_1, f1_2, f1_3, f1_4, f1_5, f1_6⟩ := hh9
  clear hn ht hm oa0
  refine pw_castI dX0_init_11 lX0_14 f1_4 ?_
  refine pw_putR 0 0 dX0_init_14 fX0_18 rfl (by decide) rfl (Or.inr ⟨rfl, rfl, rfl⟩) rfl rfl rfl f1_2 ?_
  refine pw_genA (P := fun s9 u9 => cxB X + nn s9 = b + 2 ∧ OLD (b) σ μ s9 u9 ∧ TG s9 (b) (1) ∧ u9 (b) = Z0 ∧ TG s9 (b + 1) (11) ∧ u9 (b + 1) = pw_AF ∧ LN s9 (b + 1) 5 ∧ rf s9 (b) 0 = some (b + 1)) ⟨f1_0, (f1_1.r (Nat.le_refl _)), f1_2, f1_3, f1_4, f1_5, f1_6, wR_s⟩ (fun σ2 μ2 hh9 => ?_)
  obtain ⟨f2_0, f2_1, f2_2, f2_3, f2_4, f2_5, f2_6, f2_7⟩ := hh9
  clear f1_0 f1_1 f1_2 f1_3 f1_4 f1_5 f1_6
  refine pw_aload_0 dX0_init_17 ?_
  refine pw_bipush (v := nI 6) dX0_init_18 (by decide) ?_
  refine pw_newaI (N := 6) dX0_init_20 ta_int (nI_pos (by omega)) (nI_clamp (by omega)) (by omega) (a := b + 2) (b1' := 59) (b2' := 412) (by omega) (show 59 + 1 ≤ 60 from by omega) (show 412 + 6 ≤ 418 from by omega) ?_
  have oa2 : OLD (b + 2) σ2 μ2 (wN σ2 (cxB X) 11 6) (wC μ2 (b + 2) (fun _ => 0)) := OLD.rf.n (Eq.symm f2_0) (Nat.le_refl _)
  refine pw_genA (P := fun s9 u9 => cxB X + nn s9 = b + 3 ∧ OLD (b) σ μ s9 u9 ∧ TG s9 (b) (1) ∧ u9 (b) = Z0 ∧ TG s9 (b + 1) (11) ∧ u9 (b + 1) = pw_AF ∧ LN s9 (b + 1) 5 ∧ rf s9 (b) 0 = some (b + 1) ∧ TG s9 (b + 2) (11) ∧ u9 (b + 2) = Z0 ∧ LN s9 (b + 2) 6) ⟨(congrArg Nat.succ f2_0), (f2_1.c oa2 (Nat.le_add_right _ _)), (TG.o f2_2 oa2 (Nat.lt_add_of_pos_right (by decide))), (MU.o f2_3 oa2 (Nat.lt_add_of_pos_right (by decide))), (TG.o f2_4 oa2 (Nat.add_lt_add_left (by decide) _)), (MU.o f2_5 oa2 (Nat.add_lt_add_left (by decide) _)), (LN.o f2_6 oa2 (Nat.add_lt_add_left (by decide) _)), (RF.o f2_7 oa2 (Nat.lt_add_of_pos_right (by decide))), (wN_tg (Eq.symm f2_0)), (wC_self _ _ _), (wN_ln (Eq.symm f2_0))⟩ (fun σ3 μ3 hh9 => ?_)
  obtain ⟨f3_0, f3_1, f3_2, f3_3, f3_4, f3_5, f3_6, f3_7, f3_8, f3_9, f3_10⟩ := hh9
  clear f2_0 f2_1 f2_2 f2_3 f2_4 f2_5 f2_6 f2_7 oa2
  refine pw_putR 0 1 dX0_init_22 fX0_23 rfl (by decide) rfl (Or.inr ⟨rfl, rfl, rfl⟩) rfl rfl rfl f3_2 ?_
  refine pw_genA (P := fun s9 u9 => cxB X + nn s9 = b + 3 ∧ OLD (b) σ μ s9 u9 ∧ TG s9 (b) (1) ∧ u9 (b) = Z0 ∧ TG s9 (b + 1) (11) ∧ u9 (b + 1) = pw_AF ∧ LN s9 (b + 1) 5 ∧ rf s9 (b) 0 = some (b + 1) ∧ TG s9 (b + 2) (11) ∧ u9 (b + 2) = Z0 ∧ LN s9 (b + 2) 6 ∧ rf s9 (b) 1 = some (b + 2)) ⟨f3_0, (f3_1.r (Nat.le_refl _)), f3_2, f3_3, f3_4, f3_5, f3_6, ((wR_n (by decide)).trans f3_7), f3_8, f3_9, f3_10, wR_s⟩ (fun σ4 μ4 hh9 => ?_)
  obtain ⟨f4_0, f4_1, f4_2, f4_3, f4_4, f4_5, f4_6, f4_7, f4_8, f4_9, f4_10, f4_11⟩ := hh9
  clear f3_0 f3_1 f3_2 f3_3 f3_4 f3_5 f3_6 f3_7 f3_8 f3_9 f3_10
  refine pw_aload_0 dX0_init_25 ?_
  refine pw_bipush (v := nI 6) dX0_init_26 (by decide) ?_
  refine pw_newaI (N := 6) dX0_init_28 ta_int (nI_pos (by omega)) (nI_clamp (by omega)) (by omega) (a := b + 3) (b1' := 58) (b2' := 406) (by omega) (show 58 + 1 ≤ 59 from by omega) (show 406 + 6 ≤ 412 from by omega) ?_
  have oa4 : OLD (b + 3) σ4 μ4 (wN σ4 (cxB X) 11 6) (wC μ4 (b + 3) (fun _ => 0)) := OLD.rf.n (Eq.symm f4_0) (Nat.le_refl _)
  refine pw_genA (P := fun s9 u9 => cxB X + nn s9 = b + 4 ∧ OLD (b) σ μ s9 u9 ∧ TG s9 (b) (1) ∧ u9 (b) = Z0 ∧ TG s9 (b + 1) (11) ∧ u9 (b + 1) = pw_AF ∧ LN s9 (b + 1) 5 ∧ rf s9 (b) 0 = some (b + 1) ∧ TG s9 (b + 2) (11) ∧ u9 (b + 2) = Z0 ∧ LN s9 (b + 2) 6 ∧ rf s9 (b) 1 = some (b + 2) ∧ TG s9 (b + 3) (11) ∧ u9 (b + 3) = Z0 ∧ LN s9 (b + 3) 6) ⟨(congrArg Nat.succ f4_0), (f4_1.c oa4 (Nat.le_add_right _ _)), (TG.o f4_2 oa4 (Nat.lt_add_of_pos_right (by decide))), (MU.o f4_3 oa4 (Nat.lt_add_of_pos_right (by decide))), (TG.o f4_4 oa4 (Nat.add_lt_add_left (by decide) _)), (MU.o f4_5 oa4 (Nat.add_lt_add_left (by decide) _)), (LN.o f4_6 oa4 (Nat.add_lt_add_left (by decide) _)), (RF.o f4_7 oa4 (Nat.lt_add_of_pos_right (by decide))), (TG.o f4_8 oa4 (Nat.add_lt_add_left (by decide) _)), (MU.o f4_9 oa4 (Nat.add_lt_add_left (by decide) _)), (LN.o f4_10 oa4 (Nat.add_lt_add_left (by decide) _)), (RF.o f4_11 oa4 (Nat.lt_add_of_pos_right (by decide))), (wN_tg (Eq.symm f4_0)), (wC_self _ _ _), (wN_ln (Eq.symm f4_0))⟩ (fun σ5 μ5 hh9 => ?_)
  obtain ⟨f5_0, f5_1, f5_2, f5_3, f5_4, f5_5, f5_6, f5_7, f5_8, f5_9, f5_10, f5_11, f5_12, f5_13, f5_14⟩ := hh9
  clear f4_0 f4_1 f4_2 f4_3 f4_4 f4_5 f4_6 f4_7 f4_8 f4_9 f4_10 f4_11 oa4
  refine pw_putR 0 2 dX0_init_30 fX0_26 rfl (by decide) rfl (Or.inr ⟨rfl, rfl, rfl⟩) rfl rfl rfl f5_2 ?_
  refine pw_genA (P := fun s9 u9 => cxB X + nn s9 = b + 4 ∧ OLD (b) σ μ s9 u9 ∧ TG s9 (b) (1) ∧ u9 (b) = Z0 ∧ TG s9 (b + 1) (11) ∧ u9 (b + 1) = pw_AF ∧ LN s9 (b + 1) 5 ∧ rf s9 (b) 0 = some (b + 1) ∧ TG s9 (b + 2) (11) ∧ u9 (b + 2) = Z0 ∧ LN s9 (b + 2) 6 ∧ rf s9 (b) 1 = some (b + 2) ∧ TG s9 (b + 3) (11) ∧ u9 (b + 3) = Z0 ∧ LN s9 (b + 3) 6 ∧ rf s9 (b) 2 = some (b + 3)) ⟨f5_0, (f5_1.r (Nat.le_refl _)), f5_2, f5_3, f5_4, f5_5, f5_6, ((wR_n (by decide)).trans f5_7), f5_8, f5_9, f5_10, ((wR_n (by decide)).trans f5_11), f5_12, f5_13, f5_14, wR_s⟩ (fun σ6 μ6 hh9 => ?_)
  obtain ⟨f6_0, f6_1, f6_2, f6_3, f6_4, f6_5, f6_6, f6_7, f6_8, f6_9, f6_10, f6_11, f6_12, f6_13, f6_14, f6_15⟩ := hh9
  clear f5_0 f5_1 f5_2 f5_3 f5_4 f5_5 f5_6 f5_7 f5_8 f5_9 f5_10 f5_11 f5_12 f5_13 f5_14
  refine pw_aload_0 dX0_init_33 ?_
  refine pw_bipush (v := nI 6) dX0_init_34 (by decide) ?_
  refine pw_newaI (N := 6) dX0_init_36 ta_int (nI_pos (by omega)) (nI_clamp (by omega)) (by omega) (a := b + 4) (b1' := 57) (b2' := 400) (by omega) (show 57 + 1 ≤ 58 from by omega) (show 400 + 6 ≤ 406 from by omega) ?_
  have oa6 : OLD (b + 4) σ6 μ6 (wN σ6 (cxB X) 11 6) (wC μ6 (b + 4) (fun _ => 0)) := OLD.rf.n (Eq.symm f6_0) (Nat.le_refl _)
  refine pw_genA (P := fun s9 u9 => cxB X + nn s9 = b + 5 ∧ OLD (b) σ μ s9 u9 ∧ TG s9 (b) (1) ∧ u9 (b) = Z0 ∧ TG s9 (b + 1) (11) ∧ u9 (b + 1) = pw_AF ∧ LN s9 (b + 1) 5 ∧ rf s9 (b) 0 = some (b + 1) ∧ TG s9 (b + 2) (11) ∧ u9 (b + 2) = Z0 ∧ LN s9 (b + 2) 6 ∧ rf s9 (b) 1 = some (b + 2) ∧ TG s9 (b + 3) (11) ∧ u9 (b + 3) = Z0 ∧ LN s9 (b + 3) 6 ∧ rf s9 (b) 2 = some (b + 3) ∧ TG s9 (b + 4) (11) ∧ u9 (b + 4) = Z0 ∧ LN s9 (b + 4) 6) ⟨(congrArg Nat.succ f6_0), (f6_1.c oa6 (Nat.le_add_right _ _)), (TG.o f6_2 oa6 (Nat.lt_add_of_pos_right (by decide))), (MU.o f6_3 oa6 (Nat.lt_add_of_pos_right (by decide))), (TG.o f6_4 oa6 (Nat.add_lt_add_left (by decide) _)), (MU.o f6_5 oa6 (Nat.add_lt_add_left (by decide) _)), (LN.o f6_6 oa6 (Nat.add_lt_add_left (by decide) _)), (RF.o f6_7 oa6 (Nat.lt_add_of_pos_right (by decide))), (TG.o f6_8 oa6 (Nat.add_lt_add_left (by decide) _)), (MU.o f6_9 oa6 (Nat.add_lt_add_left (by decide) _)), (LN.o f6_10 oa6 (Nat.add_lt_add_left (by decide) _)), (RF.o f6_11 oa6 (Nat.lt_add_of_pos_right (by decide))), (TG.o f6_12 oa6 (Nat.add_lt_add_left (by decide) _)), (MU.o f6_13 oa6 (Nat.add_lt_add_left (by decide) _)), (LN.o f6_14 oa6 (Nat.add_lt_add_left (by decide) _)), (RF.o f6_15 oa6 (Nat.lt_add_of_pos_right (by decide))), (wN_tg (Eq.symm f6_0)), (wC_self _ _ _), (wN_ln (Eq.symm f6_0))⟩ (fun σ7 μ7 hh9 => ?_)
  obtain ⟨f7_0, f7_1, f7_2, f7_3, f7_4, f7_5, f7_6, f7_7, f7_8, f7_9, f7_10, f7_11, f7_12, f7_13, f7_14, f7_15, f7_16, f7_17, f7_18⟩ := hh9
  clear f6_0 f6_1 f6_2 f6_3 f6_4 f6_5 f6_6 f6_7 f6_8 f6_9 f6_10 f6_11 f6_12 f6_13 f6_14 f6_15 oa6
  refine pw_putR 0 3 dX0_init_38 fX0_29 rfl (by decide) rfl (Or.inr ⟨rfl, rfl, rfl⟩) rfl rfl rfl f7_2 ?_
  refine pw_genA (P := fun s9 u9 => cxB X + nn s9 = b + 5 ∧ OLD (b) σ μ s9 u9 ∧ TG s9 (b) (1) ∧ u9 (b) = Z0 ∧ TG s9 (b + 1) (11) ∧ u9 (b + 1) = pw_AF ∧ LN s9 (b + 1) 5 ∧ rf s9 (b) 0 = some (b + 1) ∧ TG s9 (b + 2) (11) ∧ u9 (b + 2) = Z0 ∧ LN s9 (b + 2) 6 ∧ rf s9 (b) 1 = some (b + 2) ∧ TG s9 (b + 3) (11) ∧ u9 (b + 3) = Z0 ∧ LN s9 (b + 3) 6 ∧ rf s9 (b) 2 = some (b + 3) ∧ TG s9 (b + 4) (11) ∧ u9 (b + 4) = Z0 ∧ LN s9 (b + 4) 6 ∧ rf s9 (b) 3 = some (b + 4)) ⟨f7_0, (f7_1.r (Nat.le_refl _)), f7_2, f7_3, f7_4, f7_5, f7_6, ((wR_n (by decide)).trans f7_7), f7_8, f7_9, f7_10, ((wR_n (by decide)).trans f7_11), f7_12, f7_13, f7_14, ((wR_n (by decide)).trans f7_15), f7_16, f7_17, f7_18, wR_s⟩ (fun σ8 μ8 hh9 => ?_)
  obtain ⟨f8_0, f8_1, f8_2, f8_3, f8_4, f8_5, f8_6, f8_7, f8_8, f8_9, f8_10, f8_11, f8_12, f8_13, f8_14, f8_15, f8_16, f8_17, f8_18, f8_19⟩ := hh9
  clear f7_0 f7_1 f7_2 f7_3 f7_4 f7_5 f7_6 f7_7 f7_8 f7_9 f7_10 f7_11 f7_12 f7_13 f7_14 f7_15 f7_16 f7_17 f7_18
  refine pw_aload_0 dX0_init_41 ?_
  refine pw_bipush (v := nI 8) dX0_init_42 (by decide) ?_
  refine pw_newqS (N := 8) dX0_init_44 lX0_32 (nI_pos (by omega)) (nI_clamp (by omega)) (by omega) (a := b + 5) (b1' := 56) (b2' := 392) (by omega) (show 56 + 1 ≤ 57 from by omega) (show 392 + 8 ≤ 400 from by omega) ?_
  have oa8 : OLD (b + 5) σ8 μ8 (wN σ8 (cxB X) 14 8) (wC μ8 (b + 5) (fun _ => 0)) := OLD.rf.n (Eq.symm f8_0) (Nat.le_refl _)
  refine pw_genA (P := fun s9 u9 => cxB X + nn s9 = b + 6 ∧ OLD (b) σ μ s9 u9 ∧ TG s9 (b) (1) ∧ u9 (b) = Z0 ∧ TG s9 (b + 1) (11) ∧ u9 (b + 1) = pw_AF ∧ LN s9 (b + 1) 5 ∧ rf s9 (b) 0 = some (b + 1) ∧ TG s9 (b + 2) (11) ∧ u9 (b + 2) = Z0 ∧ LN s9 (b + 2) 6 ∧ rf s9 (b) 1 = some (b + 2) ∧ TG s9 (b + 3) (11) ∧ u9 (b + 3) = Z0 ∧ LN s9 (b + 3) 6 ∧ rf s9 (b) 2 = some (b + 3) ∧ TG s9 (b + 4) (11) ∧ u9 (b + 4) = Z0 ∧ LN s9 (b + 4) 6 ∧ rf s9 (b) 3 = some (b + 4) ∧ TG s9 (b + 5) (14) ∧ u9 (b + 5) = Z0 ∧ LN s9 (b + 5) 8) ⟨(congrArg Nat.succ f8_0), (f8_1.c oa8 (Nat.le_add_right _ _)), (TG.o f8_2 oa8 (Nat.lt_add_of_pos_right (by decide))), (MU.o f8_3 oa8 (Nat.lt_add_of_pos_right (by decide))), (TG.o f8_4 oa8 (Nat.add_lt_add_left (by decide) _)), (MU.o f8_5 oa8 (Nat.add_lt_add_left (by decide) _)), (LN.o f8_6 oa8 (Nat.add_lt_add_left (by decide) _)), (RF.o f8_7 oa8 (Nat.lt_add_of_pos_right (by decide))), (TG.o f8_8 oa8 (Nat.add_lt_add_left (by decide) _)), (MU.o f8_9 oa8 (Nat.add_lt_add_left (by decide) _)), (LN.o f8_10 oa8 (Nat.add_lt_add_left (by decide) _)), (RF.o f8_11 oa8 (Nat.lt_add_of_pos_right (by decide))), (TG.o f8_12 oa8 (Nat.add_lt_add_left (by decide) _)), (MU.o f8_13 oa8 (Nat.add_lt_add_left (by decide) _)), (LN.o f8_14 oa8 (Nat.add_lt_add_left (by decide) _)), (RF.o f8_15 oa8 (Nat.lt_add_of_pos_right (by decide))), (TG.o f8_16 oa8 (Nat.add_lt_add_left (by decide) _)), (MU.o f8_17 oa8 (Nat.add_lt_add_left (by decide) _)), (LN.o f8_18 oa8 (Nat.add_lt_add_left (by decide) _)), (RF.o f8_19 oa8 (Nat.lt_add_of_pos_right (by decide))), (wN_tg (Eq.symm f8_0)), (wC_self _ _ _), (wN_ln (Eq.symm f8_0))⟩ (fun σ9 μ9 hh9 => ?_)
  obtain ⟨f9_0, f9_1, f9_2, f9_3, f9_4, f9_5, f9_6, f9_7, f9_8, f9_9, f9_10, f9_11, f9_12, f9_13, f9_14, f9_15, f9_16, f9_17, f9_18, f9_19, f9_20, f9_21, f9_22⟩ := hh9
  clear f8_0 f8_1 f8_2 f8_3 f8_4 f8_5 f8_6 f8_7 f8_8 f8_9 f8_10 f8_11 f8_12 f8_13 f8_14 f8_15 f8_16 f8_17 f8_18 f8_19 oa8
  refine pw_putR 0 4 dX0_init_47 fX0_34 rfl (by decide) rfl (Or.inr ⟨rfl, rfl, rfl⟩) rfl rfl rfl f9_2 ?_
  refine pw_genA (P := fun s9 u9 => cxB X + nn s9 = b + 6 ∧ OLD (b) σ μ s9 u9 ∧ TG s9 (b) (1) ∧ u9 (b) = Z0 ∧ TG s9 (b + 1) (11) ∧ u9 (b + 1) = pw_AF ∧ LN s9 (b + 1) 5 ∧ rf s9 (b) 0 = some (b + 1) ∧ TG s9 (b + 2) (11) ∧ u9 (b + 2) = Z0 ∧ LN s9 (b + 2) 6 ∧ rf s9 (b) 1 = some (b + 2) ∧ TG s9 (b + 3) (11) ∧ u9 (b + 3) = Z0 ∧ LN s9 (b + 3) 6 ∧ rf s9 (b) 2 = some (b + 3) ∧ TG s9 (b + 4) (11) ∧ u9 (b + 4) = Z0 ∧ LN s9 (b + 4) 6 ∧ rf s9 (b) 3 = some (b + 4) ∧ TG s9 (b + 5) (14) ∧ u9 (b + 5) = Z0 ∧ LN s9 (b + 5) 8 ∧ rf s9 (b) 4 = some (b + 5)) ⟨f9_0, (f9_1.r (Nat.le_refl _)), f9_2, f9_3, f9_4, f9_5, f9_6, ((wR_n (by decide)).trans f9_7), f9_8, f9_9, f9_10, ((wR_n (by decide)).trans f9_11), f9_12, f9_13, f9_14, ((wR_n (by decide)).trans f9_15), f9_16, f9_17, f9_18, ((wR_n (by decide)).trans f9_19), f9_20, f9_21, f9_22, wR_s⟩ (fun σ10 μ10 hh9 => ?_)
  obtain ⟨f10_0, f10_1, f10_2, f10_3, f10_4, f10_5, f10_6, f10_7, f10_8, f10_9, f10_10, f10_11, f10_12, f10_13, f10_14, f10_15, f10_16, f10_17, f10_18, f10_19, f10_20, f10_21, f10_22, f10_23⟩ := hh9
  clear f9_0 f9_1 f9_2 f9_3 f9_4 f9_5 f9_6 f9_7 f9_8 f9_9 f9_10 f9_11 f9_12 f9_13 f9_14 f9_15 f9_16 f9_17 f9_18 f9_19 f9_20 f9_21 f9_22
  refine pw_iconst (v := nI 0) dX0_init_50 (by decide) ?_
  refine pw_istore_1 dX0_init_51 (by decide) ?_
  exact loop 8 0 _ _ rfl (by rw [f10_0]; rfl) ⟨f10_1, ⟨f10_2, f10_7, f10_11, f10_15, f10_19, f10_23⟩, ⟨⟨f10_4, f10_6⟩, ⟨f10_8, f10_10⟩, ⟨f10_12, f10_14⟩, ⟨f10_16, f10_18⟩, ⟨f10_20, f10_22⟩⟩, ⟨f10_3, f10_5, f10_9, f10_13, f10_17⟩, fun i hi => absurd hi (Nat.not_lt_zero i)⟩
def HK (σ0 : Sp) (μ0 : Mm) (h k : Nat) (σ : Sp) (μ : Mm) : Prop := OLD h σ0 μ0 σ μ ∧ (tg σ h = 2 ∧ rf σ h 0 = some (h + 1)) ∧ ShA σ (h + 1) 13 7 ∧ μ h = Z0 ∧ ∀ i, i < k → rf σ (h + 1) i = some (hb h i) ∧ ShBus σ (hb h i) ∧ BU μ (hb h i) B0 μ
theorem hb_lt {h i k : Nat} (hi : i < k) : h + 2 ≤ hb h i ∧ hb h i + 62 ≤ hb h k := by
  unfold hb
  omega
theorem HK.cg {σ0 σ σ' : Sp} {μ0 μ μ' : Mm} {h k : Nat} (g : HK σ0 μ0 h k σ μ) (e : ∀ c, c < hb h k → SEq σ σ' c ∧ μ' c = μ c) : HK σ0 μ0 h k σ' μ' := by
  obtain ⟨h1, ⟨t, r0⟩, a1, m0, h5⟩ := g
  have hs : h + 2 ≤ hb h k := by unfold hb; omega
  refine ⟨fun c hc => ⟨(h1 c hc).1.tr (e c (by omega)).1, (e c (by omega)).2.trans (h1 c hc).2⟩, ⟨(e h (by omega)).1.1.trans t, rf_cg r0 (e h (by omega)).1⟩, a1.cg (e _ (by omega)).1, (e h (by omega)).2.trans m0, fun i hi => ?_⟩
  have hi2 := hb_lt (h := h) hi
  obtain ⟨g1, g2, g3⟩ := h5 i hi
  exact ⟨rf_cg g1 (e _ (by omega)).1, g2.cg (fun c c1 c2 => (e c (by omega)).1), g3.at (fun c c1 c2 => (e c (by omega)).2)⟩
theorem HK.put {σ0 σ : Sp} {μ0 μ : Mm} {h k : Nat} (g : HK σ0 μ0 h k σ μ) (h2 : ShBus σ (hb h k)) (h3 : BU μ (hb h k) B0 μ) : HK σ0 μ0 h (k + 1) (wR σ (h + 1) k (some (hb h k))) μ := by
  obtain ⟨h1, ⟨t, r0⟩, a1, m0, h5⟩ := g
  have s : ∀ c, c ≠ h + 1 → SEq σ (wR σ (h + 1) k (some (hb h k))) c := fun c hc => seqR hc
  refine ⟨fun c hc => ⟨(h1 c hc).1.tr (s c (by omega)), (h1 c hc).2⟩, ⟨t, rf_cg r0 (s h (by omega))⟩, a1, m0, fun i hi => ?_⟩
  rcases Classical.em (i = k) with c | c
  · subst c
    have hs : h + 2 ≤ hb h i := by unfold hb; omega
    exact ⟨wR_s, h2.cg (fun c c1 c2 => s c (by omega)), h3⟩
  · have hi2 := hb_lt (h := h) (i := i) (k := k) (by omega)
    obtain ⟨g1, g2, g3⟩ := h5 i (by omega)
    exact ⟨(wR_n c).trans g1, g2.cg (fun c c1 c2 => s c (by omega)), g3⟩
def HBU (h : Nat) (μ : Mm) : Prop := ∀ j, j < 7 → BU μ (hb h j) B0 μ
theorem HBU.cg {h : Nat} {μ μ' : Mm} (g : HBU h μ) (e : ∀ c, h ≤ c → c < h + 436 → μ' c = μ c) : HBU h μ' := fun j hj => (g j hj).at (fun c c1 c2 => by
  have := hb_in (hh := h) hj
  exact e c (by omega) (by omega))
theorem HBU.o {σ σ' : Sp} {μ μ' : Mm} {n b : Nat} (h : HBU b μ) (o : OLD n σ μ σ' μ') (hc : b + 436 ≤ n) : HBU b μ' := h.cg (fun c _ h2 => (o c (Nat.lt_of_lt_of_le h2 hc)).2)
set_option maxRecDepth 100000 in
set_option maxHeartbeats 4000000 in
theorem i_Hist {X : Cx} {σ : Sp} {μ : Mm} {Q : Sp → Mm → Prop} {h : Nat} (hn : cxB X + nn σ = h + 1) (ht : tg σ h = 2) (hm : μ h = Z0) (q : ∀ σ' μ', OLD h σ μ σ' μ' → cxB X + nn σ' = h + 436 → ShHist σ' h → HBU h μ' → μ' h = Z0 → Q σ' μ') : CTv X mX1_init [.ref h] σ μ Q := by
  refine CT.of (by decide +kernel) (Nat.le_of_ble_eq_true rfl) ?_
  show PW X mX1_init 435 3024 0 [some (.ref h), none] [] σ μ (LV Q)
  have loop : ∀ r k σ9 μ9, k + r = 7 → cxB X + nn σ9 = hb h k → HK σ μ h k σ9 μ9 → PW X mX1_init (62 * r) (431 * r) 15 [some (.ref h), some (.int (nI k))] [] σ9 μ9 (LV Q) := by
    intro r
    induction r with
    | zero =>
      intro k σ9 μ9 hkr hn9 hk
      refine pw_iload_1 dX1_init_15 ?_
      refine pw_bipush (v := nI 6) dX1_init_16 (by decide) ?_
      refine pw_icmp_gt 40 dX1_init_18 (by decide) (fun _ => ?_) (fun hh => absurd (by rw [nI_ltI (by omega) (by omega)]; omega) hh)
      refine pw_return dX1_init_40 rfl ?_
      have hk8 : k = 7 := by omega
      subst hk8
      exact q _ _ hk.1 (by rw [hn9]; unfold hb; omega) ⟨hk.2.1.1, hk.2.1.2, hk.2.2.1, fun j hj => ⟨(hk.2.2.2.2 j hj).1, (hk.2.2.2.2 j hj).2.1⟩⟩ (fun j hj => (hk.2.2.2.2 j hj).2.2) hk.2.2.2.1
    | succ r ih =>
      intro k σ9 μ9 hkr hn9 hk
      have hst : h + 2 ≤ hb h k ∧ hb h (k + 1) = hb h k + 62 := by unfold hb; omega
      refine pw_iload_1 dX1_init_15 ?_
      refine pw_bipush (v := nI 6) dX1_init_16 (by decide) ?_
      refine pw_icmp_gt 40 dX1_init_18 (by decide) (fun hh => absurd hh (by rw [nI_ltI (by omega) (by omega)]; omega)) (fun _ => ?_)
      refine pw_aload_0 dX1_init_21 ?_
      refine pw_getr 1 0 dX1_init_22 fX1_11 rfl (by decide) rfl hk.2.1.1 hk.2.1.2 ?_
      refine pw_iload_1 dX1_init_25 ?_
      refine pw_new 0 dX1_init_26 lX1_9 tX0 uX0 (by decide) (a := hb h k) (b1' := 62 * r + 61) (b2' := 431 * r + 423) (by omega) (by omega) (show 431 * r + 423 + 8 ≤ 431 * (r + 1) by omega) ?_
      refine pw_dup dX1_init_29 ?_
      refine pw_cI0 dX1_init_30 kX1_17 vX0_init nX0_init rfl rfl ⟨by decide, by decide⟩ (Nat.le_of_ble_eq_true rfl) (b1' := 62 * r) (b2' := 431 * r) (show 62 * r + 61 ≤ 62 * r + 61 from Nat.le_refl _) (show 431 * r + 423 ≤ 431 * r + 423 from Nat.le_refl _) (i_Bus (by rw [wN_nn]; omega) (wN_tg (by omega)) (wC_self _ _ _) (fun σ8 μ8 o8 n8 s8 u8 => ?_))
      have hk8 := (hk.cg (fun c hc => ⟨seqN (by omega), wC_ne _ _ (by omega)⟩)).cg o8
      refine pw_aastB dX1_init_33 hk8.2.2.1.1 s8.t (pw_vin hk8.2.2.1.2 (by omega) (by decide)) ?_
      rw [nI_clamp (by omega)]
      refine pw_iincN_1 dX1_init_34 (by decide) ?_
      refine pw_goto 15 dX1_init_37 (by decide) ?_
      exact ih (k + 1) _ _ (by omega) (by show cxB X + nn σ8 = _; omega) (hk8.put s8 u8)
  refine pw_aload_0 dX1_init_0 ?_
  refine pw_oinit dX1_init_1 kX1_3 to_i to_c (by decide) (Nat.le_of_ble_eq_true rfl) ?_
  refine pw_aload_0 dX1_init_4 ?_
  refine pw_bipush (v := nI 7) dX1_init_5 (by decide) ?_
  refine pw_newqB (N := 7) dX1_init_7 lX1_9 (nI_pos (by omega)) (nI_clamp (by omega)) (by omega) (a := h + 1) (b1' := 434) (b2' := 3017) (by omega) (show 434 + 1 ≤ 435 from by omega) (show 3017 + 7 ≤ 3024 from by omega) ?_
  have oa0 : OLD (h + 1) σ μ (wN σ (cxB X) 13 7) (wC μ (h + 1) (fun _ => 0)) := OLD.rf.n (Eq.symm hn) (Nat.le_refl _)
  refine pw_genA (P := fun s9 u9 => cxB X + nn s9 = h + 2 ∧ OLD (h) σ μ s9 u9 ∧ TG s9 (h) (2) ∧ u9 (h) = Z0 ∧ TG s9 (h + 1) (13) ∧ u9 (h + 1) = Z0 ∧ LN s9 (h + 1) 7 ∧ rf s9 (h + 1) = N0) ⟨(congrArg Nat.succ hn), ((OLD.rf : OLD _ σ μ σ μ).c oa0 (Nat.le_add_right _ _)), (TG.o ht oa0 (Nat.lt_add_of_pos_right (by decide))), (MU.o hm oa0 (Nat.lt_add_of_pos_right (by decide))), (wN_tg (Eq.symm hn)), (wC_self _ _ _), (wN_ln (Eq.symm hn)), (wN_rf (Eq.symm hn))⟩ (fun σ1 μ1 hh9 => ?_)
  obtain ⟨f1_0, f1_1, f1_2, f1_3, f1_4, f1_5, f1_6, f1_7⟩ := hh9
  clear hn ht hm oa0
  refine pw_putR 1 0 dX1_init_10 fX1_11 rfl (by decide) rfl (Or.inr ⟨rfl, rfl, rfl⟩) rfl rfl rfl f1_2 ?_
  refine pw_genA (P := fun s9 u9 => cxB X + nn s9 = h + 2 ∧ OLD (h) σ μ s9 u9 ∧ TG s9 (h) (2) ∧ u9 (h) = Z0 ∧ TG s9 (h + 1) (13) ∧ u9 (h + 1) = Z0 ∧ LN s9 (h + 1) 7 ∧ rf s9 (h + 1) = N0 ∧ rf s9 (h) 0 = some (h + 1)) ⟨f1_0, (f1_1.r (Nat.le_refl _)), f1_2, f1_3, f1_4, f1_5, f1_6, ((seqR (Nat.ne_of_gt (Nat.lt_add_of_pos_right (by decide)))).2.2.trans f1_7), wR_s⟩ (fun σ2 μ2 hh9 => ?_)
  obtain ⟨f2_0, f2_1, f2_2, f2_3, f2_4, f2_5, f2_6, f2_7, f2_8⟩ := hh9
  clear f1_0 f1_1 f1_2 f1_3 f1_4 f1_5 f1_6 f1_7
  refine pw_iconst (v := nI 0) dX1_init_13 (by decide) ?_
  refine pw_istore_1 dX1_init_14 (by decide) ?_
  exact loop 7 0 _ _ rfl (by rw [f2_0]; rfl) ⟨f2_1, ⟨f2_2, f2_8⟩, ⟨f2_4, f2_6⟩, f2_3, fun i hi => absurd hi (Nat.not_lt_zero i)⟩

