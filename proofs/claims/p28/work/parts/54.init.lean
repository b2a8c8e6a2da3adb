/-! Constructors: row, latest, station, pad, reader -/
def Z0 : Nat → Int32 := fun _ => 0
def TG (σ : Sp) (a t : Nat) : Prop := tg σ a = t
def N0 : Nat → Option Nat := fun _ => none
def LN (σ : Sp) (a l : Nat) : Prop := ln σ a = l
theorem TG.o {σ σ' : Sp} {μ μ' : Mm} {n c t : Nat} (h : TG σ c t) (o : OLD n σ μ σ' μ') (hc : c < n) : TG σ' c t := (o c hc).1.1.trans h
theorem LN.o {σ σ' : Sp} {μ μ' : Mm} {n c t : Nat} (h : LN σ c t) (o : OLD n σ μ σ' μ') (hc : c < n) : LN σ' c t := (o c hc).1.2.1.trans h
theorem RF.o {σ σ' : Sp} {μ μ' : Mm} {n c k : Nat} {v : Option Nat} (h : rf σ c k = v) (o : OLD n σ μ σ' μ') (hc : c < n) : rf σ' c k = v := rf_cg h (o c hc).1
theorem RN.o {σ σ' : Sp} {μ μ' : Mm} {n c : Nat} {v : Nat → Option Nat} (h : rf σ c = v) (o : OLD n σ μ σ' μ') (hc : c < n) : rf σ' c = v := (o c hc).1.2.2.trans h
theorem MU.o {σ σ' : Sp} {μ μ' : Mm} {n c : Nat} {f : Nat → Int32} (h : μ c = f) (o : OLD n σ μ σ' μ') (hc : c < n) : μ' c = f := (o c hc).2.trans h
theorem ShBus.o {σ σ' : Sp} {μ μ' : Mm} {n b : Nat} (h : ShBus σ b) (o : OLD n σ μ σ' μ') (hc : b + 62 ≤ n) : ShBus σ' b := h.cg (fun c _ h2 => (o c (Nat.lt_of_lt_of_le h2 hc)).1)
theorem ShHist.o {σ σ' : Sp} {μ μ' : Mm} {n b : Nat} (h : ShHist σ b) (o : OLD n σ μ σ' μ') (hc : b + 436 ≤ n) : ShHist σ' b := h.cg (fun c _ h2 => (o c (Nat.lt_of_lt_of_le h2 hc)).1)
theorem ShPad.o {σ σ' : Sp} {μ μ' : Mm} {n b : Nat} (h : ShPad σ b) (o : OLD n σ μ σ' μ') (hc : b + 2 ≤ n) : ShPad σ' b := h.cg (fun c _ h2 => (o c (Nat.lt_of_lt_of_le h2 hc)).1)
theorem BU.o {σ σ' : Sp} {μ μ' : Mm} {n b : Nat} {B : Bs} (h : BU μ b B μ) (o : OLD n σ μ σ' μ') (hc : b + 62 ≤ n) : BU μ' b B μ' := h.at (fun c _ h2 => (o c (Nat.lt_of_lt_of_le h2 hc)).2)
theorem ShBus.r {σ : Sp} {a b k : Nat} {v : Option Nat} (h : ShBus σ b) (hc : a < b) : ShBus (wR σ a k v) b := h.cg (fun c h1 _ => seqR (Nat.ne_of_gt (Nat.lt_of_lt_of_le hc h1)))
theorem ShHist.r {σ : Sp} {a b k : Nat} {v : Option Nat} (h : ShHist σ b) (hc : a < b) : ShHist (wR σ a k v) b := h.cg (fun c h1 _ => seqR (Nat.ne_of_gt (Nat.lt_of_lt_of_le hc h1)))
theorem ShPad.r {σ : Sp} {a b k : Nat} {v : Option Nat} (h : ShPad σ b) (hc : a < b) : ShPad (wR σ a k v) b := h.cg (fun c h1 _ => seqR (Nat.ne_of_gt (Nat.lt_of_lt_of_le hc h1)))
theorem BU.w {μ : Mm} {a b k : Nat} {x : Int32} {B : Bs} (h : BU μ b B μ) (hc : a < b) : BU (wr μ a k x) b B (wr μ a k x) := h.at (fun c h1 _ => wr_n _ _ _ (Nat.ne_of_gt (Nat.lt_of_lt_of_le hc h1)))
set_option maxRecDepth 100000 in
set_option maxHeartbeats 4000000 in
theorem i_Row {X : Cx} {σ : Sp} {μ : Mm} {Q : Sp → Mm → Prop} {a : Nat} (hn : cxB X + nn σ = a + 1) (ht : tg σ a = 6) (hm : μ a = Z0) (q : ∀ σ' μ', OLD a σ μ σ' μ' → cxB X + nn σ' = a + 4 → (tg σ' a = 6 ∧ rf σ' a 0 = some (a + 1) ∧ rf σ' a 1 = some (a + 2) ∧ rf σ' a 2 = some (a + 3)) → ShA σ' (a + 1) 11 4 → ShA σ' (a + 2) 11 4 → ShA σ' (a + 3) 11 4 → (μ' a = Z0) → (μ' (a + 1) = Z0) → (μ' (a + 2) = Z0) → (μ' (a + 3) = Z0) → Q σ' μ') : CTv X mX5_init [.ref a] σ μ Q := by
  refine CT.of (by decide +kernel) (Nat.le_of_ble_eq_true rfl) ?_
  show PW X mX5_init 3 12 0 [some (.ref a)] [] σ μ (LV Q)
  refine pw_aload_0 dX5_init_0 ?_
  refine pw_oinit dX5_init_1 kX5_3 to_i to_c (by decide) (Nat.le_of_ble_eq_true rfl) ?_
  refine pw_aload_0 dX5_init_4 ?_
  refine pw_iconst (v := nI 4) dX5_init_5 (by decide) ?_
  refine pw_newaI (N := 4) dX5_init_6 ta_int (nI_pos (by omega)) (nI_clamp (by omega)) (by omega) (a := a + 1) (b1' := 2) (b2' := 8) (by omega) (show 2 + 1 ≤ 3 from by omega) (show 8 + 4 ≤ 12 from by omega) ?_
  have oa0 : OLD (a + 1) σ μ (wN σ (cxB X) 11 4) (wC μ (a + 1) (fun _ => 0)) := OLD.rf.n (Eq.symm hn) (Nat.le_refl _)
  refine pw_genA (P := fun s9 u9 => cxB X + nn s9 = a + 2 ∧ OLD (a) σ μ s9 u9 ∧ TG s9 (a) (6) ∧ u9 (a) = Z0 ∧ TG s9 (a + 1) (11) ∧ u9 (a + 1) = Z0 ∧ LN s9 (a + 1) 4) ⟨(congrArg Nat.succ hn), ((OLD.rf : OLD _ σ μ σ μ).c oa0 (Nat.le_add_right _ _)), (TG.o ht oa0 (Nat.lt_add_of_pos_right (by decide))), (MU.o hm oa0 (Nat.lt_add_of_pos_right (by decide))), (wN_tg (Eq.symm hn)), (wC_self _ _ _), (wN_ln (Eq.symm hn))⟩ (fun σ1 μ1 hh9 => ?_)
  obtain ⟨f1_0, f1_1, f1_2, f1_3, f1_4, f1_5, f1_6⟩ := hh9
  clear hn ht hm oa0
  refine pw_putR 5 0 dX5_init_8 fX5_9 rfl (by decide) rfl (Or.inr ⟨rfl, rfl, rfl⟩) rfl rfl rfl f1_2 ?_
  refine pw_genA (P := fun s9 u9 => cxB X + nn s9 = a + 2 ∧ OLD (a) σ μ s9 u9 ∧ TG s9 (a) (6) ∧ u9 (a) = Z0 ∧ TG s9 (a + 1) (11) ∧ u9 (a + 1) = Z0 ∧ LN s9 (a + 1) 4 ∧ rf s9 (a) 0 = some (a + 1)) ⟨f1_0, (f1_1.r (Nat.le_refl _)), f1_2, f1_3, f1_4, f1_5, f1_6, wR_s⟩ (fun σ2 μ2 hh9 => ?_)
  obtain ⟨f2_0, f2_1, f2_2, f2_3, f2_4, f2_5, f2_6, f2_7⟩ := hh9
  clear f1_0 f1_1 f1_2 f1_3 f1_4 f1_5 f1_6
  refine pw_aload_0 dX5_init_11 ?_
  refine pw_iconst (v := nI 4) dX5_init_12 (by decide) ?_
  refine pw_newaI (N := 4) dX5_init_13 ta_int (nI_pos (by omega)) (nI_clamp (by omega)) (by omega) (a := a + 2) (b1' := 1) (b2' := 4) (by omega) (show 1 + 1 ≤ 2 from by omega) (show 4 + 4 ≤ 8 from by omega) ?_
  have oa2 : OLD (a + 2) σ2 μ2 (wN σ2 (cxB X) 11 4) (wC μ2 (a + 2) (fun _ => 0)) := OLD.rf.n (Eq.symm f2_0) (Nat.le_refl _)
  refine pw_genA (P := fun s9 u9 => cxB X + nn s9 = a + 3 ∧ OLD (a) σ μ s9 u9 ∧ TG s9 (a) (6) ∧ u9 (a) = Z0 ∧ TG s9 (a + 1) (11) ∧ u9 (a + 1) = Z0 ∧ LN s9 (a + 1) 4 ∧ rf s9 (a) 0 = some (a + 1) ∧ TG s9 (a + 2) (11) ∧ u9 (a + 2) = Z0 ∧ LN s9 (a + 2) 4) ⟨(congrArg Nat.succ f2_0), (f2_1.c oa2 (Nat.le_add_right _ _)), (TG.o f2_2 oa2 (Nat.lt_add_of_pos_right (by decide))), (MU.o f2_3 oa2 (Nat.lt_add_of_pos_right (by decide))), (TG.o f2_4 oa2 (Nat.add_lt_add_left (by decide) _)), (MU.o f2_5 oa2 (Nat.add_lt_add_left (by decide) _)), (LN.o f2_6 oa2 (Nat.add_lt_add_left (by decide) _)), (RF.o f2_7 oa2 (Nat.lt_add_of_pos_right (by decide))), (wN_tg (Eq.symm f2_0)), (wC_self _ _ _), (wN_ln (Eq.symm f2_0))⟩ (fun σ3 μ3 hh9 => ?_)
  obtain ⟨f3_0, f3_1, f3_2, f3_3, f3_4, f3_5, f3_6, f3_7, f3_8, f3_9, f3_10⟩ := hh9
  clear f2_0 f2_1 f2_2 f2_3 f2_4 f2_5 f2_6 f2_7 oa2
  refine pw_putR 5 1 dX5_init_15 fX5_15 rfl (by decide) rfl (Or.inr ⟨rfl, rfl, rfl⟩) rfl rfl rfl f3_2 ?_
  refine pw_genA (P := fun s9 u9 => cxB X + nn s9 = a + 3 ∧ OLD (a) σ μ s9 u9 ∧ TG s9 (a) (6) ∧ u9 (a) = Z0 ∧ TG s9 (a + 1) (11) ∧ u9 (a + 1) = Z0 ∧ LN s9 (a + 1) 4 ∧ rf s9 (a) 0 = some (a + 1) ∧ TG s9 (a + 2) (11) ∧ u9 (a + 2) = Z0 ∧ LN s9 (a + 2) 4 ∧ rf s9 (a) 1 = some (a + 2)) ⟨f3_0, (f3_1.r (Nat.le_refl _)), f3_2, f3_3, f3_4, f3_5, f3_6, ((wR_n (by decide)).trans f3_7), f3_8, f3_9, f3_10, wR_s⟩ (fun σ4 μ4 hh9 => ?_)
  obtain ⟨f4_0, f4_1, f4_2, f4_3, f4_4, f4_5, f4_6, f4_7, f4_8, f4_9, f4_10, f4_11⟩ := hh9
  clear f3_0 f3_1 f3_2 f3_3 f3_4 f3_5 f3_6 f3_7 f3_8 f3_9 f3_10
  refine pw_aload_0 dX5_init_18 ?_
  refine pw_iconst (v := nI 4) dX5_init_19 (by decide) ?_
  refine pw_newaI (N := 4) dX5_init_20 ta_int (nI_pos (by omega)) (nI_clamp (by omega)) (by omega) (a := a + 3) (b1' := 0) (b2' := 0) (by omega) (show 0 + 1 ≤ 1 from by omega) (show 0 + 4 ≤ 4 from by omega) ?_
  have oa4 : OLD (a + 3) σ4 μ4 (wN σ4 (cxB X) 11 4) (wC μ4 (a + 3) (fun _ => 0)) := OLD.rf.n (Eq.symm f4_0) (Nat.le_refl _)
  refine pw_genA (P := fun s9 u9 => cxB X + nn s9 = a + 4 ∧ OLD (a) σ μ s9 u9 ∧ TG s9 (a) (6) ∧ u9 (a) = Z0 ∧ TG s9 (a + 1) (11) ∧ u9 (a + 1) = Z0 ∧ LN s9 (a + 1) 4 ∧ rf s9 (a) 0 = some (a + 1) ∧ TG s9 (a + 2) (11) ∧ u9 (a + 2) = Z0 ∧ LN s9 (a + 2) 4 ∧ rf s9 (a) 1 = some (a + 2) ∧ TG s9 (a + 3) (11) ∧ u9 (a + 3) = Z0 ∧ LN s9 (a + 3) 4) ⟨(congrArg Nat.succ f4_0), (f4_1.c oa4 (Nat.le_add_right _ _)), (TG.o f4_2 oa4 (Nat.lt_add_of_pos_right (by decide))), (MU.o f4_3 oa4 (Nat.lt_add_of_pos_right (by decide))), (TG.o f4_4 oa4 (Nat.add_lt_add_left (by decide) _)), (MU.o f4_5 oa4 (Nat.add_lt_add_left (by decide) _)), (LN.o f4_6 oa4 (Nat.add_lt_add_left (by decide) _)), (RF.o f4_7 oa4 (Nat.lt_add_of_pos_right (by decide))), (TG.o f4_8 oa4 (Nat.add_lt_add_left (by decide) _)), (MU.o f4_9 oa4 (Nat.add_lt_add_left (by decide) _)), (LN.o f4_10 oa4 (Nat.add_lt_add_left (by decide) _)), (RF.o f4_11 oa4 (Nat.lt_add_of_pos_right (by decide))), (wN_tg (Eq.symm f4_0)), (wC_self _ _ _), (wN_ln (Eq.symm f4_0))⟩ (fun σ5 μ5 hh9 => ?_)
  obtain ⟨f5_0, f5_1, f5_2, f5_3, f5_4, f5_5, f5_6, f5_7, f5_8, f5_9, f5_10, f5_11, f5_12, f5_13, f5_14⟩ := hh9
  clear f4_0 f4_1 f4_2 f4_3 f4_4 f4_5 f4_6 f4_7 f4_8 f4_9 f4_10 f4_11 oa4
  refine pw_putR 5 2 dX5_init_22 fX5_18 rfl (by decide) rfl (Or.inr ⟨rfl, rfl, rfl⟩) rfl rfl rfl f5_2 ?_
  refine pw_genA (P := fun s9 u9 => cxB X + nn s9 = a + 4 ∧ OLD (a) σ μ s9 u9 ∧ TG s9 (a) (6) ∧ u9 (a) = Z0 ∧ TG s9 (a + 1) (11) ∧ u9 (a + 1) = Z0 ∧ LN s9 (a + 1) 4 ∧ rf s9 (a) 0 = some (a + 1) ∧ TG s9 (a + 2) (11) ∧ u9 (a + 2) = Z0 ∧ LN s9 (a + 2) 4 ∧ rf s9 (a) 1 = some (a + 2) ∧ TG s9 (a + 3) (11) ∧ u9 (a + 3) = Z0 ∧ LN s9 (a + 3) 4 ∧ rf s9 (a) 2 = some (a + 3)) ⟨f5_0, (f5_1.r (Nat.le_refl _)), f5_2, f5_3, f5_4, f5_5, f5_6, ((wR_n (by decide)).trans f5_7), f5_8, f5_9, f5_10, ((wR_n (by decide)).trans f5_11), f5_12, f5_13, f5_14, wR_s⟩ (fun σ6 μ6 hh9 => ?_)
  obtain ⟨f6_0, f6_1, f6_2, f6_3, f6_4, f6_5, f6_6, f6_7, f6_8, f6_9, f6_10, f6_11, f6_12, f6_13, f6_14, f6_15⟩ := hh9
  clear f5_0 f5_1 f5_2 f5_3 f5_4 f5_5 f5_6 f5_7 f5_8 f5_9 f5_10 f5_11 f5_12 f5_13 f5_14
  refine pw_return dX5_init_25 rfl ?_
  exact q _ _ f6_1 f6_0 ⟨f6_2, f6_7, f6_11, f6_15⟩ ⟨f6_4, f6_6⟩ ⟨f6_8, f6_10⟩ ⟨f6_12, f6_14⟩ f6_3 f6_5 f6_9 f6_13
set_option maxRecDepth 100000 in
set_option maxHeartbeats 4000000 in
theorem i_Latest {X : Cx} {σ : Sp} {μ : Mm} {Q : Sp → Mm → Prop} {a : Nat} (hn : cxB X + nn σ = a + 1) (ht : tg σ a = 3) (hm : μ a = Z0) (q : ∀ σ' μ', OLD a σ μ σ' μ' → cxB X + nn σ' = a + 2 → (tg σ' a = 3 ∧ rf σ' a 0 = some (a + 1)) → ShA σ' (a + 1) 11 16 → (μ' a = Z0) → (μ' (a + 1) = Z0) → Q σ' μ') : CTv X mX2_init [.ref a] σ μ Q := by
  refine CT.of (by decide +kernel) (Nat.le_of_ble_eq_true rfl) ?_
  show PW X mX2_init 1 16 0 [some (.ref a)] [] σ μ (LV Q)
  refine pw_aload_0 dX2_init_0 ?_
  refine pw_oinit dX2_init_1 kX2_3 to_i to_c (by decide) (Nat.le_of_ble_eq_true rfl) ?_
  refine pw_aload_0 dX2_init_4 ?_
  refine pw_bipush (v := nI 16) dX2_init_5 (by decide) ?_
  refine pw_newaI (N := 16) dX2_init_7 ta_int (nI_pos (by omega)) (nI_clamp (by omega)) (by omega) (a := a + 1) (b1' := 0) (b2' := 0) (by omega) (show 0 + 1 ≤ 1 from by omega) (show 0 + 16 ≤ 16 from by omega) ?_
  have oa0 : OLD (a + 1) σ μ (wN σ (cxB X) 11 16) (wC μ (a + 1) (fun _ => 0)) := OLD.rf.n (Eq.symm hn) (Nat.le_refl _)
  refine pw_genA (P := fun s9 u9 => cxB X + nn s9 = a + 2 ∧ OLD (a) σ μ s9 u9 ∧ TG s9 (a) (3) ∧ u9 (a) = Z0 ∧ TG s9 (a + 1) (11) ∧ u9 (a + 1) = Z0 ∧ LN s9 (a + 1) 16) ⟨(congrArg Nat.succ hn), ((OLD.rf : OLD _ σ μ σ μ).c oa0 (Nat.le_add_right _ _)), (TG.o ht oa0 (Nat.lt_add_of_pos_right (by decide))), (MU.o hm oa0 (Nat.lt_add_of_pos_right (by decide))), (wN_tg (Eq.symm hn)), (wC_self _ _ _), (wN_ln (Eq.symm hn))⟩ (fun σ1 μ1 hh9 => ?_)
  obtain ⟨f1_0, f1_1, f1_2, f1_3, f1_4, f1_5, f1_6⟩ := hh9
  clear hn ht hm oa0
  refine pw_putR 2 0 dX2_init_9 fX2_9 rfl (by decide) rfl (Or.inr ⟨rfl, rfl, rfl⟩) rfl rfl rfl f1_2 ?_
  refine pw_genA (P := fun s9 u9 => cxB X + nn s9 = a + 2 ∧ OLD (a) σ μ s9 u9 ∧ TG s9 (a) (3) ∧ u9 (a) = Z0 ∧ TG s9 (a + 1) (11) ∧ u9 (a + 1) = Z0 ∧ LN s9 (a + 1) 16 ∧ rf s9 (a) 0 = some (a + 1)) ⟨f1_0, (f1_1.r (Nat.le_refl _)), f1_2, f1_3, f1_4, f1_5, f1_6, wR_s⟩ (fun σ2 μ2 hh9 => ?_)
  obtain ⟨f2_0, f2_1, f2_2, f2_3, f2_4, f2_5, f2_6, f2_7⟩ := hh9
  clear f1_0 f1_1 f1_2 f1_3 f1_4 f1_5 f1_6
  refine pw_return dX2_init_12 rfl ?_
  exact q _ _ f2_1 f2_0 ⟨f2_2, f2_7⟩ ⟨f2_4, f2_6⟩ f2_3 f2_5
set_option maxRecDepth 100000 in
set_option maxHeartbeats 4000000 in
theorem i_Pad {X : Cx} {σ : Sp} {μ : Mm} {Q : Sp → Mm → Prop} {a : Nat} (hn : cxB X + nn σ = a + 1) (ht : tg σ a = 4) (hm : μ a = Z0) (q : ∀ σ' μ', OLD a σ μ σ' μ' → cxB X + nn σ' = a + 2 → ShPad σ' a → (μ' a = Z0) → Q σ' μ') : CTv X mX3_init [.ref a] σ μ Q := by
  refine CT.of (by decide +kernel) (Nat.le_of_ble_eq_true rfl) ?_
  show PW X mX3_init 1 80 0 [some (.ref a)] [] σ μ (LV Q)
  refine pw_aload_0 dX3_init_0 ?_
  refine pw_oinit dX3_init_1 kX3_3 to_i to_c (by decide) (Nat.le_of_ble_eq_true rfl) ?_
  refine pw_aload_0 dX3_init_4 ?_
  refine pw_bipush (v := nI 80) dX3_init_5 (by decide) ?_
  refine pw_newaC (N := 80) dX3_init_7 ta_char (nI_pos (by omega)) (nI_clamp (by omega)) (by omega) (a := a + 1) (b1' := 0) (b2' := 0) (by omega) (show 0 + 1 ≤ 1 from by omega) (show 0 + 80 ≤ 80 from by omega) ?_
  have oa0 : OLD (a + 1) σ μ (wN σ (cxB X) 10 80) (wC μ (a + 1) (fun _ => 0)) := OLD.rf.n (Eq.symm hn) (Nat.le_refl _)
  refine pw_genA (P := fun s9 u9 => cxB X + nn s9 = a + 2 ∧ OLD (a) σ μ s9 u9 ∧ TG s9 (a) (4) ∧ u9 (a) = Z0 ∧ TG s9 (a + 1) (10) ∧ u9 (a + 1) = Z0 ∧ LN s9 (a + 1) 80) ⟨(congrArg Nat.succ hn), ((OLD.rf : OLD _ σ μ σ μ).c oa0 (Nat.le_add_right _ _)), (TG.o ht oa0 (Nat.lt_add_of_pos_right (by decide))), (MU.o hm oa0 (Nat.lt_add_of_pos_right (by decide))), (wN_tg (Eq.symm hn)), (wC_self _ _ _), (wN_ln (Eq.symm hn))⟩ (fun σ1 μ1 hh9 => ?_)
  obtain ⟨f1_0, f1_1, f1_2, f1_3, f1_4, f1_5, f1_6⟩ := hh9
  clear hn ht hm oa0
  refine pw_putR 3 0 dX3_init_9 fX3_9 rfl (by decide) rfl (Or.inr ⟨rfl, rfl, rfl⟩) rfl rfl rfl f1_2 ?_
  refine pw_genA (P := fun s9 u9 => cxB X + nn s9 = a + 2 ∧ OLD (a) σ μ s9 u9 ∧ TG s9 (a) (4) ∧ u9 (a) = Z0 ∧ TG s9 (a + 1) (10) ∧ u9 (a + 1) = Z0 ∧ LN s9 (a + 1) 80 ∧ rf s9 (a) 0 = some (a + 1)) ⟨f1_0, (f1_1.r (Nat.le_refl _)), f1_2, f1_3, f1_4, f1_5, f1_6, wR_s⟩ (fun σ2 μ2 hh9 => ?_)
  obtain ⟨f2_0, f2_1, f2_2, f2_3, f2_4, f2_5, f2_6, f2_7⟩ := hh9
  clear f1_0 f1_1 f1_2 f1_3 f1_4 f1_5 f1_6
  refine pw_return dX3_init_12 rfl ?_
  exact q _ _ f2_1 f2_0 ⟨f2_2, f2_7, f2_4, f2_6⟩ f2_3
set_option maxRecDepth 100000 in
set_option maxHeartbeats 4000000 in
theorem i_Reader {X : Cx} {σ : Sp} {μ : Mm} {Q : Sp → Mm → Prop} {a p : Nat} (hn : cxB X + nn σ = a + 1) (ht : tg σ a = 5) (hm : μ a = Z0) (q : ∀ σ' μ', OLD a σ μ σ' μ' → cxB X + nn σ' = a + 1 → tg σ' a = 5 → rf σ' a 0 = some p → (μ' a = Z0) → Q σ' μ') : CTv X mX4_init [.ref a, .ref p] σ μ Q := by
  refine CT.of (by decide +kernel) (Nat.le_of_ble_eq_true rfl) ?_
  show PW X mX4_init 0 0 0 [some (.ref a), some (.ref p)] [] σ μ (LV Q)
  refine pw_aload_0 dX4_init_0 ?_
  refine pw_oinit dX4_init_1 kX4_3 to_i to_c (by decide) (Nat.le_of_ble_eq_true rfl) ?_
  refine pw_aload_0 dX4_init_4 ?_
  refine pw_aload_1 dX4_init_5 ?_
  refine pw_putR 4 0 dX4_init_6 fX4_9 rfl (by decide) rfl (Or.inr ⟨rfl, rfl, rfl⟩) rfl rfl rfl ht ?_
  refine pw_genA (P := fun s9 u9 => cxB X + nn s9 = a + 1 ∧ OLD (a) σ μ s9 u9 ∧ TG s9 (a) (5) ∧ u9 (a) = Z0 ∧ rf s9 (a) 0 = some (p)) ⟨hn, ((OLD.rf : OLD _ σ μ σ μ).r (Nat.le_refl _)), ht, hm, wR_s⟩ (fun σ1 μ1 hh9 => ?_)
  obtain ⟨f1_0, f1_1, f1_2, f1_3, f1_4⟩ := hh9
  clear hn ht hm
  refine pw_return dX4_init_9 rfl ?_
  exact q _ _ f1_1 f1_0 f1_2 f1_4 f1_3
set_option maxRecDepth 100000 in
set_option maxHeartbeats 4000000 in
theorem i_Station {X : Cx} {σ : Sp} {μ : Mm} {Q : Sp → Mm → Prop} {a i : Nat} (hn : cxB X + nn σ = a + 1) (ht : tg σ a = 7) (hm : μ a = Z0) (q : ∀ σ' μ', OLD a σ μ σ' μ' → cxB X + nn σ' = a + 7 → ShSt σ' a → SU μ' a i 0 (fun _ => nI 0) → Q σ' μ') : CTv X mX6_init [.ref a, .int (nI i)] σ μ Q := by
  refine CT.of (by decide +kernel) (Nat.le_of_ble_eq_true rfl) ?_
  show PW X mX6_init 6 34 0 [some (.ref a), some (.int (nI i))] [] σ μ (LV Q)
  refine pw_aload_0 dX6_init_0 ?_
  refine pw_oinit dX6_init_1 kX6_3 to_i to_c (by decide) (Nat.le_of_ble_eq_true rfl) ?_
  refine pw_aload_0 dX6_init_4 ?_
  refine pw_new 5 dX6_init_5 lX6_9 tX5 uX5 (by decide) (a := a + 1) (b1' := 5) (b2' := 30) (by omega) (show 5 + 1 ≤ 6 from by omega) (show 30 + 4 ≤ 34 from by omega) ?_
  have oa0 : OLD (a + 1) σ μ (wN σ (cxB X) 6 0) (wC μ (a + 1) (fun _ => 0)) := OLD.rf.n (Eq.symm hn) (Nat.le_refl _)
  refine pw_genA (P := fun s9 u9 => cxB X + nn s9 = a + 2 ∧ OLD (a) σ μ s9 u9 ∧ TG s9 (a) (7) ∧ u9 (a) = Z0 ∧ TG s9 (a + 1) (6) ∧ u9 (a + 1) = Z0) ⟨(congrArg Nat.succ hn), ((OLD.rf : OLD _ σ μ σ μ).c oa0 (Nat.le_add_right _ _)), (TG.o ht oa0 (Nat.lt_add_of_pos_right (by decide))), (MU.o hm oa0 (Nat.lt_add_of_pos_right (by decide))), (wN_tg (Eq.symm hn)), (wC_self _ _ _)⟩ (fun σ1 μ1 hh9 => ?_)
  obtain ⟨f1_0, f1_1, f1_2, f1_3, f1_4, f1_5⟩ := hh9
  clear hn ht hm oa0
  refine pw_dup dX6_init_8 ?_
  refine pw_cIN0 dX6_init_9 kX6_11 vX5_init nX5_init rfl rfl ⟨by decide, by decide⟩ (Nat.le_of_ble_eq_true rfl) (b1' := 2) (b2' := 18) (show 2 + 3 ≤ 5 from by omega) (show 18 + 12 ≤ 30 from by omega) (i_Row f1_0 f1_4 f1_5 (fun σ0 μ0 o9_1 n9_1 r9_1 s1_1 s2_1 s3_1 m0_1 m1_1 m2_1 m3_1 => ?_))
  refine pw_genA (P := fun s9 u9 => OLD (a) σ μ s9 u9 ∧ TG s9 (a) (7) ∧ u9 (a) = Z0 ∧ cxB X + nn s9 = a + 5 ∧ TG s9 (a + 1) (6) ∧ rf s9 (a + 1) 0 = some (a + 2) ∧ rf s9 (a + 1) 1 = some (a + 3) ∧ rf s9 (a + 1) 2 = some (a + 4) ∧ TG s9 (a + 2) (11) ∧ LN s9 (a + 2) 4 ∧ TG s9 (a + 3) (11) ∧ LN s9 (a + 3) 4 ∧ TG s9 (a + 4) (11) ∧ LN s9 (a + 4) 4 ∧ u9 (a + 1) = Z0 ∧ u9 (a + 2) = Z0 ∧ u9 (a + 3) = Z0 ∧ u9 (a + 4) = Z0) ⟨(f1_1.c o9_1 (Nat.le_add_right _ _)), (TG.o f1_2 o9_1 (Nat.lt_add_of_pos_right (by decide))), (MU.o f1_3 o9_1 (Nat.lt_add_of_pos_right (by decide))), n9_1, r9_1.1, r9_1.2.1, r9_1.2.2.1, r9_1.2.2.2, s1_1.1, s1_1.2, s2_1.1, s2_1.2, s3_1.1, s3_1.2, m0_1, m1_1, m2_1, m3_1⟩ (fun σ2 μ2 hh9 => ?_)
  obtain ⟨f2_0, f2_1, f2_2, f2_3, f2_4, f2_5, f2_6, f2_7, f2_8, f2_9, f2_10, f2_11, f2_12, f2_13, f2_14, f2_15, f2_16, f2_17⟩ := hh9
  clear f1_0 f1_1 f1_2 f1_3 f1_4 f1_5 o9_1 n9_1 r9_1 s1_1 s2_1 s3_1 m0_1 m1_1 m2_1 m3_1
  refine pw_putR 6 1 dX6_init_12 fX6_12 rfl (by decide) rfl (Or.inr ⟨rfl, rfl, rfl⟩) rfl rfl rfl f2_1 ?_
  refine pw_genA (P := fun s9 u9 => OLD (a) σ μ s9 u9 ∧ TG s9 (a) (7) ∧ u9 (a) = Z0 ∧ cxB X + nn s9 = a + 5 ∧ TG s9 (a + 1) (6) ∧ rf s9 (a + 1) 0 = some (a + 2) ∧ rf s9 (a + 1) 1 = some (a + 3) ∧ rf s9 (a + 1) 2 = some (a + 4) ∧ TG s9 (a + 2) (11) ∧ LN s9 (a + 2) 4 ∧ TG s9 (a + 3) (11) ∧ LN s9 (a + 3) 4 ∧ TG s9 (a + 4) (11) ∧ LN s9 (a + 4) 4 ∧ u9 (a + 1) = Z0 ∧ u9 (a + 2) = Z0 ∧ u9 (a + 3) = Z0 ∧ u9 (a + 4) = Z0 ∧ rf s9 (a) 1 = some (a + 1)) ⟨(f2_0.r (Nat.le_refl _)), f2_1, f2_2, f2_3, f2_4, (rf_cg f2_5 (seqR (Nat.ne_of_gt (Nat.lt_add_of_pos_right (by decide))))), (rf_cg f2_6 (seqR (Nat.ne_of_gt (Nat.lt_add_of_pos_right (by decide))))), (rf_cg f2_7 (seqR (Nat.ne_of_gt (Nat.lt_add_of_pos_right (by decide))))), f2_8, f2_9, f2_10, f2_11, f2_12, f2_13, f2_14, f2_15, f2_16, f2_17, wR_s⟩ (fun σ3 μ3 hh9 => ?_)
  obtain ⟨f3_0, f3_1, f3_2, f3_3, f3_4, f3_5, f3_6, f3_7, f3_8, f3_9, f3_10, f3_11, f3_12, f3_13, f3_14, f3_15, f3_16, f3_17, f3_18⟩ := hh9
  clear f2_0 f2_1 f2_2 f2_3 f2_4 f2_5 f2_6 f2_7 f2_8 f2_9 f2_10 f2_11 f2_12 f2_13 f2_14 f2_15 f2_16 f2_17
  refine pw_aload_0 dX6_init_15 ?_
  refine pw_new 2 dX6_init_16 lX6_18 tX2 uX2 (by decide) (a := a + 5) (b1' := 1) (b2' := 16) (by omega) (show 1 + 1 ≤ 2 from by omega) (show 16 + 2 ≤ 18 from by omega) ?_
  have oa3 : OLD (a + 5) σ3 μ3 (wN σ3 (cxB X) 3 0) (wC μ3 (a + 5) (fun _ => 0)) := OLD.rf.n (Eq.symm f3_3) (Nat.le_refl _)
  refine pw_genA (P := fun s9 u9 => OLD (a) σ μ s9 u9 ∧ TG s9 (a) (7) ∧ u9 (a) = Z0 ∧ cxB X + nn s9 = a + 6 ∧ TG s9 (a + 1) (6) ∧ rf s9 (a + 1) 0 = some (a + 2) ∧ rf s9 (a + 1) 1 = some (a + 3) ∧ rf s9 (a + 1) 2 = some (a + 4) ∧ TG s9 (a + 2) (11) ∧ LN s9 (a + 2) 4 ∧ TG s9 (a + 3) (11) ∧ LN s9 (a + 3) 4 ∧ TG s9 (a + 4) (11) ∧ LN s9 (a + 4) 4 ∧ u9 (a + 1) = Z0 ∧ u9 (a + 2) = Z0 ∧ u9 (a + 3) = Z0 ∧ u9 (a + 4) = Z0 ∧ rf s9 (a) 1 = some (a + 1) ∧ TG s9 (a + 5) (3) ∧ u9 (a + 5) = Z0) ⟨(f3_0.c oa3 (Nat.le_add_right _ _)), (TG.o f3_1 oa3 (Nat.lt_add_of_pos_right (by decide))), (MU.o f3_2 oa3 (Nat.lt_add_of_pos_right (by decide))), (congrArg Nat.succ f3_3), (TG.o f3_4 oa3 (Nat.add_lt_add_left (by decide) _)), (RF.o f3_5 oa3 (Nat.add_lt_add_left (by decide) _)), (RF.o f3_6 oa3 (Nat.add_lt_add_left (by decide) _)), (RF.o f3_7 oa3 (Nat.add_lt_add_left (by decide) _)), (TG.o f3_8 oa3 (Nat.add_lt_add_left (by decide) _)), (LN.o f3_9 oa3 (Nat.add_lt_add_left (by decide) _)), (TG.o f3_10 oa3 (Nat.add_lt_add_left (by decide) _)), (LN.o f3_11 oa3 (Nat.add_lt_add_left (by decide) _)), (TG.o f3_12 oa3 (Nat.add_lt_add_left (by decide) _)), (LN.o f3_13 oa3 (Nat.add_lt_add_left (by decide) _)), (MU.o f3_14 oa3 (Nat.add_lt_add_left (by decide) _)), (MU.o f3_15 oa3 (Nat.add_lt_add_left (by decide) _)), (MU.o f3_16 oa3 (Nat.add_lt_add_left (by decide) _)), (MU.o f3_17 oa3 (Nat.add_lt_add_left (by decide) _)), (RF.o f3_18 oa3 (Nat.lt_add_of_pos_right (by decide))), (wN_tg (Eq.symm f3_3)), (wC_self _ _ _)⟩ (fun σ4 μ4 hh9 => ?_)
  obtain ⟨f4_0, f4_1, f4_2, f4_3, f4_4, f4_5, f4_6, f4_7, f4_8, f4_9, f4_10, f4_11, f4_12, f4_13, f4_14, f4_15, f4_16, f4_17, f4_18, f4_19, f4_20⟩ := hh9
  clear f3_0 f3_1 f3_2 f3_3 f3_4 f3_5 f3_6 f3_7 f3_8 f3_9 f3_10 f3_11 f3_12 f3_13 f3_14 f3_15 f3_16 f3_17 f3_18 oa3
  refine pw_dup dX6_init_19 ?_
  refine pw_cIN0 dX6_init_20 kX6_20 vX2_init nX2_init rfl rfl ⟨by decide, by decide⟩ (Nat.le_of_ble_eq_true rfl) (b1' := 0) (b2' := 0) (show 0 + 1 ≤ 1 from by omega) (show 0 + 16 ≤ 16 from by omega) (i_Latest f4_3 f4_19 f4_20 (fun σ0 μ0 o9_2 n9_2 r9_2 s1_2 m0_2 m1_2 => ?_))
  refine pw_genA (P := fun s9 u9 => OLD (a) σ μ s9 u9 ∧ TG s9 (a) (7) ∧ u9 (a) = Z0 ∧ TG s9 (a + 1) (6) ∧ rf s9 (a + 1) 0 = some (a + 2) ∧ rf s9 (a + 1) 1 = some (a + 3) ∧ rf s9 (a + 1) 2 = some (a + 4) ∧ TG s9 (a + 2) (11) ∧ LN s9 (a + 2) 4 ∧ TG s9 (a + 3) (11) ∧ LN s9 (a + 3) 4 ∧ TG s9 (a + 4) (11) ∧ LN s9 (a + 4) 4 ∧ u9 (a + 1) = Z0 ∧ u9 (a + 2) = Z0 ∧ u9 (a + 3) = Z0 ∧ u9 (a + 4) = Z0 ∧ rf s9 (a) 1 = some (a + 1) ∧ cxB X + nn s9 = a + 7 ∧ TG s9 (a + 5) (3) ∧ rf s9 (a + 5) 0 = some (a + 6) ∧ TG s9 (a + 6) (11) ∧ LN s9 (a + 6) 16 ∧ u9 (a + 5) = Z0 ∧ u9 (a + 6) = Z0) ⟨(f4_0.c o9_2 (Nat.le_add_right _ _)), (TG.o f4_1 o9_2 (Nat.lt_add_of_pos_right (by decide))), (MU.o f4_2 o9_2 (Nat.lt_add_of_pos_right (by decide))), (TG.o f4_4 o9_2 (Nat.add_lt_add_left (by decide) _)), (RF.o f4_5 o9_2 (Nat.add_lt_add_left (by decide) _)), (RF.o f4_6 o9_2 (Nat.add_lt_add_left (by decide) _)), (RF.o f4_7 o9_2 (Nat.add_lt_add_left (by decide) _)), (TG.o f4_8 o9_2 (Nat.add_lt_add_left (by decide) _)), (LN.o f4_9 o9_2 (Nat.add_lt_add_left (by decide) _)), (TG.o f4_10 o9_2 (Nat.add_lt_add_left (by decide) _)), (LN.o f4_11 o9_2 (Nat.add_lt_add_left (by decide) _)), (TG.o f4_12 o9_2 (Nat.add_lt_add_left (by decide) _)), (LN.o f4_13 o9_2 (Nat.add_lt_add_left (by decide) _)), (MU.o f4_14 o9_2 (Nat.add_lt_add_left (by decide) _)), (MU.o f4_15 o9_2 (Nat.add_lt_add_left (by decide) _)), (MU.o f4_16 o9_2 (Nat.add_lt_add_left (by decide) _)), (MU.o f4_17 o9_2 (Nat.add_lt_add_left (by decide) _)), (RF.o f4_18 o9_2 (Nat.lt_add_of_pos_right (by decide))), n9_2, r9_2.1, r9_2.2, s1_2.1, s1_2.2, m0_2, m1_2⟩ (fun σ5 μ5 hh9 => ?_)
  obtain ⟨f5_0, f5_1, f5_2, f5_3, f5_4, f5_5, f5_6, f5_7, f5_8, f5_9, f5_10, f5_11, f5_12, f5_13, f5_14, f5_15, f5_16, f5_17, f5_18, f5_19, f5_20, f5_21, f5_22, f5_23, f5_24⟩ := hh9
  clear f4_0 f4_1 f4_2 f4_3 f4_4 f4_5 f4_6 f4_7 f4_8 f4_9 f4_10 f4_11 f4_12 f4_13 f4_14 f4_15 f4_16 f4_17 f4_18 f4_19 f4_20 o9_2 n9_2 r9_2 s1_2 m0_2 m1_2
  refine pw_putR 6 2 dX6_init_23 fX6_21 rfl (by decide) rfl (Or.inr ⟨rfl, rfl, rfl⟩) rfl rfl rfl f5_1 ?_
  refine pw_genA (P := fun s9 u9 => OLD (a) σ μ s9 u9 ∧ TG s9 (a) (7) ∧ u9 (a) = Z0 ∧ TG s9 (a + 1) (6) ∧ rf s9 (a + 1) 0 = some (a + 2) ∧ rf s9 (a + 1) 1 = some (a + 3) ∧ rf s9 (a + 1) 2 = some (a + 4) ∧ TG s9 (a + 2) (11) ∧ LN s9 (a + 2) 4 ∧ TG s9 (a + 3) (11) ∧ LN s9 (a + 3) 4 ∧ TG s9 (a + 4) (11) ∧ LN s9 (a + 4) 4 ∧ u9 (a + 1) = Z0 ∧ u9 (a + 2) = Z0 ∧ u9 (a + 3) = Z0 ∧ u9 (a + 4) = Z0 ∧ rf s9 (a) 1 = some (a + 1) ∧ cxB X + nn s9 = a + 7 ∧ TG s9 (a + 5) (3) ∧ rf s9 (a + 5) 0 = some (a + 6) ∧ TG s9 (a + 6) (11) ∧ LN s9 (a + 6) 16 ∧ u9 (a + 5) = Z0 ∧ u9 (a + 6) = Z0 ∧ rf s9 (a) 2 = some (a + 5)) ⟨(f5_0.r (Nat.le_refl _)), f5_1, f5_2, f5_3, (rf_cg f5_4 (seqR (Nat.ne_of_gt (Nat.lt_add_of_pos_right (by decide))))), (rf_cg f5_5 (seqR (Nat.ne_of_gt (Nat.lt_add_of_pos_right (by decide))))), (rf_cg f5_6 (seqR (Nat.ne_of_gt (Nat.lt_add_of_pos_right (by decide))))), f5_7, f5_8, f5_9, f5_10, f5_11, f5_12, f5_13, f5_14, f5_15, f5_16, ((wR_n (by decide)).trans f5_17), f5_18, f5_19, (rf_cg f5_20 (seqR (Nat.ne_of_gt (Nat.lt_add_of_pos_right (by decide))))), f5_21, f5_22, f5_23, f5_24, wR_s⟩ (fun σ6 μ6 hh9 => ?_)
  obtain ⟨f6_0, f6_1, f6_2, f6_3, f6_4, f6_5, f6_6, f6_7, f6_8, f6_9, f6_10, f6_11, f6_12, f6_13, f6_14, f6_15, f6_16, f6_17, f6_18, f6_19, f6_20, f6_21, f6_22, f6_23, f6_24, f6_25⟩ := hh9
  clear f5_0 f5_1 f5_2 f5_3 f5_4 f5_5 f5_6 f5_7 f5_8 f5_9 f5_10 f5_11 f5_12 f5_13 f5_14 f5_15 f5_16 f5_17 f5_18 f5_19 f5_20 f5_21 f5_22 f5_23 f5_24
  refine pw_aload_0 dX6_init_26 ?_
  refine pw_iconst (v := -1) dX6_init_27 (by decide) ?_
  refine pw_putI 6 7 dX6_init_28 fX6_25 rfl (by decide) rfl (Or.inl rfl) rfl (by decide) f6_1 ?_
  refine pw_genA (P := fun s9 u9 => OLD (a) σ μ s9 u9 ∧ TG s9 (a) (7) ∧ u9 (a) = upd (Z0) 7 (-1) ∧ TG s9 (a + 1) (6) ∧ rf s9 (a + 1) 0 = some (a + 2) ∧ rf s9 (a + 1) 1 = some (a + 3) ∧ rf s9 (a + 1) 2 = some (a + 4) ∧ TG s9 (a + 2) (11) ∧ LN s9 (a + 2) 4 ∧ TG s9 (a + 3) (11) ∧ LN s9 (a + 3) 4 ∧ TG s9 (a + 4) (11) ∧ LN s9 (a + 4) 4 ∧ u9 (a + 1) = Z0 ∧ u9 (a + 2) = Z0 ∧ u9 (a + 3) = Z0 ∧ u9 (a + 4) = Z0 ∧ rf s9 (a) 1 = some (a + 1) ∧ cxB X + nn s9 = a + 7 ∧ TG s9 (a + 5) (3) ∧ rf s9 (a + 5) 0 = some (a + 6) ∧ TG s9 (a + 6) (11) ∧ LN s9 (a + 6) 16 ∧ u9 (a + 5) = Z0 ∧ u9 (a + 6) = Z0 ∧ rf s9 (a) 2 = some (a + 5)) ⟨(f6_0.w (Nat.le_refl _)), f6_1, ((wr_s _ _ _ _).trans (congrArg (fun g => upd g 7 (-1)) f6_2)), f6_3, f6_4, f6_5, f6_6, f6_7, f6_8, f6_9, f6_10, f6_11, f6_12, ((wr_n _ _ _ (Nat.ne_of_gt (Nat.lt_add_of_pos_right (by decide)))).trans f6_13), ((wr_n _ _ _ (Nat.ne_of_gt (Nat.lt_add_of_pos_right (by decide)))).trans f6_14), ((wr_n _ _ _ (Nat.ne_of_gt (Nat.lt_add_of_pos_right (by decide)))).trans f6_15), ((wr_n _ _ _ (Nat.ne_of_gt (Nat.lt_add_of_pos_right (by decide)))).trans f6_16), f6_17, f6_18, f6_19, f6_20, f6_21, f6_22, ((wr_n _ _ _ (Nat.ne_of_gt (Nat.lt_add_of_pos_right (by decide)))).trans f6_23), ((wr_n _ _ _ (Nat.ne_of_gt (Nat.lt_add_of_pos_right (by decide)))).trans f6_24), f6_25⟩ (fun σ7 μ7 hh9 => ?_)
  obtain ⟨f7_0, f7_1, f7_2, f7_3, f7_4, f7_5, f7_6, f7_7, f7_8, f7_9, f7_10, f7_11, f7_12, f7_13, f7_14, f7_15, f7_16, f7_17, f7_18, f7_19, f7_20, f7_21, f7_22, f7_23, f7_24, f7_25⟩ := hh9
  clear f6_0 f6_1 f6_2 f6_3 f6_4 f6_5 f6_6 f6_7 f6_8 f6_9 f6_10 f6_11 f6_12 f6_13 f6_14 f6_15 f6_16 f6_17 f6_18 f6_19 f6_20 f6_21 f6_22 f6_23 f6_24 f6_25
  refine pw_aload_0 dX6_init_31 ?_
  refine pw_iload_1 dX6_init_32 ?_
  refine pw_putI 6 0 dX6_init_33 fX6_29 rfl (by decide) rfl (Or.inr ⟨rfl, rfl, rfl⟩) rfl (by decide) f7_1 ?_
  refine pw_genA (P := fun s9 u9 => OLD (a) σ μ s9 u9 ∧ TG s9 (a) (7) ∧ u9 (a) = upd (upd (Z0) 7 (-1)) 0 ((nI i)) ∧ TG s9 (a + 1) (6) ∧ rf s9 (a + 1) 0 = some (a + 2) ∧ rf s9 (a + 1) 1 = some (a + 3) ∧ rf s9 (a + 1) 2 = some (a + 4) ∧ TG s9 (a + 2) (11) ∧ LN s9 (a + 2) 4 ∧ TG s9 (a + 3) (11) ∧ LN s9 (a + 3) 4 ∧ TG s9 (a + 4) (11) ∧ LN s9 (a + 4) 4 ∧ u9 (a + 1) = Z0 ∧ u9 (a + 2) = Z0 ∧ u9 (a + 3) = Z0 ∧ u9 (a + 4) = Z0 ∧ rf s9 (a) 1 = some (a + 1) ∧ cxB X + nn s9 = a + 7 ∧ TG s9 (a + 5) (3) ∧ rf s9 (a + 5) 0 = some (a + 6) ∧ TG s9 (a + 6) (11) ∧ LN s9 (a + 6) 16 ∧ u9 (a + 5) = Z0 ∧ u9 (a + 6) = Z0 ∧ rf s9 (a) 2 = some (a + 5)) ⟨(f7_0.w (Nat.le_refl _)), f7_1, ((wr_s _ _ _ _).trans (congrArg (fun g => upd g 0 ((nI i))) f7_2)), f7_3, f7_4, f7_5, f7_6, f7_7, f7_8, f7_9, f7_10, f7_11, f7_12, ((wr_n _ _ _ (Nat.ne_of_gt (Nat.lt_add_of_pos_right (by decide)))).trans f7_13), ((wr_n _ _ _ (Nat.ne_of_gt (Nat.lt_add_of_pos_right (by decide)))).trans f7_14), ((wr_n _ _ _ (Nat.ne_of_gt (Nat.lt_add_of_pos_right (by decide)))).trans f7_15), ((wr_n _ _ _ (Nat.ne_of_gt (Nat.lt_add_of_pos_right (by decide)))).trans f7_16), f7_17, f7_18, f7_19, f7_20, f7_21, f7_22, ((wr_n _ _ _ (Nat.ne_of_gt (Nat.lt_add_of_pos_right (by decide)))).trans f7_23), ((wr_n _ _ _ (Nat.ne_of_gt (Nat.lt_add_of_pos_right (by decide)))).trans f7_24), f7_25⟩ (fun σ8 μ8 hh9 => ?_)
  obtain ⟨f8_0, f8_1, f8_2, f8_3, f8_4, f8_5, f8_6, f8_7, f8_8, f8_9, f8_10, f8_11, f8_12, f8_13, f8_14, f8_15, f8_16, f8_17, f8_18, f8_19, f8_20, f8_21, f8_22, f8_23, f8_24, f8_25⟩ := hh9
  clear f7_0 f7_1 f7_2 f7_3 f7_4 f7_5 f7_6 f7_7 f7_8 f7_9 f7_10 f7_11 f7_12 f7_13 f7_14 f7_15 f7_16 f7_17 f7_18 f7_19 f7_20 f7_21 f7_22 f7_23 f7_24 f7_25
  refine pw_return dX6_init_36 rfl ?_
  exact q _ _ f8_0 f8_18 ⟨f8_1, f8_17, f8_25, ⟨f8_3, f8_4, f8_5, f8_6⟩, ⟨f8_7, f8_8⟩, ⟨f8_9, f8_10⟩, ⟨f8_11, f8_12⟩, ⟨f8_19, f8_20⟩, ⟨f8_21, f8_22⟩⟩ ⟨(by rw [f8_2]; rfl), (by rw [f8_2]; rfl), (by rw [f8_2]; rfl), (by rw [f8_2]; rfl), (by rw [f8_2]; rfl), (fun _ => ⟨(by rw [f8_2]; rfl), (by rw [f8_2]; rfl), (by rw [f8_2]; rfl)⟩), (fun h95 => absurd h95 (Nat.not_lt_zero _)), (by rw [f8_2]; rfl), (by rw [f8_2]; rfl), (by rw [f8_2]; rfl), (by rw [f8_2]; rfl), (by rw [f8_2]; rfl), (by rw [f8_13]; rfl), (fun r _ => by rw [f8_14]; rfl), (fun r _ => by rw [f8_15]; rfl), (fun r _ => by rw [f8_16]; rfl), (by rw [f8_23]; rfl), (fun r _ => by rw [f8_24]; rfl)⟩

