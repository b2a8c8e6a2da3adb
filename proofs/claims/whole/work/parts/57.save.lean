/-! save of the class: a bus may be made -/
theorem bus_end {σ : Sp} {a n : Nat} (h : ShBus σ a) (inv : ∀ c, tg σ c ≠ 0 → n ≤ c ∧ c < n + nn σ) : a + 62 ≤ n + nn σ := by
  have k := inv (st a 7 + 6) (by rw [(h.S (i := 7) (by decide)).f.1]; decide)
  unfold st at k
  omega
theorem SLX.sv {σ : Sp} {μ μ' : Mm} {o j a : Nat} {S : Nat → Option Bs} {B C : Bs} (h : SLX σ μ o S) (hj : j < 2) (ra : rf σ (o + 561) j = some a) (ha : o + 574 ≤ a) (sa : ShBus σ a) (hB : BU μ a B μ') (hC : S j = some C) : SLX σ μ' o (fun k => if k = j then some B else S k) := by
  obtain ⟨h1, h2, h3⟩ := h
  have dis : ∀ k c, k < 2 → k ≠ j → rf σ (o + 561) k = some c → c + 62 ≤ a ∨ a + 62 ≤ c := fun k c hk hkj hc => by
    rcases (by omega : (k = 0 ∧ j = 1) ∨ (k = 1 ∧ j = 0)) with ⟨e1, e2⟩ | ⟨e1, e2⟩
    · subst e1
      subst e2
      exact h3 _ _ hc ra
    · subst e1
      subst e2
      have := h3 _ _ ra hc
      omega
  refine ⟨fun k hk hS => ?_, fun k D hk hS => ?_, h3⟩
  · have hS2 : (if k = j then some B else S k) = none := hS
    rcases Classical.em (k = j) with e | e
    · rw [if_pos e] at hS2
      cases hS2
    · rw [if_neg e] at hS2
      exact h1 k hk hS2
  · have hS2 : (if k = j then some B else S k) = some D := hS
    rcases Classical.em (k = j) with e | e
    · rw [if_pos e] at hS2
      cases hS2
      subst e
      exact ⟨a, ra, ha, sa, hB.self.at (fun _ _ _ => rfl)⟩
    · rw [if_neg e] at hS2
      obtain ⟨c, c1, c2, c3, c4⟩ := h2 k D hk hS2
      have d := dis k c hk e c1
      exact ⟨c, c1, c2, c3, c4.at (fun q q1 q2 => hB.1 q (by omega))⟩
theorem CX.sv {σ : Sp} {μ μ' : Mm} {o x j a : Nat} {A : Aw} {B : Bs} (h : CX σ μ o x A) (ha : o + 574 ≤ a) (hB : BU μ a B μ') (hs : SLX σ μ' o (fun k => if k = j then some (aB A) else aS A k)) : CX σ μ' o x (aB A, aH A, (fun k => if k = j then some (aB A) else aS A k), aP A) ∧ FX μ o μ' := by
  obtain ⟨c1, c2, c3, c4, c5, c6⟩ := h
  exact ⟨⟨c1, c2.at fun q q1 q2 => hB.1 q (by omega), c3.at fun q q1 q2 => hB.1 q (by omega), c4.at fun q q1 q2 => hB.1 q (by omega), hs, c6.at fun q q1 q2 => hB.1 q (by omega)⟩, fun q q1 q2 => hB.1 q (by omega)⟩
/-- a new bus at the end of what there is, and the slot names it -/
theorem CX.nw {σ σ8 : Sp} {μ μ8 : Mm} {o x j a n : Nat} {A : Aw} (h : CX σ μ o x A) (hj : j < 2) (hno : aS A j = none) (ha : o + 574 ≤ a) (hn : n + nn σ = a) (inv : ∀ c, tg σ c ≠ 0 → n ≤ c ∧ c < n + nn σ) (o8 : OLD a σ μ σ8 μ8) (s8 : ShBus σ8 a) (u8 : BU μ8 a B0 μ8) :
    CX (wR σ8 (o + 561) j (some a)) μ8 o x (aB A, aH A, (fun k => if k = j then some B0 else aS A k), aP A) ∧ (∀ c, c < a → c ≠ o + 561 → SEq σ (wR σ8 (o + 561) j (some a)) c) := by
  have se : ∀ c, c < a → c ≠ o + 561 → SEq σ (wR σ8 (o + 561) j (some a)) c := fun c hc hne => (o8 c hc).1.tr (seqR hne)
  have um : ∀ c, c < a → μ8 c = μ c := fun c hc => (o8 c hc).2
  obtain ⟨c1, c2, c3, c4, ⟨h1, h2, h3⟩, c6⟩ := h
  have hin := hb_in (hh := o + 125) c4.2.1
  have ro : ∀ k, k ≠ j → rf (wR σ8 (o + 561) j (some a)) (o + 561) k = rf σ (o + 561) k := fun k hk => (wR_n hk).trans (congrFun (o8 (o + 561) (by omega)).1.2.2 k)
  have lo : ∀ k D, k < 2 → aS A k = some D → ∀ c, rf σ (o + 561) k = some c → c + 62 ≤ a := fun k D hk hS c hc => by
    obtain ⟨d, d1, d2, d3, d4⟩ := h2 k D hk hS
    have e : d = c := Option.some.inj (d1.symm.trans hc)
    subst e
    have := bus_end d3 inv
    omega
  have os : ∀ k, k < 2 → k ≠ j → ∀ c, rf (wR σ8 (o + 561) j (some a)) (o + 561) k = some c → c + 62 ≤ a := fun k hk hkj c hc => by
    rw [ro k hkj] at hc
    cases hS : aS A k with
    | none =>
      rw [h1 k hk hS] at hc
      cases hc
    | some D => exact lo k D hk hS c hc
  refine ⟨⟨c1.cg (fun c e1 e2 e3 => se c (by omega) e3) (o8 _ (by omega)).1.1 (o8 _ (by omega)).1.2.1, c2.at fun q q1 q2 => um q (by omega), c3.at fun q q1 q2 => um q (by omega), c4.at fun q q1 q2 => um q (by omega), ⟨fun k hk hS => ?_, fun k D hk hS => ?_, fun p c hp hc => ?_⟩, c6.at fun q q1 q2 => um q (by omega)⟩, se⟩
  · have hS2 : (if k = j then some B0 else aS A k) = none := hS
    rcases Classical.em (k = j) with e | e
    · rw [if_pos e] at hS2
      cases hS2
    · rw [if_neg e] at hS2
      exact (ro k e).trans (h1 k hk hS2)
  · have hS2 : (if k = j then some B0 else aS A k) = some D := hS
    rcases Classical.em (k = j) with e | e
    · rw [if_pos e] at hS2
      cases hS2
      subst e
      exact ⟨a, wR_s, ha, s8.cg (fun q q1 q2 => seqR (by omega)), u8⟩
    · rw [if_neg e] at hS2
      obtain ⟨d, d1, d2, d3, d4⟩ := h2 k D hk hS2
      have hd := lo k D hk hS2 d d1
      exact ⟨d, (ro k e).trans d1, d2, d3.cg (fun q q1 q2 => se q (by omega) (by omega)), d4.at (fun q q1 q2 => um q (by omega))⟩
  · rcases (by omega : j = 0 ∨ j = 1) with e | e
    · subst e
      have ep : a = p := Option.some.inj (wR_s.symm.trans hp)
      have := os 1 (by omega) (by omega) c hc
      omega
    · subst e
      have ep : a = c := Option.some.inj (wR_s.symm.trans hc)
      have := os 0 (by omega) (by omega) p hp
      omega
set_option maxRecDepth 100000 in
set_option maxHeartbeats 4000000 in
theorem kf_save {X : Cx} {σ : Sp} {μ : Mm} {Q : Int32 → Sp → Mm → Prop} {o x : Nat} {u : Int32} {A : Aw} (hc : CX σ μ o x A) (wa : WA A) (hN : o + 574 ≤ cxB X + nn σ) (q : ∀ σ' μ', CX σ' μ' o x (svA A u) → FX μ o μ' → (∀ c, c < cxB X + nn σ → c ≠ o + 561 → SEq σ σ' c) → cxB X + nn σ ≤ cxB X + nn σ' → Q (svR A u) σ' μ') : CTi X mX7_save [.ref o, .int u] σ μ Q := by
  refine CT.of (by decide +kernel) (Nat.le_of_ble_eq_true rfl) ?_
  show PW X mX7_save 62 431 0 [some (.ref o), some (.int u)] [] σ μ (LI Q)
  have wf := wa.1.1
  refine pw_inv (fun _ inv => ?_)
  refine pw_iload_1 dX7_save_0 ?_
  refine pw_cS1i dX7_save_1 kX7_240 vX7_isSlot sX7_isSlot ⟨by decide, by decide⟩ ⟨rfl, rfl⟩ (Nat.le_of_ble_eq_true rfl) (c_X7_isSlot (fun j ej hj => ?_) (fun hno => ?_))
  · skip
    subst ej
    have e1 : svR A (nI j) = nI (nS (aB A)) := cif_y (inN_ok hj)
    have e2 : svA A (nI j) = (aB A, aH A, (fun k => if k = j then some (aB A) else aS A k), aP A) := by
      unfold svA
      rw [cif_y (inN_ok hj), ixN_nI (by omega)]
    rw [e1, e2] at q
    have at32 : ∀ σ9 μ9 a, ShX σ9 o → BU μ9 (o + 1) (aB A) μ9 → rf σ9 (o + 561) j = some a → o + 574 ≤ a → ShBus σ9 a → NU μ9 a → (∀ μ', BU μ9 a (aB A) μ' → Q (nI (nS (aB A))) σ9 μ') → PW X mX7_save 0 0 32 [some (.ref o), some (.int (nI j))] [] σ9 μ9 (LI Q) := by
      intro σ9 μ9 a hs9 hbn ra ha sa na fin
      refine pw_aload_0 dX7_save_32 ?_
      refine pw_getr 7 3 dX7_save_33 fX7_26 rfl (by decide) rfl hs9.t hs9.r3 ?_
      refine pw_iload_1 dX7_save_36 ?_
      refine pw_aaldBr dX7_save_37 hs9.slots (by omega) (by decide) ra ?_
      refine pw_aload_0 dX7_save_38 ?_
      refine pw_getr 7 0 dX7_save_39 fX7_10 rfl (by decide) rfl hs9.t hs9.r0 ?_
      refine pw_cV1v 0 dX7_save_42 kX7_178 vX0_copyFrom iX0_copyFrom ⟨by decide, by decide⟩ ⟨rfl, rfl⟩ (by decide) rfl (Nat.le_of_ble_eq_true rfl) sa.t (k_copyFrom sa hs9.now (by omega) hbn wf na (fun μ8 hb8 => ?_))
      have hbm : BU μ8 (o + 1) (aB A) μ8 := hb8.mv hbn (by omega)
      refine pw_aload_0 dX7_save_45 ?_
      refine pw_getr 7 0 dX7_save_46 fX7_10 rfl (by decide) rfl hs9.t hs9.r0 ?_
      refine pw_getI 0 5 dX7_save_49 fX7_143 rfl (by decide) rfl hs9.now.t ?_
      refine pw_top (hbm.n wf rfl) ?_
      refine pw_ireturn dX7_save_52 rfl ?_
      exact fin μ8 hb8
    refine pw_if_ne 10 dX7_save_4 (by decide) (fun _ => ?_) (fun hh => absurd hh (by decide))
    refine pw_aload_0 dX7_save_10 ?_
    refine pw_getr 7 3 dX7_save_11 fX7_26 rfl (by decide) rfl hc.1.t hc.1.r3 ?_
    refine pw_iload_1 dX7_save_14 ?_
    cases hS : aS A j with
    | some C =>
      obtain ⟨a, ra, ha, sa, ba⟩ := hc.2.2.2.2.1.2.1 j C hj hS
      refine pw_aaldBr dX7_save_15 hc.1.slots (by omega) (by decide) ra ?_
      refine pw_nonnull 32 dX7_save_16 (by decide) ?_
      refine pw_bud (Nat.zero_le _) (Nat.zero_le _) (at32 _ _ a hc.1 hc.2.1 ra ha sa ba.nu (fun μ' hb' => ?_))
      have k9 := hc.sv (j := j) ha hb' (hc.2.2.2.2.1.sv hj ra ha sa hb' hS)
      exact q _ _ k9.1 k9.2 (fun _ _ _ => SEq.rfl') (Nat.le_refl _)
    | none =>
      have rn := hc.2.2.2.2.1.1 j hj hS
      refine pw_aaldBN dX7_save_15 hc.1.slots (by omega) (by decide) rn ?_
      refine pw_nonnullN dX7_save_16 ?_
      refine pw_aload_0 dX7_save_19 ?_
      refine pw_getr 7 3 dX7_save_20 fX7_26 rfl (by decide) rfl hc.1.t hc.1.r3 ?_
      refine pw_iload_1 dX7_save_23 ?_
      refine pw_new 0 dX7_save_24 lX7_7 tX0 uX0 (by decide) (a := cxB X + nn σ) (b1' := 61) (b2' := 423) rfl (show 61 + 1 ≤ 62 from by omega) (show 423 + 8 ≤ 431 from by omega) ?_
      refine pw_dup dX7_save_27 ?_
      refine pw_cI0 dX7_save_28 kX7_9 vX0_init nX0_init rfl rfl ⟨by decide, by decide⟩ (Nat.le_of_ble_eq_true rfl) (b1' := 0) (b2' := 0) (show 0 + 61 ≤ 61 from by omega) (show 0 + 423 ≤ 423 from by omega) (i_Bus (by rw [wN_nn]; rfl) (wN_tg rfl) (wC_self _ _ _) (fun σ8 μ8 o8 n8 s8 u8 => ?_))
      have ob : OLD (cxB X + nn σ) σ μ σ8 μ8 := (OLD.rf.n (B := cxB X) (b := cxB X + nn σ) (t := 0 + 1) (l := 0) (f := fun _ => 0) rfl (Nat.le_refl _)).c o8 (Nat.le_refl _)
      obtain ⟨cx, se⟩ := hc.nw (j := j) (n := cxB X) hj hS hN rfl inv ob s8 u8
      refine pw_aastB dX7_save_31 ((ob (o + 561) (by omega)).1.1.trans hc.1.slots.1) s8.t (pw_vin ((ob (o + 561) (by omega)).1.2.1.trans hc.1.slots.2) (by omega) (by decide)) ?_
      rw [nI_clamp (by omega)]
      refine at32 _ _ (cxB X + nn σ) cx.1 cx.2.1 wR_s hN (s8.cg (fun c c1 c2 => seqR (by omega))) u8.nu (fun μ' hb' => ?_)
      have es : (fun k => if k = j then some (aB A) else aS A k) = (fun k => if k = j then some (aB A) else (fun k => if k = j then some B0 else aS A k) k) := by
        funext k
        rcases Classical.em (k = j) with e | e
        · rw [if_pos e, if_pos e]
        · rw [if_neg e, if_neg e]
          exact (if_neg e).symm
      have k9 := cx.sv (j := j) hN hb' (cx.2.2.2.2.1.sv (C := B0) hj wR_s hN (s8.cg (fun c c1 c2 => seqR (by omega))) hb' (if_pos rfl))
      rw [es] at q
      refine q _ _ k9.1 (fun p p1 p2 => (k9.2 p p1 p2).trans (ob p (by omega)).2) se (Nat.le_of_lt ?_)
      show cxB X + nn σ < cxB X + nn σ8
      omega
  · skip
    refine pw_if_ne 10 dX7_save_4 (by decide) (fun hh => absurd rfl hh) (fun _ => ?_)
    refine pw_bipush (v := -2) dX7_save_7 (by decide) ?_
    refine pw_ireturn dX7_save_9 rfl ?_
    have e1 : svR A u = -2 := cif_n (inN_no hno)
    have e2 : svA A u = A := cif_n (inN_no hno)
    rw [e1, e2] at q
    exact q _ _ hc (fun _ _ _ => rfl) (fun _ _ _ => SEq.rfl') (Nat.le_refl _)
