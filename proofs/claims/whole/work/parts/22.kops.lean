/-! The class: the changes -/
theorem cl_itr {B : Bs} {s k : Nat} (wf : WF B) (hs : s < 100) (hk : k ≤ nS B) : nS (itr clS k (setG B 1 (nI s))) = nS B ∧ bG (itr clS k (setG B 1 (nI s))) 1 = nI s ∧ bG (itr clS k (setG B 1 (nI s))) 6 = nI (nS B) := by
  have e := (cl_wf wf hs hk).1
  refine ⟨(nS_G e).trans (nS_setG _ _ (by omega)), ?_, ?_⟩
  · rw [e, bG_setG, upd_s]
  · rw [e, bG_setG, upd_n _ _ (by omega)]
    exact wf.hn
set_option maxRecDepth 100000 in
set_option maxHeartbeats 4000000 in
theorem k_lose {X : Cx} {σ : Sp} {μ : Mm} {Q : Sp → Mm → Prop} {μ0 : Mm} {b n s0 : Nat} {B : Bs} (h : ShBus σ b) (wf : WF B) (hn : nS B = n) (hs : s0 < 100) (hb : BU μ0 b (setG B 1 (nI s0)) μ) (q : ∀ μ', BU μ0 b (seB B 1 (nI s0)) μ' → Q σ μ') : CTv X mX0_loseChargeAbove [.ref b, .int (nI s0)] σ μ Q := by
  refine CT.of (by decide +kernel) (Nat.le_of_ble_eq_true rfl) ?_
  show PW X mX0_loseChargeAbove 0 0 0 [some (.ref b), some (.int (nI s0)), none] [] σ μ (LV Q)
  have h8 : n ≤ 8 := hn ▸ wf.n8
  refine pw_iconst (v := nI 0) dX0_loseChargeAbove_0 (by decide) ?_
  refine pw_istore_2 dX0_loseChargeAbove_1 (by decide) ?_
  refine pw_up (P := fun k => ∀ μ, BU μ0 b (itr clS k (setG B 1 (nI s0))) μ → PW X mX0_loseChargeAbove 0 0 2 [some (.ref b), some (.int (nI s0)), some (.int (nI k))] [] σ μ (LV Q)) n ?_ ?_ 0 (by omega) _ hb
  · intro μ1 hb1
    have hn6 : bG (itr clS n (setG B 1 (nI s0))) 6 = nI n := by rw [← hn]; exact (cl_itr wf hs (Nat.le_refl _)).2.2
    refine pw_iload_2 dX0_loseChargeAbove_2 ?_
    refine pw_aload_0 dX0_loseChargeAbove_3 ?_
    refine pw_getI 0 5 dX0_loseChargeAbove_4 fX0_49 rfl (by decide) rfl h.t ?_
    refine pw_top (hb1.2.1.2.2.1.trans hn6) ?_
    refine pw_icmp_ge 38 dX0_loseChargeAbove_7 (by decide) (fun _ => ?_) (fun hh => absurd (by rw [nI_leI (by omega) (by omega)]; omega) hh)
    refine pw_return dX0_loseChargeAbove_38 rfl ?_
    refine q _ ?_
    unfold seB
    rw [hn]
    exact hb1
  · intro k hk ih μ1 hb1
    have ih2 : ∀ μ, BU μ0 b (clS k (itr clS k (setG B 1 (nI s0)))) μ → _ := ih
    have hc := cl_itr (k := k) wf hs (by omega)
    have hn6 : bG (itr clS k (setG B 1 (nI s0))) 6 = nI n := by rw [← hn]; exact hc.2.2
    have hg1 := hc.2.1
    clear hc
    generalize itr clS k (setG B 1 (nI s0)) = C at hb1 ih2 hn6 hg1
    refine pw_iload_2 dX0_loseChargeAbove_2 ?_
    refine pw_aload_0 dX0_loseChargeAbove_3 ?_
    refine pw_getI 0 5 dX0_loseChargeAbove_4 fX0_49 rfl (by decide) rfl h.t ?_
    refine pw_top (hb1.2.1.2.2.1.trans hn6) ?_
    refine pw_icmp_ge 38 dX0_loseChargeAbove_7 (by decide) (fun hh => absurd hh (by rw [nI_leI (by omega) (by omega)]; omega)) (fun _ => ?_)
    refine pw_aload_0 dX0_loseChargeAbove_10 ?_
    refine pw_getr 0 4 dX0_loseChargeAbove_11 fX0_34 rfl (by decide) rfl h.t h.r4 ?_
    refine pw_iload_2 dX0_loseChargeAbove_14 ?_
    refine pw_aaldSr dX0_loseChargeAbove_15 h.a5 (by omega) (by decide) (h.s (by omega)) ?_
    refine pw_aload_0 dX0_loseChargeAbove_16 ?_
    refine pw_getr 0 4 dX0_loseChargeAbove_17 fX0_34 rfl (by decide) rfl h.t h.r4 ?_
    refine pw_iload_2 dX0_loseChargeAbove_20 ?_
    refine pw_aaldSr dX0_loseChargeAbove_21 h.a5 (by omega) (by decide) (h.s (by omega)) ?_
    refine pw_getI 6 4 dX0_loseChargeAbove_22 fX0_68 rfl (by decide) rfl ((h.S (by omega))).t ?_
    refine pw_top (hb1.s4 (by omega)) ?_
    refine pw_iload_1 dX0_loseChargeAbove_25 ?_
    refine pw_min dX0_loseChargeAbove_26 kX0_71 tm_mins tm_i tm_minc (by decide) (Nat.le_of_ble_eq_true rfl) ?_
    refine pw_top (show _ = if bG C 1 < bS C k 1 then bG C 1 else bS C k 1 by rw [hg1]) ?_
    refine pw_putI 6 4 dX0_loseChargeAbove_29 fX0_68 rfl (by decide) rfl (Or.inl rfl) rfl (by decide) ((h.S (by omega))).t ?_
    refine pw_gen (P := BU μ0 b (setS C k (upd (bS C k) 1 (if bG C 1 < bS C k 1 then bG C 1 else bS C k 1)))) (hb1.charge (by omega) _) (fun μ1 hb1 => ?_)
    refine pw_iincN_2 dX0_loseChargeAbove_32 (by decide) ?_
    refine pw_goto 2 dX0_loseChargeAbove_35 (by decide) ?_
    exact ih2 _ hb1
theorem k_loseV {X : Cx} {σ : Sp} {μ : Mm} {Q : Sp → Mm → Prop} {μ0 : Mm} {b n k : Nat} {v : Int32} {B : Bs} (h : ShBus σ b) (wf : WF B) (hn : nS B = n) (ek : k = 1) (hv : v.toNatClampNeg ≤ 99 ∧ v = nI v.toNatClampNeg) (hb : BU μ0 b (setG B k v) μ) (q : ∀ μ', BU μ0 b (seB B 1 v) μ' → Q σ μ') : CTv X mX0_loseChargeAbove [.ref b, .int v] σ μ Q := by
  obtain ⟨h1, h2⟩ := hv
  generalize v.toNatClampNeg = j at h1 h2
  subst h2
  subst ek
  exact k_lose h wf hn (by omega) hb q
set_option maxRecDepth 100000 in
set_option maxHeartbeats 4000000 in
theorem k_set {X : Cx} {σ : Sp} {μ : Mm} {Q : Int32 → Sp → Mm → Prop} {μ0 : Mm} {b n : Nat} {B : Bs} {x v : Int32} (h : ShBus σ b) (hb : BU μ0 b B μ) (wf : WF B) (hn : nS B = n) (q : ∀ μ', BU μ0 b (seN B x v) μ' → Q (seR B x v) σ μ') : CTi X mX0_changeSetting [.ref b, .int x, .int v] σ μ Q := by
  refine CT.of (by decide +kernel) (Nat.le_of_ble_eq_true rfl) ?_
  show PW X mX0_changeSetting 0 0 0 [some (.ref b), some (.int x), some (.int v), none] [] σ μ (LI Q)
  have h8 : n ≤ 8 := hn ▸ wf.n8
  refine pw_iload_1 dX0_changeSetting_0 ?_
  refine pw_if_lt 9 dX0_changeSetting_1 (by decide) (fun h1 => ?_) (fun h1 => ?_)
  · skip
    refine pw_bipush (v := -2) dX0_changeSetting_9 (by decide) ?_
    refine pw_ireturn dX0_changeSetting_11 rfl ?_
    have hno : ¬ seP x v := fun ⟨k, k5, e, _⟩ => ix_no (n := 5) (by omega) (Or.inl h1) k k5 e
    have e1 : seR B x v = -2 := cif_n hno
    have e2 : seN B x v = B := cif_n hno
    rw [e1, e2] at q
    exact q _ hb
  · skip
    refine pw_iload_1 dX0_changeSetting_4 ?_
    refine pw_iconst (v := nI 5) dX0_changeSetting_5 (by decide) ?_
    refine pw_icmp_lt 12 dX0_changeSetting_6 (by decide) (fun h2 => ?_) (fun h2 => ?_)
    · skip
      obtain ⟨k, k5, rfl⟩ := ix_of (n := 5) (by omega) h1 (Int32.not_le.mpr h2)
      refine pw_iload_2 dX0_changeSetting_12 ?_
      refine pw_getsN (n := "LOWEST") (t := (cxT X).2.1) dX0_changeSetting_13 (by decide +kernel) (fun s S => S.2.2.2.2.1.2.1) ?_
      refine pw_iload_1 dX0_changeSetting_16 ?_
      refine pw_tald (f := pw_LO) dX0_changeSetting_17 (fun s S => ⟨S.2.2.2.2.2.1.2.1, S.2.2.2.2.2.2.1.2.1⟩) (vp_in_nI k5 (by decide)) ?_
      refine pw_top (show _ = pw_LO k by rw [nI_clamp (by omega)]) ?_
      refine pw_icmp_lt 30 dX0_changeSetting_18 (by decide) (fun h3 => ?_) (fun h3 => ?_)
      · skip
        refine pw_bipush (v := -2) dX0_changeSetting_30 (by decide) ?_
        refine pw_ireturn dX0_changeSetting_32 rfl ?_
        have hno : ¬ seP (nI k) v := fun ⟨j, j5, e, h1, h2⟩ => by
          have e3 := (nI_eq (by omega) (by omega)).mp e
          subst e3
          exact Int32.not_le.mpr h3 h1
        have e1 : seR B (nI k) v = -2 := cif_n hno
        have e2 : seN B (nI k) v = B := cif_n hno
        rw [e1, e2] at q
        exact q _ hb
      · skip
        refine pw_iload_2 dX0_changeSetting_21 ?_
        refine pw_getsN (n := "GREATEST") (t := (cxT X).2.2) dX0_changeSetting_22 (by decide +kernel) (fun s S => S.2.2.2.2.1.2.2) ?_
        refine pw_iload_1 dX0_changeSetting_25 ?_
        refine pw_tald (f := pw_GR) dX0_changeSetting_26 (fun s S => ⟨S.2.2.2.2.2.1.2.2, S.2.2.2.2.2.2.1.2.2⟩) (vp_in_nI k5 (by decide)) ?_
        refine pw_top (show _ = pw_GR k by rw [nI_clamp (by omega)]) ?_
        refine pw_icmp_le 33 dX0_changeSetting_27 (by decide) (fun h4 => ?_) (fun h4 => ?_)
        · skip
          refine pw_aload_0 dX0_changeSetting_33 ?_
          refine pw_getr 0 0 dX0_changeSetting_34 fX0_18 rfl (by decide) rfl h.t h.r0 ?_
          refine pw_iload_1 dX0_changeSetting_37 ?_
          refine pw_ialdN dX0_changeSetting_38 h.a1 (by omega) (by decide) ?_
          refine pw_top (hb.g (by omega)) ?_
          refine pw_istore_3 dX0_changeSetting_39 (by decide) ?_
          refine pw_aload_0 dX0_changeSetting_40 ?_
          refine pw_getr 0 0 dX0_changeSetting_41 fX0_18 rfl (by decide) rfl h.t h.r0 ?_
          refine pw_iload_1 dX0_changeSetting_44 ?_
          refine pw_iload_2 dX0_changeSetting_45 ?_
          refine pw_iastN dX0_changeSetting_46 h.a1 (by omega) (by decide) ?_
          refine pw_gen (P := BU μ0 b (setG B k v)) (hb.set (by omega) _) (fun μ1 hb1 => ?_)
          refine pw_iload_1 dX0_changeSetting_47 ?_
          refine pw_iconst (v := nI 1) dX0_changeSetting_48 (by decide) ?_
          refine pw_icmp_ne 57 dX0_changeSetting_49 (by decide) (fun h5 => ?_) (fun h5 => ?_)
          · skip
            refine pw_iload_3 dX0_changeSetting_57 ?_
            refine pw_ireturn dX0_changeSetting_58 rfl ?_
            have hy : seP (nI k) v := ⟨k, k5, rfl, Int32.not_lt.mp h3, h4⟩
            have e1 : seR B (nI k) v = bG B k := by unfold seR; rw [cif_y hy, ixN_nI (by omega)]
            have e2 : seN B (nI k) v = seB B k v := by unfold seN; rw [cif_y hy, ixN_nI (by omega)]
            rw [e1, e2] at q
            rw [se_id wf k5 (fun e => h5 (by rw [e]))] at q
            exact q _ hb1
          · skip
            have ek : k = 1 := (nI_eq (by omega) (by omega)).mp h5
            have g : ∀ j, j < 5 → nI 0 ≤ pw_LO j ∧ pw_GR j ≤ nI 99 := by decide
            have hv := in_of (lo := 0) (hi := 99) (by decide) (by decide) (Int32.not_lt.mpr (Int32.le_trans (g k k5).1 (Int32.not_lt.mp h3))) (Int32.le_trans h4 (g k k5).2)
            have hvs := hv.2.2
            refine pw_aload_0 dX0_changeSetting_52 ?_
            refine pw_iload_2 dX0_changeSetting_53 ?_
            refine pw_cV1v 0 dX0_changeSetting_54 kX0_65 vX0_loseChargeAbove iX0_loseChargeAbove ⟨by decide, by decide⟩ ⟨rfl, rfl⟩ (by decide) rfl (Nat.le_of_ble_eq_true rfl) h.t (k_loseV h wf hn ek ⟨hv.2.1, hvs⟩ hb1 (fun μ2 hb2 => ?_))
            refine pw_iload_3 dX0_changeSetting_57 ?_
            refine pw_ireturn dX0_changeSetting_58 rfl ?_
            have hy : seP (nI k) v := ⟨k, k5, rfl, Int32.not_lt.mp h3, h4⟩
            have e1 : seR B (nI k) v = bG B k := by unfold seR; rw [cif_y hy, ixN_nI (by omega)]
            have e2 : seN B (nI k) v = seB B k v := by unfold seN; rw [cif_y hy, ixN_nI (by omega)]
            rw [e1, e2] at q
            rw [ek] at q
            rw [ek]
            exact q _ hb2
        · skip
          refine pw_bipush (v := -2) dX0_changeSetting_30 (by decide) ?_
          refine pw_ireturn dX0_changeSetting_32 rfl ?_
          have hno : ¬ seP (nI k) v := fun ⟨j, j5, e, h1, h2⟩ => by
            have e3 := (nI_eq (by omega) (by omega)).mp e
            subst e3
            exact h4 h2
          have e1 : seR B (nI k) v = -2 := cif_n hno
          have e2 : seN B (nI k) v = B := cif_n hno
          rw [e1, e2] at q
          exact q _ hb
    · skip
      refine pw_bipush (v := -2) dX0_changeSetting_9 (by decide) ?_
      refine pw_ireturn dX0_changeSetting_11 rfl ?_
      have hno : ¬ seP x v := fun ⟨k, k5, e, _⟩ => ix_no (n := 5) (by omega) (Or.inr (Int32.not_lt.mp h2)) k k5 e
      have e1 : seR B x v = -2 := cif_n hno
      have e2 : seN B x v = B := cif_n hno
      rw [e1, e2] at q
      exact q _ hb
