/-! The class: the changes -/
section PWNU
variable {X : Cx} {M : Mt} {b1 b2 pc : Nat} {ls : List (Option Value)} {st : List Value} {σ : Sp} {μ : Mm} {Q : Option Value → Sp → Mm → Prop}
theorem pw_naload_2 {v0 v1 : Option Value} {t : List (Option Value)} (d : decode (mB M) pc = .ok (.aload_n 2, 1)) (k : PW X M b1 b2 (pc + 1) (v0 :: v1 :: some .null :: t) (.null :: st) σ μ Q) : PW X M b1 b2 pc (v0 :: v1 :: some .null :: t) st σ μ Q :=
  fun p e R s m args below meth c H locs cells slots ar Z B S P F L c1 c2 K => lv_aload_nN B.1 B.2.1 d rfl (L.2.2 2 .null rfl) (k p e R s m args below meth c H locs cells slots ar Z B S P F L c1 c2 K)
theorem pw_naload_3 {v0 v1 v2 : Option Value} {t : List (Option Value)} (d : decode (mB M) pc = .ok (.aload_n 3, 1)) (k : PW X M b1 b2 (pc + 1) (v0 :: v1 :: v2 :: some .null :: t) (.null :: st) σ μ Q) : PW X M b1 b2 pc (v0 :: v1 :: v2 :: some .null :: t) st σ μ Q :=
  fun p e R s m args below meth c H locs cells slots ar Z B S P F L c1 c2 K => lv_aload_nN B.1 B.2.1 d rfl (L.2.2 3 .null rfl) (k p e R s m args below meth c H locs cells slots ar Z B S P F L c1 c2 K)
theorem pw_naload_4 {v0 v1 v2 v3 : Option Value} {t : List (Option Value)} (d : decode (mB M) pc = .ok (.aload 4, 2)) (k : PW X M b1 b2 (pc + 2) (v0 :: v1 :: v2 :: v3 :: some .null :: t) (.null :: st) σ μ Q) : PW X M b1 b2 pc (v0 :: v1 :: v2 :: v3 :: some .null :: t) st σ μ Q :=
  fun p e R s m args below meth c H locs cells slots ar Z B S P F L c1 c2 K => lv_aloadN B.1 B.2.1 d (L.2.2 4 .null rfl) (k p e R s m args below meth c H locs cells slots ar Z B S P F L c1 c2 K)
theorem pw_nastore_2 {v0 v1 : Option Value} {o : Option Value} {t : List (Option Value)} (d : decode (mB M) pc = .ok (.astore_n 2, 1)) (hn : 2 < mL M) (k : PW X M b1 b2 (pc + 1) (v0 :: v1 :: some .null :: t) st σ μ Q) (h1 : pw_c1 v1 = v1 := by rfl) : PW X M b1 b2 pc (v0 :: v1 :: o :: t) (.null :: st) σ μ Q := by
  intro p e R s m args below meth c H locs cells slots ar Z B S P F L c1 c2 K
  refine lv_astore_nN B.1 B.2.1 d rfl (pw_Lal L) hn rfl (fun ar' h => k p e R s m args below meth c H locs cells slots ar' Z B S P F (pw_Lset1 (ls' := v0 :: v1 :: some .null :: t) h ?_) c1 c2 K)
  intro j w hj
  match j, hj with
  | 0, hj => exact Or.inr ⟨by omega, hj, by omega⟩
  | 1, hj => exact Or.inr ⟨by omega, hj, fun _ => pw_c1_2 h1 (Option.some.inj hj)⟩
  | 2, hj => exact Or.inl ⟨rfl, (Option.some.inj (Option.some.inj hj)).symm⟩
  | j + 3, hj => exact Or.inr ⟨by omega, hj, by omega⟩
theorem pw_nastore_3 {v0 v1 v2 : Option Value} {o : Option Value} {t : List (Option Value)} (d : decode (mB M) pc = .ok (.astore_n 3, 1)) (hn : 3 < mL M) (k : PW X M b1 b2 (pc + 1) (v0 :: v1 :: v2 :: some .null :: t) st σ μ Q) (h1 : pw_c1 v2 = v2 := by rfl) : PW X M b1 b2 pc (v0 :: v1 :: v2 :: o :: t) (.null :: st) σ μ Q := by
  intro p e R s m args below meth c H locs cells slots ar Z B S P F L c1 c2 K
  refine lv_astore_nN B.1 B.2.1 d rfl (pw_Lal L) hn rfl (fun ar' h => k p e R s m args below meth c H locs cells slots ar' Z B S P F (pw_Lset1 (ls' := v0 :: v1 :: v2 :: some .null :: t) h ?_) c1 c2 K)
  intro j w hj
  match j, hj with
  | 0, hj => exact Or.inr ⟨by omega, hj, by omega⟩
  | 1, hj => exact Or.inr ⟨by omega, hj, by omega⟩
  | 2, hj => exact Or.inr ⟨by omega, hj, fun _ => pw_c1_2 h1 (Option.some.inj hj)⟩
  | 3, hj => exact Or.inl ⟨rfl, (Option.some.inj (Option.some.inj hj)).symm⟩
  | j + 4, hj => exact Or.inr ⟨by omega, hj, by omega⟩
theorem pw_nastore_4 {v0 v1 v2 v3 : Option Value} {o : Option Value} {t : List (Option Value)} (d : decode (mB M) pc = .ok (.astore 4, 2)) (hn : 4 < mL M) (k : PW X M b1 b2 (pc + 2) (v0 :: v1 :: v2 :: v3 :: some .null :: t) st σ μ Q) (h1 : pw_c1 v3 = v3 := by rfl) : PW X M b1 b2 pc (v0 :: v1 :: v2 :: v3 :: o :: t) (.null :: st) σ μ Q := by
  intro p e R s m args below meth c H locs cells slots ar Z B S P F L c1 c2 K
  refine lv_astoreN B.1 B.2.1 d (pw_Lal L) hn rfl (fun ar' h => k p e R s m args below meth c H locs cells slots ar' Z B S P F (pw_Lset1 (ls' := v0 :: v1 :: v2 :: v3 :: some .null :: t) h ?_) c1 c2 K)
  intro j w hj
  match j, hj with
  | 0, hj => exact Or.inr ⟨by omega, hj, by omega⟩
  | 1, hj => exact Or.inr ⟨by omega, hj, by omega⟩
  | 2, hj => exact Or.inr ⟨by omega, hj, by omega⟩
  | 3, hj => exact Or.inr ⟨by omega, hj, fun _ => pw_c1_2 h1 (Option.some.inj hj)⟩
  | 4, hj => exact Or.inl ⟨rfl, (Option.some.inj (Option.some.inj hj)).symm⟩
  | j + 5, hj => exact Or.inr ⟨by omega, hj, by omega⟩
end PWNU
theorem cl_itr {B : Bs} {s k : Nat} (wf : WF B) (hs : s < 100) (hk : k ≤ nS B) : nS (itr clS k (setG B 1 (nI s))) = nS B ∧ bG (itr clS k (setG B 1 (nI s))) 1 = nI s ∧ bG (itr clS k (setG B 1 (nI s))) 6 = nI (nS B) := by
  have e := (cl_wf wf hs hk).1
  refine ⟨(nS_G e).trans (nS_setG _ _ (by omega)), ?_, ?_⟩
  · rw [e, bG_setG, upd_s]
  · rw [e, bG_setG, upd_n _ _ (by omega)]
    exact wf.hn
set_option maxRecDepth 100000 in
set_option maxHeartbeats 4000000 in
theorem k_lose {X : Cx} {σ : Sp} {μ : Mm} {Q : Sp → Mm → Prop} {μ0 : Mm} {b n s0 : Nat} {B : Bs} (h : ShBus σ b) (wf : WF B) (hn : nS B = n) (hs : s0 < 100) (hb : BU μ0 b (setG B 1 (nI s0)) μ) (q : ∀ μ', BU μ0 b (seB B 1 (nI s0)) μ' → Q σ μ') : CTv X mX0_loseChargeAbove [.ref b, .int (nI s0)] σ μ Q := by
  refine CT.of (by decide +kernel) (Nat.le_of_ble_eq_true rfl) ?_
  show PW X mX0_loseChargeAbove 0 0 0 [some (.ref b), some (.int (nI s0)), none] [] σ μ (LV Q)
  have h8 : n ≤ 8 := hn ▸ wf.n8
  refine pw_iconst (v := nI 0) dX0_loseChargeAbove_0 (by decide) ?_
  refine pw_istore_2 dX0_loseChargeAbove_1 (by decide) ?_
  refine pw_up (P := fun k => ∀ μ, BU μ0 b (itr clS k (setG B 1 (nI s0))) μ → PW X mX0_loseChargeAbove 0 0 2 [some (.ref b), some (.int (nI s0)), some (.int (nI k))] [] σ μ (LV Q)) n ?_ ?_ 0 (by omega) _ hb
  · intro μ1 hb1
    have hn6 : bG (itr clS n (setG B 1 (nI s0))) 6 = nI n := by rw [← hn]; exact (cl_itr wf hs (Nat.le_refl _)).2.2
    refine pw_iload_2 dX0_loseChargeAbove_2 ?_
    refine pw_aload_0 dX0_loseChargeAbove_3 ?_
    refine pw_getI 0 5 dX0_loseChargeAbove_4 fX0_49 rfl (by decide) rfl h.t ?_
    refine pw_top (hb1.2.1.2.2.1.trans hn6) ?_
    refine pw_icmp_ge 38 dX0_loseChargeAbove_7 (by decide) (fun _ => ?_) (fun hh => absurd (by rw [nI_leI (by omega) (by omega)]; omega) hh)
    refine pw_return dX0_loseChargeAbove_38 rfl ?_
    refine q _ ?_
    unfold seB
    rw [hn]
    exact hb1
  · intro k hk ih μ1 hb1
    have ih2 : ∀ μ, BU μ0 b (clS k (itr clS k (setG B 1 (nI s0)))) μ → _ := ih
    have hc := cl_itr (k := k) wf hs (by omega)
    have hn6 : bG (itr clS k (setG B 1 (nI s0))) 6 = nI n := by rw [← hn]; exact hc.2.2
    have hg1 := hc.2.1
    clear hc
    generalize itr clS k (setG B 1 (nI s0)) = C at hb1 ih2 hn6 hg1
    refine pw_iload_2 dX0_loseChargeAbove_2 ?_
    refine pw_aload_0 dX0_loseChargeAbove_3 ?_
    refine pw_getI 0 5 dX0_loseChargeAbove_4 fX0_49 rfl (by decide) rfl h.t ?_
    refine pw_top (hb1.2.1.2.2.1.trans hn6) ?_
    refine pw_icmp_ge 38 dX0_loseChargeAbove_7 (by decide) (fun hh => absurd hh (by rw [nI_leI (by omega) (by omega)]; omega)) (fun _ => ?_)
    refine pw_aload_0 dX0_loseChargeAbove_10 ?_
    refine pw_getr 0 4 dX0_loseChargeAbove_11 fX0_34 rfl (by decide) rfl h.t h.r4 ?_
    refine pw_iload_2 dX0_loseChargeAbove_14 ?_
    refine pw_aaldSr dX0_loseChargeAbove_15 h.a5 (by omega) (by decide) (h.s (by omega)) ?_
    refine pw_aload_0 dX0_loseChargeAbove_16 ?_
    refine pw_getr 0 4 dX0_loseChargeAbove_17 fX0_34 rfl (by decide) rfl h.t h.r4 ?_
    refine pw_iload_2 dX0_loseChargeAbove_20 ?_
    refine pw_aaldSr dX0_loseChargeAbove_21 h.a5 (by omega) (by decide) (h.s (by omega)) ?_
    refine pw_getI 6 4 dX0_loseChargeAbove_22 fX0_68 rfl (by decide) rfl ((h.S (by omega))).t ?_
    refine pw_top (hb1.s4 (by omega)) ?_
    refine pw_iload_1 dX0_loseChargeAbove_25 ?_
    refine pw_min dX0_loseChargeAbove_26 kX0_71 tm_mins tm_i tm_minc (by decide) (Nat.le_of_ble_eq_true rfl) ?_
    refine pw_top (show _ = if bG C 1 < bS C k 1 then bG C 1 else bS C k 1 by rw [hg1]) ?_
    refine pw_putI 6 4 dX0_loseChargeAbove_29 fX0_68 rfl (by decide) rfl (Or.inl rfl) rfl (by decide) ((h.S (by omega))).t ?_
    refine pw_gen (P := BU μ0 b (setS C k (upd (bS C k) 1 (if bG C 1 < bS C k 1 then bG C 1 else bS C k 1)))) (hb1.charge (by omega) _) (fun μ1 hb1 => ?_)
    refine pw_iincN_2 dX0_loseChargeAbove_32 (by decide) ?_
    refine pw_goto 2 dX0_loseChargeAbove_35 (by decide) ?_
    exact ih2 _ hb1
theorem k_loseV {X : Cx} {σ : Sp} {μ : Mm} {Q : Sp → Mm → Prop} {μ0 : Mm} {b n k : Nat} {v : Int32} {B : Bs} (h : ShBus σ b) (wf : WF B) (hn : nS B = n) (ek : k = 1) (hv : v.toNatClampNeg ≤ 99 ∧ v = nI v.toNatClampNeg) (hb : BU μ0 b (setG B k v) μ) (q : ∀ μ', BU μ0 b (seB B 1 v) μ' → Q σ μ') : CTv X mX0_loseChargeAbove [.ref b, .int v] σ μ Q := by
  obtain ⟨h1, h2⟩ := hv
  generalize v.toNatClampNeg = j at h1 h2
  subst h2
  subst ek
  exact k_lose h wf hn (by omega) hb q
set_option maxRecDepth 100000 in
set_option maxHeartbeats 4000000 in
theorem k_set {X : Cx} {σ : Sp} {μ : Mm} {Q : Int32 → Sp → Mm → Prop} {μ0 : Mm} {b n : Nat} {B : Bs} {x v : Int32} (h : ShBus σ b) (hb : BU μ0 b B μ) (wf : WF B) (hn : nS B = n) (q : ∀ μ', BU μ0 b (seN B x v) μ' → Q (seR B x v) σ μ') : CTi X mX0_changeSetting [.ref b, .int x, .int v] σ μ Q := by
  refine CT.of (by decide +kernel) (Nat.le_of_ble_eq_true rfl) ?_
  show PW X mX0_changeSetting 0 0 0 [some (.ref b), some (.int x), some (.int v), none] [] σ μ (LI Q)
  have h8 : n ≤ 8 := hn ▸ wf.n8
  refine pw_iload_1 dX0_changeSetting_0 ?_
  refine pw_if_lt 9 dX0_changeSetting_1 (by decide) (fun h1 => ?_) (fun h1 => ?_)
  · skip
    refine pw_bipush (v := -2) dX0_changeSetting_9 (by decide) ?_
    refine pw_ireturn dX0_changeSetting_11 rfl ?_
    have hno : ¬ seP x v := fun ⟨k, k5, e, _⟩ => ix_no (n := 5) (by omega) (Or.inl h1) k k5 e
    have e1 : seR B x v = -2 := cif_n hno
    have e2 : seN B x v = B := cif_n hno
    rw [e1, e2] at q
    exact q _ hb
  · skip
    refine pw_iload_1 dX0_changeSetting_4 ?_
    refine pw_iconst (v := nI 5) dX0_changeSetting_5 (by decide) ?_
    refine pw_icmp_lt 12 dX0_changeSetting_6 (by decide) (fun h2 => ?_) (fun h2 => ?_)
    · skip
      obtain ⟨k, k5, rfl⟩ := ix_of (n := 5) (by omega) h1 (Int32.not_le.mpr h2)
      refine pw_iload_2 dX0_changeSetting_12 ?_
      refine pw_getsN (n := "LOWEST") (t := (cxT X).2.1) dX0_changeSetting_13 (by decide +kernel) (fun s S => S.2.2.2.2.1.2.1) ?_
      refine pw_iload_1 dX0_changeSetting_16 ?_
      refine pw_tald (f := pw_LO) dX0_changeSetting_17 (fun s S => ⟨S.2.2.2.2.2.1.2.1, S.2.2.2.2.2.2.1.2.1⟩) (vp_in_nI k5 (by decide)) ?_
      refine pw_top (show _ = pw_LO k by rw [nI_clamp (by omega)]) ?_
      refine pw_icmp_lt 30 dX0_changeSetting_18 (by decide) (fun h3 => ?_) (fun h3 => ?_)
      · skip
        refine pw_bipush (v := -2) dX0_changeSetting_30 (by decide) ?_
        refine pw_ireturn dX0_changeSetting_32 rfl ?_
        have hno : ¬ seP (nI k) v := fun ⟨j, j5, e, h1, h2⟩ => by
          have e3 := (nI_eq (by omega) (by omega)).mp e
          subst e3
          exact Int32.not_le.mpr h3 h1
        have e1 : seR B (nI k) v = -2 := cif_n hno
        have e2 : seN B (nI k) v = B := cif_n hno
        rw [e1, e2] at q
        exact q _ hb
      · skip
        refine pw_iload_2 dX0_changeSetting_21 ?_
        refine pw_getsN (n := "GREATEST") (t := (cxT X).2.2) dX0_changeSetting_22 (by decide +kernel) (fun s S => S.2.2.2.2.1.2.2) ?_
        refine pw_iload_1 dX0_changeSetting_25 ?_
        refine pw_tald (f := pw_GR) dX0_changeSetting_26 (fun s S => ⟨S.2.2.2.2.2.1.2.2, S.2.2.2.2.2.2.1.2.2⟩) (vp_in_nI k5 (by decide)) ?_
        refine pw_top (show _ = pw_GR k by rw [nI_clamp (by omega)]) ?_
        refine pw_icmp_le 33 dX0_changeSetting_27 (by decide) (fun h4 => ?_) (fun h4 => ?_)
        · skip
          refine pw_aload_0 dX0_changeSetting_33 ?_
          refine pw_getr 0 0 dX0_changeSetting_34 fX0_18 rfl (by decide) rfl h.t h.r0 ?_
          refine pw_iload_1 dX0_changeSetting_37 ?_
          refine pw_ialdN dX0_changeSetting_38 h.a1 (by omega) (by decide) ?_
          refine pw_top (hb.g (by omega)) ?_
          refine pw_istore_3 dX0_changeSetting_39 (by decide) ?_
          refine pw_aload_0 dX0_changeSetting_40 ?_
          refine pw_getr 0 0 dX0_changeSetting_41 fX0_18 rfl (by decide) rfl h.t h.r0 ?_
          refine pw_iload_1 dX0_changeSetting_44 ?_
          refine pw_iload_2 dX0_changeSetting_45 ?_
          refine pw_iastN dX0_changeSetting_46 h.a1 (by omega) (by decide) ?_
          refine pw_gen (P := BU μ0 b (setG B k v)) (hb.set (by omega) _) (fun μ1 hb1 => ?_)
          refine pw_iload_1 dX0_changeSetting_47 ?_
          refine pw_iconst (v := nI 1) dX0_changeSetting_48 (by decide) ?_
          refine pw_icmp_ne 57 dX0_changeSetting_49 (by decide) (fun h5 => ?_) (fun h5 => ?_)
          · skip
            refine pw_iload_3 dX0_changeSetting_57 ?_
            refine pw_ireturn dX0_changeSetting_58 rfl ?_
            have hy : seP (nI k) v := ⟨k, k5, rfl, Int32.not_lt.mp h3, h4⟩
            have e1 : seR B (nI k) v = bG B k := by unfold seR; rw [cif_y hy, ixN_nI (by omega)]
            have e2 : seN B (nI k) v = seB B k v := by unfold seN; rw [cif_y hy, ixN_nI (by omega)]
            rw [e1, e2] at q
            rw [se_id wf k5 (fun e => h5 (by rw [e]))] at q
            exact q _ hb1
          · skip
            have ek : k = 1 := (nI_eq (by omega) (by omega)).mp h5
            have g : ∀ j, j < 5 → nI 0 ≤ pw_LO j ∧ pw_GR j ≤ nI 99 := by decide
            have hv := in_of (lo := 0) (hi := 99) (by decide) (by decide) (Int32.not_lt.mpr (Int32.le_trans (g k k5).1 (Int32.not_lt.mp h3))) (Int32.le_trans h4 (g k k5).2)
            have hvs := hv.2.2
            refine pw_aload_0 dX0_changeSetting_52 ?_
            refine pw_iload_2 dX0_changeSetting_53 ?_
            refine pw_cV1v 0 dX0_changeSetting_54 kX0_65 vX0_loseChargeAbove iX0_loseChargeAbove ⟨by decide, by decide⟩ ⟨rfl, rfl⟩ (by decide) rfl (Nat.le_of_ble_eq_true rfl) h.t (k_loseV h wf hn ek ⟨hv.2.1, hvs⟩ hb1 (fun μ2 hb2 => ?_))
            refine pw_iload_3 dX0_changeSetting_57 ?_
            refine pw_ireturn dX0_changeSetting_58 rfl ?_
            have hy : seP (nI k) v := ⟨k, k5, rfl, Int32.not_lt.mp h3, h4⟩
            have e1 : seR B (nI k) v = bG B k := by unfold seR; rw [cif_y hy, ixN_nI (by omega)]
            have e2 : seN B (nI k) v = seB B k v := by unfold seN; rw [cif_y hy, ixN_nI (by omega)]
            rw [e1, e2] at q
            rw [ek] at q
            rw [ek]
            exact q _ hb2
        · skip
          refine pw_bipush (v := -2) dX0_changeSetting_30 (by decide) ?_
          refine pw_ireturn dX0_changeSetting_32 rfl ?_
          have hno : ¬ seP (nI k) v := fun ⟨j, j5, e, h1, h2⟩ => by
            have e3 := (nI_eq (by omega) (by omega)).mp e
            subst e3
            exact h4 h2
          have e1 : seR B (nI k) v = -2 := cif_n hno
          have e2 : seN B (nI k) v = B := cif_n hno
          rw [e1, e2] at q
          exact q _ hb
    · skip
      refine pw_bipush (v := -2) dX0_changeSetting_9 (by decide) ?_
      refine pw_ireturn dX0_changeSetting_11 rfl ?_
      have hno : ¬ seP x v := fun ⟨k, k5, e, _⟩ => ix_no (n := 5) (by omega) (Or.inr (Int32.not_lt.mp h2)) k k5 e
      have e1 : seR B x v = -2 := cif_n hno
      have e2 : seN B x v = B := cif_n hno
      rw [e1, e2] at q
      exact q _ hb

set_option maxRecDepth 100000 in
set_option maxHeartbeats 4000000 in
theorem k_station {X : Cx} {σ : Sp} {μ : Mm} {Q : Int32 → Sp → Mm → Prop} {μ0 : Mm} {b n : Nat} {B : Bs} {x : Int32} (h : ShBus σ b) (hb : BU μ0 b B μ) (wf : WF B) (hn : nS B = n) (q : ∀ μ', BU μ0 b (cmN B x) μ' → Q (cmR B x) σ μ') : CTi X mX0_addStation [.ref b, .int x] σ μ Q := by
  refine CT.of (by decide +kernel) (Nat.le_of_ble_eq_true rfl) ?_
  show PW X mX0_addStation 0 0 0 [some (.ref b), some (.int x)] [] σ μ (LI Q)
  have h8 : n ≤ 8 := hn ▸ wf.n8
  refine pw_iload_1 dX0_addStation_0 ?_
  refine pw_iconst (v := nI 1) dX0_addStation_1 (by decide) ?_
  refine pw_icmp_lt 11 dX0_addStation_2 (by decide) (fun h1 => ?_) (fun h1 => ?_)
  · skip
    refine pw_bipush (v := -2) dX0_addStation_11 (by decide) ?_
    refine pw_ireturn dX0_addStation_13 rfl ?_
    have hno : ¬ cmP x := fun ⟨j, h1, h2, e⟩ => by subst e; have h5 := h1; rw [nI_ltI (by omega) (by omega)] at h5; omega
    have e1 : cmR B x = -2 := cif_n hno
    have e2 : cmN B x = B := cif_n (fun hh => hno hh.1)
    rw [e1, e2] at q
    exact q _ hb
  · skip
    refine pw_iload_1 dX0_addStation_5 ?_
    refine pw_bipush (v := nI 63) dX0_addStation_6 (by decide) ?_
    refine pw_icmp_le 14 dX0_addStation_8 (by decide) (fun h2 => ?_) (fun h2 => ?_)
    · skip
      refine pw_aload_0 dX0_addStation_14 ?_
      refine pw_getI 0 5 dX0_addStation_15 fX0_49 rfl (by decide) rfl h.t ?_
      refine pw_top (hb.n wf hn) ?_
      refine pw_bipush (v := nI 8) dX0_addStation_18 (by decide) ?_
      refine pw_icmp_lt 26 dX0_addStation_20 (by decide) (fun h3 => ?_) (fun h3 => ?_)
      · skip
        have hn8 : n < 8 := by have h5 := h3; rw [nI_ltI (by omega) (by omega)] at h5; exact h5
        have hsi := st_in (b := b) hn8
        have h5n := hb.n wf hn
        refine pw_aload_0 dX0_addStation_26 ?_
        refine pw_getr 0 4 dX0_addStation_27 fX0_34 rfl (by decide) rfl h.t h.r4 ?_
        refine pw_aload_0 dX0_addStation_30 ?_
        refine pw_getI 0 5 dX0_addStation_31 fX0_49 rfl (by decide) rfl h.t ?_
        refine pw_top (hb.n wf hn) ?_
        refine pw_aaldSr dX0_addStation_34 h.a5 (by omega) (by decide) (h.s (by omega)) ?_
        refine pw_iload_1 dX0_addStation_35 ?_
        refine pw_putI 6 3 dX0_addStation_36 fX0_77 rfl (by decide) rfl (Or.inl rfl) rfl (by decide) ((h.S (by omega))).t ?_
        refine pw_aload_0 dX0_addStation_39 ?_
        refine pw_getr 0 4 dX0_addStation_40 fX0_34 rfl (by decide) rfl h.t h.r4 ?_
        refine pw_aload_0 dX0_addStation_43 ?_
        refine pw_getI 0 5 dX0_addStation_44 fX0_49 rfl (by decide) rfl h.t ?_
        refine pw_top (by simp (disch := omega) only [wr_n]; exact h5n) ?_
        refine pw_aaldSr dX0_addStation_47 h.a5 (by omega) (by decide) (h.s (by omega)) ?_
        refine pw_aload_0 dX0_addStation_48 ?_
        refine pw_getr 0 0 dX0_addStation_49 fX0_18 rfl (by decide) rfl h.t h.r0 ?_
        refine pw_iconst (v := nI 1) dX0_addStation_52 (by decide) ?_
        refine pw_ialdN dX0_addStation_53 h.a1 (by omega) (by decide) ?_
        refine pw_top (by simp (disch := omega) only [wr_n]; exact hb.g (by omega)) ?_
        refine pw_putI 6 4 dX0_addStation_54 fX0_68 rfl (by decide) rfl (Or.inl rfl) rfl (by decide) ((h.S (by omega))).t ?_
        refine pw_aload_0 dX0_addStation_57 ?_
        refine pw_dup dX0_addStation_58 ?_
        refine pw_getI 0 5 dX0_addStation_59 fX0_49 rfl (by decide) rfl h.t ?_
        refine pw_top (by simp (disch := omega) only [wr_n]; exact h5n) ?_
        refine pw_iconst (v := nI 1) dX0_addStation_62 (by decide) ?_
        refine pw_iaddN dX0_addStation_63 ?_
        refine pw_putI 0 5 dX0_addStation_64 fX0_49 rfl (by decide) rfl (Or.inl rfl) rfl (by decide) h.t ?_
        refine pw_aload_0 dX0_addStation_67 ?_
        refine pw_getI 0 5 dX0_addStation_68 fX0_49 rfl (by decide) rfl h.t ?_
        refine pw_top (by rw [wr_s, upd_s]) ?_
        refine pw_iconst (v := nI 1) dX0_addStation_71 (by decide) ?_
        refine pw_isubN dX0_addStation_72 (by omega) ?_
        refine pw_ireturn dX0_addStation_73 rfl ?_
        have hin := in_of (lo := 1) (hi := 63) (by decide) (by decide) h1 h2
        have hy : cmP x := ⟨_, hin.1, hin.2.1, hin.2.2⟩
        have e1 : cmR B x = nI n := by unfold cmR; rw [cif_y hy, if_neg (by omega), hn]
        have e2 : cmN B x = cmB B x := cif_y ⟨hy, by omega⟩
        rw [e1, e2] at q
        have hc := hb.come (x := x) (by omega) (fun k hk => wf.dead (Nat.le_refl _) (by omega) hk)
        rw [hn] at hc
        exact q _ hc
      · skip
        refine pw_bipush (v := -4) dX0_addStation_23 (by decide) ?_
        refine pw_ireturn dX0_addStation_25 rfl ?_
        have hin := in_of (lo := 1) (hi := 63) (by decide) (by decide) h1 h2
        have hy : cmP x := ⟨_, hin.1, hin.2.1, hin.2.2⟩
        have h88 : nS B = 8 := by have h5 := h3; rw [nI_ltI (by omega) (by omega)] at h5; omega
        have e1 : cmR B x = -4 := by unfold cmR; rw [cif_y hy, if_pos h88]
        have e2 : cmN B x = B := cif_n (fun hh => hh.2 h88)
        rw [e1, e2] at q
        exact q _ hb
    · skip
      refine pw_bipush (v := -2) dX0_addStation_11 (by decide) ?_
      refine pw_ireturn dX0_addStation_13 rfl ?_
      have hno : ¬ cmP x := fun ⟨j, h1, h2, e⟩ => by subst e; have h5 := h2; rw [nI_leI (by omega) (by omega)] at h5; omega
      have e1 : cmR B x = -2 := cif_n hno
      have e2 : cmN B x = B := cif_n (fun hh => hno hh.1)
      rw [e1, e2] at q
      exact q _ hb
set_option maxRecDepth 100000 in
set_option maxHeartbeats 4000000 in
theorem k_word {X : Cx} {σ : Sp} {μ : Mm} {Q : Int32 → Sp → Mm → Prop} {μ0 : Mm} {b n : Nat} {B : Bs} {x y u : Int32} (h : ShBus σ b) (hb : BU μ0 b B μ) (wf : WF B) (hn : nS B = n) (q : ∀ μ', BU μ0 b (wdN B x y u) μ' → Q (wdR B x y u) σ μ') : CTi X mX0_addWord [.ref b, .int x, .int y, .int u] σ μ Q := by
  refine CT.of (by decide +kernel) (Nat.le_of_ble_eq_true rfl) ?_
  show PW X mX0_addWord 0 0 0 [some (.ref b), some (.int x), some (.int y), some (.int u), none] [] σ μ (LI Q)
  have h8 : n ≤ 8 := hn ▸ wf.n8
  refine pw_aload_0 dX0_addWord_0 ?_
  refine pw_iload_1 dX0_addWord_1 ?_
  refine pw_cV1r 0 dX0_addWord_2 kX0_80 vX0_find iX0_find ⟨by decide, by decide⟩ ⟨rfl, rfl⟩ (by decide) rfl (Nat.le_of_ble_eq_true rfl) h.t (k_find h hb wf hn (fun i1 hi1 i1n => ?_) (fun hi1 => ?_))
  · skip
    subst hi1
    refine pw_astore_4 dX0_addWord_5 (by decide) ?_
    refine pw_aload_4 dX0_addWord_7 ?_
    refine pw_ifnull dX0_addWord_9 ?_
    refine pw_iload_2 dX0_addWord_12 ?_
    refine pw_cSN1i dX0_addWord_13 kX0_84 vX7_isWire sX7_isWire ⟨by decide, by decide⟩ ⟨rfl, rfl⟩ (Nat.le_of_ble_eq_true rfl) (c_X7_isWire (fun w2 hw2 w26 => ?_) (fun hw2 => ?_))
    · skip
      subst hw2
      refine pw_if_ne 21 dX0_addWord_16 (by decide) (fun _ => ?_) (fun hh => absurd hh (by decide))
      refine pw_iload_3 dX0_addWord_21 ?_
      refine pw_if_lt 32 dX0_addWord_22 (by decide) (fun h3 => ?_) (fun h3 => ?_)
      · skip
        refine pw_bipush (v := -2) dX0_addWord_32 (by decide) ?_
        refine pw_ireturn dX0_addWord_34 rfl ?_
        have hy : inN (nS B) (nI i1) ∧ inN 6 (nI w2) := ⟨inN_ok (by omega), inN_ok (by omega)⟩
        have hno : ¬ inN 256 u := fun ⟨j, h1, e⟩ => by subst e; exact nI_pos (by omega) h3
        have e1 : wdR B (nI i1) (nI w2) u = -2 := (cif_y hy).trans (cif_n hno)
        have e2 : wdN B (nI i1) (nI w2) u = B := cif_n (fun hh => hno hh.2.1)
        rw [e1, e2] at q
        exact q _ hb
      · skip
        refine pw_iload_3 dX0_addWord_25 ?_
        refine pw_sipush (v := nI 255) dX0_addWord_26 (by decide) ?_
        refine pw_icmp_le 35 dX0_addWord_29 (by decide) (fun h4 => ?_) (fun h4 => ?_)
        · skip
          refine pw_aload_4 dX0_addWord_35 ?_
          refine pw_iload_2 dX0_addWord_37 ?_
          refine pw_cV1i 6 dX0_addWord_38 kX0_88 vX6_isAt iX6_isAt ⟨by decide, by decide⟩ ⟨rfl, rfl⟩ (by decide) rfl (Nat.le_of_ble_eq_true rfl) ((h.S (by omega))).t (k_isAt h hb (by omega) (fun h5 => ?_) (fun h6 => ?_))
          · skip
            refine pw_if_ne 47 dX0_addWord_41 (by decide) (fun _ => ?_) (fun hh => absurd hh (by decide))
            refine pw_aload_4 dX0_addWord_47 ?_
            refine pw_getr 6 1 dX0_addWord_49 fX0_91 rfl (by decide) rfl ((h.S (by omega))).t ((h.S (by omega))).r1 ?_
            refine pw_getI 5 3 dX0_addWord_52 fX0_95 rfl (by decide) rfl (((h.S (by omega)))).w ?_
            refine pw_top ((hb.sl (by omega)).trans (wf.w (by omega)).1) ?_
            have hw9 := (wf.w (i := i1) (by omega)).2
            refine pw_iconst (v := nI 4) dX0_addWord_55 (by decide) ?_
            refine pw_icmp_lt 62 dX0_addWord_56 (by decide) (fun h7 => ?_) (fun h7 => ?_)
            · skip
              have hw4 : nwF (bS B i1) < 4 := by have h5 := h7; have h6 := (wf.w (i := i1) (by omega)).2; rw [nI_ltI (by omega) (by omega)] at h5; exact h5
              refine pw_aload_4 dX0_addWord_62 ?_
              refine pw_getr 6 1 dX0_addWord_64 fX0_91 rfl (by decide) rfl ((h.S (by omega))).t ((h.S (by omega))).r1 ?_
              refine pw_iload_3 dX0_addWord_67 ?_
              refine pw_iload_2 dX0_addWord_68 ?_
              refine pw_cV2v 5 dX0_addWord_69 kX0_100 vX5_add iX5_add ⟨by decide, by decide⟩ ⟨rfl, rfl⟩ (by decide) rfl (Nat.le_of_ble_eq_true rfl) (((h.S (by omega)))).w (c_X5_add (n := nwF (bS B i1)) (h.S (by omega)) ((hb.sl (by omega)).trans (wf.w (by omega)).1) hw4 ?_)
              refine pw_aload_4 dX0_addWord_72 ?_
              refine pw_getr 6 1 dX0_addWord_74 fX0_91 rfl (by decide) rfl ((h.S (by omega))).t ((h.S (by omega))).r1 ?_
              refine pw_getI 5 3 dX0_addWord_77 fX0_95 rfl (by decide) rfl (((h.S (by omega)))).w ?_
              refine pw_top (show _ = nI (nwF (bS B i1) + 1) by unfold addF; rw [wr_s, upd_s]) ?_
              refine pw_ireturn dX0_addWord_80 rfl ?_
              have hy : inN (nS B) (nI i1) ∧ inN 6 (nI w2) := ⟨inN_ok (by omega), inN_ok (by omega)⟩
              have hu : inN 256 u := by
                obtain ⟨z, z1, rfl⟩ := nI_of h3
                have h5 := h4
                rw [nI_leI z1 (by omega)] at h5
                exact inN_ok (by omega)
              have ei : ixN (nI i1) = i1 := ixN_nI (by omega)
              have hat : atB B (ixN (nI i1)) (nI w2) := by rw [ei]; exact h5
              have hw := wf.w (i := i1) (by omega)
              have h44 : nwF (bS B (ixN (nI i1))) ≠ 4 := by rw [ei]; omega
              have e1 : wdR B (nI i1) (nI w2) u = nI (nwF (bS B (ixN (nI i1))) + 1) := (cif_y hy).trans ((cif_y hu).trans ((cif_y hat).trans (if_neg h44)))
              have e2 : wdN B (nI i1) (nI w2) u = setS B (ixN (nI i1)) (gtF (bS B (ixN (nI i1))) (nwF (bS B (ixN (nI i1)))) u (nI w2)) := cif_y ⟨hy, hu, hat, h44⟩
              rw [e1, e2, ei] at q
              exact q _ (hb.add (i := i1) (by omega) hw4 u (nI w2) (fun hs => ((wf.s (i := i1) (by omega)).sp hs).1))
            · skip
              refine pw_bipush (v := -4) dX0_addWord_59 (by decide) ?_
              refine pw_ireturn dX0_addWord_61 rfl ?_
              have hy : inN (nS B) (nI i1) ∧ inN 6 (nI w2) := ⟨inN_ok (by omega), inN_ok (by omega)⟩
              have hu : inN 256 u := by
                obtain ⟨z, z1, rfl⟩ := nI_of h3
                have h5 := h4
                rw [nI_leI z1 (by omega)] at h5
                exact inN_ok (by omega)
              have ei : ixN (nI i1) = i1 := ixN_nI (by omega)
              have hat : atB B (ixN (nI i1)) (nI w2) := by rw [ei]; exact h5
              have hw := wf.w (i := i1) (by omega)
              have h44 : nwF (bS B (ixN (nI i1))) = 4 := by rw [ei]; have h5 := h7; rw [nI_ltI (by omega) (by omega)] at h5; omega
              have e1 : wdR B (nI i1) (nI w2) u = -4 := (cif_y hy).trans ((cif_y hu).trans ((cif_y hat).trans (if_pos h44)))
              have e2 : wdN B (nI i1) (nI w2) u = B := cif_n (fun hh => hh.2.2.2 h44)
              rw [e1, e2] at q
              exact q _ hb
          · skip
            refine pw_if_ne 47 dX0_addWord_41 (by decide) (fun hh => absurd hh (by decide)) (fun _ => ?_)
            refine pw_bipush (v := -5) dX0_addWord_44 (by decide) ?_
            refine pw_ireturn dX0_addWord_46 rfl ?_
            have hy : inN (nS B) (nI i1) ∧ inN 6 (nI w2) := ⟨inN_ok (by omega), inN_ok (by omega)⟩
            have hu : inN 256 u := by
              obtain ⟨z, z1, rfl⟩ := nI_of h3
              have h5 := h4
              rw [nI_leI z1 (by omega)] at h5
              exact inN_ok (by omega)
            have ei : ixN (nI i1) = i1 := ixN_nI (by omega)
            have hno : ¬ atB B (ixN (nI i1)) (nI w2) := by rw [ei]; exact h6
            have e1 : wdR B (nI i1) (nI w2) u = -5 := (cif_y hy).trans ((cif_y hu).trans (cif_n hno))
            have e2 : wdN B (nI i1) (nI w2) u = B := cif_n (fun hh => hno hh.2.2.1)
            rw [e1, e2] at q
            exact q _ hb
        · skip
          refine pw_bipush (v := -2) dX0_addWord_32 (by decide) ?_
          refine pw_ireturn dX0_addWord_34 rfl ?_
          have hy : inN (nS B) (nI i1) ∧ inN 6 (nI w2) := ⟨inN_ok (by omega), inN_ok (by omega)⟩
          have hno : ¬ inN 256 u := fun ⟨j, h1, e⟩ => by subst e; have h5 := h4; rw [nI_leI (by omega) (by omega)] at h5; omega
          have e1 : wdR B (nI i1) (nI w2) u = -2 := (cif_y hy).trans (cif_n hno)
          have e2 : wdN B (nI i1) (nI w2) u = B := cif_n (fun hh => hno hh.2.1)
          rw [e1, e2] at q
          exact q _ hb
    · skip
      refine pw_if_ne 21 dX0_addWord_16 (by decide) (fun hh => absurd hh (by decide)) (fun _ => ?_)
      refine pw_iconst (v := -1) dX0_addWord_19 (by decide) ?_
      refine pw_ireturn dX0_addWord_20 rfl ?_
      have hno : ¬ (inN (nS B) (nI i1) ∧ inN 6 y) := fun hh => inN_no hw2 hh.2
      have e1 : wdR B (nI i1) y u = -1 := cif_n hno
      have e2 : wdN B (nI i1) y u = B := cif_n (fun hh => hno hh.1)
      rw [e1, e2] at q
      exact q _ hb
  · skip
    refine pw_nastore_4 dX0_addWord_5 (by decide) ?_
    refine pw_naload_4 dX0_addWord_7 ?_
    refine pw_ifnullN 19 dX0_addWord_9 (by decide) ?_
    refine pw_iconst (v := -1) dX0_addWord_19 (by decide) ?_
    refine pw_ireturn dX0_addWord_20 rfl ?_
    have hno : ¬ (inN (nS B) x ∧ inN 6 y) := fun hh => inN_no (by rw [hn]; exact hi1) hh.1
    have e1 : wdR B x y u = -1 := cif_n hno
    have e2 : wdN B x y u = B := cif_n (fun hh => hno hh.1)
    rw [e1, e2] at q
    exact q _ hb
set_option maxRecDepth 100000 in
set_option maxHeartbeats 4000000 in
theorem k_forget {X : Cx} {σ : Sp} {μ : Mm} {Q : Int32 → Sp → Mm → Prop} {μ0 : Mm} {b n : Nat} {B : Bs} {x : Int32} (h : ShBus σ b) (hb : BU μ0 b B μ) (wf : WF B) (hn : nS B = n) (q : ∀ μ', BU μ0 b (fgN B x) μ' → Q (fgR B x) σ μ') : CTi X mX0_forgetWord [.ref b, .int x] σ μ Q := by
  refine CT.of (by decide +kernel) (Nat.le_of_ble_eq_true rfl) ?_
  show PW X mX0_forgetWord 0 0 0 [some (.ref b), some (.int x), none, none] [] σ μ (LI Q)
  have h8 : n ≤ 8 := hn ▸ wf.n8
  refine pw_aload_0 dX0_forgetWord_0 ?_
  refine pw_iload_1 dX0_forgetWord_1 ?_
  refine pw_cV1r 0 dX0_forgetWord_2 kX0_80 vX0_find iX0_find ⟨by decide, by decide⟩ ⟨rfl, rfl⟩ (by decide) rfl (Nat.le_of_ble_eq_true rfl) h.t (k_find h hb wf hn (fun i1 hi1 i1n => ?_) (fun hi1 => ?_))
  · skip
    subst hi1
    refine pw_astore_2 dX0_forgetWord_5 (by decide) ?_
    refine pw_aload_2 dX0_forgetWord_6 ?_
    refine pw_nonnull 12 dX0_forgetWord_7 (by decide) ?_
    refine pw_aload_2 dX0_forgetWord_12 ?_
    refine pw_getr 6 1 dX0_forgetWord_13 fX0_91 rfl (by decide) rfl ((h.S (by omega))).t ((h.S (by omega))).r1 ?_
    refine pw_getI 5 3 dX0_forgetWord_16 fX0_95 rfl (by decide) rfl (((h.S (by omega)))).w ?_
    refine pw_top ((hb.sl (by omega)).trans (wf.w (by omega)).1) ?_
    refine pw_if_ne 25 dX0_forgetWord_19 (by decide) (fun h2 => ?_) (fun h2 => ?_)
    · skip
      have h0 : 0 < nwF (bS B i1) := Nat.pos_of_ne_zero (fun e => h2 (by rw [e]; rfl))
      refine pw_aload_2 dX0_forgetWord_25 ?_
      refine pw_getr 6 1 dX0_forgetWord_26 fX0_91 rfl (by decide) rfl ((h.S (by omega))).t ((h.S (by omega))).r1 ?_
      refine pw_iconst (v := nI 0) dX0_forgetWord_29 (by decide) ?_
      refine pw_cV1i 5 dX0_forgetWord_30 kX0_104 vX5_numberAt iX5_numberAt ⟨by decide, by decide⟩ ⟨rfl, rfl⟩ (by decide) rfl (Nat.le_of_ble_eq_true rfl) (((h.S (by omega)))).w (k_number0 h hb wf (by omega) h0 ?_)
      refine pw_istore_3 dX0_forgetWord_33 (by decide) ?_
      refine pw_aload_2 dX0_forgetWord_34 ?_
      refine pw_getr 6 1 dX0_forgetWord_35 fX0_91 rfl (by decide) rfl ((h.S (by omega))).t ((h.S (by omega))).r1 ?_
      refine pw_cV0v 5 dX0_forgetWord_38 kX0_108 vX5_dropFirst iX5_dropFirst ⟨by decide, by decide⟩ ⟨rfl, rfl⟩ (by decide) rfl (Nat.le_of_ble_eq_true rfl) (((h.S (by omega)))).w (c_X5_dropFirst (n := nwF (bS B i1)) (h.S (by omega)) ((hb.sl (by omega)).trans (wf.w (by omega)).1) (wf.w (i := i1) (by omega)).2 h0 ?_)
      refine pw_aload_2 dX0_forgetWord_41 ?_
      refine pw_cV0v 6 dX0_forgetWord_42 kX0_111 vX6_fallSilent iX6_fallSilent ⟨by decide, by decide⟩ ⟨rfl, rfl⟩ (by decide) rfl (Nat.le_of_ble_eq_true rfl) ((h.S (by omega))).t (c_X6_fallSilent (h.S (by omega)) ?_)
      refine pw_iload_3 dX0_forgetWord_45 ?_
      refine pw_ireturn dX0_forgetWord_46 rfl ?_
      have hy : inN (nS B) (nI i1) := inN_ok (by omega)
      have ei : ixN (nI i1) = i1 := ixN_nI (by omega)
      have hw := wf.w (i := i1) (by omega)
      have h1 : nwF (bS B (ixN (nI i1))) ≠ 0 := by rw [ei]; omega
      have e1 : fgR B (nI i1) = bS B (ixN (nI i1)) 5 := (cif_y hy).trans (if_neg h1)
      have e2 : fgN B (nI i1) = lvB B (ixN (nI i1)) := cif_y ⟨hy, h1⟩
      rw [e1, e2, ei] at q
      exact q _ (hb.dropSil (i := i1) (by omega) hw.1 hw.2 h0)
    · skip
      refine pw_bipush (v := -5) dX0_forgetWord_22 (by decide) ?_
      refine pw_ireturn dX0_forgetWord_24 rfl ?_
      have hy : inN (nS B) (nI i1) := inN_ok (by omega)
      have ei : ixN (nI i1) = i1 := ixN_nI (by omega)
      have hw := wf.w (i := i1) (by omega)
      have h0 : nwF (bS B (ixN (nI i1))) = 0 := by rw [ei]; have h5 := h2; rw [show (0 : Int32) = nI 0 from rfl, nI_eq (by omega) (by omega)] at h5; exact h5
      have e1 : fgR B (nI i1) = -5 := (cif_y hy).trans (if_pos h0)
      have e2 : fgN B (nI i1) = B := cif_n (fun hh => hh.2 h0)
      rw [e1, e2] at q
      exact q _ hb
  · skip
    refine pw_nastore_2 dX0_forgetWord_5 (by decide) ?_
    refine pw_naload_2 dX0_forgetWord_6 ?_
    refine pw_nonnullN dX0_forgetWord_7 ?_
    refine pw_iconst (v := -1) dX0_forgetWord_10 (by decide) ?_
    refine pw_ireturn dX0_forgetWord_11 rfl ?_
    have hno : ¬ inN (nS B) x := inN_no (by rw [hn]; exact hi1)
    have e1 : fgR B x = -1 := cif_n hno
    have e2 : fgN B x = B := cif_n (fun hh => hno hh.1)
    rw [e1, e2] at q
    exact q _ hb
theorem flip_msk {B : Bs} {v : Nat} (wf : WF B) (hv : v < 6) : msk (fun i => bW B i 1 = nI 1) 6 ^^^ (nI 1 <<< (nI v &&& 31)) = msk (fun i => bW (setW B v 1 (nI 1 - bW B v 1)) i 1 = nI 1) 6 := by
  rw [msk_x1 (by decide) hv]
  refine msk_cong fun i hi => ?_
  by_cases e : i = v
  · subst e
    rw [bW_setW_s, upd_s]
    rcases (wf.2.2.1 i hi).2 with h | h
    · rw [h]
      exact ⟨fun _ => by decide, fun _ => Or.inl ⟨rfl, by decide⟩⟩
    · rw [h]
      refine ⟨fun hh => ?_, fun hh => absurd hh (by decide)⟩
      rcases hh with hh | hh
      · exact absurd rfl hh.2
      · exact absurd rfl hh.1
  · rw [bW_setW_n _ _ _ e]
    refine ⟨fun hh => ?_, fun hh => Or.inr ⟨Ne.symm e, hh⟩⟩
    rcases hh with hh | hh
    · exact absurd hh.1.symm e
    · exact hh.2
theorem k_hasFaultP {X : Cx} {σ : Sp} {μ : Mm} {Q : Int32 → Sp → Mm → Prop} {b v : Nat} {p : Nat → Prop} (h : ShBus σ b) (hm : μ b 6 = msk p 6) (hv : v < 6) (q1 : p v → Q (nI 1) σ μ) (q0 : ¬ p v → Q (nI 0) σ μ) : CTi X mX0_hasFault [.ref b, .int (nI v)] σ μ Q := by
  refine CT.of (by decide +kernel) (Nat.le_of_ble_eq_true rfl) ?_
  show PW X mX0_hasFault 0 0 0 [some (.ref b), some (.int (nI v))] [] σ μ (LI Q)
  refine pw_iload_1 dX0_hasFault_0 ?_
  refine pw_cSN1i dX0_hasFault_1 kX0_84 vX7_isWire sX7_isWire ⟨by decide, by decide⟩ ⟨rfl, rfl⟩ (Nat.le_of_ble_eq_true rfl) (c_X7_isWireT (by omega) ?_)
  refine pw_if_eq 23 dX0_hasFault_4 (by decide) (fun hh => absurd hh (by decide)) (fun _ => ?_)
  refine pw_aload_0 dX0_hasFault_7 ?_
  refine pw_getI 0 6 dX0_hasFault_8 fX0_53 rfl (by decide) rfl h.t ?_
  refine pw_top hm ?_
  refine pw_iload_1 dX0_hasFault_11 ?_
  refine pw_ishr dX0_hasFault_12 ?_
  refine pw_iconst (v := nI 1) dX0_hasFault_13 (by decide) ?_
  refine pw_iand dX0_hasFault_14 ?_
  refine pw_iconst (v := nI 1) dX0_hasFault_15 (by decide) ?_
  refine pw_icmp_ne 23 dX0_hasFault_16 (by decide) (fun h1 => ?_) (fun h1 => ?_)
  · skip
    refine pw_iconst (v := nI 0) dX0_hasFault_23 (by decide) ?_
    refine pw_zreturn dX0_hasFault_24 rfl (by decide) ?_
    exact q0 (fun e => h1 ((msk_bi (p := p) (by decide) hv).mpr e))
  · skip
    refine pw_iconst (v := nI 1) dX0_hasFault_19 (by decide) ?_
    refine pw_goto 24 dX0_hasFault_20 (by decide) ?_
    refine pw_zreturn dX0_hasFault_24 rfl (by decide) ?_
    exact q1 ((msk_bi (by decide) hv).mp h1)
set_option maxRecDepth 100000 in
set_option maxHeartbeats 4000000 in
theorem k_stick {X : Cx} {σ : Sp} {μ : Mm} {Q : Int32 → Sp → Mm → Prop} {μ0 : Mm} {b n : Nat} {B : Bs} {x : Int32} (h : ShBus σ b) (hb : BU μ0 b B μ) (wf : WF B) (hn : nS B = n) (q : ∀ μ', BU μ0 b (skN B x) μ' → Q (skR B x) σ μ') : CTi X mX0_toggleFault [.ref b, .int x] σ μ Q := by
  refine CT.of (by decide +kernel) (Nat.le_of_ble_eq_true rfl) ?_
  show PW X mX0_toggleFault 0 0 0 [some (.ref b), some (.int x)] [] σ μ (LI Q)
  have h8 : n ≤ 8 := hn ▸ wf.n8
  refine pw_iload_1 dX0_toggleFault_0 ?_
  refine pw_cSN1i dX0_toggleFault_1 kX0_84 vX7_isWire sX7_isWire ⟨by decide, by decide⟩ ⟨rfl, rfl⟩ (Nat.le_of_ble_eq_true rfl) (c_X7_isWire (fun w1 hw1 w16 => ?_) (fun hw1 => ?_))
  · skip
    subst hw1
    refine pw_if_ne 9 dX0_toggleFault_4 (by decide) (fun _ => ?_) (fun hh => absurd hh (by decide))
    refine pw_aload_0 dX0_toggleFault_9 ?_
    refine pw_dup dX0_toggleFault_10 ?_
    refine pw_getI 0 6 dX0_toggleFault_11 fX0_53 rfl (by decide) rfl h.t ?_
    refine pw_top hb.f ?_
    refine pw_iconst (v := nI 1) dX0_toggleFault_14 (by decide) ?_
    refine pw_iload_1 dX0_toggleFault_15 ?_
    refine pw_ishl dX0_toggleFault_16 ?_
    refine pw_ixor dX0_toggleFault_17 ?_
    refine pw_putI 0 6 dX0_toggleFault_18 fX0_53 rfl (by decide) rfl (Or.inl rfl) rfl (by decide) h.t ?_
    refine pw_gen (P := BU μ0 b (setW B w1 1 (nI 1 - bW B w1 1))) (hb.fault (flip_msk wf (by omega))) (fun μ9 hb9 => ?_)
    refine pw_aload_0 dX0_toggleFault_21 ?_
    refine pw_iload_1 dX0_toggleFault_22 ?_
    refine pw_cV1i 0 dX0_toggleFault_23 kX0_114 vX0_hasFault iX0_hasFault ⟨by decide, by decide⟩ ⟨rfl, rfl⟩ (by decide) rfl (Nat.le_of_ble_eq_true rfl) h.t (k_hasFaultP h hb9.f (by omega) (fun h2 => ?_) (fun h3 => ?_))
    · skip
      refine pw_if_eq 33 dX0_toggleFault_26 (by decide) (fun hh => absurd hh (by decide)) (fun _ => ?_)
      refine pw_iconst (v := nI 1) dX0_toggleFault_29 (by decide) ?_
      refine pw_goto 34 dX0_toggleFault_30 (by decide) ?_
      refine pw_ireturn dX0_toggleFault_34 rfl ?_
      have hy : inN 6 (nI w1) := inN_ok (by omega)
      have ei : ixN (nI w1) = w1 := ixN_nI (by omega)
      have e9 : nI 1 - bW B w1 1 = nI 1 := by
        have h5 := h2
        rw [bW_setW_s, upd_s] at h5
        exact h5
      have e1 : skR B (nI w1) = nI 1 := by unfold skR; rw [cif_y hy, ei, e9]
      have e2 : skN B (nI w1) = setW B w1 1 (nI 1 - bW B w1 1) := by unfold skN; rw [cif_y hy, ei]
      rw [e1, e2] at q
      exact q _ hb9
    · skip
      refine pw_if_eq 33 dX0_toggleFault_26 (by decide) (fun _ => ?_) (fun hh => absurd (by decide) hh)
      refine pw_iconst (v := nI 0) dX0_toggleFault_33 (by decide) ?_
      refine pw_ireturn dX0_toggleFault_34 rfl ?_
      have hy : inN 6 (nI w1) := inN_ok (by omega)
      have ei : ixN (nI w1) = w1 := ixN_nI (by omega)
      have e9 : nI 1 - bW B w1 1 = nI 0 := by
        have h5 := h3
        rw [bW_setW_s, upd_s] at h5
        exact (z_flip (wf.2.2.1 w1 (by omega)).2).resolve_right h5
      have e1 : skR B (nI w1) = nI 0 := by unfold skR; rw [cif_y hy, ei, e9]
      have e2 : skN B (nI w1) = setW B w1 1 (nI 1 - bW B w1 1) := by unfold skN; rw [cif_y hy, ei]
      rw [e1, e2] at q
      exact q _ hb9
  · skip
    refine pw_if_ne 9 dX0_toggleFault_4 (by decide) (fun hh => absurd hh (by decide)) (fun _ => ?_)
    refine pw_iconst (v := -1) dX0_toggleFault_7 (by decide) ?_
    refine pw_ireturn dX0_toggleFault_8 rfl ?_
    have hno : ¬ inN 6 x := inN_no hw1
    have e1 : skR B x = -1 := cif_n hno
    have e2 : skN B x = B := cif_n hno
    rw [e1, e2] at q
    exact q _ hb
theorem bi3_0 {x : Int32} (h : x = 0) : nI 1 - x = nI 1 := by rw [h]; decide
theorem bi3_1 {x : Int32} (h : x = nI 0 ∨ x = nI 1) (h0 : ¬ x = 0) : nI 1 - x = nI 0 := by rw [h.resolve_left h0]; decide
theorem dz_sp {B : Bs} {i : Nat} : spB (dz1 B i) i ↔ spB B i := by
  unfold spB dz1
  rw [bS_setS_s, upd_n _ _ (by omega)]
theorem wf_dz1 {B : Bs} {i : Nat} (wf : WF B) (hi : i < nS B) : WF (dz1 B i) := wf.pS hi ((wf.s hi).z (Or.inr rfl) (z_flip (wf.s hi).2.1.2)) (by rw [upd_n _ _ (by omega)]; exact wf.c hi)
set_option maxRecDepth 100000 in
set_option maxHeartbeats 4000000 in
theorem k_doze {X : Cx} {σ : Sp} {μ : Mm} {Q : Int32 → Sp → Mm → Prop} {μ0 : Mm} {b n : Nat} {B : Bs} {x : Int32} (h : ShBus σ b) (hb : BU μ0 b B μ) (wf : WF B) (hn : nS B = n) (q : ∀ μ', BU μ0 b (dzN B x) μ' → Q (dzR B x) σ μ') : CTi X mX0_toggleDoze [.ref b, .int x] σ μ Q := by
  refine CT.of (by decide +kernel) (Nat.le_of_ble_eq_true rfl) ?_
  show PW X mX0_toggleDoze 0 0 0 [some (.ref b), some (.int x), none] [] σ μ (LI Q)
  have h8 : n ≤ 8 := hn ▸ wf.n8
  refine pw_aload_0 dX0_toggleDoze_0 ?_
  refine pw_iload_1 dX0_toggleDoze_1 ?_
  refine pw_cV1r 0 dX0_toggleDoze_2 kX0_80 vX0_find iX0_find ⟨by decide, by decide⟩ ⟨rfl, rfl⟩ (by decide) rfl (Nat.le_of_ble_eq_true rfl) h.t (k_find h hb wf hn (fun i1 hi1 i1n => ?_) (fun hi1 => ?_))
  · skip
    subst hi1
    refine pw_astore_2 dX0_toggleDoze_5 (by decide) ?_
    refine pw_aload_2 dX0_toggleDoze_6 ?_
    refine pw_nonnull 12 dX0_toggleDoze_7 (by decide) ?_
    refine pw_aload_2 dX0_toggleDoze_12 ?_
    refine pw_aload_2 dX0_toggleDoze_13 ?_
    refine pw_getI 6 6 dX0_toggleDoze_14 fX0_117 rfl (by decide) rfl ((h.S (by omega))).t ?_
    refine pw_top (hb.s6 (by omega)) ?_
    refine pw_if_ne 24 dX0_toggleDoze_17 (by decide) (fun h2 => ?_) (fun h2 => ?_)
    · skip
      refine pw_iconst (v := nI 0) dX0_toggleDoze_24 (by decide) ?_
      refine pw_putZ 6 6 dX0_toggleDoze_25 fX0_117 rfl (by decide) rfl (Or.inl rfl) rfl (by decide) ((h.S (by omega))).t ?_
      refine pw_gen (P := BU μ0 b (setS B i1 (upd (bS B i1) 3 (nI 0)))) (hb.dozing (by omega) _) (fun μ1 hb1 => ?_)
      have e3 : nI 1 - bS B i1 3 = nI 0 := bi3_1 (wf.s (i := i1) (by omega)).2.1.2 h2
      have wf1 : WF (dz1 B i1) := wf_dz1 wf (by omega)
      refine pw_gen (P := BU μ0 b (dz1 B i1)) (by unfold dz1; rw [e3]; exact hb1) (fun μ5 hb5 => ?_)
      refine pw_aload_2 dX0_toggleDoze_28 ?_
      refine pw_getI 6 6 dX0_toggleDoze_29 fX0_117 rfl (by decide) rfl ((h.S (by omega))).t ?_
      refine pw_top (hb5.s6 (by omega)) ?_
      refine pw_top (show _ = nI 0 by unfold dz1; rw [bS_setS_s, upd_s]; exact e3) ?_
      refine pw_if_eq 47 dX0_toggleDoze_32 (by decide) (fun _ => ?_) (fun hh => absurd (by decide) hh)
      refine pw_aload_2 dX0_toggleDoze_47 ?_
      refine pw_getI 6 6 dX0_toggleDoze_48 fX0_117 rfl (by decide) rfl ((h.S (by omega))).t ?_
      refine pw_top (hb5.s6 (by omega)) ?_
      refine pw_top (show _ = nI 0 by unfold dz1; rw [bS_setS_s, upd_s]; exact e3) ?_
      refine pw_if_eq 58 dX0_toggleDoze_51 (by decide) (fun _ => ?_) (fun hh => absurd (by decide) hh)
      refine pw_iconst (v := nI 0) dX0_toggleDoze_58 (by decide) ?_
      refine pw_ireturn dX0_toggleDoze_59 rfl ?_
      have hy : inN (nS B) (nI i1) := inN_ok (by omega)
      have ei : ixN (nI i1) = i1 := ixN_nI (by omega)
      have e1 : dzR B (nI i1) = nI 0 := by unfold dzR; rw [cif_y hy, ei, e3]
      have e4 : dzB B i1 = dz1 B i1 := cif_n (fun hh => h2 hh.1)
      have e2 : dzN B (nI i1) = dz1 B i1 := by unfold dzN; rw [cif_y hy, ei, e4]
      rw [e1, e2] at q
      exact q _ hb5
    · skip
      refine pw_iconst (v := nI 1) dX0_toggleDoze_20 (by decide) ?_
      refine pw_goto 25 dX0_toggleDoze_21 (by decide) ?_
      refine pw_putZ 6 6 dX0_toggleDoze_25 fX0_117 rfl (by decide) rfl (Or.inl rfl) rfl (by decide) ((h.S (by omega))).t ?_
      refine pw_gen (P := BU μ0 b (setS B i1 (upd (bS B i1) 3 (nI 1)))) (hb.dozing (by omega) _) (fun μ2 hb2 => ?_)
      have e3 : nI 1 - bS B i1 3 = nI 1 := bi3_0 h2
      have wf1 : WF (dz1 B i1) := wf_dz1 wf (by omega)
      refine pw_gen (P := BU μ0 b (dz1 B i1)) (by unfold dz1; rw [e3]; exact hb2) (fun μ5 hb5 => ?_)
      refine pw_aload_2 dX0_toggleDoze_28 ?_
      refine pw_getI 6 6 dX0_toggleDoze_29 fX0_117 rfl (by decide) rfl ((h.S (by omega))).t ?_
      refine pw_top (hb5.s6 (by omega)) ?_
      refine pw_top (show _ = nI 1 by unfold dz1; rw [bS_setS_s, upd_s]; exact e3) ?_
      refine pw_if_eq 47 dX0_toggleDoze_32 (by decide) (fun hh => absurd hh (by decide)) (fun _ => ?_)
      refine pw_aload_2 dX0_toggleDoze_35 ?_
      refine pw_cV0i 6 dX0_toggleDoze_36 kX0_121 vX6_isSpeaking iX6_isSpeaking ⟨by decide, by decide⟩ ⟨rfl, rfl⟩ (by decide) rfl (Nat.le_of_ble_eq_true rfl) ((h.S (by omega))).t (k_isSpeaking h hb5 wf1 (by show i1 < nS B; omega) (fun h3 => ?_) (fun h4 => ?_))
      · skip
        refine pw_if_eq 47 dX0_toggleDoze_39 (by decide) (fun hh => absurd hh (by decide)) (fun _ => ?_)
        refine pw_aload_0 dX0_toggleDoze_42 ?_
        refine pw_aload_2 dX0_toggleDoze_43 ?_
        refine pw_cV1v 0 dX0_toggleDoze_44 kX0_125 vX0_giveUp iX0_giveUp ⟨by decide, by decide⟩ ⟨rfl, rfl⟩ (by decide) rfl (Nat.le_of_ble_eq_true rfl) h.t (k_giveUp h hb5 wf1 hn (i := i1) (by omega) ((wf1.s (i := i1) (by show i1 < nS B; omega)).sp h3).1 (fun μ3 hb3 => ?_))
        refine pw_aload_2 dX0_toggleDoze_47 ?_
        refine pw_getI 6 6 dX0_toggleDoze_48 fX0_117 rfl (by decide) rfl ((h.S (by omega))).t ?_
        refine pw_top (hb3.s6 (by omega)) ?_
        refine pw_top (show _ = nI 1 from ((Fr_gu.2.2 i1).2.2).trans (by unfold dz1; rw [bS_setS_s, upd_s]; exact e3)) ?_
        refine pw_if_eq 58 dX0_toggleDoze_51 (by decide) (fun hh => absurd hh (by decide)) (fun _ => ?_)
        refine pw_iconst (v := nI 1) dX0_toggleDoze_54 (by decide) ?_
        refine pw_goto 59 dX0_toggleDoze_55 (by decide) ?_
        refine pw_ireturn dX0_toggleDoze_59 rfl ?_
        have hy : inN (nS B) (nI i1) := inN_ok (by omega)
        have ei : ixN (nI i1) = i1 := ixN_nI (by omega)
        have e1 : dzR B (nI i1) = nI 1 := by unfold dzR; rw [cif_y hy, ei, e3]
        have e4 : dzB B i1 = guB (dz1 B i1) i1 := cif_y ⟨h2, dz_sp.mp h3⟩
        have e2 : dzN B (nI i1) = guB (dz1 B i1) i1 := by unfold dzN; rw [cif_y hy, ei, e4]
        rw [e1, e2] at q
        exact q _ hb3
      · skip
        refine pw_if_eq 47 dX0_toggleDoze_39 (by decide) (fun _ => ?_) (fun hh => absurd (by decide) hh)
        refine pw_aload_2 dX0_toggleDoze_47 ?_
        refine pw_getI 6 6 dX0_toggleDoze_48 fX0_117 rfl (by decide) rfl ((h.S (by omega))).t ?_
        refine pw_top (hb5.s6 (by omega)) ?_
        refine pw_top (show _ = nI 1 by unfold dz1; rw [bS_setS_s, upd_s]; exact e3) ?_
        refine pw_if_eq 58 dX0_toggleDoze_51 (by decide) (fun hh => absurd hh (by decide)) (fun _ => ?_)
        refine pw_iconst (v := nI 1) dX0_toggleDoze_54 (by decide) ?_
        refine pw_goto 59 dX0_toggleDoze_55 (by decide) ?_
        refine pw_ireturn dX0_toggleDoze_59 rfl ?_
        have hy : inN (nS B) (nI i1) := inN_ok (by omega)
        have ei : ixN (nI i1) = i1 := ixN_nI (by omega)
        have e1 : dzR B (nI i1) = nI 1 := by unfold dzR; rw [cif_y hy, ei, e3]
        have e4 : dzB B i1 = dz1 B i1 := cif_n (fun hh => h4 (dz_sp.mpr hh.2))
        have e2 : dzN B (nI i1) = dz1 B i1 := by unfold dzN; rw [cif_y hy, ei, e4]
        rw [e1, e2] at q
        exact q _ hb5
  · skip
    refine pw_nastore_2 dX0_toggleDoze_5 (by decide) ?_
    refine pw_naload_2 dX0_toggleDoze_6 ?_
    refine pw_nonnullN dX0_toggleDoze_7 ?_
    refine pw_iconst (v := -1) dX0_toggleDoze_10 (by decide) ?_
    refine pw_ireturn dX0_toggleDoze_11 rfl ?_
    have hno : ¬ inN (nS B) x := inN_no (by rw [hn]; exact hi1)
    have e1 : dzR B x = -1 := cif_n hno
    have e2 : dzN B x = B := cif_n hno
    rw [e1, e2] at q
    exact q _ hb
theorem k_pass {X : Cx} {σ : Sp} {μ : Mm} {Q : Int32 → Sp → Mm → Prop} {μ0 : Mm} {b n : Nat} {B : Bs} {x : Int32} (h : ShBus σ b) (hb : BU μ0 b B μ) (wf : WF B) (hn : nS B = n) (q : ∀ μ', BU μ0 b (psN B x) μ' → Q (psR B x) σ μ') : CTi X mX0_passBeats [.ref b, .int x] σ μ Q := by
  refine k_passBeats h hb wf hn (fun hno => ?_) (fun c c1 c9 e ho => ?_) (fun c c1 c9 e ho μ' hb' => ?_)
  · have hy : ¬ psP x := fun ⟨c, c1, c9, e⟩ => hno c c1 c9 e
    have e1 : psR B x = -2 := cif_n hy
    have e2 : psN B x = B := cif_n (fun hh => hy hh.1)
    rw [e1, e2] at q
    exact q _ hb
  · subst e
    have hy : psP (nI c) := ⟨c, c1, c9, rfl⟩
    have e1 : psR B (nI c) = -5 := (cif_y hy).trans (if_pos ho)
    have e2 : psN B (nI c) = B := cif_n (fun hh => hh.2 ho)
    rw [e1, e2] at q
    exact q _ hb
  · subst e
    have hy : psP (nI c) := ⟨c, c1, c9, rfl⟩
    have ei : ixN (nI c) = c := ixN_nI (by omega)
    have e1 : psR B (nI c) = nI (btI c B).2 := by unfold psR; rw [cif_y hy, if_neg ho, ei]
    have e2 : psN B (nI c) = (btI c B).1 := by unfold psN; rw [cif_y ⟨hy, ho⟩, ei]
    rw [e1, e2] at q
    exact q _ hb' 
def faF (f : Nat → Int32) (x : Int32) : Int32 := if x = nI 0 then f 0 else if x = nI 1 then f 1 else if x = nI 2 then (if f 3 = nI 1 then nI 2 else f 2) else if x = nI 3 then f 4 else if x = nI 4 then f 17 else if x = nI 5 then f 18 else if x = nI 6 then f 19 else if x = nI 7 then f 20 else if x = nI 8 then f 21 else if x = nI 9 then f 22 else -2
theorem sw_out {x : Int32} {n : Nat} (hn : n < 2 ^ 30) : (x.toInt < 0 ∨ (n : Int) < x.toInt) ∨ ∃ k, k < n + 1 ∧ x = nI k := by
  by_cases h : x.toInt < 0 ∨ (n : Int) < x.toInt
  · exact Or.inl h
  · have h0 : ¬ x < 0 := fun hx => h (Or.inl (Int32.lt_iff_toInt_lt.mp hx))
    obtain ⟨j, hj, rfl⟩ := nI_of h0
    rw [nI_toInt hj] at h
    exact Or.inr ⟨j, by omega, rfl⟩
theorem sw_ne {x : Int32} {n : Nat} (hn : n < 2 ^ 30) (h : x.toInt < 0 ∨ (n : Int) < x.toInt) {k : Nat} (hk : k ≤ n) : x ≠ nI k := by
  rintro rfl
  rw [nI_toInt (by omega)] at h
  omega
theorem fa_out {f : Nat → Int32} {x : Int32} (h : x.toInt < 0 ∨ ((9 : Nat) : Int) < x.toInt) : faF f x = -2 := by
  have e := fun k (hk : k ≤ 9) => sw_ne (by decide) h hk
  unfold faF
  rw [if_neg (e 0 (by omega)), if_neg (e 1 (by omega)), if_neg (e 2 (by omega)), if_neg (e 3 (by omega)), if_neg (e 4 (by omega)), if_neg (e 5 (by omega)), if_neg (e 6 (by omega)), if_neg (e 7 (by omega)), if_neg (e 8 (by omega)), if_neg (e 9 (by omega))]
theorem fa_2y {f : Nat → Int32} (h : f 3 = nI 1) : faF f (nI 2) = nI 2 := by
  show (if f 3 = nI 1 then nI 2 else f 2) = _
  rw [if_pos h]
theorem fa_2n {f : Nat → Int32} (h : f 3 = 0) : faF f (nI 2) = f 2 := by
  show (if f 3 = nI 1 then nI 2 else f 2) = _
  rw [if_neg (fun e => absurd (h.symm.trans e) (by decide))]
theorem fa_4 (f : Nat → Int32) : faF f (nI 4) = f 17 := rfl
set_option maxRecDepth 100000 in
set_option maxHeartbeats 4000000 in
theorem k_fact {X : Cx} {σ : Sp} {μ : Mm} {Q : Int32 → Sp → Mm → Prop} {μ0 : Mm} {b n : Nat} {B : Bs} {i : Nat} {x : Int32} (h : ShBus σ b) (hb : BU μ0 b B μ) (wf : WF B) (hn : nS B = n) (hi : i < n) (q : Q (faF (bS B i) x) σ μ) : CTi X mX6_fact [.ref (st b i), .int x] σ μ Q := by
  refine CT.of (by decide +kernel) (Nat.le_of_ble_eq_true rfl) ?_
  show PW X mX6_fact 0 0 0 [some (.ref (st b i)), some (.int x)] [] σ μ (LI Q)
  have h8 : n ≤ 8 := hn ▸ wf.n8
  have z3 := (wf.s (i := i) (by omega)).2.1
  refine pw_iload_1 dX6_fact_0 ?_
  rcases sw_out (x := x) (n := 9) (by decide) with hsw1 | ⟨ksw, hks, rfl⟩
  · skip
    refine pw_tabOut 140 dX6_fact_1 hsw1 (by decide) ?_
    refine pw_bipush (v := -2) dX6_fact_140 (by decide) ?_
    refine pw_ireturn dX6_fact_142 rfl ?_
    rw [fa_out hsw1] at q
    exact q
  · match ksw, hks with
    | 0, _ =>
      refine pw_tabIn 56 dX6_fact_1 (by decide) (by decide) rfl (by decide) ?_
      refine pw_aload_0 dX6_fact_56 ?_
      refine pw_getI 6 3 dX6_fact_57 fX6_39 rfl (by decide) rfl ((h.S (by omega))).t ?_
      refine pw_top (hb.s3 (by omega)) ?_
      refine pw_ireturn dX6_fact_60 rfl ?_
      exact q
    | 1, _ =>
      refine pw_tabIn 61 dX6_fact_1 (by decide) (by decide) rfl (by decide) ?_
      refine pw_aload_0 dX6_fact_61 ?_
      refine pw_getI 6 4 dX6_fact_62 fX6_42 rfl (by decide) rfl ((h.S (by omega))).t ?_
      refine pw_top (hb.s4 (by omega)) ?_
      refine pw_ireturn dX6_fact_65 rfl ?_
      exact q
    | 2, _ =>
      refine pw_tabIn 66 dX6_fact_1 (by decide) (by decide) rfl (by decide) ?_
      refine pw_aload_0 dX6_fact_66 ?_
      refine pw_getI 6 6 dX6_fact_67 fX6_49 rfl (by decide) rfl ((h.S (by omega))).t ?_
      refine pw_top (hb.s6 (by omega)) ?_
      refine pw_if_eq 77 dX6_fact_70 (by decide) (fun h1 => ?_) (fun h1 => ?_)
      · skip
        refine pw_aload_0 dX6_fact_77 ?_
        refine pw_getI 6 5 dX6_fact_78 fX6_45 rfl (by decide) rfl ((h.S (by omega))).t ?_
        refine pw_top (hb.s5 (by omega)) ?_
        refine pw_if_eq 88 dX6_fact_81 (by decide) (fun h2 => ?_) (fun h2 => ?_)
        · skip
          refine pw_iconst (v := nI 0) dX6_fact_88 (by decide) ?_
          refine pw_ireturn dX6_fact_89 rfl ?_
          have e3 : faF (bS B i) (nI 2) = bS B i 2 := fa_2n h1
          rw [e3, h2] at q
          exact q
        · skip
          refine pw_iconst (v := nI 1) dX6_fact_84 (by decide) ?_
          refine pw_goto 89 dX6_fact_85 (by decide) ?_
          refine pw_ireturn dX6_fact_89 rfl ?_
          have e3 : faF (bS B i) (nI 2) = bS B i 2 := fa_2n h1
          rw [e3, z3.1.resolve_left h2] at q
          exact q
      · skip
        refine pw_iconst (v := nI 2) dX6_fact_73 (by decide) ?_
        refine pw_goto 89 dX6_fact_74 (by decide) ?_
        refine pw_ireturn dX6_fact_89 rfl ?_
        rw [fa_2y (z3.2.resolve_left h1)] at q
        exact q
    | 3, _ =>
      refine pw_tabIn 90 dX6_fact_1 (by decide) (by decide) rfl (by decide) ?_
      refine pw_aload_0 dX6_fact_90 ?_
      refine pw_getr 6 1 dX6_fact_91 fX6_12 rfl (by decide) rfl ((h.S (by omega))).t ((h.S (by omega))).r1 ?_
      refine pw_getI 5 3 dX6_fact_94 fX6_77 rfl (by decide) rfl (((h.S (by omega)))).w ?_
      refine pw_top ((hb.sl (by omega)).trans (wf.w (by omega)).1) ?_
      refine pw_ireturn dX6_fact_97 rfl ?_
      rw [show faF (bS B i) (nI 3) = bS B i 4 from rfl, (wf.w (i := i) (by omega)).1] at q
      exact q
    | 4, _ =>
      refine pw_tabIn 98 dX6_fact_1 (by decide) (by decide) rfl (by decide) ?_
      refine pw_aload_0 dX6_fact_98 ?_
      refine pw_cV0i 6 dX6_fact_99 kX6_80 vX6_isSpeaking iX6_isSpeaking ⟨by decide, by decide⟩ ⟨rfl, rfl⟩ (by decide) rfl (Nat.le_of_ble_eq_true rfl) ((h.S (by omega))).t (k_isSpeaking h hb wf (by rw [hn]; omega) (fun h3 => ?_) (fun h4 => ?_))
      · skip
        refine pw_if_eq 112 dX6_fact_102 (by decide) (fun hh => absurd hh (by decide)) (fun _ => ?_)
        refine pw_aload_0 dX6_fact_105 ?_
        refine pw_getI 6 7 dX6_fact_106 fX6_25 rfl (by decide) rfl ((h.S (by omega))).t ?_
        refine pw_top ((hb.spk0 (i := i) (by omega) (by omega) h3).1) ?_
        refine pw_goto 114 dX6_fact_109 (by decide) ?_
        refine pw_ireturn dX6_fact_114 rfl ?_
        rw [fa_4] at q
        exact q
      · skip
        refine pw_if_eq 112 dX6_fact_102 (by decide) (fun _ => ?_) (fun hh => absurd (by decide) hh)
        refine pw_bipush (v := -6) dX6_fact_112 (by decide) ?_
        refine pw_ireturn dX6_fact_114 rfl ?_
        rw [fa_4, Classical.not_not.mp h4] at q
        exact q
    | 5, _ =>
      refine pw_tabIn 115 dX6_fact_1 (by decide) (by decide) rfl (by decide) ?_
      refine pw_aload_0 dX6_fact_115 ?_
      refine pw_getI 6 10 dX6_fact_116 fX6_58 rfl (by decide) rfl ((h.S (by omega))).t ?_
      refine pw_top (hb.s10 (by omega)) ?_
      refine pw_ireturn dX6_fact_119 rfl ?_
      exact q
    | 6, _ =>
      refine pw_tabIn 120 dX6_fact_1 (by decide) (by decide) rfl (by decide) ?_
      refine pw_aload_0 dX6_fact_120 ?_
      refine pw_getI 6 11 dX6_fact_121 fX6_61 rfl (by decide) rfl ((h.S (by omega))).t ?_
      refine pw_top (hb.s11 (by omega)) ?_
      refine pw_ireturn dX6_fact_124 rfl ?_
      exact q
    | 7, _ =>
      refine pw_tabIn 125 dX6_fact_1 (by decide) (by decide) rfl (by decide) ?_
      refine pw_aload_0 dX6_fact_125 ?_
      refine pw_getI 6 12 dX6_fact_126 fX6_64 rfl (by decide) rfl ((h.S (by omega))).t ?_
      refine pw_top (hb.s12 (by omega)) ?_
      refine pw_ireturn dX6_fact_129 rfl ?_
      exact q
    | 8, _ =>
      refine pw_tabIn 130 dX6_fact_1 (by decide) (by decide) rfl (by decide) ?_
      refine pw_aload_0 dX6_fact_130 ?_
      refine pw_getI 6 13 dX6_fact_131 fX6_67 rfl (by decide) rfl ((h.S (by omega))).t ?_
      refine pw_top (hb.s13 (by omega)) ?_
      refine pw_ireturn dX6_fact_134 rfl ?_
      exact q
    | 9, _ =>
      refine pw_tabIn 135 dX6_fact_1 (by decide) (by decide) rfl (by decide) ?_
      refine pw_aload_0 dX6_fact_135 ?_
      refine pw_getI 6 14 dX6_fact_136 fX6_70 rfl (by decide) rfl ((h.S (by omega))).t ?_
      refine pw_top (hb.s14 (by omega)) ?_
      refine pw_ireturn dX6_fact_139 rfl ?_
      exact q
    | k + 10, hk => exact absurd hk (by omega)
set_option maxRecDepth 100000 in
set_option maxHeartbeats 4000000 in
theorem k_sumOf {X : Cx} {σ : Sp} {μ : Mm} {Q : Int32 → Sp → Mm → Prop} {μ0 : Mm} {b n : Nat} {B : Bs} {x : Int32} (h : ShBus σ b) (hb : BU μ0 b B μ) (wf : WF B) (hn : nS B = n) (q : Q (smI (fun s => faF (bS B s) x) n) σ μ) : CTi X mX0_sumOf [.ref b, .int x] σ μ Q := by
  refine CT.of (by decide +kernel) (Nat.le_of_ble_eq_true rfl) ?_
  show PW X mX0_sumOf 0 0 0 [some (.ref b), some (.int x), none, none] [] σ μ (LI Q)
  have h8 : n ≤ 8 := hn ▸ wf.n8
  refine pw_iconst (v := nI 0) dX0_sumOf_0 (by decide) ?_
  refine pw_istore_2 dX0_sumOf_1 (by decide) ?_
  refine pw_iconst (v := nI 0) dX0_sumOf_2 (by decide) ?_
  refine pw_istore_3 dX0_sumOf_3 (by decide) ?_
  refine pw_up (P := fun i => PW X mX0_sumOf 0 0 4 [some (.ref b), some (.int x), some (.int (smI (fun s => faF (bS B s) x) i)), some (.int (nI i))] [] σ μ (LI Q)) n ?_ ?_ 0 (by omega)
  · skip
    refine pw_iload_3 dX0_sumOf_4 ?_
    refine pw_aload_0 dX0_sumOf_5 ?_
    refine pw_getI 0 5 dX0_sumOf_6 fX0_49 rfl (by decide) rfl h.t ?_
    refine pw_top (hb.n wf hn) ?_
    refine pw_icmp_ge 31 dX0_sumOf_9 (by decide) (fun _ => ?_) (fun hh => absurd (by rw [nI_leI (by omega) (by omega)]; omega) hh)
    refine pw_iload_2 dX0_sumOf_31 ?_
    refine pw_ireturn dX0_sumOf_32 rfl ?_
    exact q
  · intro i hi ih
    refine pw_iload_3 dX0_sumOf_4 ?_
    refine pw_aload_0 dX0_sumOf_5 ?_
    refine pw_getI 0 5 dX0_sumOf_6 fX0_49 rfl (by decide) rfl h.t ?_
    refine pw_top (hb.n wf hn) ?_
    refine pw_icmp_ge 31 dX0_sumOf_9 (by decide) (fun hh => absurd hh (by rw [nI_leI (by omega) (by omega)]; omega)) (fun _ => ?_)
    refine pw_iload_2 dX0_sumOf_12 ?_
    refine pw_aload_0 dX0_sumOf_13 ?_
    refine pw_getr 0 4 dX0_sumOf_14 fX0_34 rfl (by decide) rfl h.t h.r4 ?_
    refine pw_iload_3 dX0_sumOf_17 ?_
    refine pw_aaldSr dX0_sumOf_18 h.a5 (by omega) (by decide) (h.s (by omega)) ?_
    refine pw_iload_1 dX0_sumOf_19 ?_
    refine pw_cV1i 6 dX0_sumOf_20 kX0_222 vX6_fact iX6_fact ⟨by decide, by decide⟩ ⟨rfl, rfl⟩ (by decide) rfl (Nat.le_of_ble_eq_true rfl) ((h.S (by omega))).t (k_fact h hb wf hn (by omega) ?_)
    refine pw_iadd dX0_sumOf_23 ?_
    refine pw_istore_2 dX0_sumOf_24 (by decide) ?_
    refine pw_iincN_3 dX0_sumOf_25 (by decide) ?_
    refine pw_goto 4 dX0_sumOf_28 (by decide) ?_
    exact ih

