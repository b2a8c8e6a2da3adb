/-! The model: the changes -/
set_option maxRecDepth 100000 in
set_option maxHeartbeats 4000000 in
theorem m_whyWire {X : Cx} {σ : Sp} {μ : Mm} {Q : Int32 → Sp → Mm → Prop} {m : Nat} {z : Nat → Int32} {B : Bs} {x : Int32} (h : ShM σ m) (qe : skR B x < 0 → Q (skR B x) σ (wC μ (m + 1) z)) (q0 : ∀ j, x = nI j → j < 6 → Q (nI 0) σ (wC μ (m + 1) z)) : CTi X mX8_whyNotWire [.ref m, .int x] σ ((wC μ (m + 1) z)) Q := by
  refine CT.of (by decide +kernel) (Nat.le_of_ble_eq_true rfl) ?_
  show PW X mX8_whyNotWire 0 0 0 [some (.ref m), some (.int x)] [] σ ((wC μ (m + 1) z)) (LI Q)
  refine pw_iload_1 dX8_whyNotWire_0 ?_
  refine pw_cS1i dX8_whyNotWire_1 kX8_70 vX8_isWire sX8_isWire ⟨by decide, by decide⟩ ⟨rfl, rfl⟩ (Nat.le_of_ble_eq_true rfl) (c_X8_isWire (fun v1 ev1 v16 => ?_) (fun hv1 => ?_))
  · skip
    subst ev1
    refine pw_if_eq 11 dX8_whyNotWire_4 (by decide) (fun hh => absurd hh (by decide)) (fun _ => ?_)
    refine pw_iconst (v := nI 0) dX8_whyNotWire_7 (by decide) ?_
    refine pw_goto 12 dX8_whyNotWire_8 (by decide) ?_
    refine pw_ireturn dX8_whyNotWire_12 rfl ?_
    exact q0 v1 rfl v16
  · skip
    refine pw_if_eq 11 dX8_whyNotWire_4 (by decide) (fun _ => ?_) (fun hh => absurd (by decide) hh)
    refine pw_iconst (v := -1) dX8_whyNotWire_11 (by decide) ?_
    refine pw_ireturn dX8_whyNotWire_12 rfl ?_
    have e1 : skR B x = -1 := cif_n (inN_no hv1)
    rw [e1] at qe
    exact qe (by decide)
set_option maxRecDepth 100000 in
set_option maxHeartbeats 4000000 in
theorem m_whyDoze {X : Cx} {σ : Sp} {μ : Mm} {Q : Int32 → Sp → Mm → Prop} {m : Nat} {z : Nat → Int32} {B : Bs} {x : Int32} (h : ShM σ m) (hz : ZR z B) (wf : WF B) (qe : dzR B x < 0 → Q (dzR B x) σ (wC μ (m + 1) z)) (q0 : ∀ j, x = nI j → j < nS B → Q (nI 0) σ (wC μ (m + 1) z)) : CTi X mX8_whyNotDoze [.ref m, .int x] σ ((wC μ (m + 1) z)) Q := by
  refine CT.of (by decide +kernel) (Nat.le_of_ble_eq_true rfl) ?_
  show PW X mX8_whyNotDoze 0 0 0 [some (.ref m), some (.int x)] [] σ ((wC μ (m + 1) z)) (LI Q)
  have hn := wf.hn
  have h8 := wf.n8
  refine pw_aload_0 dX8_whyNotDoze_0 ?_
  refine pw_iload_1 dX8_whyNotDoze_1 ?_
  refine pw_cV1i 8 dX8_whyNotDoze_2 kX8_66 vX8_isStation iX8_isStation ⟨by decide, by decide⟩ ⟨rfl, rfl⟩ (by decide) rfl (Nat.le_of_ble_eq_true rfl) h.t (c_X8_isStation h hz hn h8 (fun i1 ei1 i1n => ?_) (fun hi1 => ?_))
  · skip
    subst ei1
    refine pw_if_eq 12 dX8_whyNotDoze_5 (by decide) (fun hh => absurd hh (by decide)) (fun _ => ?_)
    refine pw_iconst (v := nI 0) dX8_whyNotDoze_8 (by decide) ?_
    refine pw_goto 13 dX8_whyNotDoze_9 (by decide) ?_
    refine pw_ireturn dX8_whyNotDoze_13 rfl ?_
    exact q0 i1 rfl i1n
  · skip
    refine pw_if_eq 12 dX8_whyNotDoze_5 (by decide) (fun _ => ?_) (fun hh => absurd (by decide) hh)
    refine pw_iconst (v := -1) dX8_whyNotDoze_12 (by decide) ?_
    refine pw_ireturn dX8_whyNotDoze_13 rfl ?_
    have e1 : dzR B x = -1 := cif_n (inN_no hi1)
    rw [e1] at qe
    exact qe (by decide)
set_option maxRecDepth 100000 in
set_option maxHeartbeats 4000000 in
theorem m_whyStation {X : Cx} {σ : Sp} {μ : Mm} {Q : Int32 → Sp → Mm → Prop} {m : Nat} {z : Nat → Int32} {B : Bs} {x : Int32} (h : ShM σ m) (hz : ZR z B) (wf : WF B) (qe : cmR B x < 0 → Q (cmR B x) σ (wC μ (m + 1) z)) (q0 : cmP x → nS B ≠ 8 → Q (nI 0) σ (wC μ (m + 1) z)) : CTi X mX8_whyNotStation [.ref m, .int x] σ ((wC μ (m + 1) z)) Q := by
  refine CT.of (by decide +kernel) (Nat.le_of_ble_eq_true rfl) ?_
  show PW X mX8_whyNotStation 0 0 0 [some (.ref m), some (.int x)] [] σ ((wC μ (m + 1) z)) (LI Q)
  have hn := wf.hn
  have h8 := wf.n8
  refine pw_iload_1 dX8_whyNotStation_0 ?_
  refine pw_iconst (v := nI 1) dX8_whyNotStation_1 (by decide) ?_
  refine pw_bipush (v := nI 63) dX8_whyNotStation_2 (by decide) ?_
  refine pw_cS3i dX8_whyNotStation_4 kX8_36 vX8_in sX8_in ⟨by decide, by decide⟩ ⟨rfl, rfl⟩ (Nat.le_of_ble_eq_true rfl) (c_X8_inN (by decide) (by decide) (fun t1 et1 t1l t1h => ?_) (fun ht1 => ?_))
  · skip
    subst et1
    refine pw_if_ne 15 dX8_whyNotStation_7 (by decide) (fun _ => ?_) (fun hh => absurd hh (by decide))
    refine pw_aload_0 dX8_whyNotStation_15 ?_
    refine pw_getr 8 0 dX8_whyNotStation_16 fX8_7 rfl (by decide) rfl h.t h.r0 ?_
    refine pw_bipush (v := nI 6) dX8_whyNotStation_19 (by decide) ?_
    refine pw_ialdN dX8_whyNotStation_21 h.a1 (by omega) (by decide) ?_
    refine pw_top (show _ = nI (nS B) from by rw [wC_self, hz.g (by decide)]; exact hn) ?_
    refine pw_bipush (v := nI 8) dX8_whyNotStation_22 (by decide) ?_
    refine pw_icmp_ne 32 dX8_whyNotStation_24 (by decide) (fun h2 => ?_) (fun h2 => ?_)
    · skip
      refine pw_iconst (v := nI 0) dX8_whyNotStation_32 (by decide) ?_
      refine pw_ireturn dX8_whyNotStation_33 rfl ?_
      have hy : cmP (nI t1) := ⟨t1, t1l, t1h, rfl⟩
      exact q0 hy (fun e => h2 (by rw [e]))
    · skip
      refine pw_bipush (v := -4) dX8_whyNotStation_27 (by decide) ?_
      refine pw_goto 33 dX8_whyNotStation_29 (by decide) ?_
      refine pw_ireturn dX8_whyNotStation_33 rfl ?_
      have hy : cmP (nI t1) := ⟨t1, t1l, t1h, rfl⟩
      have e1 : cmR B (nI t1) = -4 := (cif_y hy).trans (if_pos ((nI_eq (by omega) (by omega)).mp h2))
      rw [e1] at qe
      exact qe (by decide)
  · skip
    refine pw_if_ne 15 dX8_whyNotStation_7 (by decide) (fun hh => absurd hh (by decide)) (fun _ => ?_)
    refine pw_bipush (v := -2) dX8_whyNotStation_10 (by decide) ?_
    refine pw_goto 33 dX8_whyNotStation_12 (by decide) ?_
    refine pw_ireturn dX8_whyNotStation_33 rfl ?_
    have e1 : cmR B x = -2 := cif_n (fun ⟨j, h1, h2, e⟩ => ht1 j h1 h2 e)
    rw [e1] at qe
    exact qe (by decide)
set_option maxRecDepth 100000 in
set_option maxHeartbeats 4000000 in
theorem m_whyPass {X : Cx} {σ : Sp} {μ : Mm} {Q : Int32 → Sp → Mm → Prop} {m : Nat} {z : Nat → Int32} {B : Bs} {x : Int32} (h : ShM σ m) (hz : ZR z B) (wf : WF B) (qe : psR B x < 0 → Q (psR B x) σ (wC μ (m + 1) z)) (q0 : ∀ c, x = nI c → 1 ≤ c → c ≤ 999 → ¬ nI 99999 < bG B 5 + nI c → Q (nI 0) σ (wC μ (m + 1) z)) : CTi X mX8_whyNotPass [.ref m, .int x] σ ((wC μ (m + 1) z)) Q := by
  refine CT.of (by decide +kernel) (Nat.le_of_ble_eq_true rfl) ?_
  show PW X mX8_whyNotPass 0 0 0 [some (.ref m), some (.int x)] [] σ ((wC μ (m + 1) z)) (LI Q)
  have hn := wf.hn
  have h8 := wf.n8
  refine pw_iload_1 dX8_whyNotPass_0 ?_
  refine pw_iconst (v := nI 1) dX8_whyNotPass_1 (by decide) ?_
  refine pw_sipush (v := nI 999) dX8_whyNotPass_2 (by decide) ?_
  refine pw_cS3i dX8_whyNotPass_5 kX8_36 vX8_in sX8_in ⟨by decide, by decide⟩ ⟨rfl, rfl⟩ (Nat.le_of_ble_eq_true rfl) (c_X8_inN (by decide) (by decide) (fun t1 et1 t1l t1h => ?_) (fun ht1 => ?_))
  · skip
    subst et1
    refine pw_if_ne 16 dX8_whyNotPass_8 (by decide) (fun _ => ?_) (fun hh => absurd hh (by decide))
    refine pw_aload_0 dX8_whyNotPass_16 ?_
    refine pw_getr 8 0 dX8_whyNotPass_17 fX8_7 rfl (by decide) rfl h.t h.r0 ?_
    refine pw_iconst (v := nI 5) dX8_whyNotPass_20 (by decide) ?_
    refine pw_ialdN dX8_whyNotPass_21 h.a1 (by omega) (by decide) ?_
    refine pw_top (show _ = bG B 5 from by rw [wC_self, hz.g (by decide)]) ?_
    refine pw_iload_1 dX8_whyNotPass_22 ?_
    refine pw_iadd dX8_whyNotPass_23 ?_
    refine pw_ldc dX8_whyNotPass_24 qX8_151 ?_
    refine pw_top (show _ = nI 99999 by rfl) ?_
    refine pw_icmp_le 34 dX8_whyNotPass_26 (by decide) (fun h2 => ?_) (fun h2 => ?_)
    · skip
      refine pw_iconst (v := nI 0) dX8_whyNotPass_34 (by decide) ?_
      refine pw_ireturn dX8_whyNotPass_35 rfl ?_
      exact q0 t1 rfl t1l t1h (Int32.not_lt.mpr h2)
    · skip
      refine pw_bipush (v := -5) dX8_whyNotPass_29 (by decide) ?_
      refine pw_goto 35 dX8_whyNotPass_31 (by decide) ?_
      refine pw_ireturn dX8_whyNotPass_35 rfl ?_
      have hy : psP (nI t1) := ⟨t1, t1l, t1h, rfl⟩
      have e1 : psR B (nI t1) = -5 := (cif_y hy).trans (if_pos (Int32.not_le.mp h2))
      rw [e1] at qe
      exact qe (by decide)
  · skip
    refine pw_if_ne 16 dX8_whyNotPass_8 (by decide) (fun hh => absurd hh (by decide)) (fun _ => ?_)
    refine pw_bipush (v := -2) dX8_whyNotPass_11 (by decide) ?_
    refine pw_goto 35 dX8_whyNotPass_13 (by decide) ?_
    refine pw_ireturn dX8_whyNotPass_35 rfl ?_
    have e1 : psR B x = -2 := cif_n (fun ⟨j, h1, h2, e⟩ => ht1 j h1 h2 e)
    rw [e1] at qe
    exact qe (by decide)
set_option maxRecDepth 100000 in
set_option maxHeartbeats 4000000 in
theorem m_whyWord {X : Cx} {σ : Sp} {μ : Mm} {Q : Int32 → Sp → Mm → Prop} {m : Nat} {z : Nat → Int32} {B : Bs} {x y u : Int32} (h : ShM σ m) (hz : ZR z B) (wf : WF B) (qe : wdR B x y u < 0 → Q (wdR B x y u) σ (wC μ (m + 1) z)) (q0 : ∀ j v t, x = nI j → j < nS B → y = nI v → v < 6 → u = nI t → t < 256 → atB B j (nI v) → nwF (bS B j) ≠ 4 → Q (nI 0) σ (wC μ (m + 1) z)) : CTi X mX8_whyNotWord [.ref m, .int x, .int y, .int u] σ ((wC μ (m + 1) z)) Q := by
  refine CT.of (by decide +kernel) (Nat.le_of_ble_eq_true rfl) ?_
  show PW X mX8_whyNotWord 0 0 0 [some (.ref m), some (.int x), some (.int y), some (.int u)] [] σ ((wC μ (m + 1) z)) (LI Q)
  have hn := wf.hn
  have h8 := wf.n8
  refine pw_aload_0 dX8_whyNotWord_0 ?_
  refine pw_iload_1 dX8_whyNotWord_1 ?_
  refine pw_cV1i 8 dX8_whyNotWord_2 kX8_66 vX8_isStation iX8_isStation ⟨by decide, by decide⟩ ⟨rfl, rfl⟩ (by decide) rfl (Nat.le_of_ble_eq_true rfl) h.t (c_X8_isStation h hz hn h8 (fun i1 ei1 i1n => ?_) (fun hi1 => ?_))
  · skip
    subst ei1
    refine pw_if_eq 15 dX8_whyNotWord_5 (by decide) (fun hh => absurd hh (by decide)) (fun _ => ?_)
    refine pw_iload_2 dX8_whyNotWord_8 ?_
    refine pw_cS1i dX8_whyNotWord_9 kX8_70 vX8_isWire sX8_isWire ⟨by decide, by decide⟩ ⟨rfl, rfl⟩ (Nat.le_of_ble_eq_true rfl) (c_X8_isWire (fun v2 ev2 v26 => ?_) (fun hv2 => ?_))
    · skip
      subst ev2
      refine pw_if_ne 17 dX8_whyNotWord_12 (by decide) (fun _ => ?_) (fun hh => absurd hh (by decide))
      refine pw_iload_3 dX8_whyNotWord_17 ?_
      refine pw_iconst (v := nI 0) dX8_whyNotWord_18 (by decide) ?_
      refine pw_sipush (v := nI 255) dX8_whyNotWord_19 (by decide) ?_
      refine pw_cS3i dX8_whyNotWord_22 kX8_36 vX8_in sX8_in ⟨by decide, by decide⟩ ⟨rfl, rfl⟩ (Nat.le_of_ble_eq_true rfl) (c_X8_inN (by decide) (by decide) (fun t3 et3 t3l t3h => ?_) (fun ht3 => ?_))
      · skip
        subst et3
        refine pw_if_ne 33 dX8_whyNotWord_25 (by decide) (fun _ => ?_) (fun hh => absurd hh (by decide))
        refine pw_aload_0 dX8_whyNotWord_33 ?_
        refine pw_iload_1 dX8_whyNotWord_34 ?_
        refine pw_iload_2 dX8_whyNotWord_35 ?_
        refine pw_cV2i 8 dX8_whyNotWord_36 kX8_73 vX8_isAt iX8_isAt ⟨by decide, by decide⟩ ⟨rfl, rfl⟩ (by decide) rfl (Nat.le_of_ble_eq_true rfl) h.t (c_X8_isAt h hz (by omega) (fun h4 => ?_) (fun h5 => ?_))
        · skip
          refine pw_if_ne 47 dX8_whyNotWord_39 (by decide) (fun _ => ?_) (fun hh => absurd hh (by decide))
          refine pw_aload_0 dX8_whyNotWord_47 ?_
          refine pw_iload_1 dX8_whyNotWord_48 ?_
          refine pw_iconst (v := nI 4) dX8_whyNotWord_49 (by decide) ?_
          refine pw_cV2i 8 dX8_whyNotWord_50 kX8_40 vX8_at iX8_at ⟨by decide, by decide⟩ ⟨rfl, rfl⟩ (by decide) rfl (Nat.le_of_ble_eq_true rfl) h.t (c_X8_at h hz (by omega) (by decide) ?_)
          refine pw_top (wf.w (by omega)).1 ?_
          refine pw_iconst (v := nI 4) dX8_whyNotWord_53 (by decide) ?_
          refine pw_icmp_ne 62 dX8_whyNotWord_54 (by decide) (fun h6 => ?_) (fun h6 => ?_)
          · skip
            refine pw_iconst (v := nI 0) dX8_whyNotWord_62 (by decide) ?_
            refine pw_ireturn dX8_whyNotWord_63 rfl ?_
            have hy : inN (nS B) (nI i1) ∧ inN 6 (nI v2) := ⟨inN_ok (by omega), inN_ok (by omega)⟩
            have ei : ixN (nI i1) = i1 := ixN_nI (by omega)
            have hu : inN 256 (nI t3) := inN_ok (by omega)
            have hat : atB B (ixN (nI i1)) (nI v2) := by rw [ei]; exact h4
            have hw9 := (wf.w (i := i1) (by omega)).2
            exact q0 i1 v2 t3 rfl (by omega) rfl (by omega) rfl (by omega) h4 (fun e => h6 (by rw [e]))
          · skip
            refine pw_bipush (v := -4) dX8_whyNotWord_57 (by decide) ?_
            refine pw_goto 63 dX8_whyNotWord_59 (by decide) ?_
            refine pw_ireturn dX8_whyNotWord_63 rfl ?_
            have hy : inN (nS B) (nI i1) ∧ inN 6 (nI v2) := ⟨inN_ok (by omega), inN_ok (by omega)⟩
            have ei : ixN (nI i1) = i1 := ixN_nI (by omega)
            have hu : inN 256 (nI t3) := inN_ok (by omega)
            have hat : atB B (ixN (nI i1)) (nI v2) := by rw [ei]; exact h4
            have hw9 := (wf.w (i := i1) (by omega)).2
            have e1 : wdR B (nI i1) (nI v2) (nI t3) = -4 := (cif_y hy).trans ((cif_y hu).trans ((cif_y hat).trans (if_pos (by rw [ei]; exact (nI_eq (by omega) (by omega)).mp h6))))
            rw [e1] at qe
            exact qe (by decide)
        · skip
          refine pw_if_ne 47 dX8_whyNotWord_39 (by decide) (fun hh => absurd hh (by decide)) (fun _ => ?_)
          refine pw_bipush (v := -5) dX8_whyNotWord_42 (by decide) ?_
          refine pw_goto 63 dX8_whyNotWord_44 (by decide) ?_
          refine pw_ireturn dX8_whyNotWord_63 rfl ?_
          have hy : inN (nS B) (nI i1) ∧ inN 6 (nI v2) := ⟨inN_ok (by omega), inN_ok (by omega)⟩
          have ei : ixN (nI i1) = i1 := ixN_nI (by omega)
          have hu : inN 256 (nI t3) := inN_ok (by omega)
          have e1 : wdR B (nI i1) (nI v2) (nI t3) = -5 := (cif_y hy).trans ((cif_y hu).trans (cif_n (by rw [ei]; exact h5)))
          rw [e1] at qe
          exact qe (by decide)
      · skip
        refine pw_if_ne 33 dX8_whyNotWord_25 (by decide) (fun hh => absurd hh (by decide)) (fun _ => ?_)
        refine pw_bipush (v := -2) dX8_whyNotWord_28 (by decide) ?_
        refine pw_goto 63 dX8_whyNotWord_30 (by decide) ?_
        refine pw_ireturn dX8_whyNotWord_63 rfl ?_
        have hy : inN (nS B) (nI i1) ∧ inN 6 (nI v2) := ⟨inN_ok (by omega), inN_ok (by omega)⟩
        have ei : ixN (nI i1) = i1 := ixN_nI (by omega)
        have e1 : wdR B (nI i1) (nI v2) u = -2 := (cif_y hy).trans (cif_n (fun ⟨t, h1, e⟩ => ht3 t (by omega) (by omega) e))
        rw [e1] at qe
        exact qe (by decide)
    · skip
      refine pw_if_ne 17 dX8_whyNotWord_12 (by decide) (fun hh => absurd hh (by decide)) (fun _ => ?_)
      refine pw_iconst (v := -1) dX8_whyNotWord_15 (by decide) ?_
      refine pw_ireturn dX8_whyNotWord_16 rfl ?_
      have e1 : wdR B (nI i1) y u = -1 := cif_n (fun hh => inN_no hv2 hh.2)
      rw [e1] at qe
      exact qe (by decide)
  · skip
    refine pw_if_eq 15 dX8_whyNotWord_5 (by decide) (fun _ => ?_) (fun hh => absurd (by decide) hh)
    refine pw_iconst (v := -1) dX8_whyNotWord_15 (by decide) ?_
    refine pw_ireturn dX8_whyNotWord_16 rfl ?_
    have e1 : wdR B x y u = -1 := cif_n (fun hh => inN_no hi1 hh.1)
    rw [e1] at qe
    exact qe (by decide)
theorem upd_id {f : Nat → Int32} {k : Nat} {x : Int32} (h : f k = x) : upd f k x = f := by
  funext j
  by_cases e : j = k
  · subst e
    rw [upd_s, h]
  · exact upd_n _ _ e
theorem ZR.cgS {z : Nat → Int32} {B : Bs} {i : Nat} {f g : Nat → Int32} (h : ZR z (setS B i f)) (e : ∀ k, k < 40 → f k = g k) : ZR z (setS B i g) := by
  refine ⟨h.1, h.2.1, fun j hj k hk => ?_⟩
  by_cases ej : j = i
  · subst ej
    rw [bS_setS_s, ← e k hk, h.s hj hk, bS_setS_s]
  · rw [bS_setS_n _ _ ej, h.s hj hk, bS_setS_n _ _ ej]
set_option maxRecDepth 100000 in
set_option maxHeartbeats 4000000 in
theorem m_comes {X : Cx} {σ : Sp} {μ : Mm} {Q : Int32 → Sp → Mm → Prop} {m : Nat} {z : Nat → Int32} {B : Bs} {x : Int32} (h : ShM σ m) (hz : ZR z B) (wf : WF B) (h9 : nS B < 8) (q : ∀ z', ZR z' (cmB B x) → Q (nI (nS B)) σ (wC μ (m + 1) z')) : CTi X mX8_comes [.ref m, .int x] σ ((wC μ (m + 1) z)) Q := by
  refine CT.of (by decide +kernel) (Nat.le_of_ble_eq_true rfl) ?_
  show PW X mX8_comes 0 0 0 [some (.ref m), some (.int x), none, none] [] σ ((wC μ (m + 1) z)) (LI Q)
  have hn := wf.hn
  have h8 := wf.n8
  refine pw_aload_0 dX8_comes_0 ?_
  refine pw_getr 8 0 dX8_comes_1 fX8_7 rfl (by decide) rfl h.t h.r0 ?_
  refine pw_bipush (v := nI 6) dX8_comes_4 (by decide) ?_
  refine pw_ialdN dX8_comes_6 h.a1 (by omega) (by decide) ?_
  refine pw_top (show _ = nI (nS B) from by rw [wC_self, hz.g (by decide)]; exact hn) ?_
  refine pw_istore_2 dX8_comes_7 (by decide) ?_
  refine pw_iconst (v := nI 0) dX8_comes_8 (by decide) ?_
  refine pw_istore_3 dX8_comes_9 (by decide) ?_
  refine pw_up (P := fun k => ∀ z, ZR z B → PW X mX8_comes 0 0 10 [some (.ref m), some (.int x), some (.int (nI (nS B))), some (.int (nI k))] [] σ (wC μ (m + 1) z) (LI Q)) 40 ?_ ?_ 0 (by omega) z hz
  · intro z1 hz1
    refine pw_iload_3 dX8_comes_10 ?_
    refine pw_bipush (v := nI 40) dX8_comes_11 (by decide) ?_
    refine pw_icmp_ge 29 dX8_comes_13 (by decide) (fun _ => ?_) (fun hh => absurd (by rw [nI_leI (by omega) (by omega)]; omega) hh)
    refine pw_aload_0 dX8_comes_29 ?_
    refine pw_iload_2 dX8_comes_30 ?_
    refine pw_iconst (v := nI 0) dX8_comes_31 (by decide) ?_
    refine pw_iload_1 dX8_comes_32 ?_
    refine pw_cV3v 8 dX8_comes_33 kX8_55 vX8_lay iX8_lay ⟨by decide, by decide⟩ ⟨rfl, rfl⟩ (by decide) rfl (Nat.le_of_ble_eq_true rfl) h.t (c_X8_lay h hz1 (by omega) (by decide) (fun z1 hz1 => ?_))
    refine pw_aload_0 dX8_comes_36 ?_
    refine pw_iload_2 dX8_comes_37 ?_
    refine pw_iconst (v := nI 1) dX8_comes_38 (by decide) ?_
    refine pw_aload_0 dX8_comes_39 ?_
    refine pw_getr 8 0 dX8_comes_40 fX8_7 rfl (by decide) rfl h.t h.r0 ?_
    refine pw_iconst (v := nI 1) dX8_comes_43 (by decide) ?_
    refine pw_ialdN dX8_comes_44 h.a1 (by omega) (by decide) ?_
    refine pw_top (show _ = bG (setS B (nS B) (upd (bS B (nS B)) 0 x)) 1 from by rw [wC_self, hz1.g (by decide)]) ?_
    refine pw_cV3v 8 dX8_comes_45 kX8_55 vX8_lay iX8_lay ⟨by decide, by decide⟩ ⟨rfl, rfl⟩ (by decide) rfl (Nat.le_of_ble_eq_true rfl) h.t (c_X8_lay h hz1 (by omega) (by decide) (fun z2 hz2 => ?_))
    refine pw_aload_0 dX8_comes_48 ?_
    refine pw_iload_2 dX8_comes_49 ?_
    refine pw_bipush (v := nI 17) dX8_comes_50 (by decide) ?_
    refine pw_bipush (v := -6) dX8_comes_52 (by decide) ?_
    refine pw_cV3v 8 dX8_comes_54 kX8_55 vX8_lay iX8_lay ⟨by decide, by decide⟩ ⟨rfl, rfl⟩ (by decide) rfl (Nat.le_of_ble_eq_true rfl) h.t (c_X8_lay h hz2 (by omega) (by decide) (fun z3 hz3 => ?_))
    refine pw_aload_0 dX8_comes_57 ?_
    refine pw_getr 8 0 dX8_comes_58 fX8_7 rfl (by decide) rfl h.t h.r0 ?_
    refine pw_bipush (v := nI 6) dX8_comes_61 (by decide) ?_
    refine pw_dup2_11 dX8_comes_63 ?_
    refine pw_ialdN dX8_comes_64 h.a1 (by omega) (by decide) ?_
    refine pw_top (show _ = nI (nS B) from by rw [wC_self, hz3.g (by decide)]; exact hn) ?_
    refine pw_iconst (v := nI 1) dX8_comes_65 (by decide) ?_
    refine pw_iaddN dX8_comes_66 ?_
    refine pw_iastN dX8_comes_67 h.a1 (by omega) (by decide) ?_
    refine pw_iload_2 dX8_comes_68 ?_
    refine pw_ireturn dX8_comes_69 rfl ?_
    refine Eq.mp (congrArg (fun m' => Q (nI (nS B)) σ m') (wr_wC_s _ _ _ _ _).symm) (q _ ?_)
    have hx : ZR z3 (setS B (nS B) (cmF x (bG B 1))) := by
      have h5 := hz3
      simp only [setS_setS, bS_setS_s] at h5
      refine h5.cgS fun k hk => ?_
      unfold cmF
      by_cases e17 : k = 17
      · subst e17
        rw [upd_s, upd_s]
      · rw [upd_n _ _ e17, upd_n _ _ e17]
        by_cases e1 : k = 1
        · subst e1
          rw [upd_s, upd_s]
          rfl
        · rw [upd_n _ _ e1, upd_n _ _ e1]
          by_cases e0 : k = 0
          · subst e0
            rw [upd_s, upd_s]
          · rw [upd_n _ _ e0, upd_n _ _ e0]
            exact wf.dead (Nat.le_refl _) h9 hk
    
    exact hx.updG (k := 6) (by omega) _
  · intro k hk ih z1 hz1
    refine pw_iload_3 dX8_comes_10 ?_
    refine pw_bipush (v := nI 40) dX8_comes_11 (by decide) ?_
    refine pw_icmp_ge 29 dX8_comes_13 (by decide) (fun hh => absurd hh (by rw [nI_leI (by omega) (by omega)]; omega)) (fun _ => ?_)
    refine pw_aload_0 dX8_comes_16 ?_
    refine pw_iload_2 dX8_comes_17 ?_
    refine pw_iload_3 dX8_comes_18 ?_
    refine pw_iconst (v := nI 0) dX8_comes_19 (by decide) ?_
    refine pw_cV3v 8 dX8_comes_20 kX8_55 vX8_lay iX8_lay ⟨by decide, by decide⟩ ⟨rfl, rfl⟩ (by decide) rfl (Nat.le_of_ble_eq_true rfl) h.t (c_X8_lay h hz1 (by omega) (by omega) (fun z4 hz4 => ?_))
    refine pw_iincN_3 dX8_comes_23 (by decide) ?_
    refine pw_goto 10 dX8_comes_26 (by decide) ?_
    exact ih _ (Eq.mp (congrArg (fun b => ZR z4 b) (by rw [upd_id (wf.dead (Nat.le_refl _) h9 hk), setS_id])) hz4)
set_option maxRecDepth 100000 in
set_option maxHeartbeats 4000000 in
theorem m_gets {X : Cx} {σ : Sp} {μ : Mm} {Q : Int32 → Sp → Mm → Prop} {m : Nat} {z : Nat → Int32} {B : Bs} {i : Nat} {y u : Int32} (h : ShM σ m) (hz : ZR z B) (wf : WF B) (hi : i < nS B) (h4 : nwF (bS B i) ≠ 4) (q : ∀ z', ZR z' (setS B i (gtF (bS B i) (nwF (bS B i)) u y)) → Q (nI (nwF (bS B i) + 1)) σ (wC μ (m + 1) z')) : CTi X mX8_gets [.ref m, .int (nI i), .int y, .int u] σ ((wC μ (m + 1) z)) Q := by
  refine CT.of (by decide +kernel) (Nat.le_of_ble_eq_true rfl) ?_
  show PW X mX8_gets 0 0 0 [some (.ref m), some (.int (nI i)), some (.int y), some (.int u), none] [] σ ((wC μ (m + 1) z)) (LI Q)
  have hn := wf.hn
  have h8 := wf.n8
  have hw9 := (wf.w (i := i) (by omega)).2
  refine pw_iconst (v := nI 5) dX8_gets_0 (by decide) ?_
  refine pw_iconst (v := nI 3) dX8_gets_1 (by decide) ?_
  refine pw_aload_0 dX8_gets_2 ?_
  refine pw_iload_1 dX8_gets_3 ?_
  refine pw_iconst (v := nI 4) dX8_gets_4 (by decide) ?_
  refine pw_cV2i 8 dX8_gets_5 kX8_40 vX8_at iX8_at ⟨by decide, by decide⟩ ⟨rfl, rfl⟩ (by decide) rfl (Nat.le_of_ble_eq_true rfl) h.t (c_X8_at h hz (by omega) (by decide) ?_)
  refine pw_top (wf.w (by omega)).1 ?_
  refine pw_imulN dX8_gets_8 ?_
  refine pw_iaddN dX8_gets_9 ?_
  refine pw_istore_4 dX8_gets_10 (by decide) ?_
  refine pw_aload_0 dX8_gets_12 ?_
  refine pw_iload_1 dX8_gets_13 ?_
  refine pw_iload_4 dX8_gets_14 ?_
  refine pw_iload_3 dX8_gets_16 ?_
  refine pw_cV3v 8 dX8_gets_17 kX8_55 vX8_lay iX8_lay ⟨by decide, by decide⟩ ⟨rfl, rfl⟩ (by decide) rfl (Nat.le_of_ble_eq_true rfl) h.t (c_X8_lay h hz (by omega) (by omega) (fun z1 hz1 => ?_))
  refine pw_aload_0 dX8_gets_20 ?_
  refine pw_iload_1 dX8_gets_21 ?_
  refine pw_iload_4 dX8_gets_22 ?_
  refine pw_iconst (v := nI 1) dX8_gets_24 (by decide) ?_
  refine pw_iaddN dX8_gets_25 ?_
  refine pw_iload_2 dX8_gets_26 ?_
  refine pw_cV3v 8 dX8_gets_27 kX8_55 vX8_lay iX8_lay ⟨by decide, by decide⟩ ⟨rfl, rfl⟩ (by decide) rfl (Nat.le_of_ble_eq_true rfl) h.t (c_X8_lay h hz1 (by omega) (by omega) (fun z2 hz2 => ?_))
  refine pw_aload_0 dX8_gets_30 ?_
  refine pw_iload_1 dX8_gets_31 ?_
  refine pw_iload_4 dX8_gets_32 ?_
  refine pw_iconst (v := nI 2) dX8_gets_34 (by decide) ?_
  refine pw_iaddN dX8_gets_35 ?_
  refine pw_iconst (v := nI 0) dX8_gets_36 (by decide) ?_
  refine pw_cV3v 8 dX8_gets_37 kX8_55 vX8_lay iX8_lay ⟨by decide, by decide⟩ ⟨rfl, rfl⟩ (by decide) rfl (Nat.le_of_ble_eq_true rfl) h.t (c_X8_lay h hz2 (by omega) (by omega) (fun z3 hz3 => ?_))
  refine pw_aload_0 dX8_gets_40 ?_
  refine pw_iload_1 dX8_gets_41 ?_
  refine pw_iconst (v := nI 4) dX8_gets_42 (by decide) ?_
  refine pw_iconst (v := nI 1) dX8_gets_43 (by decide) ?_
  refine pw_cV3v 8 dX8_gets_44 kX8_76 vX8_add iX8_add ⟨by decide, by decide⟩ ⟨rfl, rfl⟩ (by decide) rfl (Nat.le_of_ble_eq_true rfl) h.t (c_X8_add h hz3 (by omega) (by decide) (fun z4 hz4 => ?_))
  refine pw_aload_0 dX8_gets_47 ?_
  refine pw_iload_1 dX8_gets_48 ?_
  refine pw_iconst (v := nI 4) dX8_gets_49 (by decide) ?_
  refine pw_cV2i 8 dX8_gets_50 kX8_40 vX8_at iX8_at ⟨by decide, by decide⟩ ⟨rfl, rfl⟩ (by decide) rfl (Nat.le_of_ble_eq_true rfl) h.t (c_X8_at h hz4 (by omega) (by decide) ?_)
  refine pw_top (show _ = nI (nwF (bS B i) + 1) by simp only [setS_setS, bS_setS_s]; simp (disch := omega) only [upd_s, upd_n]; rw [(wf.w (i := i) (by omega)).1, nI_add]) ?_
  refine pw_ireturn dX8_gets_53 rfl ?_
  refine q _ (Eq.mp (congrArg (fun b => ZR z4 b) ?_) hz4)
  simp only [setS_setS, bS_setS_s]
  simp (disch := omega) only [upd_n]
  unfold gtF
  rw [(wf.w (i := i) (by omega)).1, nI_add, show 5 + 3 * nwF (bS B i) + 1 = 6 + 3 * nwF (bS B i) by omega, show 5 + 3 * nwF (bS B i) + 2 = 7 + 3 * nwF (bS B i) by omega]
set_option maxRecDepth 100000 in
set_option maxHeartbeats 4000000 in
theorem m_turnFault {X : Cx} {σ : Sp} {μ : Mm} {Q : Int32 → Sp → Mm → Prop} {m : Nat} {z : Nat → Int32} {B : Bs} {v : Nat} (h : ShM σ m) (hz : ZR z B) (wf : WF B) (hv : v < 6) (q : ∀ z', ZR z' (setW B v 1 (nI 1 - bW B v 1)) → Q (nI 1 - bW B v 1) σ (wC μ (m + 1) z')) : CTi X mX8_turnFault [.ref m, .int (nI v)] σ ((wC μ (m + 1) z)) Q := by
  refine CT.of (by decide +kernel) (Nat.le_of_ble_eq_true rfl) ?_
  show PW X mX8_turnFault 0 0 0 [some (.ref m), some (.int (nI v))] [] σ ((wC μ (m + 1) z)) (LI Q)
  have hn := wf.hn
  have h8 := wf.n8
  refine pw_aload_0 dX8_turnFault_0 ?_
  refine pw_getr 8 0 dX8_turnFault_1 fX8_7 rfl (by decide) rfl h.t h.r0 ?_
  refine pw_bipush (v := nI 7) dX8_turnFault_4 (by decide) ?_
  refine pw_iconst (v := nI 4) dX8_turnFault_6 (by decide) ?_
  refine pw_iload_1 dX8_turnFault_7 ?_
  refine pw_imulN dX8_turnFault_8 ?_
  refine pw_iaddN dX8_turnFault_9 ?_
  refine pw_iconst (v := nI 1) dX8_turnFault_10 (by decide) ?_
  refine pw_iaddN dX8_turnFault_11 ?_
  refine pw_iconst (v := nI 1) dX8_turnFault_12 (by decide) ?_
  refine pw_aload_0 dX8_turnFault_13 ?_
  refine pw_iload_1 dX8_turnFault_14 ?_
  refine pw_iconst (v := nI 1) dX8_turnFault_15 (by decide) ?_
  refine pw_cV2i 8 dX8_turnFault_16 kX8_100 vX8_wire iX8_wire ⟨by decide, by decide⟩ ⟨rfl, rfl⟩ (by decide) rfl (Nat.le_of_ble_eq_true rfl) h.t (c_X8_wire h hz (by omega) (by decide) ?_)
  refine pw_isub dX8_turnFault_19 ?_
  refine pw_iastN dX8_turnFault_20 h.a1 (by omega) (by decide) ?_
  have hz9 : ZR (upd z (7 + 4 * v + 1) (nI 1 - bW B v 1)) (setW B v 1 (nI 1 - bW B v 1)) := hz.updW hv (by omega) _
  refine pw_mem (wr_wC_s _ _ _ _ _) ?_
  generalize upd z (7 + 4 * v + 1) (nI 1 - bW B v 1) = z9 at hz9
  refine pw_aload_0 dX8_turnFault_21 ?_
  refine pw_iload_1 dX8_turnFault_22 ?_
  refine pw_iconst (v := nI 1) dX8_turnFault_23 (by decide) ?_
  refine pw_cV2i 8 dX8_turnFault_24 kX8_100 vX8_wire iX8_wire ⟨by decide, by decide⟩ ⟨rfl, rfl⟩ (by decide) rfl (Nat.le_of_ble_eq_true rfl) h.t (c_X8_wire h hz9 (by omega) (by decide) ?_)
  refine pw_ireturn dX8_turnFault_27 rfl ?_
  refine Eq.mp (congrArg (fun y => Q y σ _) ?_) (q _ hz9)
  rw [bW_setW_s, upd_s]
theorem z_f0 {x : Int32} (h : x = nI 0 ∨ x = nI 1) (e : nI 1 - x = nI 1) : x = nI 0 := h.resolve_right fun e1 => by rw [e1] at e; exact absurd e (by decide)
theorem z_f1 {x : Int32} (e : ¬ nI 1 - x = nI 1) : ¬ x = nI 0 := fun e1 => e (by rw [e1]; decide)
set_option maxRecDepth 100000 in
set_option maxHeartbeats 4000000 in
theorem m_turnSleep {X : Cx} {σ : Sp} {μ : Mm} {Q : Int32 → Sp → Mm → Prop} {m : Nat} {z : Nat → Int32} {B : Bs} {i : Nat} (h : ShM σ m) (hz : ZR z B) (wf : WF B) (hi : i < nS B) (q : ∀ z', ZR z' (dzB B i) → Q (nI 1 - bS B i 3) σ (wC μ (m + 1) z')) : CTi X mX8_turnSleep [.ref m, .int (nI i)] σ ((wC μ (m + 1) z)) Q := by
  refine CT.of (by decide +kernel) (Nat.le_of_ble_eq_true rfl) ?_
  show PW X mX8_turnSleep 0 0 0 [some (.ref m), some (.int (nI i))] [] σ ((wC μ (m + 1) z)) (LI Q)
  have hn := wf.hn
  have h8 := wf.n8
  refine pw_aload_0 dX8_turnSleep_0 ?_
  refine pw_iload_1 dX8_turnSleep_1 ?_
  refine pw_iconst (v := nI 3) dX8_turnSleep_2 (by decide) ?_
  refine pw_iconst (v := nI 1) dX8_turnSleep_3 (by decide) ?_
  refine pw_aload_0 dX8_turnSleep_4 ?_
  refine pw_iload_1 dX8_turnSleep_5 ?_
  refine pw_iconst (v := nI 3) dX8_turnSleep_6 (by decide) ?_
  refine pw_cV2i 8 dX8_turnSleep_7 kX8_40 vX8_at iX8_at ⟨by decide, by decide⟩ ⟨rfl, rfl⟩ (by decide) rfl (Nat.le_of_ble_eq_true rfl) h.t (c_X8_at h hz (by omega) (by decide) ?_)
  refine pw_isub dX8_turnSleep_10 ?_
  refine pw_cV3v 8 dX8_turnSleep_11 kX8_55 vX8_lay iX8_lay ⟨by decide, by decide⟩ ⟨rfl, rfl⟩ (by decide) rfl (Nat.le_of_ble_eq_true rfl) h.t (c_X8_lay h hz (by omega) (by decide) (fun z1 hz1 => ?_))
  have hz9 : ZR z1 (dz1 B i) := hz1
  have wf1 : WF (dz1 B i) := wf_dz1 wf hi
  have z3 := (wf.s hi).2.1.2
  refine pw_aload_0 dX8_turnSleep_14 ?_
  refine pw_iload_1 dX8_turnSleep_15 ?_
  refine pw_iconst (v := nI 3) dX8_turnSleep_16 (by decide) ?_
  refine pw_cV2i 8 dX8_turnSleep_17 kX8_40 vX8_at iX8_at ⟨by decide, by decide⟩ ⟨rfl, rfl⟩ (by decide) rfl (Nat.le_of_ble_eq_true rfl) h.t (c_X8_at h hz9 (by omega) (by decide) ?_)
  refine pw_top (show _ = nI 1 - bS B i 3 by unfold dz1; rw [bS_setS_s, upd_s]) ?_
  refine pw_iconst (v := nI 1) dX8_turnSleep_20 (by decide) ?_
  refine pw_icmp_ne 37 dX8_turnSleep_21 (by decide) (fun h1 => ?_) (fun h1 => ?_)
  · skip
    refine pw_aload_0 dX8_turnSleep_37 ?_
    refine pw_iload_1 dX8_turnSleep_38 ?_
    refine pw_iconst (v := nI 3) dX8_turnSleep_39 (by decide) ?_
    refine pw_cV2i 8 dX8_turnSleep_40 kX8_40 vX8_at iX8_at ⟨by decide, by decide⟩ ⟨rfl, rfl⟩ (by decide) rfl (Nat.le_of_ble_eq_true rfl) h.t (c_X8_at h hz9 (by omega) (by decide) ?_)
    refine pw_top (show _ = nI 1 - bS B i 3 by unfold dz1; rw [bS_setS_s, upd_s]) ?_
    refine pw_ireturn dX8_turnSleep_43 rfl ?_
    have e4 : dzB B i = dz1 B i := cif_n (fun hh => z_f1 h1 hh.1)
    rw [e4] at q
    exact q _ hz9
  · skip
    refine pw_aload_0 dX8_turnSleep_24 ?_
    refine pw_iload_1 dX8_turnSleep_25 ?_
    refine pw_cV1i 8 dX8_turnSleep_26 kX8_109 vX8_speaks iX8_speaks ⟨by decide, by decide⟩ ⟨rfl, rfl⟩ (by decide) rfl (Nat.le_of_ble_eq_true rfl) h.t (c_X8_speaks h hz9 (by omega) (fun h2 => ?_) (fun h3 => ?_))
    · skip
      refine pw_if_eq 37 dX8_turnSleep_29 (by decide) (fun hh => absurd hh (by decide)) (fun _ => ?_)
      refine pw_aload_0 dX8_turnSleep_32 ?_
      refine pw_iload_1 dX8_turnSleep_33 ?_
      refine pw_cV1v 8 dX8_turnSleep_34 kX8_112 vX8_giveUp iX8_giveUp ⟨by decide, by decide⟩ ⟨rfl, rfl⟩ (by decide) rfl (Nat.le_of_ble_eq_true rfl) h.t (m_giveUp h hz9 wf1 hi h2 (fun z2 hz2 => ?_))
      refine pw_aload_0 dX8_turnSleep_37 ?_
      refine pw_iload_1 dX8_turnSleep_38 ?_
      refine pw_iconst (v := nI 3) dX8_turnSleep_39 (by decide) ?_
      refine pw_cV2i 8 dX8_turnSleep_40 kX8_40 vX8_at iX8_at ⟨by decide, by decide⟩ ⟨rfl, rfl⟩ (by decide) rfl (Nat.le_of_ble_eq_true rfl) h.t (c_X8_at h hz2 (by omega) (by decide) ?_)
      refine pw_top (show _ = nI 1 - bS B i 3 from ((Fr_gu.2.2 i).2.2).trans (by unfold dz1; rw [bS_setS_s, upd_s])) ?_
      refine pw_ireturn dX8_turnSleep_43 rfl ?_
      have e4 : dzB B i = guB (dz1 B i) i := cif_y ⟨z_f0 z3 h1, dz_sp.mp h2⟩
      rw [e4] at q
      exact q _ hz2
    · skip
      refine pw_if_eq 37 dX8_turnSleep_29 (by decide) (fun _ => ?_) (fun hh => absurd (by decide) hh)
      refine pw_aload_0 dX8_turnSleep_37 ?_
      refine pw_iload_1 dX8_turnSleep_38 ?_
      refine pw_iconst (v := nI 3) dX8_turnSleep_39 (by decide) ?_
      refine pw_cV2i 8 dX8_turnSleep_40 kX8_40 vX8_at iX8_at ⟨by decide, by decide⟩ ⟨rfl, rfl⟩ (by decide) rfl (Nat.le_of_ble_eq_true rfl) h.t (c_X8_at h hz9 (by omega) (by decide) ?_)
      refine pw_top (show _ = nI 1 - bS B i 3 by unfold dz1; rw [bS_setS_s, upd_s]) ?_
      refine pw_ireturn dX8_turnSleep_43 rfl ?_
      have e4 : dzB B i = dz1 B i := cif_n (fun hh => h3 (dz_sp.mpr hh.2))
      rw [e4] at q
      exact q _ hz9
