/-! The class: undo, restore, what if -/
theorem CX.trial {σ : Sp} {μ μ1 : Mm} {o x : Nat} {A : Aw} {C : Bs} (h : CX σ μ o x A) (k : BU μ (o + 63) C μ1) : CX σ μ1 o x A ∧ FX μ o μ1 := by
  obtain ⟨c1, c2, c3, c4, c5, c6⟩ := h
  have f : ∀ a, (a < o + 63 ∨ o + 125 ≤ a) → μ1 a = μ a := fun a ha => k.1 a (by omega)
  exact ⟨⟨c1, c2.at fun a _ _ => f a (by omega), k.nu, c4.at fun a _ _ => f a (by omega), c5.at fun a _ => f a (by omega), c6.at fun a _ _ => f a (by omega)⟩, fun a _ _ => f a (by omega)⟩
theorem HX.last {μ : Mm} {hh x : Nat} {H : (Nat → Bs) × Nat} (h : HX μ hh x H) (h0 : H.2 ≠ 0) : BU μ (hb hh (if 0 < x then x - 1 else 6)) (H.1 (H.2 - 1)) μ := by
  obtain ⟨h1, h2, h3, h4, h5, h6⟩ := h
  have := h6 (H.2 - 1) (by omega)
  rw [show (x + 7 - H.2 + (H.2 - 1)) % 7 = if 0 < x then x - 1 else 6 by split <;> omega] at this
  exact this
theorem HX.pop {μ μ' : Mm} {hh x : Nat} {H : (Nat → Bs) × Nat} (h : HX μ hh x H) (h0 : H.2 ≠ 0) (e : ∀ a, hh < a → a < hh + 436 → μ' a = μ a) (e1 : μ' hh 1 = nI (if 0 < x then x - 1 else 6)) (e2 : μ' hh 2 = nI (H.2 - 1)) : HX μ' hh (if 0 < x then x - 1 else 6) (H.1, H.2 - 1) := by
  obtain ⟨h1, h2, h3, h4, h5, h6⟩ := h
  refine ⟨e1, by split <;> omega, e2, by show H.2 - 1 ≤ 6; omega, fun j hj => (h5 j hj).at fun a a1 a2 => ?_, fun k hk => ?_⟩
  · have := hb_in (hh := hh) hj
    exact e a (by omega) (by omega)
  · have hk' : k < H.2 - 1 := hk
    show BU μ' (hb hh (((if 0 < x then x - 1 else 6) + 7 - (H.2 - 1) + k) % 7)) (H.1 k) μ'
    rw [show ((if 0 < x then x - 1 else 6) + 7 - (H.2 - 1) + k) % 7 = (x + 7 - H.2 + k) % 7 by split <;> omega]
    refine (h6 k (by omega)).at fun a a1 a2 => ?_
    have := hb_in (hh := hh) (show (x + 7 - H.2 + k) % 7 < 7 by omega)
    exact e a (by omega) (by omega)
set_option maxRecDepth 100000 in
set_option maxHeartbeats 4000000 in
theorem kf_sleepsIn {X : Cx} {σ : Sp} {μ : Mm} {Q : Int32 → Sp → Mm → Prop} {o x : Nat} {u : Int32} {A : Aw} (hc : CX σ μ o x A) (wa : WA A) (q : ∀ μ', CX σ μ' o x A → FX μ o μ' → Q (slR (aB A) u) σ μ') : CTi X mX7_sleepsIn [.ref o, .int u] σ μ Q := by
  refine CT.of (by decide +kernel) (Nat.le_of_ble_eq_true rfl) ?_
  show PW X mX7_sleepsIn 0 0 0 [some (.ref o), some (.int u), none, none] [] σ μ (LI Q)
  have wf := wa.1.1
  have h8 := wf.n8
  have hb : BU μ (o + 1) (aB A) μ := hc.2.1
  have h : ShBus σ (o + 1) := hc.1.now
  refine pw_aload_0 dX7_sleepsIn_0 ?_
  refine pw_getr 7 1 dX7_sleepsIn_1 fX7_16 rfl (by decide) rfl hc.1.t hc.1.r1 ?_
  refine pw_aload_0 dX7_sleepsIn_4 ?_
  refine pw_getr 7 0 dX7_sleepsIn_5 fX7_10 rfl (by decide) rfl hc.1.t hc.1.r0 ?_
  refine pw_cV1v 0 dX7_sleepsIn_8 kX7_178 vX0_copyFrom iX0_copyFrom ⟨by decide, by decide⟩ ⟨rfl, rfl⟩ (by decide) rfl (Nat.le_of_ble_eq_true rfl) hc.1.trial.t (k_copyFrom hc.1.trial hc.1.now (by omega) hb wf hc.2.2.1 (fun μ1 hb1 => ?_))
  have ht : ShBus σ (o + 63) := hc.1.trial
  refine pw_aload_0 dX7_sleepsIn_11 ?_
  refine pw_getr 7 1 dX7_sleepsIn_12 fX7_16 rfl (by decide) rfl hc.1.t hc.1.r1 ?_
  refine pw_iload_1 dX7_sleepsIn_15 ?_
  refine pw_cV1r 0 dX7_sleepsIn_16 kX7_103 vX0_find iX0_find ⟨by decide, by decide⟩ ⟨rfl, rfl⟩ (by decide) rfl (Nat.le_of_ble_eq_true rfl) hc.1.trial.t (k_find ht hb1 wf rfl (fun j ej hj => ?_) (fun hno => ?_))
  · skip
    subst ej
    refine pw_astore_2 dX7_sleepsIn_19 (by decide) ?_
    refine pw_aload_2 dX7_sleepsIn_20 ?_
    refine pw_nonnull 26 dX7_sleepsIn_21 (by decide) ?_
    refine pw_iconst (v := nI 0) dX7_sleepsIn_26 (by decide) ?_
    refine pw_istore_3 dX7_sleepsIn_27 (by decide) ?_
    refine pw_up (P := fun k => ∀ μ1, BU μ (o + 63) (bk (aB A) k) μ1 → (∀ i9, i9 < k → ¬ slP (aB A) j i9) → PW X mX7_sleepsIn 0 0 28 [some (.ref o), some (.int (nI j)), some (.ref (st (o + 63) j)), some (.int (nI k))] [] σ μ1 (LI Q)) 601 ?_ ?_ 0 (by omega) _ hb1 (fun i9 hi9 => absurd hi9 (by omega))
    · intro μ1 hb1 hno9
      refine pw_iload_3 dX7_sleepsIn_28 ?_
      refine pw_sipush (v := nI 600) dX7_sleepsIn_29 (by decide) ?_
      refine pw_icmp_gt 58 dX7_sleepsIn_32 (by decide) (fun _ => ?_) (fun hh => absurd (by rw [nI_ltI (by omega) (by omega)]; omega) hh)
      refine pw_bipush (v := -6) dX7_sleepsIn_58 (by decide) ?_
      refine pw_ireturn dX7_sleepsIn_60 rfl ?_
      have ei : ixN (nI j) = j := ixN_nI (by omega)
      have e1 : slR (aB A) (nI j) = -6 := by unfold slR; rw [cif_y (inN_ok hj), ei, ss_n hno9]
      rw [e1] at q
      exact q _ (hc.trial hb1).1 (hc.trial hb1).2
    · intro k hk ih μ1 hb1 hno9
      have wf1 := bk_wf wf k
      have en1 : nS (bk (aB A) k) = nS (aB A) := bk_n k
      refine pw_iload_3 dX7_sleepsIn_28 ?_
      refine pw_sipush (v := nI 600) dX7_sleepsIn_29 (by decide) ?_
      refine pw_icmp_gt 58 dX7_sleepsIn_32 (by decide) (fun hh => absurd hh (by rw [nI_ltI (by omega) (by omega)]; omega)) (fun _ => ?_)
      refine pw_aload_2 dX7_sleepsIn_35 ?_
      refine pw_getI 6 5 dX7_sleepsIn_36 fX7_171 rfl (by decide) rfl ((ht.S (by omega))).t ?_
      refine pw_top (hb1.s5 (by omega)) ?_
      refine pw_if_eq 44 dX7_sleepsIn_39 (by decide) (fun h1 => ?_) (fun h1 => ?_)
      · skip
        refine pw_aload_0 dX7_sleepsIn_44 ?_
        refine pw_getr 7 1 dX7_sleepsIn_45 fX7_16 rfl (by decide) rfl hc.1.t hc.1.r1 ?_
        refine pw_cV0i 0 dX7_sleepsIn_48 kX7_181 vX0_passBeat iX0_passBeat ⟨by decide, by decide⟩ ⟨rfl, rfl⟩ (by decide) rfl (Nat.le_of_ble_eq_true rfl) hc.1.trial.t (k_passBeat ht hb1 wf1 (fun μ2 hb2 => ?_))
        refine pw_pop dX7_sleepsIn_51 ?_
        refine pw_iincN_3 dX7_sleepsIn_52 (by decide) ?_
        refine pw_goto 28 dX7_sleepsIn_55 (by decide) ?_
        refine ih μ2 hb2 (fun i9 h95 => ?_)
        rcases Nat.lt_or_ge i9 k with q9 | q9
        · exact hno9 i9 q9
        · have e9 : i9 = k := by omega
          rw [e9]
          exact fun e => e h1
      · skip
        refine pw_iload_3 dX7_sleepsIn_42 ?_
        refine pw_ireturn dX7_sleepsIn_43 rfl ?_
        have ei : ixN (nI j) = j := ixN_nI (by omega)
        have hp9 : slP (aB A) j k := h1
        have e1 : slR (aB A) (nI j) = nI k := by unfold slR; rw [cif_y (inN_ok hj), ei, ss_y hp9 (by omega) hno9]
        rw [e1] at q
        exact q _ (hc.trial hb1).1 (hc.trial hb1).2
  · skip
    refine pw_nastore_2 dX7_sleepsIn_19 (by decide) ?_
    refine pw_naload_2 dX7_sleepsIn_20 ?_
    refine pw_nonnullN dX7_sleepsIn_21 ?_
    refine pw_iconst (v := -1) dX7_sleepsIn_24 (by decide) ?_
    refine pw_ireturn dX7_sleepsIn_25 rfl ?_
    have e1 : slR (aB A) u = -1 := cif_n (inN_no hno)
    rw [e1] at q
    exact q _ (hc.trial hb1).1 (hc.trial hb1).2
set_option maxRecDepth 100000 in
set_option maxHeartbeats 4000000 in
theorem kf_quietIn {X : Cx} {σ : Sp} {μ : Mm} {Q : Int32 → Sp → Mm → Prop} {o x : Nat} {A : Aw} (hc : CX σ μ o x A) (wa : WA A) (q : ∀ μ', CX σ μ' o x A → FX μ o μ' → Q (quR (aB A)) σ μ') : CTi X mX7_quietIn [.ref o] σ μ Q := by
  refine CT.of (by decide +kernel) (Nat.le_of_ble_eq_true rfl) ?_
  show PW X mX7_quietIn 0 0 0 [some (.ref o), none] [] σ μ (LI Q)
  have wf := wa.1.1
  have h8 := wf.n8
  have hb : BU μ (o + 1) (aB A) μ := hc.2.1
  have h : ShBus σ (o + 1) := hc.1.now
  refine pw_aload_0 dX7_quietIn_0 ?_
  refine pw_getr 7 1 dX7_quietIn_1 fX7_16 rfl (by decide) rfl hc.1.t hc.1.r1 ?_
  refine pw_aload_0 dX7_quietIn_4 ?_
  refine pw_getr 7 0 dX7_quietIn_5 fX7_10 rfl (by decide) rfl hc.1.t hc.1.r0 ?_
  refine pw_cV1v 0 dX7_quietIn_8 kX7_178 vX0_copyFrom iX0_copyFrom ⟨by decide, by decide⟩ ⟨rfl, rfl⟩ (by decide) rfl (Nat.le_of_ble_eq_true rfl) hc.1.trial.t (k_copyFrom hc.1.trial hc.1.now (by omega) hb wf hc.2.2.1 (fun μ1 hb1 => ?_))
  have ht : ShBus σ (o + 63) := hc.1.trial
  refine pw_iconst (v := nI 0) dX7_quietIn_11 (by decide) ?_
  refine pw_istore_1 dX7_quietIn_12 (by decide) ?_
  refine pw_up (P := fun k => ∀ μ1, BU μ (o + 63) (bk (aB A) k) μ1 → (∀ i9, i9 < k → ¬ quP (aB A) i9) → PW X mX7_quietIn 0 0 13 [some (.ref o), some (.int (nI k))] [] σ μ1 (LI Q)) 901 ?_ ?_ 0 (by omega) _ hb1 (fun i9 hi9 => absurd hi9 (by omega))
  · intro μ1 hb1 hno9
    refine pw_iload_1 dX7_quietIn_13 ?_
    refine pw_sipush (v := nI 900) dX7_quietIn_14 (by decide) ?_
    refine pw_icmp_gt 46 dX7_quietIn_17 (by decide) (fun _ => ?_) (fun hh => absurd (by rw [nI_ltI (by omega) (by omega)]; omega) hh)
    refine pw_bipush (v := -6) dX7_quietIn_46 (by decide) ?_
    refine pw_ireturn dX7_quietIn_48 rfl ?_
    have e1 : quR (aB A) = -6 := ss_n hno9
    rw [e1] at q
    exact q _ (hc.trial hb1).1 (hc.trial hb1).2
  · intro k hk ih μ1 hb1 hno9
    have wf1 := bk_wf wf k
    have en1 : nS (bk (aB A) k) = nS (aB A) := bk_n k
    refine pw_iload_1 dX7_quietIn_13 ?_
    refine pw_sipush (v := nI 900) dX7_quietIn_14 (by decide) ?_
    refine pw_icmp_gt 46 dX7_quietIn_17 (by decide) (fun hh => absurd hh (by rw [nI_ltI (by omega) (by omega)]; omega)) (fun _ => ?_)
    refine pw_aload_0 dX7_quietIn_20 ?_
    refine pw_getr 7 1 dX7_quietIn_21 fX7_16 rfl (by decide) rfl hc.1.t hc.1.r1 ?_
    refine pw_cV0i 0 dX7_quietIn_24 kX7_190 vX0_hasWords iX0_hasWords ⟨by decide, by decide⟩ ⟨rfl, rfl⟩ (by decide) rfl (Nat.le_of_ble_eq_true rfl) hc.1.trial.t (k_hasWords ht hb1 wf1 en1 (fun hw => ?_) (fun hw => ?_))
    · skip
      refine pw_if_ne 32 dX7_quietIn_27 (by decide) (fun _ => ?_) (fun hh => absurd hh (by decide))
      refine pw_aload_0 dX7_quietIn_32 ?_
      refine pw_getr 7 1 dX7_quietIn_33 fX7_16 rfl (by decide) rfl hc.1.t hc.1.r1 ?_
      refine pw_cV0i 0 dX7_quietIn_36 kX7_181 vX0_passBeat iX0_passBeat ⟨by decide, by decide⟩ ⟨rfl, rfl⟩ (by decide) rfl (Nat.le_of_ble_eq_true rfl) hc.1.trial.t (k_passBeat ht hb1 wf1 (fun μ2 hb2 => ?_))
      refine pw_pop dX7_quietIn_39 ?_
      refine pw_iincN_1 dX7_quietIn_40 (by decide) ?_
      refine pw_goto 13 dX7_quietIn_43 (by decide) ?_
      refine ih μ2 hb2 (fun i9 h95 => ?_)
      rcases Nat.lt_or_ge i9 k with q9 | q9
      · exact hno9 i9 q9
      · have e9 : i9 = k := by omega
        rw [e9]
        exact fun e => by obtain ⟨s9, h91, h92⟩ := hw; have := e s9 h91; omega
    · skip
      refine pw_if_ne 32 dX7_quietIn_27 (by decide) (fun hh => absurd hh (by decide)) (fun _ => ?_)
      refine pw_iload_1 dX7_quietIn_30 ?_
      refine pw_ireturn dX7_quietIn_31 rfl ?_
      have hp9 : quP (aB A) k := hw
      have e1 : quR (aB A) = nI k := ss_y hp9 (by omega) hno9
      rw [e1] at q
      exact q _ (hc.trial hb1).1 (hc.trial hb1).2

