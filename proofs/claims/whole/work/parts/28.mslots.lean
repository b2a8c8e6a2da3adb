/-! The model: forget, set, undo, slots -/
set_option maxRecDepth 100000 in
set_option maxHeartbeats 4000000 in
theorem ms_forget {X : Cx} {σ : Sp} {μ : Mm} {Q : Int32 → Sp → Mm → Prop} {m : Nat} {x : Int32} {A : Aw} (h : ShM σ m) (hx : MX μ m A) (wa : WA A) (q : ∀ μ', FMm μ m μ' → MX μ' m (upA A (fgR (aB A) x) (fgN (aB A) x)) → Q (fgR (aB A) x) σ μ') : CTi X mX8_forget [.ref m, .int x] σ μ Q := by
  refine CT.of (by decide +kernel) (Nat.le_of_ble_eq_true rfl) ?_
  show PW X mX8_forget 0 0 0 [some (.ref m), some (.int x), none] [] σ μ (LI Q)
  have wf := wa.1.1
  have hz := hx.1
  have hn := wf.hn
  have h8 := wf.n8
  refine pw_mem (wC_id μ (m + 1)).symm ?_
  refine pw_aload_0 dX8_forget_0 ?_
  refine pw_iload_1 dX8_forget_1 ?_
  refine pw_cV1i 8 dX8_forget_2 kX8_66 vX8_isStation iX8_isStation ⟨by decide, by decide⟩ ⟨rfl, rfl⟩ (by decide) rfl (Nat.le_of_ble_eq_true rfl) h.t (c_X8_isStation h hz hn h8 (fun j ej hj => ?_) (fun hno => ?_))
  · skip
    subst ej
    refine pw_if_ne 10 dX8_forget_5 (by decide) (fun _ => ?_) (fun hh => absurd hh (by decide))
    refine pw_aload_0 dX8_forget_10 ?_
    refine pw_iload_1 dX8_forget_11 ?_
    refine pw_iconst (v := nI 4) dX8_forget_12 (by decide) ?_
    refine pw_cV2i 8 dX8_forget_13 kX8_40 vX8_at iX8_at ⟨by decide, by decide⟩ ⟨rfl, rfl⟩ (by decide) rfl (Nat.le_of_ble_eq_true rfl) h.t (c_X8_at h hz (by omega) (by decide) ?_)
    refine pw_top (wf.w (by omega)).1 ?_
    refine pw_if_ne 22 dX8_forget_16 (by decide) (fun h1 => ?_) (fun h1 => ?_)
    · skip
      have h0 : 0 < nwF (bS (aB A) j) := Nat.pos_of_ne_zero (fun e => h1 (by rw [e]; rfl))
      refine pw_mem (wC_id μ (m + 1)) ?_
      refine pw_aload_0 dX8_forget_22 ?_
      refine pw_cV0v 8 dX8_forget_23 kX8_48 vX8_record iX8_record ⟨by decide, by decide⟩ ⟨rfl, rfl⟩ (by decide) rfl (Nat.le_of_ble_eq_true rfl) h.t (m_record h hx.2.1 hz (fun μ1 f1 f2 hp1 => ?_))
      have hz1 : ZR (μ1 (m + 1)) (aB A) := by rw [f1 _ (by omega) (by omega)]; exact hz
      refine pw_mem (wC_id μ1 (m + 1)).symm ?_
      refine pw_aload_0 dX8_forget_26 ?_
      refine pw_iload_1 dX8_forget_27 ?_
      refine pw_iconst (v := nI 5) dX8_forget_28 (by decide) ?_
      refine pw_cV2i 8 dX8_forget_29 kX8_40 vX8_at iX8_at ⟨by decide, by decide⟩ ⟨rfl, rfl⟩ (by decide) rfl (Nat.le_of_ble_eq_true rfl) h.t (c_X8_at h hz1 (by omega) (by decide) ?_)
      refine pw_istore_2 dX8_forget_32 (by decide) ?_
      refine pw_aload_0 dX8_forget_33 ?_
      refine pw_iload_1 dX8_forget_34 ?_
      refine pw_cV1v 8 dX8_forget_35 kX8_97 vX8_leaves iX8_leaves ⟨by decide, by decide⟩ ⟨rfl, rfl⟩ (by decide) rfl (Nat.le_of_ble_eq_true rfl) h.t (c_X8_leaves h hz1 (by omega) (wf.w (by omega)).1 (wf.w (by omega)).2 h0 (fun z9 hz9 => ?_))
      refine pw_iload_2 dX8_forget_38 ?_
      refine pw_ireturn dX8_forget_39 rfl ?_
      have ei : ixN (nI j) = j := ixN_nI (by omega)
      have hw9 := (wf.w (i := j) (by omega)).2
      obtain ⟨⟨t, t9, ht⟩, -⟩ := (wf.s hj).word h0
      have ht : bS (aB A) j 5 = nI t := ht
      have e1 : fgR (aB A) (nI j) = bS (aB A) j 5 := by unfold fgR; rw [cif_y (inN_ok hj), ei, if_neg (by omega)]
      have e2 : fgN (aB A) (nI j) = lvB (aB A) j := by unfold fgN; rw [ei]; exact cif_y ⟨inN_ok hj, by omega⟩
      rw [e1, e2, upA_o (by rw [ht]; exact nnI (by omega))] at q
      obtain ⟨g1, g2⟩ := hx.fin f1 f2 hp1 (fun _ _ => rfl) hz9
      exact q _ g1 g2
    · skip
      refine pw_bipush (v := -5) dX8_forget_19 (by decide) ?_
      refine pw_ireturn dX8_forget_21 rfl ?_
      have ei : ixN (nI j) = j := ixN_nI (by omega)
      have hw9 := (wf.w (i := j) (by omega)).2
      have hw0 : nwF (bS (aB A) j) = 0 := (nI_eq (by omega) (by omega)).mp h1
      have e1 : fgR (aB A) (nI j) = -5 := by unfold fgR; rw [cif_y (inN_ok hj), ei, if_pos hw0]
      have e2 : fgN (aB A) (nI j) = (aB A) := cif_n (fun hh => hh.2 (by rw [ei]; exact hw0))
      rw [e1, e2, upA_e (by decide)] at q
      rw [wC_id]
      exact q _ (fun _ _ => rfl) hx
  · skip
    refine pw_if_ne 10 dX8_forget_5 (by decide) (fun hh => absurd hh (by decide)) (fun _ => ?_)
    refine pw_iconst (v := -1) dX8_forget_8 (by decide) ?_
    refine pw_ireturn dX8_forget_9 rfl ?_
    have e1 : fgR (aB A) x = -1 := cif_n (inN_no hno)
    have e2 : fgN (aB A) x = (aB A) := cif_n (fun hh => inN_no hno hh.1)
    rw [e1, e2, upA_e (by decide)] at q
    rw [wC_id]
    exact q _ (fun _ _ => rfl) hx
set_option maxRecDepth 100000 in
set_option maxHeartbeats 4000000 in
theorem m_isValue {X : Cx} {σ : Sp} {μ : Mm} {Q : Int32 → Sp → Mm → Prop} {j : Nat} {v : Int32} (hj : j < 5) (q1 : pw_LO j ≤ v → v ≤ pw_GR j → Q (nI 1) σ μ) (q0 : ¬ (pw_LO j ≤ v ∧ v ≤ pw_GR j) → Q (nI 0) σ μ) : CTi X mX8_isValue [.int (nI j), .int v] σ μ Q := by
  refine CT.of (by decide +kernel) (Nat.le_of_ble_eq_true rfl) ?_
  show PW X mX8_isValue 0 0 0 [some (.int (nI j)), some (.int v)] [] σ μ (LI Q)
  refine pw_iload_0 dX8_isValue_0 ?_
  match j, hj with
  | 0, _ =>
    refine pw_tabIn 36 dX8_isValue_1 (by decide) (by decide) rfl (by decide) ?_
    refine pw_iload_1 dX8_isValue_36 ?_
    refine pw_iconst (v := nI 1) dX8_isValue_37 (by decide) ?_
    refine pw_bipush (v := nI 20) dX8_isValue_38 (by decide) ?_
    refine pw_cS3i dX8_isValue_40 kX8_36 vX8_in sX8_in ⟨by decide, by decide⟩ ⟨rfl, rfl⟩ (Nat.le_of_ble_eq_true rfl) (c_X8_in (fun h1 h2 => ?_) (fun h3 => ?_))
    · skip
      refine pw_zreturn dX8_isValue_43 rfl (by decide) ?_
      exact q1 (Int32.not_lt.mp h1) (Int32.not_lt.mp h2)
    · skip
      refine pw_zreturn dX8_isValue_43 rfl (by decide) ?_
      exact q0 (fun hh => h3.elim (Int32.not_lt.mpr hh.1) (Int32.not_lt.mpr hh.2))
  | 1, _ =>
    refine pw_tabIn 44 dX8_isValue_1 (by decide) (by decide) rfl (by decide) ?_
    refine pw_iload_1 dX8_isValue_44 ?_
    refine pw_iconst (v := nI 2) dX8_isValue_45 (by decide) ?_
    refine pw_bipush (v := nI 99) dX8_isValue_46 (by decide) ?_
    refine pw_cS3i dX8_isValue_48 kX8_36 vX8_in sX8_in ⟨by decide, by decide⟩ ⟨rfl, rfl⟩ (Nat.le_of_ble_eq_true rfl) (c_X8_in (fun h4 h5 => ?_) (fun h6 => ?_))
    · skip
      refine pw_zreturn dX8_isValue_51 rfl (by decide) ?_
      exact q1 (Int32.not_lt.mp h4) (Int32.not_lt.mp h5)
    · skip
      refine pw_zreturn dX8_isValue_51 rfl (by decide) ?_
      exact q0 (fun hh => h6.elim (Int32.not_lt.mpr hh.1) (Int32.not_lt.mpr hh.2))
  | 2, _ =>
    refine pw_tabIn 60 dX8_isValue_1 (by decide) (by decide) rfl (by decide) ?_
    refine pw_iload_1 dX8_isValue_60 ?_
    refine pw_iconst (v := nI 0) dX8_isValue_61 (by decide) ?_
    refine pw_bipush (v := nI 9) dX8_isValue_62 (by decide) ?_
    refine pw_cS3i dX8_isValue_64 kX8_36 vX8_in sX8_in ⟨by decide, by decide⟩ ⟨rfl, rfl⟩ (Nat.le_of_ble_eq_true rfl) (c_X8_in (fun h7 h8 => ?_) (fun h9 => ?_))
    · skip
      refine pw_zreturn dX8_isValue_67 rfl (by decide) ?_
      exact q1 (Int32.not_lt.mp h7) (Int32.not_lt.mp h8)
    · skip
      refine pw_zreturn dX8_isValue_67 rfl (by decide) ?_
      exact q0 (fun hh => h9.elim (Int32.not_lt.mpr hh.1) (Int32.not_lt.mpr hh.2))
  | 3, _ =>
    refine pw_tabIn 60 dX8_isValue_1 (by decide) (by decide) rfl (by decide) ?_
    refine pw_iload_1 dX8_isValue_60 ?_
    refine pw_iconst (v := nI 0) dX8_isValue_61 (by decide) ?_
    refine pw_bipush (v := nI 9) dX8_isValue_62 (by decide) ?_
    refine pw_cS3i dX8_isValue_64 kX8_36 vX8_in sX8_in ⟨by decide, by decide⟩ ⟨rfl, rfl⟩ (Nat.le_of_ble_eq_true rfl) (c_X8_in (fun h10 h11 => ?_) (fun h12 => ?_))
    · skip
      refine pw_zreturn dX8_isValue_67 rfl (by decide) ?_
      exact q1 (Int32.not_lt.mp h10) (Int32.not_lt.mp h11)
    · skip
      refine pw_zreturn dX8_isValue_67 rfl (by decide) ?_
      exact q0 (fun hh => h12.elim (Int32.not_lt.mpr hh.1) (Int32.not_lt.mpr hh.2))
  | 4, _ =>
    refine pw_tabIn 52 dX8_isValue_1 (by decide) (by decide) rfl (by decide) ?_
    refine pw_iload_1 dX8_isValue_52 ?_
    refine pw_iconst (v := nI 1) dX8_isValue_53 (by decide) ?_
    refine pw_bipush (v := nI 9) dX8_isValue_54 (by decide) ?_
    refine pw_cS3i dX8_isValue_56 kX8_36 vX8_in sX8_in ⟨by decide, by decide⟩ ⟨rfl, rfl⟩ (Nat.le_of_ble_eq_true rfl) (c_X8_in (fun h13 h14 => ?_) (fun h15 => ?_))
    · skip
      refine pw_zreturn dX8_isValue_59 rfl (by decide) ?_
      exact q1 (Int32.not_lt.mp h13) (Int32.not_lt.mp h14)
    · skip
      refine pw_zreturn dX8_isValue_59 rfl (by decide) ?_
      exact q0 (fun hh => h15.elim (Int32.not_lt.mpr hh.1) (Int32.not_lt.mpr hh.2))
  | k + 5, hk => exact absurd hk (by omega)
theorem cl_Gn {C : Bs} : ∀ k, bG (itr clS k C) = bG C
  | 0 => rfl
  | k + 1 => cl_Gn k
set_option maxRecDepth 100000 in
set_option maxHeartbeats 4000000 in
theorem ms_set {X : Cx} {σ : Sp} {μ : Mm} {Q : Int32 → Sp → Mm → Prop} {m : Nat} {x v : Int32} {A : Aw} (h : ShM σ m) (hx : MX μ m A) (wa : WA A) (q : ∀ μ', FMm μ m μ' → MX μ' m (upA A (seR (aB A) x v) (seN (aB A) x v)) → Q (seR (aB A) x v) σ μ') : CTi X mX8_set [.ref m, .int x, .int v] σ μ Q := by
  refine CT.of (by decide +kernel) (Nat.le_of_ble_eq_true rfl) ?_
  show PW X mX8_set 0 0 0 [some (.ref m), some (.int x), some (.int v), none, none] [] σ μ (LI Q)
  have wf := wa.1.1
  have hz := hx.1
  have hn := wf.hn
  have h8 := wf.n8
  refine pw_mem (wC_id μ (m + 1)).symm ?_
  refine pw_iload_1 dX8_set_0 ?_
  refine pw_iconst (v := nI 0) dX8_set_1 (by decide) ?_
  refine pw_iconst (v := nI 4) dX8_set_2 (by decide) ?_
  refine pw_cS3i dX8_set_3 kX8_36 vX8_in sX8_in ⟨by decide, by decide⟩ ⟨rfl, rfl⟩ (Nat.le_of_ble_eq_true rfl) (c_X8_inN (by decide) (by decide) (fun j ej hjl hj => ?_) (fun hno => ?_))
  · skip
    subst ej
    refine pw_if_eq 17 dX8_set_6 (by decide) (fun hh => absurd hh (by decide)) (fun _ => ?_)
    refine pw_iload_1 dX8_set_9 ?_
    refine pw_iload_2 dX8_set_10 ?_
    refine pw_cS2i dX8_set_11 kX8_51 vX8_isValue sX8_isValue ⟨by decide, by decide⟩ ⟨rfl, rfl⟩ (Nat.le_of_ble_eq_true rfl) (m_isValue (by omega) (fun hlo hhi => ?_) (fun hnv => ?_))
    · skip
      refine pw_if_ne 20 dX8_set_14 (by decide) (fun _ => ?_) (fun hh => absurd hh (by decide))
      refine pw_mem (wC_id μ (m + 1)) ?_
      refine pw_aload_0 dX8_set_20 ?_
      refine pw_cV0v 8 dX8_set_21 kX8_48 vX8_record iX8_record ⟨by decide, by decide⟩ ⟨rfl, rfl⟩ (by decide) rfl (Nat.le_of_ble_eq_true rfl) h.t (m_record h hx.2.1 hz (fun μ1 f1 f2 hp1 => ?_))
      have hz1 : ZR (μ1 (m + 1)) (aB A) := by rw [f1 _ (by omega) (by omega)]; exact hz
      refine pw_mem (wC_id μ1 (m + 1)).symm ?_
      refine pw_aload_0 dX8_set_24 ?_
      refine pw_getr 8 0 dX8_set_25 fX8_7 rfl (by decide) rfl h.t h.r0 ?_
      refine pw_iload_1 dX8_set_28 ?_
      refine pw_ialdN dX8_set_29 h.a1 (by omega) (by decide) ?_
      refine pw_top (show _ = bG (aB A) j by rw [wC_self, hz1.g (by omega)]) ?_
      refine pw_istore_3 dX8_set_30 (by decide) ?_
      refine pw_aload_0 dX8_set_31 ?_
      refine pw_getr 8 0 dX8_set_32 fX8_7 rfl (by decide) rfl h.t h.r0 ?_
      refine pw_iload_1 dX8_set_35 ?_
      refine pw_iload_2 dX8_set_36 ?_
      refine pw_iastN dX8_set_37 h.a1 (by omega) (by decide) ?_
      have hz2 : ZR (upd (μ1 (m + 1)) j v) (setG (aB A) j v) := hz1.updG (by omega) v
      refine pw_mem (wr_wC_s _ _ _ _ _) ?_
      generalize upd (μ1 (m + 1)) j v = z2 at hz2
      refine pw_iconst (v := nI 0) dX8_set_38 (by decide) ?_
      refine pw_istore_4 dX8_set_39 (by decide) ?_
      refine pw_up (P := fun k => ∀ z, ZR z (itr clS k (setG (aB A) j v)) → PW X mX8_set 0 0 41 [some (.ref m), some (.int (nI j)), some (.int v), some (.int (bG (aB A) j)), some (.int (nI k))] [] σ (wC μ1 (m + 1) z) (LI Q)) (nS (aB A)) ?_ ?_ 0 (by omega) _ hz2
      · intro z2 hz2
        have hn1 : bG (itr clS (nS (aB A)) (setG (aB A) j v)) 6 = nI (nS (aB A)) := by rw [cl_Gn]; exact (upd_n _ _ (by omega)).trans hn
        have hz2 : ZR z2 (seB (aB A) j v) := hz2
        have hn1 : bG (seB (aB A) j v) 6 = nI (nS (aB A)) := hn1
        refine pw_iload_4 dX8_set_41 ?_
        refine pw_aload_0 dX8_set_43 ?_
        refine pw_getr 8 0 dX8_set_44 fX8_7 rfl (by decide) rfl h.t h.r0 ?_
        refine pw_bipush (v := nI 6) dX8_set_47 (by decide) ?_
        refine pw_ialdN dX8_set_49 h.a1 (by omega) (by decide) ?_
        refine pw_top (show _ = nI (nS (aB A)) from by rw [wC_self, hz2.g (by decide)]; exact hn1) ?_
        refine pw_icmp_ge 98 dX8_set_50 (by decide) (fun _ => ?_) (fun hh => absurd (by rw [nI_leI (by omega) (by omega)]; omega) hh)
        refine pw_iload_3 dX8_set_98 ?_
        refine pw_ireturn dX8_set_99 rfl ?_
        have ei : ixN (nI j) = j := ixN_nI (by omega)
        have hy : seP (nI j) v := ⟨j, by omega, rfl, hlo, hhi⟩
        obtain ⟨t, t9, ht⟩ := wf.2.1 j (by omega)
        have hz9 : ZR z2 (seB (aB A) j v) := hz2
        have e1 : seR (aB A) (nI j) v = bG (aB A) j := by unfold seR; rw [cif_y hy, ei]
        have e2 : seN (aB A) (nI j) v = seB (aB A) j v := by unfold seN; rw [cif_y hy, ei]
        rw [e1, e2, upA_o (by rw [ht]; exact nnI (by omega))] at q
        obtain ⟨g1, g2⟩ := hx.fin f1 f2 hp1 (fun _ _ => rfl) hz9
        exact q _ g1 g2
      · intro k hk ih z2 hz2
        have ih2 : ∀ z, ZR z (clS k (itr clS k (setG (aB A) j v))) → _ := ih
        have hn1 : bG (itr clS k (setG (aB A) j v)) 6 = nI (nS (aB A)) := by rw [cl_Gn]; exact (upd_n _ _ (by omega)).trans hn
        generalize itr clS k (setG (aB A) j v) = C at hz2 ih2 hn1
        refine pw_iload_4 dX8_set_41 ?_
        refine pw_aload_0 dX8_set_43 ?_
        refine pw_getr 8 0 dX8_set_44 fX8_7 rfl (by decide) rfl h.t h.r0 ?_
        refine pw_bipush (v := nI 6) dX8_set_47 (by decide) ?_
        refine pw_ialdN dX8_set_49 h.a1 (by omega) (by decide) ?_
        refine pw_top (show _ = nI (nS (aB A)) from by rw [wC_self, hz2.g (by decide)]; exact hn1) ?_
        refine pw_icmp_ge 98 dX8_set_50 (by decide) (fun hh => absurd hh (by rw [nI_leI (by omega) (by omega)]; omega)) (fun _ => ?_)
        refine pw_aload_0 dX8_set_53 ?_
        refine pw_iload_4 dX8_set_54 ?_
        refine pw_iconst (v := nI 1) dX8_set_56 (by decide) ?_
        refine pw_aload_0 dX8_set_57 ?_
        refine pw_iload_4 dX8_set_58 ?_
        refine pw_iconst (v := nI 1) dX8_set_60 (by decide) ?_
        refine pw_cV2i 8 dX8_set_61 kX8_40 vX8_at iX8_at ⟨by decide, by decide⟩ ⟨rfl, rfl⟩ (by decide) rfl (Nat.le_of_ble_eq_true rfl) h.t (c_X8_at h hz2 (by omega) (by decide) ?_)
        refine pw_aload_0 dX8_set_64 ?_
        refine pw_getr 8 0 dX8_set_65 fX8_7 rfl (by decide) rfl h.t h.r0 ?_
        refine pw_iconst (v := nI 1) dX8_set_68 (by decide) ?_
        refine pw_ialdN dX8_set_69 h.a1 (by omega) (by decide) ?_
        refine pw_top (show _ = bG C 1 from by rw [wC_self, hz2.g (by decide)]) ?_
        refine pw_icmp_le 82 dX8_set_70 (by decide) (fun h1 => ?_) (fun h1 => ?_)
        · skip
          refine pw_aload_0 dX8_set_82 ?_
          refine pw_iload_4 dX8_set_83 ?_
          refine pw_iconst (v := nI 1) dX8_set_85 (by decide) ?_
          refine pw_cV2i 8 dX8_set_86 kX8_40 vX8_at iX8_at ⟨by decide, by decide⟩ ⟨rfl, rfl⟩ (by decide) rfl (Nat.le_of_ble_eq_true rfl) h.t (c_X8_at h hz2 (by omega) (by decide) ?_)
          refine pw_cV3v 8 dX8_set_89 kX8_55 vX8_lay iX8_lay ⟨by decide, by decide⟩ ⟨rfl, rfl⟩ (by decide) rfl (Nat.le_of_ble_eq_true rfl) h.t (c_X8_lay h hz2 (by omega) (by decide) (fun z1 hz1 => ?_))
          refine pw_iincN_4 dX8_set_92 (by decide) ?_
          refine pw_goto 41 dX8_set_95 (by decide) ?_
          refine ih2 _ (Eq.mp (congrArg (fun b => ZR z1 b) ?_) hz1)
          unfold clS
          rw [if_neg (Int32.not_lt.mpr h1)]
        · skip
          refine pw_aload_0 dX8_set_73 ?_
          refine pw_getr 8 0 dX8_set_74 fX8_7 rfl (by decide) rfl h.t h.r0 ?_
          refine pw_iconst (v := nI 1) dX8_set_77 (by decide) ?_
          refine pw_ialdN dX8_set_78 h.a1 (by omega) (by decide) ?_
          refine pw_top (show _ = bG C 1 from by rw [wC_self, hz2.g (by decide)]) ?_
          refine pw_goto 89 dX8_set_79 (by decide) ?_
          refine pw_cV3v 8 dX8_set_89 kX8_55 vX8_lay iX8_lay ⟨by decide, by decide⟩ ⟨rfl, rfl⟩ (by decide) rfl (Nat.le_of_ble_eq_true rfl) h.t (c_X8_lay h hz2 (by omega) (by decide) (fun z2 hz2 => ?_))
          refine pw_iincN_4 dX8_set_92 (by decide) ?_
          refine pw_goto 41 dX8_set_95 (by decide) ?_
          refine ih2 _ (Eq.mp (congrArg (fun b => ZR z2 b) ?_) hz2)
          unfold clS
          rw [if_pos (Int32.not_le.mp h1)]
    · skip
      refine pw_if_ne 20 dX8_set_14 (by decide) (fun hh => absurd hh (by decide)) (fun _ => ?_)
      refine pw_bipush (v := -2) dX8_set_17 (by decide) ?_
      refine pw_ireturn dX8_set_19 rfl ?_
      have hse : ¬ seP (nI j) v := fun ⟨k, k5, e, h5, h6⟩ => hnv (by rw [(nI_eq (by omega) (by omega)).mp e]; exact ⟨h5, h6⟩)
      have e1 : seR (aB A) (nI j) v = -2 := cif_n hse
      have e2 : seN (aB A) (nI j) v = (aB A) := cif_n hse
      rw [e1, e2, upA_e (by decide)] at q
      rw [wC_id]
      exact q _ (fun _ _ => rfl) hx
  · skip
    refine pw_if_eq 17 dX8_set_6 (by decide) (fun _ => ?_) (fun hh => absurd (by decide) hh)
    refine pw_bipush (v := -2) dX8_set_17 (by decide) ?_
    refine pw_ireturn dX8_set_19 rfl ?_
    have hse : ¬ seP x v := fun ⟨k, k5, e, _⟩ => hno k (by omega) (by omega) e
    have e1 : seR (aB A) x v = -2 := cif_n hse
    have e2 : seN (aB A) x v = (aB A) := cif_n hse
    rw [e1, e2, upA_e (by decide)] at q
    rw [wC_id]
    exact q _ (fun _ _ => rfl) hx
theorem wC_own {ν : Mm} {a : Nat} {f : Nat → Int32} (h : ν a = f) : ν = wC ν a f := by
  subst h
  exact (wC_id ν a).symm
def unR (A : Aw) : Int32 := if (aH A).2 = 0 then -5 else nI ((aH A).2 - 1)
def unA (A : Aw) : Aw := if (aH A).2 = 0 then A else ((aH A).1 ((aH A).2 - 1), ((aH A).1, (aH A).2 - 1), aS A, aP A)
noncomputable def svR (A : Aw) (x : Int32) : Int32 := cif (inN 2 x) (nI (nS (aB A))) (-2)
noncomputable def svA (A : Aw) (x : Int32) : Aw := cif (inN 2 x) (aB A, aH A, (fun k => if k = ixN x then some (aB A) else aS A k), aP A) A
noncomputable def rsR (A : Aw) (x : Int32) : Int32 := cif (inN 2 x) ((aS A (ixN x)).elim (-5) (fun C => nI (nS C))) (-2)
noncomputable def rsA (A : Aw) (x : Int32) : Aw := cif (inN 2 x) ((aS A (ixN x)).elim A (fun C => (C, pushH (aH A) (aB A), aS A, aP A))) A
theorem MX.un {μ : Mm} {m : Nat} {A : Aw} {z' : Nat → Int32} (hx : MX μ m A) (h0 : (aH A).2 ≠ 0) (hz : ZR z' ((aH A).1 ((aH A).2 - 1))) : FMm μ m (wC (wr μ m 2 (nI ((aH A).2 - 1))) (m + 1) z') ∧ MX (wC (wr μ m 2 (nI ((aH A).2 - 1))) (m + 1) z') m ((aH A).1 ((aH A).2 - 1), ((aH A).1, (aH A).2 - 1), aS A, aP A) := by
  obtain ⟨h1, ⟨p1, p2, p3⟩, h3, ⟨q1, q2, q3⟩⟩ := hx
  have e' := fun k (hk : k < 7) (h0 : 2 ≤ k) => show wC (wr μ m 2 (nI ((aH A).2 - 1))) (m + 1) z' (m + k) = μ (m + k) by rw [wC_ne _ _ (by omega), wr_n _ _ _ (by omega)]
  refine ⟨fun a ha => by rw [wC_ne _ _ (by omega), wr_n _ _ _ (by omega)], by rw [wC_self]; exact hz, ⟨by (rw [wC_ne _ _ (by omega), wr_s, upd_s]; rfl), by show (aH A).2 - 1 ≤ 6; omega, fun k hk => ?_⟩, ?_, ⟨by rw [wC_ne _ _ (by omega), wr_s, upd_n _ _ (by omega)]; exact q1, q2, by rw [e' 6 (by omega) (by omega)]; exact q3⟩⟩
  · have hk' : k < (aH A).2 - 1 := hk
    rw [e' 2 (by omega) (by omega)]
    exact p3 k (by omega)
  · unfold VX
    rw [e' 3 (by omega) (by omega), e' 4 (by omega) (by omega)]
    exact h3
set_option maxRecDepth 100000 in
set_option maxHeartbeats 4000000 in
theorem ms_undo {X : Cx} {σ : Sp} {μ : Mm} {Q : Int32 → Sp → Mm → Prop} {m : Nat} {A : Aw} (h : ShM σ m) (hx : MX μ m A) (wa : WA A) (q : ∀ μ', FMm μ m μ' → MX μ' m (unA A) → Q (unR A) σ μ') : CTi X mX8_undo [.ref m] σ μ Q := by
  refine CT.of (by decide +kernel) (Nat.le_of_ble_eq_true rfl) ?_
  show PW X mX8_undo 0 0 0 [some (.ref m), none] [] σ μ (LI Q)
  have hH6 := hx.2.1.2.1
  refine pw_aload_0 dX8_undo_0 ?_
  refine pw_getI 8 2 dX8_undo_1 fX8_44 rfl (by decide) rfl h.t ?_
  refine pw_top hx.2.1.1 ?_
  refine pw_if_ne 10 dX8_undo_4 (by decide) (fun h1 => ?_) (fun h1 => ?_)
  · skip
    have h0 : (aH A).2 ≠ 0 := fun e => h1 (by rw [e]; rfl)
    refine pw_aload_0 dX8_undo_10 ?_
    refine pw_dup dX8_undo_11 ?_
    refine pw_getI 8 2 dX8_undo_12 fX8_44 rfl (by decide) rfl h.t ?_
    refine pw_top hx.2.1.1 ?_
    refine pw_iconst (v := nI 1) dX8_undo_15 (by decide) ?_
    refine pw_isubN dX8_undo_16 (by omega) ?_
    refine pw_putI 8 2 dX8_undo_17 fX8_44 rfl (by decide) rfl (Or.inl rfl) rfl (by decide) h.t ?_
    refine pw_iconst (v := nI 0) dX8_undo_20 (by decide) ?_
    refine pw_istore_1 dX8_undo_21 (by decide) ?_
    refine pw_mem (show _ = wC (wr μ m 2 (nI ((aH A).2 - 1))) (m + 1) (cpF (μ (m + 1)) 0 (fun j => μ (m + 2) (((aH A).2 - 1) * 351 + j)) 0) from ?_) (pw_up (P := fun k => PW X mX8_undo 0 0 22 [some (.ref m), some (.int (nI k))] [] σ (wC (wr μ m 2 (nI ((aH A).2 - 1))) (m + 1) (cpF (μ (m + 1)) 0 (fun j => μ (m + 2) (((aH A).2 - 1) * 351 + j)) k)) (LI Q)) 351 ?_ ?_ 0 (by omega))
    · rw [cp_0]
      exact wC_own (by rw [wr_n _ _ _ (by omega)])
    · skip
      refine pw_iload_1 dX8_undo_22 ?_
      refine pw_sipush (v := nI 351) dX8_undo_23 (by decide) ?_
      refine pw_icmp_ge 56 dX8_undo_26 (by decide) (fun _ => ?_) (fun hh => absurd (by rw [nI_leI (by omega) (by omega)]; omega) hh)
      refine pw_aload_0 dX8_undo_56 ?_
      refine pw_getI 8 2 dX8_undo_57 fX8_44 rfl (by decide) rfl h.t ?_
      refine pw_top (show _ = nI ((aH A).2 - 1) by rw [wC_ne _ _ (by omega), wr_s, upd_s]) ?_
      refine pw_ireturn dX8_undo_60 rfl ?_
      have e1 : unR A = nI ((aH A).2 - 1) := if_neg h0
      have e2 : unA A = ((aH A).1 ((aH A).2 - 1), ((aH A).1, (aH A).2 - 1), aS A, aP A) := if_neg h0
      rw [e1, e2] at q
      obtain ⟨g1, g2⟩ := hx.un h0 (z' := cpF (μ (m + 1)) 0 (fun j => μ (m + 2) (((aH A).2 - 1) * 351 + j)) 351) ((hx.2.1.2.2 _ (by omega)).cg fun j hj => by have := cp_in (f := μ (m + 1)) (g := (fun j => μ (m + 2) (((aH A).2 - 1) * 351 + j))) (o := 0) hj; rw [Nat.zero_add] at this; exact this)
      exact q _ g1 g2
    · intro k hk ih
      refine pw_iload_1 dX8_undo_22 ?_
      refine pw_sipush (v := nI 351) dX8_undo_23 (by decide) ?_
      refine pw_icmp_ge 56 dX8_undo_26 (by decide) (fun hh => absurd hh (by rw [nI_leI (by omega) (by omega)]; omega)) (fun _ => ?_)
      refine pw_aload_0 dX8_undo_29 ?_
      refine pw_getr 8 0 dX8_undo_30 fX8_7 rfl (by decide) rfl h.t h.r0 ?_
      refine pw_iload_1 dX8_undo_33 ?_
      refine pw_aload_0 dX8_undo_34 ?_
      refine pw_getr 8 1 dX8_undo_35 fX8_13 rfl (by decide) rfl h.t h.r1 ?_
      refine pw_aload_0 dX8_undo_38 ?_
      refine pw_getI 8 2 dX8_undo_39 fX8_44 rfl (by decide) rfl h.t ?_
      refine pw_top (show _ = nI ((aH A).2 - 1) by rw [wC_ne _ _ (by omega), wr_s, upd_s]) ?_
      refine pw_sipush (v := nI 351) dX8_undo_42 (by decide) ?_
      refine pw_imulN dX8_undo_45 ?_
      refine pw_iload_1 dX8_undo_46 ?_
      refine pw_iaddN dX8_undo_47 ?_
      refine pw_ialdN dX8_undo_48 h.a2 (by omega) (by decide) ?_
      refine pw_iastN dX8_undo_49 h.a1 (by omega) (by decide) ?_
      refine pw_iincN_1 dX8_undo_50 (by decide) ?_
      refine pw_goto 22 dX8_undo_53 (by decide) ?_
      refine pw_mem ?_ ih
      rw [wr_wC_s, wC_ne _ _ (show m + 2 ≠ m + 1 by omega), wr_n _ _ _ (by omega)]
      exact congrArg (wC _ _) (cp_s0 _ _ _)
  · skip
    refine pw_bipush (v := -5) dX8_undo_7 (by decide) ?_
    refine pw_ireturn dX8_undo_9 rfl ?_
    have h0 : (aH A).2 = 0 := (nI_eq (by omega) (by omega)).mp h1
    have e1 : unR A = -5 := if_pos h0
    have e2 : unA A = A := if_pos h0
    rw [e1, e2] at q
    exact q _ (fun _ _ => rfl) hx
theorem MX.sv {μ : Mm} {m j : Nat} {A : Aw} (hx : MX μ m A) (hj : j < 2) : FMm μ m (wC (wr μ (m + 4) j (nI 1)) (m + 3) (cpF (μ (m + 3)) (j * 351) (μ (m + 1)) 351)) ∧ MX (wC (wr μ (m + 4) j (nI 1)) (m + 3) (cpF (μ (m + 3)) (j * 351) (μ (m + 1)) 351)) m (aB A, aH A, (fun k => if k = j then some (aB A) else aS A k), aP A) := by
  obtain ⟨h1, ⟨p1, p2, p3⟩, h3, ⟨q1, q2, q3⟩⟩ := hx
  have e' := fun a (h3 : a ≠ m + 3) (h4 : a ≠ m + 4) => show wC (wr μ (m + 4) j (nI 1)) (m + 3) (cpF (μ (m + 3)) (j * 351) (μ (m + 1)) 351) a = μ a by rw [wC_ne _ _ h3, wr_n _ _ _ h4]
  refine ⟨fun a ha => e' a (by omega) (by omega), by rw [e' _ (by omega) (by omega)]; exact h1, ⟨by rw [e' _ (by omega) (by omega)]; exact p1, p2, by rw [e' _ (by omega) (by omega)]; exact p3⟩, fun k hk => ?_, ⟨by rw [e' _ (by omega) (by omega)]; exact q1, q2, by rw [e' _ (by omega) (by omega)]; exact q3⟩⟩
  rw [wC_self, wC_ne _ _ (by omega), wr_s]
  show (∀ C, (if k = j then some (aB A) else aS A k) = some C → upd (μ (m + 4)) j (nI 1) k = nI 1 ∧ _) ∧ ((if k = j then some (aB A) else aS A k) = none → upd (μ (m + 4)) j (nI 1) k = nI 0)
  by_cases e : k = j
  · subst e
    rw [if_pos rfl, upd_s]
    refine ⟨fun C hC => ⟨rfl, ?_⟩, fun hC => by cases hC⟩
    cases hC
    exact h1.cg fun i hi => cp_in hi
  · rw [if_neg e, upd_n _ _ e]
    refine ⟨fun C hC => ⟨((h3 k hk).1 C hC).1, ((h3 k hk).1 C hC).2.cg fun i hi => cp_out ?_⟩, (h3 k hk).2⟩
    rcases Nat.lt_or_gt_of_ne e with q | q
    · exact Or.inl (by have := Nat.mul_le_mul_right 351 (show k + 1 ≤ j by omega); omega)
    · exact Or.inr (by have := Nat.mul_le_mul_right 351 (show j + 1 ≤ k by omega); omega)
set_option maxRecDepth 100000 in
set_option maxHeartbeats 4000000 in
theorem ms_save {X : Cx} {σ : Sp} {μ : Mm} {Q : Int32 → Sp → Mm → Prop} {m : Nat} {x : Int32} {A : Aw} (h : ShM σ m) (hx : MX μ m A) (wa : WA A) (q : ∀ μ', FMm μ m μ' → MX μ' m (svA A x) → Q (svR A x) σ μ') : CTi X mX8_save [.ref m, .int x] σ μ Q := by
  refine CT.of (by decide +kernel) (Nat.le_of_ble_eq_true rfl) ?_
  show PW X mX8_save 0 0 0 [some (.ref m), some (.int x), none] [] σ μ (LI Q)
  have hn := wa.1.1.hn
  have h8 := wa.1.1.n8
  refine pw_iload_1 dX8_save_0 ?_
  refine pw_iconst (v := nI 0) dX8_save_1 (by decide) ?_
  refine pw_iconst (v := nI 1) dX8_save_2 (by decide) ?_
  refine pw_cS3i dX8_save_3 kX8_36 vX8_in sX8_in ⟨by decide, by decide⟩ ⟨rfl, rfl⟩ (Nat.le_of_ble_eq_true rfl) (c_X8_inN (by decide) (by decide) (fun j ej hjl hj => ?_) (fun hno => ?_))
  · skip
    subst ej
    refine pw_if_ne 12 dX8_save_6 (by decide) (fun _ => ?_) (fun hh => absurd hh (by decide))
    refine pw_aload_0 dX8_save_12 ?_
    refine pw_getr 8 4 dX8_save_13 fX8_19 rfl (by decide) rfl h.t h.r4 ?_
    refine pw_iload_1 dX8_save_16 ?_
    refine pw_iconst (v := nI 1) dX8_save_17 (by decide) ?_
    refine pw_zastN dX8_save_18 h.a4 (by omega) (by decide) ?_
    refine pw_iconst (v := nI 0) dX8_save_19 (by decide) ?_
    refine pw_istore_2 dX8_save_20 (by decide) ?_
    refine pw_mem (show _ = wC (wr μ (m + 4) j (nI 1)) (m + 3) (cpF (μ (m + 3)) (j * 351) (μ (m + 1)) 0) from ?_) (pw_up (P := fun k => PW X mX8_save 0 0 21 [some (.ref m), some (.int (nI j)), some (.int (nI k))] [] σ (wC (wr μ (m + 4) j (nI 1)) (m + 3) (cpF (μ (m + 3)) (j * 351) (μ (m + 1)) k)) (LI Q)) 351 ?_ ?_ 0 (by omega))
    · rw [cp_0]
      exact wC_own (by rw [wr_n _ _ _ (by omega)])
    · skip
      refine pw_iload_2 dX8_save_21 ?_
      refine pw_sipush (v := nI 351) dX8_save_22 (by decide) ?_
      refine pw_icmp_ge 52 dX8_save_25 (by decide) (fun _ => ?_) (fun hh => absurd (by rw [nI_leI (by omega) (by omega)]; omega) hh)
      refine pw_aload_0 dX8_save_52 ?_
      refine pw_getr 8 0 dX8_save_53 fX8_7 rfl (by decide) rfl h.t h.r0 ?_
      refine pw_bipush (v := nI 6) dX8_save_56 (by decide) ?_
      refine pw_ialdN dX8_save_58 h.a1 (by omega) (by decide) ?_
      refine pw_top (show _ = nI (nS (aB A)) by rw [wC_ne _ _ (by omega), wr_n _ _ _ (by omega), hx.1.g (by omega)]; exact hn) ?_
      refine pw_ireturn dX8_save_59 rfl ?_
      have hi2 : inN 2 (nI j) := ⟨j, by omega, rfl⟩
      have ei : ixN (nI j) = j := ixN_nI (by omega)
      have e1 : svR A (nI j) = nI (nS (aB A)) := cif_y hi2
      have e2 : svA A (nI j) = (aB A, aH A, (fun k => if k = j then some (aB A) else aS A k), aP A) := by unfold svA; rw [cif_y hi2, ei]
      rw [e1, e2] at q
      obtain ⟨g1, g2⟩ := hx.sv (show j < 2 by omega)
      exact q _ g1 g2
    · intro k hk ih
      refine pw_iload_2 dX8_save_21 ?_
      refine pw_sipush (v := nI 351) dX8_save_22 (by decide) ?_
      refine pw_icmp_ge 52 dX8_save_25 (by decide) (fun hh => absurd hh (by rw [nI_leI (by omega) (by omega)]; omega)) (fun _ => ?_)
      refine pw_aload_0 dX8_save_28 ?_
      refine pw_getr 8 3 dX8_save_29 fX8_16 rfl (by decide) rfl h.t h.r3 ?_
      refine pw_iload_1 dX8_save_32 ?_
      refine pw_sipush (v := nI 351) dX8_save_33 (by decide) ?_
      refine pw_imulN dX8_save_36 ?_
      refine pw_iload_2 dX8_save_37 ?_
      refine pw_iaddN dX8_save_38 ?_
      refine pw_aload_0 dX8_save_39 ?_
      refine pw_getr 8 0 dX8_save_40 fX8_7 rfl (by decide) rfl h.t h.r0 ?_
      refine pw_iload_2 dX8_save_43 ?_
      refine pw_ialdN dX8_save_44 h.a1 (by omega) (by decide) ?_
      refine pw_iastN dX8_save_45 h.a3 (by omega) (by decide) ?_
      refine pw_iincN_2 dX8_save_46 (by decide) ?_
      refine pw_goto 21 dX8_save_49 (by decide) ?_
      refine pw_mem ?_ ih
      rw [wr_wC_s, wC_ne _ _ (show m + 1 ≠ m + 3 by omega), wr_n _ _ _ (show m + 1 ≠ m + 4 by omega), cp_s]
  · skip
    refine pw_if_ne 12 dX8_save_6 (by decide) (fun hh => absurd hh (by decide)) (fun _ => ?_)
    refine pw_bipush (v := -2) dX8_save_9 (by decide) ?_
    refine pw_ireturn dX8_save_11 rfl ?_
    have hi2 : ¬ inN 2 x := fun ⟨j, h1, e⟩ => hno j (by omega) (by omega) e
    have e1 : svR A x = -2 := cif_n hi2
    have e2 : svA A x = A := cif_n hi2
    rw [e1, e2] at q
    exact q _ (fun _ _ => rfl) hx
set_option maxRecDepth 100000 in
set_option maxHeartbeats 4000000 in
theorem ms_restore {X : Cx} {σ : Sp} {μ : Mm} {Q : Int32 → Sp → Mm → Prop} {m : Nat} {x : Int32} {A : Aw} (h : ShM σ m) (hx : MX μ m A) (wa : WA A) (q : ∀ μ', FMm μ m μ' → MX μ' m (rsA A x) → Q (rsR A x) σ μ') : CTi X mX8_restore [.ref m, .int x] σ μ Q := by
  refine CT.of (by decide +kernel) (Nat.le_of_ble_eq_true rfl) ?_
  show PW X mX8_restore 0 0 0 [some (.ref m), some (.int x), none] [] σ μ (LI Q)
  refine pw_iload_1 dX8_restore_0 ?_
  refine pw_iconst (v := nI 0) dX8_restore_1 (by decide) ?_
  refine pw_iconst (v := nI 1) dX8_restore_2 (by decide) ?_
  refine pw_cS3i dX8_restore_3 kX8_36 vX8_in sX8_in ⟨by decide, by decide⟩ ⟨rfl, rfl⟩ (Nat.le_of_ble_eq_true rfl) (c_X8_inN (by decide) (by decide) (fun j ej hjl hj => ?_) (fun hno => ?_))
  · skip
    subst ej
    refine pw_if_ne 12 dX8_restore_6 (by decide) (fun _ => ?_) (fun hh => absurd hh (by decide))
    refine pw_aload_0 dX8_restore_12 ?_
    refine pw_getr 8 4 dX8_restore_13 fX8_19 rfl (by decide) rfl h.t h.r4 ?_
    refine pw_iload_1 dX8_restore_16 ?_
    rcases hS : aS A j with _ | C
    · skip
      refine pw_zaldN dX8_restore_17 h.a4 (by omega) (by decide) ?_
      refine pw_top ((hx.2.2.1 j (by omega)).2 hS) ?_
      refine pw_if_ne 24 dX8_restore_18 (by decide) (fun hh => absurd hh (by decide)) (fun _ => ?_)
      refine pw_bipush (v := -5) dX8_restore_21 (by decide) ?_
      refine pw_ireturn dX8_restore_23 rfl ?_
      have hi2 : inN 2 (nI j) := ⟨j, by omega, rfl⟩
      have ei : ixN (nI j) = j := ixN_nI (by omega)
      have e1 : rsR A (nI j) = -5 := by unfold rsR; rw [cif_y hi2, ei, hS]; rfl
      have e2 : rsA A (nI j) = A := by unfold rsA; rw [cif_y hi2, ei, hS]; rfl
      rw [e1, e2] at q
      exact q _ (fun _ _ => rfl) hx
    · skip
      refine pw_zaldN dX8_restore_17 h.a4 (by omega) (by decide) ?_
      refine pw_top (((hx.2.2.1 j (by omega)).1 C hS).1) ?_
      refine pw_if_ne 24 dX8_restore_18 (by decide) (fun _ => ?_) (fun hh => absurd hh (by decide))
      refine pw_aload_0 dX8_restore_24 ?_
      refine pw_cV0v 8 dX8_restore_25 kX8_48 vX8_record iX8_record ⟨by decide, by decide⟩ ⟨rfl, rfl⟩ (by decide) rfl (Nat.le_of_ble_eq_true rfl) h.t (m_record h hx.2.1 hx.1 (fun μ1 f1 f2 hp1 => ?_))
      refine pw_iconst (v := nI 0) dX8_restore_28 (by decide) ?_
      refine pw_istore_2 dX8_restore_29 (by decide) ?_
      refine pw_mem (show _ = wC μ1 (m + 1) (cpF (μ1 (m + 1)) 0 (fun i => μ1 (m + 3) (j * 351 + i)) 0) from ?_) (pw_up (P := fun k => PW X mX8_restore 0 0 30 [some (.ref m), some (.int (nI j)), some (.int (nI k))] [] σ (wC μ1 (m + 1) (cpF (μ1 (m + 1)) 0 (fun i => μ1 (m + 3) (j * 351 + i)) k)) (LI Q)) 351 ?_ ?_ 0 (by omega))
      · rw [cp_0, wC_id]
      · skip
        have hz9 : ZR (cpF (μ1 (m + 1)) 0 (fun i => μ1 (m + 3) (j * 351 + i)) 351) C := ((hx.2.2.1 j (by omega)).1 C hS).2.cg fun i hi => by
          have := cp_in (f := μ1 (m + 1)) (g := fun i => μ1 (m + 3) (j * 351 + i)) (o := 0) hi
          rw [Nat.zero_add] at this
          rw [this, f1 _ (by omega) (by omega)]
        have wC1 := wa.2.2 j C hS
        refine pw_iload_2 dX8_restore_30 ?_
        refine pw_sipush (v := nI 351) dX8_restore_31 (by decide) ?_
        refine pw_icmp_ge 61 dX8_restore_34 (by decide) (fun _ => ?_) (fun hh => absurd (by rw [nI_leI (by omega) (by omega)]; omega) hh)
        refine pw_aload_0 dX8_restore_61 ?_
        refine pw_getr 8 0 dX8_restore_62 fX8_7 rfl (by decide) rfl h.t h.r0 ?_
        refine pw_bipush (v := nI 6) dX8_restore_65 (by decide) ?_
        refine pw_ialdN dX8_restore_67 h.a1 (by omega) (by decide) ?_
        refine pw_top (show _ = nI (nS C) by rw [wC_self, hz9.g (by omega)]; exact wC1.1.hn) ?_
        refine pw_ireturn dX8_restore_68 rfl ?_
        have hi2 : inN 2 (nI j) := ⟨j, by omega, rfl⟩
        have ei : ixN (nI j) = j := ixN_nI (by omega)
        have e1 : rsR A (nI j) = nI (nS C) := by unfold rsR; rw [cif_y hi2, ei, hS]; rfl
        have e2 : rsA A (nI j) = (C, pushH (aH A) (aB A), aS A, aP A) := by unfold rsA; rw [cif_y hi2, ei, hS]; rfl
        rw [e1, e2] at q
        obtain ⟨g1, g2⟩ := hx.fin f1 f2 hp1 (fun _ _ => rfl) hz9
        exact q _ g1 g2
      · intro k hk ih
        refine pw_iload_2 dX8_restore_30 ?_
        refine pw_sipush (v := nI 351) dX8_restore_31 (by decide) ?_
        refine pw_icmp_ge 61 dX8_restore_34 (by decide) (fun hh => absurd hh (by rw [nI_leI (by omega) (by omega)]; omega)) (fun _ => ?_)
        refine pw_aload_0 dX8_restore_37 ?_
        refine pw_getr 8 0 dX8_restore_38 fX8_7 rfl (by decide) rfl h.t h.r0 ?_
        refine pw_iload_2 dX8_restore_41 ?_
        refine pw_aload_0 dX8_restore_42 ?_
        refine pw_getr 8 3 dX8_restore_43 fX8_16 rfl (by decide) rfl h.t h.r3 ?_
        refine pw_iload_1 dX8_restore_46 ?_
        refine pw_sipush (v := nI 351) dX8_restore_47 (by decide) ?_
        refine pw_imulN dX8_restore_50 ?_
        refine pw_iload_2 dX8_restore_51 ?_
        refine pw_iaddN dX8_restore_52 ?_
        refine pw_ialdN dX8_restore_53 h.a3 (by omega) (by decide) ?_
        refine pw_iastN dX8_restore_54 h.a1 (by omega) (by decide) ?_
        refine pw_iincN_2 dX8_restore_55 (by decide) ?_
        refine pw_goto 30 dX8_restore_58 (by decide) ?_
        refine pw_mem ?_ ih
        rw [wr_wC_s, wC_ne _ _ (show m + 3 ≠ m + 1 by omega)]
        exact congrArg (wC _ _) (cp_s0 _ _ _)
  · skip
    refine pw_if_ne 12 dX8_restore_6 (by decide) (fun hh => absurd hh (by decide)) (fun _ => ?_)
    refine pw_bipush (v := -2) dX8_restore_9 (by decide) ?_
    refine pw_ireturn dX8_restore_11 rfl ?_
    have hi2 : ¬ inN 2 x := fun ⟨j, h1, e⟩ => hno j (by omega) (by omega) e
    have e1 : rsR A x = -2 := cif_n hi2
    have e2 : rsA A x = A := cif_n hi2
    rw [e1, e2] at q
    exact q _ (fun _ _ => rfl) hx
