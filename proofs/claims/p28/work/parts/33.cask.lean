/-! The class: what there is -/
set_option maxRecDepth 100000 in
set_option maxHeartbeats 4000000 in
theorem kf_ofWire {X : Cx} {σ : Sp} {μ : Mm} {Q : Int32 → Sp → Mm → Prop} {o x : Nat} {u v : Int32} {A : Aw} (hc : CX σ μ o x A) (wa : WA A) (q : Q (owR (aB A) u v) σ μ) : CTi X mX7_ofWire [.ref o, .int u, .int v] σ μ Q := by
  refine CT.of (by decide +kernel) (Nat.le_of_ble_eq_true rfl) ?_
  show PW X mX7_ofWire 0 0 0 [some (.ref o), some (.int u), some (.int v)] [] σ μ (LI Q)
  have wf := wa.1.1
  have h8 := wf.n8
  have hb : BU μ (o + 1) (aB A) μ := hc.2.1
  have h : ShBus σ (o + 1) := hc.1.now
  refine pw_iload_1 dX7_ofWire_0 ?_
  refine pw_cS1i dX7_ofWire_1 kX7_77 vX7_isWire sX7_isWire ⟨by decide, by decide⟩ ⟨rfl, rfl⟩ (Nat.le_of_ble_eq_true rfl) (c_X7_isWire (fun j ej hj => ?_) (fun hno => ?_))
  · skip
    subst ej
    refine pw_if_ne 9 dX7_ofWire_4 (by decide) (fun _ => ?_) (fun hh => absurd hh (by decide))
    refine pw_iload_2 dX7_ofWire_9 ?_
    rcases sw_out (x := v) (n := 6) (by decide) with hsw1 | ⟨ksw, hks, rfl⟩
    · skip
      refine pw_tabOut 128 dX7_ofWire_10 hsw1 (by decide) ?_
      refine pw_bipush (v := -2) dX7_ofWire_128 (by decide) ?_
      refine pw_ireturn dX7_ofWire_130 rfl ?_
      have ei : ixN (nI j) = j := ixN_nI (by omega)
      have e1 : owR (aB A) (nI j) v = -2 := by unfold owR; rw [cif_y (inN_ok hj), ow_out hsw1]
      rw [e1] at q
      exact q
    · match ksw, hks with
      | 0, _ =>
        refine pw_tabIn 52 dX7_ofWire_10 (by decide) (by decide) rfl (by decide) ?_
        refine pw_aload_0 dX7_ofWire_52 ?_
        refine pw_getr 7 0 dX7_ofWire_53 fX7_10 rfl (by decide) rfl hc.1.t hc.1.r0 ?_
        refine pw_getr 0 1 dX7_ofWire_56 fX7_81 rfl (by decide) rfl hc.1.now.t hc.1.now.r1 ?_
        refine pw_iload_1 dX7_ofWire_59 ?_
        refine pw_ialdN dX7_ofWire_60 hc.1.now.a2 (by omega) (by decide) ?_
        refine pw_top (hb.w0 (by omega)) ?_
        refine pw_ireturn dX7_ofWire_61 rfl ?_
        have ei : ixN (nI j) = j := ixN_nI (by omega)
        have e1 : owR (aB A) (nI j) (nI 0) = bW (aB A) j 0 := by unfold owR; rw [cif_y (inN_ok hj), ei]; rfl
        rw [e1] at q
        exact q
      | 1, _ =>
        refine pw_tabIn 62 dX7_ofWire_10 (by decide) (by decide) rfl (by decide) ?_
        refine pw_aload_0 dX7_ofWire_62 ?_
        refine pw_getr 7 0 dX7_ofWire_63 fX7_10 rfl (by decide) rfl hc.1.t hc.1.r0 ?_
        refine pw_iload_1 dX7_ofWire_66 ?_
        refine pw_cV1i 0 dX7_ofWire_67 kX7_85 vX0_hasFault iX0_hasFault ⟨by decide, by decide⟩ ⟨rfl, rfl⟩ (by decide) rfl (Nat.le_of_ble_eq_true rfl) hc.1.now.t (k_hasFault hc.1.now hb wf rfl (by omega) (fun h1 => ?_) (fun h2 => ?_))
        · skip
          refine pw_if_eq 77 dX7_ofWire_70 (by decide) (fun hh => absurd hh (by decide)) (fun _ => ?_)
          refine pw_iconst (v := nI 1) dX7_ofWire_73 (by decide) ?_
          refine pw_goto 78 dX7_ofWire_74 (by decide) ?_
          refine pw_ireturn dX7_ofWire_78 rfl ?_
          have ei : ixN (nI j) = j := ixN_nI (by omega)
          have e1 : owR (aB A) (nI j) (nI 1) = nI 1 := by unfold owR; rw [cif_y (inN_ok hj), ei]; exact h1
          rw [e1] at q
          exact q
        · skip
          refine pw_if_eq 77 dX7_ofWire_70 (by decide) (fun _ => ?_) (fun hh => absurd (by decide) hh)
          refine pw_iconst (v := nI 0) dX7_ofWire_77 (by decide) ?_
          refine pw_ireturn dX7_ofWire_78 rfl ?_
          have ei : ixN (nI j) = j := ixN_nI (by omega)
          have e1 : owR (aB A) (nI j) (nI 1) = nI 0 := by unfold owR; rw [cif_y (inN_ok hj), ei]; exact (wf.2.2.1 j hj).2.resolve_right h2
          rw [e1] at q
          exact q
      | 2, _ =>
        refine pw_tabIn 79 dX7_ofWire_10 (by decide) (by decide) rfl (by decide) ?_
        refine pw_aload_0 dX7_ofWire_79 ?_
        refine pw_getr 7 0 dX7_ofWire_80 fX7_10 rfl (by decide) rfl hc.1.t hc.1.r0 ?_
        refine pw_iload_1 dX7_ofWire_83 ?_
        refine pw_cV1i 0 dX7_ofWire_84 kX7_88 vX0_stationsAt iX0_stationsAt ⟨by decide, by decide⟩ ⟨rfl, rfl⟩ (by decide) rfl (Nat.le_of_ble_eq_true rfl) hc.1.now.t (k_stationsAt h hb wf rfl ?_)
        refine pw_ireturn dX7_ofWire_87 rfl ?_
        have ei : ixN (nI j) = j := ixN_nI (by omega)
        have e1 : owR (aB A) (nI j) (nI 2) = msk (fun s => atB (aB A) s (nI j)) (nS (aB A)) := by unfold owR; rw [cif_y (inN_ok hj), ei]; rfl
        rw [e1] at q
        exact q
      | 3, _ =>
        refine pw_tabIn 88 dX7_ofWire_10 (by decide) (by decide) rfl (by decide) ?_
        refine pw_aload_0 dX7_ofWire_88 ?_
        refine pw_getr 7 0 dX7_ofWire_89 fX7_10 rfl (by decide) rfl hc.1.t hc.1.r0 ?_
        refine pw_iconst (v := nI 1) dX7_ofWire_92 (by decide) ?_
        refine pw_iload_1 dX7_ofWire_93 ?_
        refine pw_ishl dX7_ofWire_94 ?_
        refine pw_cV1i 0 dX7_ofWire_95 kX7_91 vX0_speakersOn iX0_speakersOn ⟨by decide, by decide⟩ ⟨rfl, rfl⟩ (by decide) rfl (Nat.le_of_ble_eq_true rfl) hc.1.now.t (k_speakersOn h hb wf rfl hj ?_)
        refine pw_ireturn dX7_ofWire_98 rfl ?_
        have ei : ixN (nI j) = j := ixN_nI (by omega)
        have e1 : owR (aB A) (nI j) (nI 3) = msk (fun s => spB (aB A) s ∧ fwB (aB A) s = j) (nS (aB A)) := by unfold owR; rw [cif_y (inN_ok hj), ei]; rfl
        rw [e1] at q
        exact q
      | 4, _ =>
        refine pw_tabIn 99 dX7_ofWire_10 (by decide) (by decide) rfl (by decide) ?_
        refine pw_aload_0 dX7_ofWire_99 ?_
        refine pw_getr 7 0 dX7_ofWire_100 fX7_10 rfl (by decide) rfl hc.1.t hc.1.r0 ?_
        refine pw_iload_1 dX7_ofWire_103 ?_
        refine pw_cV1i 0 dX7_ofWire_104 kX7_94 vX0_waitingFor iX0_waitingFor ⟨by decide, by decide⟩ ⟨rfl, rfl⟩ (by decide) rfl (Nat.le_of_ble_eq_true rfl) hc.1.now.t (k_waitingFor h hb wf rfl ?_)
        refine pw_ireturn dX7_ofWire_107 rfl ?_
        have ei : ixN (nI j) = j := ixN_nI (by omega)
        have e1 : owR (aB A) (nI j) (nI 4) = nI (smN (fun s => wcB (aB A) s (nI j)) (nS (aB A))) := by unfold owR; rw [cif_y (inN_ok hj), ei]; rfl
        rw [e1] at q
        exact q
      | 5, _ =>
        refine pw_tabIn 108 dX7_ofWire_10 (by decide) (by decide) rfl (by decide) ?_
        refine pw_aload_0 dX7_ofWire_108 ?_
        refine pw_getr 7 0 dX7_ofWire_109 fX7_10 rfl (by decide) rfl hc.1.t hc.1.r0 ?_
        refine pw_getr 0 2 dX7_ofWire_112 fX7_97 rfl (by decide) rfl hc.1.now.t hc.1.now.r2 ?_
        refine pw_iload_1 dX7_ofWire_115 ?_
        refine pw_ialdN dX7_ofWire_116 hc.1.now.a3 (by omega) (by decide) ?_
        refine pw_top (hb.w2 (by omega)) ?_
        refine pw_ireturn dX7_ofWire_117 rfl ?_
        have ei : ixN (nI j) = j := ixN_nI (by omega)
        have e1 : owR (aB A) (nI j) (nI 5) = bW (aB A) j 2 := by unfold owR; rw [cif_y (inN_ok hj), ei]; rfl
        rw [e1] at q
        exact q
      | 6, _ =>
        refine pw_tabIn 118 dX7_ofWire_10 (by decide) (by decide) rfl (by decide) ?_
        refine pw_aload_0 dX7_ofWire_118 ?_
        refine pw_getr 7 0 dX7_ofWire_119 fX7_10 rfl (by decide) rfl hc.1.t hc.1.r0 ?_
        refine pw_getr 0 3 dX7_ofWire_122 fX7_100 rfl (by decide) rfl hc.1.now.t hc.1.now.r3 ?_
        refine pw_iload_1 dX7_ofWire_125 ?_
        refine pw_ialdN dX7_ofWire_126 hc.1.now.a4 (by omega) (by decide) ?_
        refine pw_top (hb.w3 (by omega)) ?_
        refine pw_ireturn dX7_ofWire_127 rfl ?_
        have ei : ixN (nI j) = j := ixN_nI (by omega)
        have e1 : owR (aB A) (nI j) (nI 6) = bW (aB A) j 3 := by unfold owR; rw [cif_y (inN_ok hj), ei]; rfl
        rw [e1] at q
        exact q
      | k + 7, hk => exact absurd hk (by omega)
  · skip
    refine pw_if_ne 9 dX7_ofWire_4 (by decide) (fun hh => absurd hh (by decide)) (fun _ => ?_)
    refine pw_iconst (v := -1) dX7_ofWire_7 (by decide) ?_
    refine pw_ireturn dX7_ofWire_8 rfl ?_
    have e1 : owR (aB A) u v = -1 := cif_n (inN_no hno)
    rw [e1] at q
    exact q
set_option maxRecDepth 100000 in
set_option maxHeartbeats 4000000 in
theorem kf_of {X : Cx} {σ : Sp} {μ : Mm} {Q : Int32 → Sp → Mm → Prop} {o x : Nat} {u v : Int32} {A : Aw} (hc : CX σ μ o x A) (wa : WA A) (q : Q (ofR (aB A) u v) σ μ) : CTi X mX7_of [.ref o, .int u, .int v] σ μ Q := by
  refine CT.of (by decide +kernel) (Nat.le_of_ble_eq_true rfl) ?_
  show PW X mX7_of 0 0 0 [some (.ref o), some (.int u), some (.int v), none] [] σ μ (LI Q)
  have wf := wa.1.1
  have h8 := wf.n8
  have hb : BU μ (o + 1) (aB A) μ := hc.2.1
  have h : ShBus σ (o + 1) := hc.1.now
  refine pw_aload_0 dX7_of_0 ?_
  refine pw_getr 7 0 dX7_of_1 fX7_10 rfl (by decide) rfl hc.1.t hc.1.r0 ?_
  refine pw_iload_1 dX7_of_4 ?_
  refine pw_cV1r 0 dX7_of_5 kX7_103 vX0_find iX0_find ⟨by decide, by decide⟩ ⟨rfl, rfl⟩ (by decide) rfl (Nat.le_of_ble_eq_true rfl) hc.1.now.t (k_find hc.1.now hb wf rfl (fun j ej hj => ?_) (fun hno => ?_))
  · skip
    subst ej
    refine pw_astore_3 dX7_of_8 (by decide) ?_
    refine pw_aload_3 dX7_of_9 ?_
    refine pw_nonnull 17 dX7_of_10 (by decide) ?_
    refine pw_aload_3 dX7_of_17 ?_
    refine pw_iload_2 dX7_of_18 ?_
    refine pw_cV1i 6 dX7_of_19 kX7_107 vX6_fact iX6_fact ⟨by decide, by decide⟩ ⟨rfl, rfl⟩ (by decide) rfl (Nat.le_of_ble_eq_true rfl) ((h.S (by omega))).t (k_fact h hb wf rfl (by omega) ?_)
    refine pw_ireturn dX7_of_22 rfl ?_
    have e1 : ofR (aB A) (nI j) v = faF (bS (aB A) j) v := by unfold ofR; rw [cif_y (inN_ok hj), ixN_nI (by omega)]
    rw [e1] at q
    exact q
  · skip
    refine pw_nastore_3 dX7_of_8 (by decide) ?_
    refine pw_naload_3 dX7_of_9 ?_
    refine pw_nonnullN dX7_of_10 ?_
    refine pw_iconst (v := -1) dX7_of_13 (by decide) ?_
    refine pw_goto 22 dX7_of_14 (by decide) ?_
    refine pw_ireturn dX7_of_22 rfl ?_
    have e1 : ofR (aB A) u v = -1 := cif_n (inN_no hno)
    rw [e1] at q
    exact q
set_option maxRecDepth 100000 in
set_option maxHeartbeats 4000000 in
theorem kf_row {X : Cx} {σ : Sp} {μ : Mm} {Q : Int32 → Sp → Mm → Prop} {o x : Nat} {u v y : Int32} {A : Aw} (hc : CX σ μ o x A) (wa : WA A) (q : Q (roR (aB A) u v y) σ μ) : CTi X mX7_row [.ref o, .int u, .int v, .int y] σ μ Q := by
  refine CT.of (by decide +kernel) (Nat.le_of_ble_eq_true rfl) ?_
  show PW X mX7_row 0 0 0 [some (.ref o), some (.int u), some (.int v), some (.int y), none] [] σ μ (LI Q)
  have wf := wa.1.1
  have h8 := wf.n8
  have hb : BU μ (o + 1) (aB A) μ := hc.2.1
  have h : ShBus σ (o + 1) := hc.1.now
  refine pw_aload_0 dX7_row_0 ?_
  refine pw_getr 7 0 dX7_row_1 fX7_10 rfl (by decide) rfl hc.1.t hc.1.r0 ?_
  refine pw_iload_1 dX7_row_4 ?_
  refine pw_cV1r 0 dX7_row_5 kX7_103 vX0_find iX0_find ⟨by decide, by decide⟩ ⟨rfl, rfl⟩ (by decide) rfl (Nat.le_of_ble_eq_true rfl) hc.1.now.t (k_find hc.1.now hb wf rfl (fun j ej hj => ?_) (fun hno => ?_))
  · skip
    subst ej
    refine pw_astore_4 dX7_row_8 (by decide) ?_
    refine pw_aload_4 dX7_row_10 ?_
    refine pw_ifnull dX7_row_12 ?_
    refine pw_aload_4 dX7_row_15 ?_
    refine pw_getr 6 1 dX7_row_17 fX7_112 rfl (by decide) rfl ((h.S (by omega))).t ((h.S (by omega))).r1 ?_
    refine pw_iload_2 dX7_row_20 ?_
    refine pw_cV1i 5 dX7_row_21 kX7_116 vX5_has iX5_has ⟨by decide, by decide⟩ ⟨rfl, rfl⟩ (by decide) rfl (Nat.le_of_ble_eq_true rfl) (((h.S (by omega)))).w (k_has h hb wf (by omega) (fun e ee he => ?_) (fun hne => ?_))
    · skip
      subst ee
      refine pw_if_ne 29 dX7_row_24 (by decide) (fun _ => ?_) (fun hh => absurd hh (by decide))
      have hw9 := (wf.w (i := j) (by omega)).2
      refine pw_iload_3 dX7_row_29 ?_
      rcases sw_out (x := y) (n := 2) (by decide) with hsw1 | ⟨ksw, hks, rfl⟩
      · skip
        refine pw_tabOut 86 dX7_row_30 hsw1 (by decide) ?_
        refine pw_bipush (v := -2) dX7_row_86 (by decide) ?_
        refine pw_ireturn dX7_row_88 rfl ?_
        have ei : ixN (nI j) = j := ixN_nI (by omega)
        have hw9 := (wf.w (i := j) (by omega)).2
        have ee : ixN (nI e) = e := ixN_nI (by omega)
        have hy : inN (nS (aB A)) (nI j) ∧ inN (nwF (bS (aB A) (ixN (nI j)))) (nI e) := ⟨inN_ok hj, by rw [ei]; exact inN_ok he⟩
        have e1 : roR (aB A) (nI j) (nI e) y = -2 := (cif_y hy).trans (cif_n (fun ⟨t, h1, e9⟩ => sw_ne (by decide) hsw1 (show t ≤ 2 by omega) e9))
        rw [e1] at q
        exact q
      · match ksw, hks with
        | 0, _ =>
          refine pw_tabIn 56 dX7_row_30 (by decide) (by decide) rfl (by decide) ?_
          refine pw_aload_4 dX7_row_56 ?_
          refine pw_getr 6 1 dX7_row_58 fX7_112 rfl (by decide) rfl ((h.S (by omega))).t ((h.S (by omega))).r1 ?_
          refine pw_iload_2 dX7_row_61 ?_
          refine pw_cV1i 5 dX7_row_62 kX7_121 vX5_numberAt iX5_numberAt ⟨by decide, by decide⟩ ⟨rfl, rfl⟩ (by decide) rfl (Nat.le_of_ble_eq_true rfl) (((h.S (by omega)))).w (k_numberAt h hb wf (by omega) (by omega) (fun _ => ?_) (fun hh => absurd hh (by omega)))
          refine pw_ireturn dX7_row_65 rfl ?_
          have ei : ixN (nI j) = j := ixN_nI (by omega)
          have hw9 := (wf.w (i := j) (by omega)).2
          have ee : ixN (nI e) = e := ixN_nI (by omega)
          have hy : inN (nS (aB A)) (nI j) ∧ inN (nwF (bS (aB A) (ixN (nI j)))) (nI e) := ⟨inN_ok hj, by rw [ei]; exact inN_ok he⟩
          have e1 : roR (aB A) (nI j) (nI e) (nI 0) = bS (aB A) j (5 + 3 * e) := by unfold roR; rw [cif_y hy, cif_y (inN_ok (show 0 < 3 by omega)), ei, ee, ixN_nI (by omega), show 5 + 3 * e + 0 = 5 + 3 * e by omega]
          rw [e1] at q
          exact q
        | 1, _ =>
          refine pw_tabIn 66 dX7_row_30 (by decide) (by decide) rfl (by decide) ?_
          refine pw_aload_4 dX7_row_66 ?_
          refine pw_getr 6 1 dX7_row_68 fX7_112 rfl (by decide) rfl ((h.S (by omega))).t ((h.S (by omega))).r1 ?_
          refine pw_iload_2 dX7_row_71 ?_
          refine pw_cV1i 5 dX7_row_72 kX7_124 vX5_wireAt iX5_wireAt ⟨by decide, by decide⟩ ⟨rfl, rfl⟩ (by decide) rfl (Nat.le_of_ble_eq_true rfl) (((h.S (by omega)))).w (k_wireAt h hb wf (by omega) (by omega) (fun _ => ?_) (fun hh => absurd hh (by omega)))
          refine pw_ireturn dX7_row_75 rfl ?_
          have ei : ixN (nI j) = j := ixN_nI (by omega)
          have hw9 := (wf.w (i := j) (by omega)).2
          have ee : ixN (nI e) = e := ixN_nI (by omega)
          have hy : inN (nS (aB A)) (nI j) ∧ inN (nwF (bS (aB A) (ixN (nI j)))) (nI e) := ⟨inN_ok hj, by rw [ei]; exact inN_ok he⟩
          have e1 : roR (aB A) (nI j) (nI e) (nI 1) = bS (aB A) j (6 + 3 * e) := by unfold roR; rw [cif_y hy, cif_y (inN_ok (show 1 < 3 by omega)), ei, ee, ixN_nI (by omega), show 5 + 3 * e + 1 = 6 + 3 * e by omega]
          rw [e1] at q
          exact q
        | 2, _ =>
          refine pw_tabIn 76 dX7_row_30 (by decide) (by decide) rfl (by decide) ?_
          refine pw_aload_4 dX7_row_76 ?_
          refine pw_getr 6 1 dX7_row_78 fX7_112 rfl (by decide) rfl ((h.S (by omega))).t ((h.S (by omega))).r1 ?_
          refine pw_iload_2 dX7_row_81 ?_
          refine pw_cV1i 5 dX7_row_82 kX7_127 vX5_triesAt iX5_triesAt ⟨by decide, by decide⟩ ⟨rfl, rfl⟩ (by decide) rfl (Nat.le_of_ble_eq_true rfl) (((h.S (by omega)))).w (k_triesAt h hb wf (by omega) (by omega) (fun _ => ?_) (fun hh => absurd hh (by omega)))
          refine pw_ireturn dX7_row_85 rfl ?_
          have ei : ixN (nI j) = j := ixN_nI (by omega)
          have hw9 := (wf.w (i := j) (by omega)).2
          have ee : ixN (nI e) = e := ixN_nI (by omega)
          have hy : inN (nS (aB A)) (nI j) ∧ inN (nwF (bS (aB A) (ixN (nI j)))) (nI e) := ⟨inN_ok hj, by rw [ei]; exact inN_ok he⟩
          have e1 : roR (aB A) (nI j) (nI e) (nI 2) = bS (aB A) j (7 + 3 * e) := by unfold roR; rw [cif_y hy, cif_y (inN_ok (show 2 < 3 by omega)), ei, ee, ixN_nI (by omega), show 5 + 3 * e + 2 = 7 + 3 * e by omega]
          rw [e1] at q
          exact q
        | k + 3, hk => exact absurd hk (by omega)
    · skip
      refine pw_if_ne 29 dX7_row_24 (by decide) (fun hh => absurd hh (by decide)) (fun _ => ?_)
      refine pw_iconst (v := -1) dX7_row_27 (by decide) ?_
      refine pw_ireturn dX7_row_28 rfl ?_
      have ei : ixN (nI j) = j := ixN_nI (by omega)
      have hw9 := (wf.w (i := j) (by omega)).2
      have e1 : roR (aB A) (nI j) v y = -1 := cif_n (fun hh => inN_no hne (by rw [← ei]; exact hh.2))
      rw [e1] at q
      exact q
  · skip
    refine pw_nastore_4 dX7_row_8 (by decide) ?_
    refine pw_naload_4 dX7_row_10 ?_
    refine pw_ifnullN 27 dX7_row_12 (by decide) ?_
    refine pw_iconst (v := -1) dX7_row_27 (by decide) ?_
    refine pw_ireturn dX7_row_28 rfl ?_
    have e1 : roR (aB A) u v y = -1 := cif_n (fun hh => inN_no hno hh.1)
    rw [e1] at q
    exact q
set_option maxRecDepth 100000 in
set_option maxHeartbeats 4000000 in
theorem kf_heard {X : Cx} {σ : Sp} {μ : Mm} {Q : Int32 → Sp → Mm → Prop} {o x : Nat} {u v y : Int32} {A : Aw} (hc : CX σ μ o x A) (wa : WA A) (q : Q (heR (aB A) u v y) σ μ) : CTi X mX7_heard [.ref o, .int u, .int v, .int y] σ μ Q := by
  refine CT.of (by decide +kernel) (Nat.le_of_ble_eq_true rfl) ?_
  show PW X mX7_heard 0 0 0 [some (.ref o), some (.int u), some (.int v), some (.int y), none] [] σ μ (LI Q)
  have wf := wa.1.1
  have h8 := wf.n8
  have hb : BU μ (o + 1) (aB A) μ := hc.2.1
  have h : ShBus σ (o + 1) := hc.1.now
  refine pw_aload_0 dX7_heard_0 ?_
  refine pw_getr 7 0 dX7_heard_1 fX7_10 rfl (by decide) rfl hc.1.t hc.1.r0 ?_
  refine pw_iload_1 dX7_heard_4 ?_
  refine pw_cV1r 0 dX7_heard_5 kX7_103 vX0_find iX0_find ⟨by decide, by decide⟩ ⟨rfl, rfl⟩ (by decide) rfl (Nat.le_of_ble_eq_true rfl) hc.1.now.t (k_find hc.1.now hb wf rfl (fun j ej hj => ?_) (fun hno => ?_))
  · skip
    subst ej
    refine pw_astore_4 dX7_heard_8 (by decide) ?_
    refine pw_aload_4 dX7_heard_10 ?_
    refine pw_ifnull dX7_heard_12 ?_
    refine pw_aload_4 dX7_heard_15 ?_
    refine pw_getr 6 2 dX7_heard_17 fX7_130 rfl (by decide) rfl ((h.S (by omega))).t ((h.S (by omega))).r2 ?_
    refine pw_iload_2 dX7_heard_20 ?_
    refine pw_cV1i 2 dX7_heard_21 kX7_134 vX2_has iX2_has ⟨by decide, by decide⟩ ⟨rfl, rfl⟩ (by decide) rfl (Nat.le_of_ble_eq_true rfl) (((h.S (by omega)))).l (c_X2_has (n := nkF (bS (aB A) j)) (h.S (by omega)) ((hb.sk (by omega)).trans (wf.k (by omega)).1) (wf.k (by omega)).2.1 (fun e ee he => ?_) (fun hne => ?_))
    · skip
      subst ee
      refine pw_if_ne 29 dX7_heard_24 (by decide) (fun _ => ?_) (fun hh => absurd hh (by decide))
      refine pw_aload_4 dX7_heard_29 ?_
      refine pw_getr 6 2 dX7_heard_31 fX7_130 rfl (by decide) rfl ((h.S (by omega))).t ((h.S (by omega))).r2 ?_
      refine pw_iload_2 dX7_heard_34 ?_
      refine pw_iload_3 dX7_heard_35 ?_
      refine pw_cV2i 2 dX7_heard_36 kX7_137 vX2_fact iX2_fact ⟨by decide, by decide⟩ ⟨rfl, rfl⟩ (by decide) rfl (Nat.le_of_ble_eq_true rfl) (((h.S (by omega)))).l (c_X2_fact (n := nkF (bS (aB A) j)) (h.S (by omega)) ((hb.sk (by omega)).trans (wf.k (by omega)).1) (wf.k (by omega)).2.1 he (fun t et ht => ?_) (fun hnt => ?_))
      · skip
        refine pw_ireturn dX7_heard_39 rfl ?_
        have ei : ixN (nI j) = j := ixN_nI (by omega)
        have hk9 := (wf.k (i := j) (by omega)).2.1
        have ee : ixN (nI e) = e := ixN_nI (by omega)
        have hy : inN (nS (aB A)) (nI j) ∧ inN (nkF (bS (aB A) (ixN (nI j)))) (nI e) := ⟨inN_ok hj, by rw [ei]; exact inN_ok he⟩
        subst et
        rw [hb.sf (i := j) (k := e * 4 + t) (by omega) (by omega)]
        have e1 : heR (aB A) (nI j) (nI e) (nI t) = bS (aB A) j (24 + (e * 4 + t)) := by unfold heR; rw [cif_y hy, cif_y (inN_ok ht), ei, ee, ixN_nI (by omega), show 24 + 4 * e + t = 24 + (e * 4 + t) by omega]
        rw [e1] at q
        exact q
      · skip
        refine pw_ireturn dX7_heard_39 rfl ?_
        have ei : ixN (nI j) = j := ixN_nI (by omega)
        have hk9 := (wf.k (i := j) (by omega)).2.1
        have ee : ixN (nI e) = e := ixN_nI (by omega)
        have hy : inN (nS (aB A)) (nI j) ∧ inN (nkF (bS (aB A) (ixN (nI j)))) (nI e) := ⟨inN_ok hj, by rw [ei]; exact inN_ok he⟩
        have e1 : heR (aB A) (nI j) (nI e) y = -2 := (cif_y hy).trans (cif_n (inN_no hnt))
        rw [e1] at q
        exact q
    · skip
      refine pw_if_ne 29 dX7_heard_24 (by decide) (fun hh => absurd hh (by decide)) (fun _ => ?_)
      refine pw_iconst (v := -1) dX7_heard_27 (by decide) ?_
      refine pw_ireturn dX7_heard_28 rfl ?_
      have ei : ixN (nI j) = j := ixN_nI (by omega)
      have hk9 := (wf.k (i := j) (by omega)).2.1
      have e1 : heR (aB A) (nI j) v y = -1 := cif_n (fun hh => inN_no hne (by rw [← ei]; exact hh.2))
      rw [e1] at q
      exact q
  · skip
    refine pw_nastore_4 dX7_heard_8 (by decide) ?_
    refine pw_naload_4 dX7_heard_10 ?_
    refine pw_ifnullN 27 dX7_heard_12 (by decide) ?_
    refine pw_iconst (v := -1) dX7_heard_27 (by decide) ?_
    refine pw_ireturn dX7_heard_28 rfl ?_
    have e1 : heR (aB A) u v y = -1 := cif_n (fun hh => inN_no hno hh.1)
    rw [e1] at q
    exact q
set_option maxRecDepth 100000 in
set_option maxHeartbeats 4000000 in
theorem kf_count {X : Cx} {σ : Sp} {μ : Mm} {Q : Int32 → Sp → Mm → Prop} {o x : Nat} {u : Int32} {A : Aw} (hc : CX σ μ o x A) (wa : WA A) (q : Q (ctF A u) σ μ) : CTi X mX7_count [.ref o, .int u] σ μ Q := by
  refine CT.of (by decide +kernel) (Nat.le_of_ble_eq_true rfl) ?_
  show PW X mX7_count 0 0 0 [some (.ref o), some (.int u)] [] σ μ (LI Q)
  have wf := wa.1.1
  have h8 := wf.n8
  have hb : BU μ (o + 1) (aB A) μ := hc.2.1
  have h : ShBus σ (o + 1) := hc.1.now
  refine pw_iload_1 dX7_count_0 ?_
  rcases sw_out (x := u) (n := 16) (by decide) with hsw1 | ⟨ksw, hks, rfl⟩
  · skip
    refine pw_tabOut 203 dX7_count_1 hsw1 (by decide) ?_
    refine pw_bipush (v := -2) dX7_count_203 (by decide) ?_
    refine pw_ireturn dX7_count_205 rfl ?_
    have e1 : ctF A u = -2 := ct_out hsw1
    rw [e1] at q
    exact q
  · match ksw, hks with
    | 0, _ =>
      refine pw_tabIn 84 dX7_count_1 (by decide) (by decide) rfl (by decide) ?_
      refine pw_aload_0 dX7_count_84 ?_
      refine pw_getr 7 0 dX7_count_85 fX7_10 rfl (by decide) rfl hc.1.t hc.1.r0 ?_
      refine pw_getI 0 7 dX7_count_88 fX7_139 rfl (by decide) rfl hc.1.now.t ?_
      refine pw_top hb.b ?_
      refine pw_ireturn dX7_count_91 rfl ?_
      exact q
    | 1, _ =>
      refine pw_tabIn 92 dX7_count_1 (by decide) (by decide) rfl (by decide) ?_
      refine pw_aload_0 dX7_count_92 ?_
      refine pw_getr 7 0 dX7_count_93 fX7_10 rfl (by decide) rfl hc.1.t hc.1.r0 ?_
      refine pw_getI 0 5 dX7_count_96 fX7_143 rfl (by decide) rfl hc.1.now.t ?_
      refine pw_top (hb.n wf rfl) ?_
      refine pw_ireturn dX7_count_99 rfl ?_
      exact q
    | 2, _ =>
      refine pw_tabIn 100 dX7_count_1 (by decide) (by decide) rfl (by decide) ?_
      refine pw_aload_0 dX7_count_100 ?_
      refine pw_getr 7 0 dX7_count_101 fX7_10 rfl (by decide) rfl hc.1.t hc.1.r0 ?_
      refine pw_bipush (v := nI 63) dX7_count_104 (by decide) ?_
      refine pw_cV1i 0 dX7_count_106 kX7_91 vX0_speakersOn iX0_speakersOn ⟨by decide, by decide⟩ ⟨rfl, rfl⟩ (by decide) rfl (Nat.le_of_ble_eq_true rfl) hc.1.now.t (k_speakersAll h hb wf rfl ?_)
      refine pw_ireturn dX7_count_109 rfl ?_
      exact q
    | 3, _ =>
      refine pw_tabIn 110 dX7_count_1 (by decide) (by decide) rfl (by decide) ?_
      refine pw_aload_0 dX7_count_110 ?_
      refine pw_getr 7 0 dX7_count_111 fX7_10 rfl (by decide) rfl hc.1.t hc.1.r0 ?_
      refine pw_cV0i 0 dX7_count_114 kX7_146 vX0_awakeStations iX0_awakeStations ⟨by decide, by decide⟩ ⟨rfl, rfl⟩ (by decide) rfl (Nat.le_of_ble_eq_true rfl) hc.1.now.t (k_awake h hb wf rfl ?_)
      refine pw_ireturn dX7_count_117 rfl ?_
      exact q
    | 4, _ =>
      refine pw_tabIn 118 dX7_count_1 (by decide) (by decide) rfl (by decide) ?_
      refine pw_aload_0 dX7_count_118 ?_
      refine pw_getr 7 0 dX7_count_119 fX7_10 rfl (by decide) rfl hc.1.t hc.1.r0 ?_
      refine pw_iconst (v := nI 3) dX7_count_122 (by decide) ?_
      refine pw_cV1i 0 dX7_count_123 kX7_150 vX0_sumOf iX0_sumOf ⟨by decide, by decide⟩ ⟨rfl, rfl⟩ (by decide) rfl (Nat.le_of_ble_eq_true rfl) hc.1.now.t (k_sumOf h hb wf rfl ?_)
      refine pw_ireturn dX7_count_126 rfl ?_
      exact q
    | 5, _ =>
      refine pw_tabIn 127 dX7_count_1 (by decide) (by decide) rfl (by decide) ?_
      refine pw_aload_0 dX7_count_127 ?_
      refine pw_getr 7 0 dX7_count_128 fX7_10 rfl (by decide) rfl hc.1.t hc.1.r0 ?_
      refine pw_bipush (v := nI 6) dX7_count_131 (by decide) ?_
      refine pw_cV1i 0 dX7_count_133 kX7_150 vX0_sumOf iX0_sumOf ⟨by decide, by decide⟩ ⟨rfl, rfl⟩ (by decide) rfl (Nat.le_of_ble_eq_true rfl) hc.1.now.t (k_sumOf h hb wf rfl ?_)
      refine pw_ireturn dX7_count_136 rfl ?_
      exact q
    | 6, _ =>
      refine pw_tabIn 137 dX7_count_1 (by decide) (by decide) rfl (by decide) ?_
      refine pw_aload_0 dX7_count_137 ?_
      refine pw_getr 7 0 dX7_count_138 fX7_10 rfl (by decide) rfl hc.1.t hc.1.r0 ?_
      refine pw_bipush (v := nI 7) dX7_count_141 (by decide) ?_
      refine pw_cV1i 0 dX7_count_143 kX7_150 vX0_sumOf iX0_sumOf ⟨by decide, by decide⟩ ⟨rfl, rfl⟩ (by decide) rfl (Nat.le_of_ble_eq_true rfl) hc.1.now.t (k_sumOf h hb wf rfl ?_)
      refine pw_ireturn dX7_count_146 rfl ?_
      exact q
    | 7, _ =>
      refine pw_tabIn 147 dX7_count_1 (by decide) (by decide) rfl (by decide) ?_
      refine pw_aload_0 dX7_count_147 ?_
      refine pw_getr 7 0 dX7_count_148 fX7_10 rfl (by decide) rfl hc.1.t hc.1.r0 ?_
      refine pw_bipush (v := nI 9) dX7_count_151 (by decide) ?_
      refine pw_cV1i 0 dX7_count_153 kX7_150 vX0_sumOf iX0_sumOf ⟨by decide, by decide⟩ ⟨rfl, rfl⟩ (by decide) rfl (Nat.le_of_ble_eq_true rfl) hc.1.now.t (k_sumOf h hb wf rfl ?_)
      refine pw_ireturn dX7_count_156 rfl ?_
      exact q
    | 8, _ =>
      refine pw_tabIn 157 dX7_count_1 (by decide) (by decide) rfl (by decide) ?_
      refine pw_aload_0 dX7_count_157 ?_
      refine pw_getr 7 0 dX7_count_158 fX7_10 rfl (by decide) rfl hc.1.t hc.1.r0 ?_
      refine pw_getI 0 6 dX7_count_161 fX7_153 rfl (by decide) rfl hc.1.now.t ?_
      refine pw_top hb.f ?_
      refine pw_ireturn dX7_count_164 rfl ?_
      exact q
    | 9, _ =>
      refine pw_tabIn 165 dX7_count_1 (by decide) (by decide) rfl (by decide) ?_
      refine pw_aload_0 dX7_count_165 ?_
      refine pw_getr 7 0 dX7_count_166 fX7_10 rfl (by decide) rfl hc.1.t hc.1.r0 ?_
      refine pw_iconst (v := nI 1) dX7_count_169 (by decide) ?_
      refine pw_cV1i 0 dX7_count_170 kX7_150 vX0_sumOf iX0_sumOf ⟨by decide, by decide⟩ ⟨rfl, rfl⟩ (by decide) rfl (Nat.le_of_ble_eq_true rfl) hc.1.now.t (k_sumOf h hb wf rfl ?_)
      refine pw_ireturn dX7_count_173 rfl ?_
      exact q
    | 10, _ =>
      refine pw_tabIn 174 dX7_count_1 (by decide) (by decide) rfl (by decide) ?_
      refine pw_aload_0 dX7_count_174 ?_
      refine pw_getr 7 0 dX7_count_175 fX7_10 rfl (by decide) rfl hc.1.t hc.1.r0 ?_
      refine pw_getr 0 0 dX7_count_178 fX7_156 rfl (by decide) rfl hc.1.now.t hc.1.now.r0 ?_
      refine pw_iload_1 dX7_count_181 ?_
      refine pw_bipush (v := nI 10) dX7_count_182 (by decide) ?_
      refine pw_isubN dX7_count_184 (by omega) ?_
      refine pw_ialdN dX7_count_185 hc.1.now.a1 (by omega) (by decide) ?_
      refine pw_top (hb.g (by omega)) ?_
      refine pw_ireturn dX7_count_186 rfl ?_
      exact q
    | 11, _ =>
      refine pw_tabIn 174 dX7_count_1 (by decide) (by decide) rfl (by decide) ?_
      refine pw_aload_0 dX7_count_174 ?_
      refine pw_getr 7 0 dX7_count_175 fX7_10 rfl (by decide) rfl hc.1.t hc.1.r0 ?_
      refine pw_getr 0 0 dX7_count_178 fX7_156 rfl (by decide) rfl hc.1.now.t hc.1.now.r0 ?_
      refine pw_iload_1 dX7_count_181 ?_
      refine pw_bipush (v := nI 10) dX7_count_182 (by decide) ?_
      refine pw_isubN dX7_count_184 (by omega) ?_
      refine pw_ialdN dX7_count_185 hc.1.now.a1 (by omega) (by decide) ?_
      refine pw_top (hb.g (by omega)) ?_
      refine pw_ireturn dX7_count_186 rfl ?_
      exact q
    | 12, _ =>
      refine pw_tabIn 174 dX7_count_1 (by decide) (by decide) rfl (by decide) ?_
      refine pw_aload_0 dX7_count_174 ?_
      refine pw_getr 7 0 dX7_count_175 fX7_10 rfl (by decide) rfl hc.1.t hc.1.r0 ?_
      refine pw_getr 0 0 dX7_count_178 fX7_156 rfl (by decide) rfl hc.1.now.t hc.1.now.r0 ?_
      refine pw_iload_1 dX7_count_181 ?_
      refine pw_bipush (v := nI 10) dX7_count_182 (by decide) ?_
      refine pw_isubN dX7_count_184 (by omega) ?_
      refine pw_ialdN dX7_count_185 hc.1.now.a1 (by omega) (by decide) ?_
      refine pw_top (hb.g (by omega)) ?_
      refine pw_ireturn dX7_count_186 rfl ?_
      exact q
    | 13, _ =>
      refine pw_tabIn 174 dX7_count_1 (by decide) (by decide) rfl (by decide) ?_
      refine pw_aload_0 dX7_count_174 ?_
      refine pw_getr 7 0 dX7_count_175 fX7_10 rfl (by decide) rfl hc.1.t hc.1.r0 ?_
      refine pw_getr 0 0 dX7_count_178 fX7_156 rfl (by decide) rfl hc.1.now.t hc.1.now.r0 ?_
      refine pw_iload_1 dX7_count_181 ?_
      refine pw_bipush (v := nI 10) dX7_count_182 (by decide) ?_
      refine pw_isubN dX7_count_184 (by omega) ?_
      refine pw_ialdN dX7_count_185 hc.1.now.a1 (by omega) (by decide) ?_
      refine pw_top (hb.g (by omega)) ?_
      refine pw_ireturn dX7_count_186 rfl ?_
      exact q
    | 14, _ =>
      refine pw_tabIn 174 dX7_count_1 (by decide) (by decide) rfl (by decide) ?_
      refine pw_aload_0 dX7_count_174 ?_
      refine pw_getr 7 0 dX7_count_175 fX7_10 rfl (by decide) rfl hc.1.t hc.1.r0 ?_
      refine pw_getr 0 0 dX7_count_178 fX7_156 rfl (by decide) rfl hc.1.now.t hc.1.now.r0 ?_
      refine pw_iload_1 dX7_count_181 ?_
      refine pw_bipush (v := nI 10) dX7_count_182 (by decide) ?_
      refine pw_isubN dX7_count_184 (by omega) ?_
      refine pw_ialdN dX7_count_185 hc.1.now.a1 (by omega) (by decide) ?_
      refine pw_top (hb.g (by omega)) ?_
      refine pw_ireturn dX7_count_186 rfl ?_
      exact q
    | 15, _ =>
      refine pw_tabIn 187 dX7_count_1 (by decide) (by decide) rfl (by decide) ?_
      refine pw_aload_0 dX7_count_187 ?_
      refine pw_getr 7 4 dX7_count_188 fX7_33 rfl (by decide) rfl hc.1.t hc.1.r4 ?_
      refine pw_getI 3 1 dX7_count_191 fX7_159 rfl (by decide) rfl hc.1.pad.t ?_
      refine pw_top (show _ = nI (aP A).2 from hc.2.2.2.2.2.1) ?_
      refine pw_ireturn dX7_count_194 rfl ?_
      exact q
    | 16, _ =>
      refine pw_tabIn 195 dX7_count_1 (by decide) (by decide) rfl (by decide) ?_
      refine pw_aload_0 dX7_count_195 ?_
      refine pw_getr 7 2 dX7_count_196 fX7_22 rfl (by decide) rfl hc.1.t hc.1.r2 ?_
      refine pw_getI 1 2 dX7_count_199 fX7_162 rfl (by decide) rfl hc.1.hist.t ?_
      refine pw_top (show _ = nI (aH A).2 from hc.2.2.2.1.2.2.1) ?_
      refine pw_ireturn dX7_count_202 rfl ?_
      exact q
    | k + 17, hk => exact absurd hk (by omega)
set_option maxRecDepth 100000 in
set_option maxHeartbeats 4000000 in
theorem kf_why {X : Cx} {σ : Sp} {μ : Mm} {Q : Int32 → Sp → Mm → Prop} {o x : Nat} {u : Int32} {A : Aw} (hc : CX σ μ o x A) (wa : WA A) (q : Q (whR (aB A) u) σ μ) : CTi X mX7_why [.ref o, .int u] σ μ Q := by
  refine CT.of (by decide +kernel) (Nat.le_of_ble_eq_true rfl) ?_
  show PW X mX7_why 0 0 0 [some (.ref o), some (.int u), none, none] [] σ μ (LI Q)
  have wf := wa.1.1
  have h8 := wf.n8
  have hb : BU μ (o + 1) (aB A) μ := hc.2.1
  have h : ShBus σ (o + 1) := hc.1.now
  refine pw_aload_0 dX7_why_0 ?_
  refine pw_getr 7 0 dX7_why_1 fX7_10 rfl (by decide) rfl hc.1.t hc.1.r0 ?_
  refine pw_iload_1 dX7_why_4 ?_
  refine pw_cV1r 0 dX7_why_5 kX7_103 vX0_find iX0_find ⟨by decide, by decide⟩ ⟨rfl, rfl⟩ (by decide) rfl (Nat.le_of_ble_eq_true rfl) hc.1.now.t (k_find hc.1.now hb wf rfl (fun j ej hj => ?_) (fun hno => ?_))
  · skip
    subst ej
    refine pw_astore_2 dX7_why_8 (by decide) ?_
    refine pw_aload_2 dX7_why_9 ?_
    refine pw_nonnull 15 dX7_why_10 (by decide) ?_
    refine pw_aload_2 dX7_why_15 ?_
    refine pw_cV0i 6 dX7_why_16 kX7_163 vX6_isSpeaking iX6_isSpeaking ⟨by decide, by decide⟩ ⟨rfl, rfl⟩ (by decide) rfl (Nat.le_of_ble_eq_true rfl) ((h.S (by omega))).t (k_isSpeaking h hb wf (by omega) (fun h1 => ?_) (fun h2 => ?_))
    · skip
      refine pw_if_eq 24 dX7_why_19 (by decide) (fun hh => absurd hh (by decide)) (fun _ => ?_)
      refine pw_iconst (v := nI 1) dX7_why_22 (by decide) ?_
      refine pw_ireturn dX7_why_23 rfl ?_
      have ei : ixN (nI j) = j := ixN_nI (by omega)
      have z9 := (wf.s hj).2.1
      have hw9 := (wf.w (i := j) (by omega)).2
      have e1 : whR (aB A) (nI j) = nI 1 := by unfold whR whF; rw [cif_y (inN_ok hj), ei, cif_y h1]
      rw [e1] at q
      exact q
    · skip
      refine pw_if_eq 24 dX7_why_19 (by decide) (fun _ => ?_) (fun hh => absurd (by decide) hh)
      refine pw_aload_2 dX7_why_24 ?_
      refine pw_getI 6 6 dX7_why_25 fX7_167 rfl (by decide) rfl ((h.S (by omega))).t ?_
      refine pw_top (hb.s6 (by omega)) ?_
      refine pw_if_eq 33 dX7_why_28 (by decide) (fun h3 => ?_) (fun h3 => ?_)
      · skip
        refine pw_aload_2 dX7_why_33 ?_
        refine pw_getI 6 5 dX7_why_34 fX7_171 rfl (by decide) rfl ((h.S (by omega))).t ?_
        refine pw_top (hb.s5 (by omega)) ?_
        refine pw_if_eq 42 dX7_why_37 (by decide) (fun h4 => ?_) (fun h4 => ?_)
        · skip
          refine pw_aload_2 dX7_why_42 ?_
          refine pw_getr 6 1 dX7_why_43 fX7_112 rfl (by decide) rfl ((h.S (by omega))).t ((h.S (by omega))).r1 ?_
          refine pw_getI 5 3 dX7_why_46 fX7_174 rfl (by decide) rfl (((h.S (by omega)))).w ?_
          refine pw_top ((hb.sl (by omega)).trans (wf.w (by omega)).1) ?_
          refine pw_if_ne 54 dX7_why_49 (by decide) (fun h5 => ?_) (fun h5 => ?_)
          · skip
            have h0 : 0 < nwF (bS (aB A) j) := Nat.pos_of_ne_zero (fun e => h5 (by rw [e]; rfl))
            obtain ⟨-, y, y6, hy⟩ := (wf.s hj).word h0
            have hy : bS (aB A) j 6 = nI y := hy
            refine pw_aload_2 dX7_why_54 ?_
            refine pw_getr 6 1 dX7_why_55 fX7_112 rfl (by decide) rfl ((h.S (by omega))).t ((h.S (by omega))).r1 ?_
            refine pw_iconst (v := nI 0) dX7_why_58 (by decide) ?_
            refine pw_cV1i 5 dX7_why_59 kX7_124 vX5_wireAt iX5_wireAt ⟨by decide, by decide⟩ ⟨rfl, rfl⟩ (by decide) rfl (Nat.le_of_ble_eq_true rfl) (((h.S (by omega)))).w (k_wire0 h hb wf (by omega) h0 ?_)
            refine pw_top hy ?_
            refine pw_istore_3 dX7_why_62 (by decide) ?_
            refine pw_aload_0 dX7_why_63 ?_
            refine pw_getr 7 0 dX7_why_64 fX7_10 rfl (by decide) rfl hc.1.t hc.1.r0 ?_
            refine pw_iload_3 dX7_why_67 ?_
            refine pw_cV1i 0 dX7_why_68 kX7_175 vX0_isRested iX0_isRested ⟨by decide, by decide⟩ ⟨rfl, rfl⟩ (by decide) rfl (Nat.le_of_ble_eq_true rfl) hc.1.now.t (k_isRested hc.1.now hb wf rfl (by omega) (fun h6 => ?_) (fun h7 => ?_))
            · skip
              refine pw_if_eq 76 dX7_why_71 (by decide) (fun hh => absurd hh (by decide)) (fun _ => ?_)
              refine pw_iconst (v := nI 0) dX7_why_74 (by decide) ?_
              refine pw_ireturn dX7_why_75 rfl ?_
              have ei : ixN (nI j) = j := ixN_nI (by omega)
              have z9 := (wf.s hj).2.1
              have hw9 := (wf.w (i := j) (by omega)).2
              have e1 : whR (aB A) (nI j) = nI 0 := by unfold whR whF; rw [cif_y (inN_ok hj), ei, cif_n h2, cif_n (fun e => absurd (e.symm.trans h3) (by decide)), cif_n (fun e => absurd (e.symm.trans h4) (by decide)), cif_n (fun e => h5 (by rw [e]; rfl)), fw_of hy y6, cif_y h6]
              rw [e1] at q
              exact q
            · skip
              refine pw_if_eq 76 dX7_why_71 (by decide) (fun _ => ?_) (fun hh => absurd (by decide) hh)
              refine pw_aload_0 dX7_why_76 ?_
              refine pw_getr 7 0 dX7_why_77 fX7_10 rfl (by decide) rfl hc.1.t hc.1.r0 ?_
              refine pw_iload_3 dX7_why_80 ?_
              refine pw_cV1i 0 dX7_why_81 kX7_85 vX0_hasFault iX0_hasFault ⟨by decide, by decide⟩ ⟨rfl, rfl⟩ (by decide) rfl (Nat.le_of_ble_eq_true rfl) hc.1.now.t (k_hasFault hc.1.now hb wf rfl (by omega) (fun h8 => ?_) (fun h9 => ?_))
              · skip
                refine pw_if_eq 91 dX7_why_84 (by decide) (fun hh => absurd hh (by decide)) (fun _ => ?_)
                refine pw_iconst (v := nI 5) dX7_why_87 (by decide) ?_
                refine pw_goto 93 dX7_why_88 (by decide) ?_
                refine pw_ireturn dX7_why_93 rfl ?_
                have ei : ixN (nI j) = j := ixN_nI (by omega)
                have z9 := (wf.s hj).2.1
                have hw9 := (wf.w (i := j) (by omega)).2
                have e1 : whR (aB A) (nI j) = nI 5 := by unfold whR whF; rw [cif_y (inN_ok hj), ei, cif_n h2, cif_n (fun e => absurd (e.symm.trans h3) (by decide)), cif_n (fun e => absurd (e.symm.trans h4) (by decide)), cif_n (fun e => h5 (by rw [e]; rfl)), fw_of hy y6, cif_n h7, cif_y h8]
                rw [e1] at q
                exact q
              · skip
                refine pw_if_eq 91 dX7_why_84 (by decide) (fun _ => ?_) (fun hh => absurd (by decide) hh)
                refine pw_bipush (v := nI 6) dX7_why_91 (by decide) ?_
                refine pw_ireturn dX7_why_93 rfl ?_
                have ei : ixN (nI j) = j := ixN_nI (by omega)
                have z9 := (wf.s hj).2.1
                have hw9 := (wf.w (i := j) (by omega)).2
                have e1 : whR (aB A) (nI j) = nI 6 := by unfold whR whF; rw [cif_y (inN_ok hj), ei, cif_n h2, cif_n (fun e => absurd (e.symm.trans h3) (by decide)), cif_n (fun e => absurd (e.symm.trans h4) (by decide)), cif_n (fun e => h5 (by rw [e]; rfl)), fw_of hy y6, cif_n h7, cif_n h9]
                rw [e1] at q
                exact q
          · skip
            refine pw_iconst (v := nI 4) dX7_why_52 (by decide) ?_
            refine pw_ireturn dX7_why_53 rfl ?_
            have ei : ixN (nI j) = j := ixN_nI (by omega)
            have z9 := (wf.s hj).2.1
            have hw9 := (wf.w (i := j) (by omega)).2
            have e1 : whR (aB A) (nI j) = nI 4 := by unfold whR whF; rw [cif_y (inN_ok hj), ei, cif_n h2, cif_n (fun e => absurd (e.symm.trans h3) (by decide)), cif_n (fun e => absurd (e.symm.trans h4) (by decide)), cif_y (show nwF (bS (aB A) j) = 0 from (nI_eq (by omega) (by omega)).mp h5)]
            rw [e1] at q
            exact q
        · skip
          refine pw_iconst (v := nI 3) dX7_why_40 (by decide) ?_
          refine pw_ireturn dX7_why_41 rfl ?_
          have ei : ixN (nI j) = j := ixN_nI (by omega)
          have z9 := (wf.s hj).2.1
          have hw9 := (wf.w (i := j) (by omega)).2
          have e1 : whR (aB A) (nI j) = nI 3 := by unfold whR whF; rw [cif_y (inN_ok hj), ei, cif_n h2, cif_n (fun e => absurd (e.symm.trans h3) (by decide)), cif_y (z9.1.resolve_left h4)]
          rw [e1] at q
          exact q
      · skip
        refine pw_iconst (v := nI 2) dX7_why_31 (by decide) ?_
        refine pw_ireturn dX7_why_32 rfl ?_
        have ei : ixN (nI j) = j := ixN_nI (by omega)
        have z9 := (wf.s hj).2.1
        have hw9 := (wf.w (i := j) (by omega)).2
        have e1 : whR (aB A) (nI j) = nI 2 := by unfold whR whF; rw [cif_y (inN_ok hj), ei, cif_n h2, cif_y (z9.2.resolve_left h3)]
        rw [e1] at q
        exact q
  · skip
    refine pw_nastore_2 dX7_why_8 (by decide) ?_
    refine pw_naload_2 dX7_why_9 ?_
    refine pw_nonnullN dX7_why_10 ?_
    refine pw_iconst (v := -1) dX7_why_13 (by decide) ?_
    refine pw_ireturn dX7_why_14 rfl ?_
    have e1 : whR (aB A) u = -1 := cif_n (inN_no hno)
    rw [e1] at q
    exact q
set_option maxRecDepth 100000 in
set_option maxHeartbeats 4000000 in
theorem kf_busiest {X : Cx} {σ : Sp} {μ : Mm} {Q : Int32 → Sp → Mm → Prop} {o x : Nat} {A : Aw} (hc : CX σ μ o x A) (wa : WA A) (q : Q (buR (aB A)) σ μ) : CTi X mX7_busiest [.ref o] σ μ Q := by
  refine CT.of (by decide +kernel) (Nat.le_of_ble_eq_true rfl) ?_
  show PW X mX7_busiest 0 0 0 [some (.ref o), none, none, none, none] [] σ μ (LI Q)
  have wf := wa.1.1
  have h8 := wf.n8
  have hb : BU μ (o + 1) (aB A) μ := hc.2.1
  have h : ShBus σ (o + 1) := hc.1.now
  refine pw_bipush (v := -6) dX7_busiest_0 (by decide) ?_
  refine pw_istore_1 dX7_busiest_2 (by decide) ?_
  refine pw_iconst (v := nI 0) dX7_busiest_3 (by decide) ?_
  refine pw_istore_2 dX7_busiest_4 (by decide) ?_
  refine pw_iconst (v := nI 0) dX7_busiest_5 (by decide) ?_
  refine pw_istore_3 dX7_busiest_6 (by decide) ?_
  refine pw_fg (ls' := [some (.ref o), some (.int ((itr (buS (aB A)) 0 (-6, 0)).1)), some (.int (nI ((itr (buS (aB A)) 0 (-6, 0)).2))), some (.int (nI 0)), none]) ⟨Or.inr rfl, Or.inr rfl, Or.inr rfl, Or.inr rfl, Or.inl rfl, trivial⟩ ?_
  refine pw_up (P := fun k => PW X mX7_busiest 0 0 7 [some (.ref o), some (.int ((itr (buS (aB A)) k (-6, 0)).1)), some (.int (nI ((itr (buS (aB A)) k (-6, 0)).2))), some (.int (nI k)), none] [] σ μ (LI Q)) 6 ?_ ?_ 0 (by omega)
  · skip
    refine pw_iload_3 dX7_busiest_7 ?_
    refine pw_bipush (v := nI 6) dX7_busiest_8 (by decide) ?_
    refine pw_icmp_ge 40 dX7_busiest_10 (by decide) (fun _ => ?_) (fun hh => absurd (by rw [nI_leI (by omega) (by omega)]; omega) hh)
    refine pw_iload_1 dX7_busiest_40 ?_
    refine pw_ireturn dX7_busiest_41 rfl ?_
    exact q
  · intro k hk ih
    have ih2 : PW X mX7_busiest 0 0 7 [some (.ref o), some (.int ((buS (aB A) k (itr (buS (aB A)) k (-6, 0))).1)), some (.int (nI ((buS (aB A) k (itr (buS (aB A)) k (-6, 0))).2))), some (.int (nI ((k + 1)))), none] [] σ μ (LI Q) := ih
    have hb9 := bu_le wf k
    have hw9 := wt_le (v := k) wf
    have hw8 : smN (fun s => wcB (aB A) s (nI k)) (nS (aB A)) ≤ 32 := hw9
    clear ih
    generalize (itr (buS (aB A)) k (-6, 0)) = C at ih2 hb9 ⊢
    refine pw_iload_3 dX7_busiest_7 ?_
    refine pw_bipush (v := nI 6) dX7_busiest_8 (by decide) ?_
    refine pw_icmp_ge 40 dX7_busiest_10 (by decide) (fun hh => absurd hh (by rw [nI_leI (by omega) (by omega)]; omega)) (fun _ => ?_)
    refine pw_aload_0 dX7_busiest_13 ?_
    refine pw_getr 7 0 dX7_busiest_14 fX7_10 rfl (by decide) rfl hc.1.t hc.1.r0 ?_
    refine pw_iload_3 dX7_busiest_17 ?_
    refine pw_cV1i 0 dX7_busiest_18 kX7_94 vX0_waitingFor iX0_waitingFor ⟨by decide, by decide⟩ ⟨rfl, rfl⟩ (by decide) rfl (Nat.le_of_ble_eq_true rfl) hc.1.now.t (k_waitingFor h hb wf rfl ?_)
    refine pw_istore_4 dX7_busiest_21 (by decide) ?_
    refine pw_iload_4 dX7_busiest_23 ?_
    refine pw_iload_2 dX7_busiest_25 ?_
    refine pw_icmp_le 34 dX7_busiest_26 (by decide) (fun h1 => ?_) (fun h1 => ?_)
    · skip
      refine pw_iincN_3 dX7_busiest_34 (by decide) ?_
      refine pw_goto 7 dX7_busiest_37 (by decide) ?_
      have hlt : ¬ C.2 < wtB (aB A) k := by
        have h95 := h1
        rw [nI_leI (by omega) (by omega)] at h95
        have : wtB (aB A) k = smN (fun s => wcB (aB A) s (nI k)) (nS (aB A)) := rfl
        omega
      rw [bu_n hlt] at ih2
      refine pw_fg (ls' := [some (.ref o), some (.int C.1), some (.int (nI C.2)), some (.int (nI ((k + 1)))), none]) ⟨Or.inr rfl, Or.inr rfl, Or.inr rfl, Or.inr rfl, Or.inl rfl, trivial⟩ ih2
    · skip
      refine pw_iload_3 dX7_busiest_29 ?_
      refine pw_istore_1 dX7_busiest_30 (by decide) ?_
      refine pw_iload_4 dX7_busiest_31 ?_
      refine pw_istore_2 dX7_busiest_33 (by decide) ?_
      refine pw_iincN_3 dX7_busiest_34 (by decide) ?_
      refine pw_goto 7 dX7_busiest_37 (by decide) ?_
      have hlt : C.2 < wtB (aB A) k := by
        have h95 := h1
        rw [nI_leI (by omega) (by omega)] at h95
        have : wtB (aB A) k = smN (fun s => wcB (aB A) s (nI k)) (nS (aB A)) := rfl
        omega
      rw [bu_y hlt] at ih2
      refine pw_fg (ls' := [some (.ref o), some (.int (nI k)), some (.int (nI (wtB (aB A) k))), some (.int (nI ((k + 1)))), none]) ⟨Or.inr rfl, Or.inr rfl, Or.inr rfl, Or.inr rfl, Or.inl rfl, trivial⟩ ih2

