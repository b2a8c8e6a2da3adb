/-! The class: endsIn, bestRest -/
theorem k_findN {X : Cx} {σ : Sp} {μ : Mm} {Q : Option Nat → Sp → Mm → Prop} {μ0 : Mm} {b n j : Nat} {B : Bs} (h : ShBus σ b) (hb : BU μ0 b B μ) (wf : WF B) (hn : nS B = n) (hj : j < n) (q : Q (some (st b j)) σ μ) : CTr X mX0_find [.ref b, .int (nI j)] σ μ Q := by
  have h8 := wf.n8
  refine k_find h hb wf hn (fun i ei hi => ?_) (fun hno => absurd rfl (hno j hj))
  rw [(nI_eq (by omega) (by omega)).mp ei] at q
  exact q
theorem tr_c0 {f g h : Nat → Int32} (a : T0 f g) (c : T0 g h ∨ T1 g h ∨ T2 g h) (e1 : h 19 = f 19) (e2 : h 20 = f 20) : T0 f h := by
  rcases c with c | c | c
  · exact ⟨c.1.trans a.1, c.2.1.trans a.2.1, c.2.2.trans a.2.2⟩
  · exact absurd (c.1.symm.trans (e1.trans a.1.symm)) (add1_ne _)
  · exact absurd (c.2.1.symm.trans (e2.trans a.2.1.symm)) (add1_ne _)
theorem tr_c1 {f g h : Nat → Int32} (a : T0 f g) (c : T0 g h ∨ T1 g h ∨ T2 g h) (e1 : ¬ h 19 = f 19) : h 19 = f 19 + nI 1 ∧ nwF h + 1 = nwF f := by
  rcases c with c | c | c
  · exact absurd (c.1.trans a.1) e1
  · exact ⟨by rw [c.1, a.1], by rw [← a.2.2]; exact c.2.2⟩
  · exact absurd (c.1.trans a.1) e1
theorem tr_c2 {f g h : Nat → Int32} (a : T0 f g) (c : T0 g h ∨ T1 g h ∨ T2 g h) (e1 : h 19 = f 19) (e2 : ¬ h 20 = f 20) : nwF h + 1 = nwF f := by
  rcases c with c | c | c
  · exact absurd (c.2.1.trans a.2.1) e2
  · exact absurd (c.1.symm.trans (e1.trans a.1.symm)) (add1_ne _)
  · rw [← a.2.2]
    exact c.2.2
theorem lt_add1 {x : Int32} {g : Nat} (h : x = nI g) (hg : g ≤ 99999) : x < x + nI 1 := by
  rw [h, nI_add]
  exact nI_lt (by omega) (by omega)
set_option maxRecDepth 100000 in
set_option maxHeartbeats 4000000 in
theorem kf_endsIn {X : Cx} {σ : Sp} {μ : Mm} {Q : Int32 → Sp → Mm → Prop} {o x : Nat} {u v : Int32} {A : Aw} (hc : CX σ μ o x A) (wa : WA A) (q : ∀ μ', CX σ μ' o x A → FX μ o μ' → Q (enR (aB A) u v) σ μ') : CTi X mX7_endsIn [.ref o, .int u, .int v] σ μ Q := by
  refine CT.of (by decide +kernel) (Nat.le_of_ble_eq_true rfl) ?_
  show PW X mX7_endsIn 0 0 0 [some (.ref o), some (.int u), some (.int v), none, none, none] [] σ μ (LI Q)
  have wf := wa.1.1
  have h8 := wf.n8
  have hb : BU μ (o + 1) (aB A) μ := hc.2.1
  have h : ShBus σ (o + 1) := hc.1.now
  refine pw_aload_0 dX7_endsIn_0 ?_
  refine pw_getr 7 0 dX7_endsIn_1 fX7_10 rfl (by decide) rfl hc.1.t hc.1.r0 ?_
  refine pw_iload_1 dX7_endsIn_4 ?_
  refine pw_cV1r 0 dX7_endsIn_5 kX7_103 vX0_find iX0_find ⟨by decide, by decide⟩ ⟨rfl, rfl⟩ (by decide) rfl (Nat.le_of_ble_eq_true rfl) hc.1.now.t (k_find hc.1.now hb wf rfl (fun j ej hj => ?_) (fun hno => ?_))
  · skip
    subst ej
    refine pw_astore_3 dX7_endsIn_8 (by decide) ?_
    refine pw_aload_3 dX7_endsIn_9 ?_
    refine pw_nonnull 15 dX7_endsIn_10 (by decide) ?_
    refine pw_iload_2 dX7_endsIn_15 ?_
    refine pw_if_lt 24 dX7_endsIn_16 (by decide) (fun h1 => ?_) (fun h1 => ?_)
    · skip
      refine pw_bipush (v := -2) dX7_endsIn_24 (by decide) ?_
      refine pw_ireturn dX7_endsIn_26 rfl ?_
      have ei : ixN (nI j) = j := ixN_nI (by omega)
      have e1 : enR (aB A) (nI j) v = -2 := (cif_y (inN_ok hj)).trans (cif_n (fun ⟨k, h1, e9⟩ => by subst e9; exact nI_pos (by omega) h1))
      rw [e1] at q
      exact q _ hc (fun _ _ _ => rfl)
    · skip
      refine pw_iload_2 dX7_endsIn_19 ?_
      refine pw_iconst (v := nI 1) dX7_endsIn_20 (by decide) ?_
      refine pw_icmp_le 27 dX7_endsIn_21 (by decide) (fun h2 => ?_) (fun h2 => ?_)
      · skip
        have hin9 := in_of (lo := 0) (hi := 1) (by decide) (by decide) h1 h2
        obtain ⟨-, ht1, hvt⟩ := hin9
        generalize v.toNatClampNeg = t at ht1 hvt
        subst hvt
        have hw9 := (wf.w (i := j) (by omega)).2
        refine pw_aload_3 dX7_endsIn_27 ?_
        refine pw_getr 6 1 dX7_endsIn_28 fX7_112 rfl (by decide) rfl ((h.S (by omega))).t ((h.S (by omega))).r1 ?_
        refine pw_getI 5 3 dX7_endsIn_31 fX7_174 rfl (by decide) rfl (((h.S (by omega)))).w ?_
        refine pw_top ((hb.sl (by omega)).trans (wf.w (by omega)).1) ?_
        refine pw_if_ne 40 dX7_endsIn_34 (by decide) (fun h3 => ?_) (fun h3 => ?_)
        · skip
          refine pw_aload_0 dX7_endsIn_40 ?_
          refine pw_getr 7 1 dX7_endsIn_41 fX7_16 rfl (by decide) rfl hc.1.t hc.1.r1 ?_
          refine pw_aload_0 dX7_endsIn_44 ?_
          refine pw_getr 7 0 dX7_endsIn_45 fX7_10 rfl (by decide) rfl hc.1.t hc.1.r0 ?_
          refine pw_cV1v 0 dX7_endsIn_48 kX7_178 vX0_copyFrom iX0_copyFrom ⟨by decide, by decide⟩ ⟨rfl, rfl⟩ (by decide) rfl (Nat.le_of_ble_eq_true rfl) hc.1.trial.t (k_copyFrom hc.1.trial hc.1.now (by omega) hb wf hc.2.2.1 (fun μ1 hb1 => ?_))
          have ht : ShBus σ (o + 63) := hc.1.trial
          refine pw_aload_0 dX7_endsIn_51 ?_
          refine pw_getr 7 1 dX7_endsIn_52 fX7_16 rfl (by decide) rfl hc.1.t hc.1.r1 ?_
          refine pw_iload_1 dX7_endsIn_55 ?_
          refine pw_cV1r 0 dX7_endsIn_56 kX7_103 vX0_find iX0_find ⟨by decide, by decide⟩ ⟨rfl, rfl⟩ (by decide) rfl (Nat.le_of_ble_eq_true rfl) hc.1.trial.t (k_findN ht hb1 wf rfl hj ?_)
          refine pw_astore_4 dX7_endsIn_59 (by decide) ?_
          refine pw_aload_4 dX7_endsIn_61 ?_
          refine pw_nonnull 68 dX7_endsIn_63 (by decide) ?_
          refine pw_iconst (v := nI 1) dX7_endsIn_68 (by decide) ?_
          refine pw_istore_5 dX7_endsIn_69 (by decide) ?_
          refine pw_up (P := fun k => ∀ μ1, BU μ (o + 63) (bk (aB A) k) μ1 → (∀ i9, i9 ≤ k → T0 (bS (aB A) j) (bS (bk (aB A) i9) j)) → PW X mX7_endsIn 0 0 71 [some (.ref o), some (.int (nI j)), some (.int (nI t)), some (.ref (st (o + 1) j)), some (.ref (st (o + 63) j)), some (.int (nI (k + 1)))] [] σ μ1 (LI Q)) 600 ?_ ?_ 0 (by omega) _ hb1 (fun i9 hi9 => by rw [show i9 = 0 by omega]; exact T0.rf _)
          · intro μ1 hb1 hno9
            refine pw_iload_5 dX7_endsIn_71 ?_
            refine pw_sipush (v := nI 600) dX7_endsIn_73 (by decide) ?_
            refine pw_icmp_gt 139 dX7_endsIn_76 (by decide) (fun _ => ?_) (fun hh => absurd (by rw [nI_ltI (by omega) (by omega)]; omega) hh)
            refine pw_bipush (v := -6) dX7_endsIn_139 (by decide) ?_
            refine pw_ireturn dX7_endsIn_141 rfl ?_
            have ei : ixN (nI j) = j := ixN_nI (by omega)
            have ht2 : inN 2 (nI t) := inN_ok (by omega)
            have hw0 : nwF (bS (aB A) j) ≠ 0 := fun e => h3 (by rw [e]; rfl)
            have e1 : enR (aB A) (nI j) (nI t) = -6 := by unfold enR; rw [cif_y (inN_ok hj), cif_y ht2, ei, if_neg hw0, en_n (fun i9 h95 e => e (hno9 i9 (by omega)).2.2)]
            rw [e1] at q
            exact q _ (hc.trial hb1).1 (hc.trial hb1).2
          · intro k hk ih μ1 hb1 hno9
            refine pw_iload_5 dX7_endsIn_71 ?_
            refine pw_sipush (v := nI 600) dX7_endsIn_73 (by decide) ?_
            refine pw_icmp_gt 139 dX7_endsIn_76 (by decide) (fun hh => absurd hh (by rw [nI_ltI (by omega) (by omega)]; omega)) (fun _ => ?_)
            refine pw_aload_0 dX7_endsIn_79 ?_
            refine pw_getr 7 1 dX7_endsIn_80 fX7_16 rfl (by decide) rfl hc.1.t hc.1.r1 ?_
            refine pw_cV0i 0 dX7_endsIn_83 kX7_181 vX0_passBeat iX0_passBeat ⟨by decide, by decide⟩ ⟨rfl, rfl⟩ (by decide) rfl (Nat.le_of_ble_eq_true rfl) hc.1.trial.t (k_passBeat ht hb1 (bk_wf wf k) (fun μ2 hb2 => ?_))
            have hnow : BU μ2 (o + 1) (aB A) μ2 := hb2.mv hb (by omega)
            have tr := bt_TR (bk_wf wf k) (s := j) (by rw [bk_n]; exact hj)
            have hk0 := hno9 k (Nat.le_refl k)
            refine pw_pop dX7_endsIn_86 ?_
            refine pw_aload_4 dX7_endsIn_87 ?_
            refine pw_getI 6 11 dX7_endsIn_89 fX7_184 rfl (by decide) rfl ((ht.S (by omega))).t ?_
            refine pw_top (hb2.s11 (by omega)) ?_
            refine pw_aload_3 dX7_endsIn_92 ?_
            refine pw_getI 6 11 dX7_endsIn_93 fX7_184 rfl (by decide) rfl ((h.S (by omega))).t ?_
            refine pw_top (hnow.s11 (by omega)) ?_
            refine pw_icmp_eq 110 dX7_endsIn_96 (by decide) (fun h4 => ?_) (fun h4 => ?_)
            · skip
              refine pw_aload_4 dX7_endsIn_110 ?_
              refine pw_getI 6 12 dX7_endsIn_112 fX7_187 rfl (by decide) rfl ((ht.S (by omega))).t ?_
              refine pw_top (hb2.s12 (by omega)) ?_
              refine pw_aload_3 dX7_endsIn_115 ?_
              refine pw_getI 6 12 dX7_endsIn_116 fX7_187 rfl (by decide) rfl ((h.S (by omega))).t ?_
              refine pw_top (hnow.s12 (by omega)) ?_
              refine pw_icmp_eq 133 dX7_endsIn_119 (by decide) (fun h5 => ?_) (fun h5 => ?_)
              · skip
                refine pw_iincN_5 dX7_endsIn_133 (by decide) ?_
                refine pw_goto 71 dX7_endsIn_136 (by decide) ?_
                refine ih μ2 hb2 (fun i9 h95 => ?_)
                rcases Nat.lt_or_ge k i9 with q9 | q9
                · rw [show i9 = k + 1 by omega]
                  exact tr_c0 hk0 tr h4 h5
                · exact hno9 i9 q9
              · skip
                refine pw_iload_2 dX7_endsIn_122 ?_
                refine pw_if_ne 131 dX7_endsIn_123 (by decide) (fun h6 => ?_) (fun h6 => ?_)
                · skip
                  refine pw_iconst (v := nI 2) dX7_endsIn_131 (by decide) ?_
                  refine pw_ireturn dX7_endsIn_132 rfl ?_
                  have ei : ixN (nI j) = j := ixN_nI (by omega)
                  have ht2 : inN 2 (nI t) := inN_ok (by omega)
                  have hw0 : nwF (bS (aB A) j) ≠ 0 := fun e => h3 (by rw [e]; rfl)
                  have t2 := tr_c2 hk0 tr h4 h5
                  have hp9 : enP (aB A) j (k + 1) := fun e => by have : nwF (bS (bk (aB A) (k + 1)) j) + 1 = nwF (bS (aB A) j) := t2; omega
                  have e1 : enR (aB A) (nI j) (nI t) = nI 2 := by unfold enR; rw [cif_y (inN_ok hj), cif_y ht2, ei, if_neg hw0, en_y hp9 (by omega) (fun i9 h95 e => e (hno9 i9 (by omega)).2.2)]; exact (if_neg h6).trans (if_neg (show ¬ bS (aB A) j 19 < bS (bk (aB A) (k + 1)) j 19 by rw [show bS (bk (aB A) (k + 1)) j 19 = bS (aB A) j 19 from h4]; exact fun h95 => Int32.lt_irrefl h95))
                  rw [e1] at q
                  exact q _ (hc.trial hb2).1 (hc.trial hb2).2
                · skip
                  refine pw_iload_5 dX7_endsIn_126 ?_
                  refine pw_goto 132 dX7_endsIn_128 (by decide) ?_
                  refine pw_ireturn dX7_endsIn_132 rfl ?_
                  have ei : ixN (nI j) = j := ixN_nI (by omega)
                  have ht2 : inN 2 (nI t) := inN_ok (by omega)
                  have hw0 : nwF (bS (aB A) j) ≠ 0 := fun e => h3 (by rw [e]; rfl)
                  have t2 := tr_c2 hk0 tr h4 h5
                  have hp9 : enP (aB A) j (k + 1) := fun e => by have : nwF (bS (bk (aB A) (k + 1)) j) + 1 = nwF (bS (aB A) j) := t2; omega
                  have e1 : enR (aB A) (nI j) (nI t) = nI (k + 1) := by unfold enR; rw [cif_y (inN_ok hj), cif_y ht2, ei, if_neg hw0, en_y hp9 (by omega) (fun i9 h95 e => e (hno9 i9 (by omega)).2.2)]; exact if_pos h6
                  rw [e1] at q
                  exact q _ (hc.trial hb2).1 (hc.trial hb2).2
            · skip
              refine pw_iload_2 dX7_endsIn_99 ?_
              refine pw_if_ne 108 dX7_endsIn_100 (by decide) (fun h7 => ?_) (fun h7 => ?_)
              · skip
                refine pw_iconst (v := nI 1) dX7_endsIn_108 (by decide) ?_
                refine pw_ireturn dX7_endsIn_109 rfl ?_
                have ei : ixN (nI j) = j := ixN_nI (by omega)
                have ht2 : inN 2 (nI t) := inN_ok (by omega)
                have hw0 : nwF (bS (aB A) j) ≠ 0 := fun e => h3 (by rw [e]; rfl)
                obtain ⟨t1, t2⟩ := tr_c1 hk0 tr h4
                have hp9 : enP (aB A) j (k + 1) := fun e => by have : nwF (bS (bk (aB A) (k + 1)) j) + 1 = nwF (bS (aB A) j) := t2; omega
                obtain ⟨g, g9, -, hgs⟩ := wa.1.2
                obtain ⟨gg, hgg, hge⟩ := hgs j (by omega)
                have e1 : enR (aB A) (nI j) (nI t) = nI 1 := by unfold enR; rw [cif_y (inN_ok hj), cif_y ht2, ei, if_neg hw0, en_y hp9 (by omega) (fun i9 h95 e => e (hno9 i9 (by omega)).2.2)]; exact (if_neg h7).trans (if_pos (show bS (aB A) j 19 < bS (bk (aB A) (k + 1)) j 19 by rw [show bS (bk (aB A) (k + 1)) j 19 = bS (aB A) j 19 + nI 1 from t1]; exact lt_add1 hge (by omega)))
                rw [e1] at q
                exact q _ (hc.trial hb2).1 (hc.trial hb2).2
              · skip
                refine pw_iload_5 dX7_endsIn_103 ?_
                refine pw_goto 109 dX7_endsIn_105 (by decide) ?_
                refine pw_ireturn dX7_endsIn_109 rfl ?_
                have ei : ixN (nI j) = j := ixN_nI (by omega)
                have ht2 : inN 2 (nI t) := inN_ok (by omega)
                have hw0 : nwF (bS (aB A) j) ≠ 0 := fun e => h3 (by rw [e]; rfl)
                obtain ⟨t1, t2⟩ := tr_c1 hk0 tr h4
                have hp9 : enP (aB A) j (k + 1) := fun e => by have : nwF (bS (bk (aB A) (k + 1)) j) + 1 = nwF (bS (aB A) j) := t2; omega
                have e1 : enR (aB A) (nI j) (nI t) = nI (k + 1) := by unfold enR; rw [cif_y (inN_ok hj), cif_y ht2, ei, if_neg hw0, en_y hp9 (by omega) (fun i9 h95 e => e (hno9 i9 (by omega)).2.2)]; exact if_pos h7
                rw [e1] at q
                exact q _ (hc.trial hb2).1 (hc.trial hb2).2
        · skip
          refine pw_bipush (v := -5) dX7_endsIn_37 (by decide) ?_
          refine pw_ireturn dX7_endsIn_39 rfl ?_
          have ei : ixN (nI j) = j := ixN_nI (by omega)
          have ht2 : inN 2 (nI t) := inN_ok (by omega)
          have e1 : enR (aB A) (nI j) (nI t) = -5 := by unfold enR; rw [cif_y (inN_ok hj), cif_y ht2, ei]; exact if_pos (show nwF (bS (aB A) j) = 0 from (nI_eq (by omega) (by omega)).mp h3)
          rw [e1] at q
          exact q _ hc (fun _ _ _ => rfl)
      · skip
        refine pw_bipush (v := -2) dX7_endsIn_24 (by decide) ?_
        refine pw_ireturn dX7_endsIn_26 rfl ?_
        have ei : ixN (nI j) = j := ixN_nI (by omega)
        have e1 : enR (aB A) (nI j) v = -2 := (cif_y (inN_ok hj)).trans (cif_n (fun ⟨k, h1, e9⟩ => by subst e9; have h95 := h2; rw [nI_leI (by omega) (by omega)] at h95; omega))
        rw [e1] at q
        exact q _ hc (fun _ _ _ => rfl)
  · skip
    refine pw_nastore_3 dX7_endsIn_8 (by decide) ?_
    refine pw_naload_3 dX7_endsIn_9 ?_
    refine pw_nonnullN dX7_endsIn_10 ?_
    refine pw_iconst (v := -1) dX7_endsIn_13 (by decide) ?_
    refine pw_ireturn dX7_endsIn_14 rfl ?_
    have e1 : enR (aB A) u v = -1 := cif_n (inN_no hno)
    rw [e1] at q
    exact q _ hc (fun _ _ _ => rfl)
theorem se0 {B : Bs} {r : Nat} (wf : WF B) (h1 : 1 ≤ r) (h2 : r ≤ 20) : seN B (nI 0) (nI r) = setG B 0 (nI r) := by
  have hy : seP (nI 0) (nI r) := ⟨0, by omega, rfl, (show nI 1 ≤ nI r from nI_le h1 (by omega)), (show nI r ≤ nI 20 from nI_le h2 (by omega))⟩
  unfold seN
  rw [cif_y hy, ixN_nI (by omega), se_id wf (by omega) (by omega)]
set_option maxRecDepth 100000 in
set_option maxHeartbeats 4000000 in
theorem k_hwr {X : Cx} {σ : Sp} {μ : Mm} {Q : Int32 → Sp → Mm → Prop} {o x : Nat} {r bt : Nat} {A : Aw} (hc : CX σ μ o x A) (wa : WA A) (hr1 : 1 ≤ r) (hr2 : r ≤ 20) (hb9 : bt ≤ 200) (q : ∀ μ', CX σ μ' o x A → FX μ o μ' → Q (nI (brN (aB A) bt r)) σ μ') : CTi X mX7_heardWithRest [.ref o, .int (nI r), .int (nI bt)] σ μ Q := by
  refine CT.of (by decide +kernel) (Nat.le_of_ble_eq_true rfl) ?_
  show PW X mX7_heardWithRest 0 0 0 [some (.ref o), some (.int (nI r)), some (.int (nI bt)), none, none] [] σ μ (LI Q)
  have wf := wa.1.1
  have h8 := wf.n8
  have hb : BU μ (o + 1) (aB A) μ := hc.2.1
  have h : ShBus σ (o + 1) := hc.1.now
  refine pw_aload_0 dX7_heardWithRest_0 ?_
  refine pw_getr 7 1 dX7_heardWithRest_1 fX7_16 rfl (by decide) rfl hc.1.t hc.1.r1 ?_
  refine pw_aload_0 dX7_heardWithRest_4 ?_
  refine pw_getr 7 0 dX7_heardWithRest_5 fX7_10 rfl (by decide) rfl hc.1.t hc.1.r0 ?_
  refine pw_cV1v 0 dX7_heardWithRest_8 kX7_178 vX0_copyFrom iX0_copyFrom ⟨by decide, by decide⟩ ⟨rfl, rfl⟩ (by decide) rfl (Nat.le_of_ble_eq_true rfl) hc.1.trial.t (k_copyFrom hc.1.trial hc.1.now (by omega) hb wf hc.2.2.1 (fun μ1 hb1 => ?_))
  refine pw_aload_0 dX7_heardWithRest_11 ?_
  refine pw_getr 7 1 dX7_heardWithRest_12 fX7_16 rfl (by decide) rfl hc.1.t hc.1.r1 ?_
  refine pw_iconst (v := nI 0) dX7_heardWithRest_15 (by decide) ?_
  refine pw_iload_1 dX7_heardWithRest_16 ?_
  refine pw_cV2i 0 dX7_heardWithRest_17 kX7_50 vX0_changeSetting iX0_changeSetting ⟨by decide, by decide⟩ ⟨rfl, rfl⟩ (by decide) rfl (Nat.le_of_ble_eq_true rfl) hc.1.trial.t (k_set hc.1.trial hb1 wf rfl (fun μ2 hb2 => ?_))
  rw [se0 wf hr1 hr2] at hb2
  refine pw_pop dX7_heardWithRest_20 ?_
  refine pw_iconst (v := nI 0) dX7_heardWithRest_21 (by decide) ?_
  refine pw_istore_3 dX7_heardWithRest_22 (by decide) ?_
  refine pw_iconst (v := nI 0) dX7_heardWithRest_23 (by decide) ?_
  refine pw_istore_4 dX7_heardWithRest_24 (by decide) ?_
  have wf2 := wf_g0 (r := r) wf (by omega)
  refine pw_up (P := fun k => ∀ μ1, BU μ (o + 63) (btI k (setG (aB A) 0 (nI r))).1 μ1 → PW X mX7_heardWithRest 0 0 26 [some (.ref o), some (.int (nI r)), some (.int (nI bt)), some (.int (nI ((btI k (setG (aB A) 0 (nI r))).2))), some (.int (nI k))] [] σ μ1 (LI Q)) bt ?_ ?_ 0 (by omega) _ hb2
  · intro μ3 hb3
    refine pw_iload_4 dX7_heardWithRest_26 ?_
    refine pw_iload_2 dX7_heardWithRest_28 ?_
    refine pw_icmp_ge 58 dX7_heardWithRest_29 (by decide) (fun _ => ?_) (fun hh => absurd (by rw [nI_leI (by omega) (by omega)]; omega) hh)
    refine pw_iload_3 dX7_heardWithRest_58 ?_
    refine pw_ireturn dX7_heardWithRest_59 rfl ?_
    exact q _ (hc.trial hb3).1 (hc.trial hb3).2
  · intro k hk ih μ3 hb3
    have wf3 := bI_wf wf2 k
    have ih2 : ∀ μ1, BU μ (o + 63) (btO (btI k (setG (aB A) 0 (nI r))).1) μ1 → PW X mX7_heardWithRest 0 0 26 [some (.ref o), some (.int (nI r)), some (.int (nI bt)), some (.int (nI ((btI k (setG (aB A) 0 (nI r))).2 + btN (btI k (setG (aB A) 0 (nI r))).1))), some (.int (nI ((k + 1))))] [] σ μ1 (LI Q) := ih
    refine pw_iload_4 dX7_heardWithRest_26 ?_
    refine pw_iload_2 dX7_heardWithRest_28 ?_
    refine pw_icmp_ge 58 dX7_heardWithRest_29 (by decide) (fun hh => absurd hh (by rw [nI_leI (by omega) (by omega)]; omega)) (fun _ => ?_)
    refine pw_aload_0 dX7_heardWithRest_32 ?_
    refine pw_getr 7 1 dX7_heardWithRest_33 fX7_16 rfl (by decide) rfl hc.1.t hc.1.r1 ?_
    refine pw_cV0i 0 dX7_heardWithRest_36 kX7_190 vX0_hasWords iX0_hasWords ⟨by decide, by decide⟩ ⟨rfl, rfl⟩ (by decide) rfl (Nat.le_of_ble_eq_true rfl) hc.1.trial.t (k_hasWords hc.1.trial hb3 wf3 rfl (fun hw => ?_) (fun hw => ?_))
    · skip
      refine pw_if_eq 58 dX7_heardWithRest_39 (by decide) (fun hh => absurd hh (by decide)) (fun _ => ?_)
      refine pw_iload_3 dX7_heardWithRest_42 ?_
      refine pw_aload_0 dX7_heardWithRest_43 ?_
      refine pw_getr 7 1 dX7_heardWithRest_44 fX7_16 rfl (by decide) rfl hc.1.t hc.1.r1 ?_
      refine pw_cV0i 0 dX7_heardWithRest_47 kX7_181 vX0_passBeat iX0_passBeat ⟨by decide, by decide⟩ ⟨rfl, rfl⟩ (by decide) rfl (Nat.le_of_ble_eq_true rfl) hc.1.trial.t (k_passBeat hc.1.trial hb3 wf3 (fun μ4 hb4 => ?_))
      refine pw_iaddN dX7_heardWithRest_50 ?_
      refine pw_istore_3 dX7_heardWithRest_51 (by decide) ?_
      refine pw_iincN_4 dX7_heardWithRest_52 (by decide) ?_
      refine pw_goto 26 dX7_heardWithRest_55 (by decide) ?_
      exact ih2 _ hb4
    · skip
      refine pw_if_eq 58 dX7_heardWithRest_39 (by decide) (fun _ => ?_) (fun hh => absurd (by decide) hh)
      refine pw_iload_3 dX7_heardWithRest_58 ?_
      refine pw_ireturn dX7_heardWithRest_59 rfl ?_
      have e2 := (bI_NW wf2 k (fun s hs => hw s hs) (bt - k)).2
      rw [show k + (bt - k) = bt by omega] at e2
      have e1 : brN (aB A) bt r = (btI k (setG (aB A) 0 (nI r))).2 := e2
      rw [e1] at q
      exact q _ (hc.trial hb3).1 (hc.trial hb3).2
set_option maxRecDepth 100000 in
set_option maxHeartbeats 4000000 in
theorem kf_bestRest {X : Cx} {σ : Sp} {μ : Mm} {Q : Int32 → Sp → Mm → Prop} {o x : Nat} {u v : Int32} {A : Aw} (hc : CX σ μ o x A) (wa : WA A) (q : ∀ μ', CX σ μ' o x A → FX μ o μ' → Q (brR (aB A) u v) σ μ') : CTi X mX7_bestRest [.ref o, .int u, .int v] σ μ Q := by
  refine CT.of (by decide +kernel) (Nat.le_of_ble_eq_true rfl) ?_
  show PW X mX7_bestRest 0 0 0 [some (.ref o), some (.int u), some (.int v), none, none, none, none] [] σ μ (LI Q)
  have wf := wa.1.1
  refine pw_iload_1 dX7_bestRest_0 ?_
  refine pw_iconst (v := nI 1) dX7_bestRest_1 (by decide) ?_
  refine pw_icmp_lt 21 dX7_bestRest_2 (by decide) (fun h1 => ?_) (fun h1 => ?_)
  · skip
    refine pw_bipush (v := -2) dX7_bestRest_21 (by decide) ?_
    refine pw_ireturn dX7_bestRest_23 rfl ?_
    have e1 : brR (aB A) u v = -2 := cif_n (fun ⟨⟨k, h1, h2, e⟩, _⟩ => by subst e; have h95 := h1; rw [nI_ltI (by omega) (by omega)] at h95; omega)
    rw [e1] at q
    exact q _ hc (fun _ _ _ => rfl)
  · skip
    refine pw_iload_1 dX7_bestRest_5 ?_
    refine pw_sipush (v := nI 200) dX7_bestRest_6 (by decide) ?_
    refine pw_icmp_gt 21 dX7_bestRest_9 (by decide) (fun h2 => ?_) (fun h2 => ?_)
    · skip
      refine pw_bipush (v := -2) dX7_bestRest_21 (by decide) ?_
      refine pw_ireturn dX7_bestRest_23 rfl ?_
      have e1 : brR (aB A) u v = -2 := cif_n (fun ⟨⟨k, h1, h2, e⟩, _⟩ => by subst e; have h95 := h2; rw [nI_ltI (by omega) (by omega)] at h95; omega)
      rw [e1] at q
      exact q _ hc (fun _ _ _ => rfl)
    · skip
      refine pw_iload_2 dX7_bestRest_12 ?_
      refine pw_if_lt 21 dX7_bestRest_13 (by decide) (fun h3 => ?_) (fun h3 => ?_)
      · skip
        refine pw_bipush (v := -2) dX7_bestRest_21 (by decide) ?_
        refine pw_ireturn dX7_bestRest_23 rfl ?_
        have e1 : brR (aB A) u v = -2 := cif_n (fun ⟨_, k, h1, e⟩ => by subst e; exact nI_pos (by omega) h3)
        rw [e1] at q
        exact q _ hc (fun _ _ _ => rfl)
      · skip
        refine pw_iload_2 dX7_bestRest_16 ?_
        refine pw_iconst (v := nI 1) dX7_bestRest_17 (by decide) ?_
        refine pw_icmp_le 24 dX7_bestRest_18 (by decide) (fun h4 => ?_) (fun h4 => ?_)
        · skip
          have hin8 := in_of (lo := 1) (hi := 200) (by decide) (by decide) h1 (Int32.not_lt.mp h2)
          obtain ⟨hb1, hb, hub⟩ := hin8
          generalize u.toNatClampNeg = b at hb1 hb hub
          subst hub
          have hin9 := in_of (lo := 0) (hi := 1) (by decide) (by decide) h3 h4
          obtain ⟨-, ht1, hvt⟩ := hin9
          generalize v.toNatClampNeg = t at ht1 hvt
          subst hvt
          refine pw_gets (n := "LOWEST") (t := (cxT X).2.1) dX7_bestRest_24 fX7_193 (fun s S => S.2.2.2.2.1.2.1) ?_
          refine pw_iconst (v := nI 0) dX7_bestRest_27 (by decide) ?_
          refine pw_tald (f := pw_LO) dX7_bestRest_28 (fun s S => ⟨S.2.2.2.2.2.1.2.1, S.2.2.2.2.2.2.1.2.1⟩) (vp_in_nI (by decide) (by decide)) ?_
          refine pw_top (show _ = nI 1 from rfl) ?_
          refine pw_istore_3 dX7_bestRest_29 (by decide) ?_
          refine pw_iconst (v := nI 0) dX7_bestRest_30 (by decide) ?_
          refine pw_istore_4 dX7_bestRest_31 (by decide) ?_
          refine pw_gets (n := "LOWEST") (t := (cxT X).2.1) dX7_bestRest_33 fX7_193 (fun s S => S.2.2.2.2.1.2.1) ?_
          refine pw_iconst (v := nI 0) dX7_bestRest_36 (by decide) ?_
          refine pw_tald (f := pw_LO) dX7_bestRest_37 (fun s S => ⟨S.2.2.2.2.2.1.2.1, S.2.2.2.2.2.2.1.2.1⟩) (vp_in_nI (by decide) (by decide)) ?_
          refine pw_top (show _ = nI 1 from rfl) ?_
          refine pw_istore_5 dX7_bestRest_38 (by decide) ?_
          refine pw_fg (ls' := [some (.ref o), some (.int (nI b)), some (.int (nI t)), some (.int ((brI (aB A) b 0).1)), some (.int (nI ((brI (aB A) b 0).2))), some (.int (nI (0 + 1))), none]) ⟨Or.inr rfl, Or.inr rfl, Or.inr rfl, Or.inr rfl, Or.inr rfl, Or.inr rfl, Or.inl rfl, trivial⟩ ?_
          refine pw_up (P := fun k => ∀ μ1, CX σ μ1 o x A → FX μ o μ1 → PW X mX7_bestRest 0 0 40 [some (.ref o), some (.int (nI b)), some (.int (nI t)), some (.int ((brI (aB A) b k).1)), some (.int (nI ((brI (aB A) b k).2))), some (.int (nI (k + 1))), none] [] σ μ1 (LI Q)) 20 ?_ ?_ 0 (by omega) _ hc (fun _ _ _ => rfl)
          · intro μ1 hx1 hf1
            refine pw_iload_5 dX7_bestRest_40 ?_
            refine pw_gets (n := "GREATEST") (t := (cxT X).2.2) dX7_bestRest_42 fX7_196 (fun s S => S.2.2.2.2.1.2.2) ?_
            refine pw_iconst (v := nI 0) dX7_bestRest_45 (by decide) ?_
            refine pw_tald (f := pw_GR) dX7_bestRest_46 (fun s S => ⟨S.2.2.2.2.2.1.2.2, S.2.2.2.2.2.2.1.2.2⟩) (vp_in_nI (by decide) (by decide)) ?_
            refine pw_top (show _ = nI 20 from rfl) ?_
            refine pw_icmp_gt 79 dX7_bestRest_47 (by decide) (fun _ => ?_) (fun hh => absurd (by rw [nI_ltI (by omega) (by omega)]; omega) hh)
            refine pw_iload_2 dX7_bestRest_79 ?_
            refine pw_if_ne 87 dX7_bestRest_80 (by decide) (fun h5 => ?_) (fun h5 => ?_)
            · skip
              refine pw_iload_4 dX7_bestRest_87 ?_
              refine pw_ireturn dX7_bestRest_89 rfl ?_
              have ei : ixN (nI b) = b := ixN_nI (by omega)
              have hy : (∃ k, 1 ≤ k ∧ k ≤ 200 ∧ nI b = nI k) ∧ inN 2 (nI t) := ⟨⟨b, hb1, hb, rfl⟩, inN_ok (by omega)⟩
              have e1 : brR (aB A) (nI b) (nI t) = nI (brI (aB A) b 20).2 := by unfold brR; rw [cif_y hy, ei]; exact if_neg h5
              rw [e1] at q
              exact q _ hx1 hf1
            · skip
              refine pw_iload_3 dX7_bestRest_83 ?_
              refine pw_goto 89 dX7_bestRest_84 (by decide) ?_
              refine pw_ireturn dX7_bestRest_89 rfl ?_
              have ei : ixN (nI b) = b := ixN_nI (by omega)
              have hy : (∃ k, 1 ≤ k ∧ k ≤ 200 ∧ nI b = nI k) ∧ inN 2 (nI t) := ⟨⟨b, hb1, hb, rfl⟩, inN_ok (by omega)⟩
              have e1 : brR (aB A) (nI b) (nI t) = (brI (aB A) b 20).1 := by unfold brR; rw [cif_y hy, ei]; exact if_pos h5
              rw [e1] at q
              exact q _ hx1 hf1
          · intro k hk ih μ1 hx1 hf1
            have hc9 := brI_le (b := b) wf k (by omega)
            have hn9 := brN_le (b := b) (r := k + 1) wf (by omega)
            have ih2 : ∀ μ1, CX σ μ1 o x A → FX μ o μ1 → PW X mX7_bestRest 0 0 40 [some (.ref o), some (.int (nI b)), some (.int (nI t)), some (.int ((brS (aB A) b k (brI (aB A) b k)).1)), some (.int (nI ((brS (aB A) b k (brI (aB A) b k)).2))), some (.int (nI ((k + 1) + 1))), none] [] σ μ1 (LI Q) := ih
            refine pw_iload_5 dX7_bestRest_40 ?_
            refine pw_gets (n := "GREATEST") (t := (cxT X).2.2) dX7_bestRest_42 fX7_196 (fun s S => S.2.2.2.2.1.2.2) ?_
            refine pw_iconst (v := nI 0) dX7_bestRest_45 (by decide) ?_
            refine pw_tald (f := pw_GR) dX7_bestRest_46 (fun s S => ⟨S.2.2.2.2.2.1.2.2, S.2.2.2.2.2.2.1.2.2⟩) (vp_in_nI (by decide) (by decide)) ?_
            refine pw_top (show _ = nI 20 from rfl) ?_
            refine pw_icmp_gt 79 dX7_bestRest_47 (by decide) (fun hh => absurd hh (by rw [nI_ltI (by omega) (by omega)]; omega)) (fun _ => ?_)
            refine pw_aload_0 dX7_bestRest_50 ?_
            refine pw_iload_5 dX7_bestRest_51 ?_
            refine pw_iload_1 dX7_bestRest_53 ?_
            refine pw_cV2i 7 dX7_bestRest_54 kX7_199 vX7_heardWithRest iX7_heardWithRest ⟨by decide, by decide⟩ ⟨rfl, rfl⟩ (by decide) rfl (Nat.le_of_ble_eq_true rfl) hc.1.t (k_hwr hx1 wa (by omega) (by omega) hb (fun μ2 hx2 hf2 => ?_))
            refine pw_istore_6 dX7_bestRest_57 (by decide) ?_
            refine pw_iload_6 dX7_bestRest_59 ?_
            refine pw_iload_4 dX7_bestRest_61 ?_
            refine pw_icmp_lt 73 dX7_bestRest_63 (by decide) (fun h6 => ?_) (fun h6 => ?_)
            · skip
              refine pw_iincN_5 dX7_bestRest_73 (by decide) ?_
              refine pw_goto 40 dX7_bestRest_76 (by decide) ?_
              have hlt : ¬ (brI (aB A) b k).2 ≤ brN (aB A) b (k + 1) := by have h95 := h6; rw [nI_ltI (by omega) (by omega)] at h95; omega
              rw [br_n hlt] at ih2
              refine pw_fg (ls' := [some (.ref o), some (.int (nI b)), some (.int (nI t)), some (.int ((brI (aB A) b k).1)), some (.int (nI ((brI (aB A) b k).2))), some (.int (nI ((k + 1) + 1))), none]) ⟨Or.inr rfl, Or.inr rfl, Or.inr rfl, Or.inr rfl, Or.inr rfl, Or.inr rfl, Or.inl rfl, trivial⟩ (ih2 _ hx2 (fun a h1 h2 => (hf2 a h1 h2).trans (hf1 a h1 h2)))
            · skip
              refine pw_iload_5 dX7_bestRest_66 ?_
              refine pw_istore_3 dX7_bestRest_68 (by decide) ?_
              refine pw_iload_6 dX7_bestRest_69 ?_
              refine pw_istore_4 dX7_bestRest_71 (by decide) ?_
              refine pw_iincN_5 dX7_bestRest_73 (by decide) ?_
              refine pw_goto 40 dX7_bestRest_76 (by decide) ?_
              have hlt : (brI (aB A) b k).2 ≤ brN (aB A) b (k + 1) := by have h95 := h6; rw [nI_ltI (by omega) (by omega)] at h95; omega
              rw [br_y hlt] at ih2
              refine pw_fg (ls' := [some (.ref o), some (.int (nI b)), some (.int (nI t)), some (.int (nI (k + 1))), some (.int (nI (brN (aB A) b (k + 1)))), some (.int (nI ((k + 1) + 1))), none]) ⟨Or.inr rfl, Or.inr rfl, Or.inr rfl, Or.inr rfl, Or.inr rfl, Or.inr rfl, Or.inl rfl, trivial⟩ (ih2 _ hx2 (fun a h1 h2 => (hf2 a h1 h2).trans (hf1 a h1 h2)))
        · skip
          refine pw_bipush (v := -2) dX7_bestRest_21 (by decide) ?_
          refine pw_ireturn dX7_bestRest_23 rfl ?_
          have e1 : brR (aB A) u v = -2 := cif_n (fun ⟨_, k, h1, e⟩ => by subst e; have h95 := h4; rw [nI_leI (by omega) (by omega)] at h95; omega)
          rw [e1] at q
          exact q _ hc (fun _ _ _ => rfl)

