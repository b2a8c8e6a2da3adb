/-! The model: a beat -/
theorem goP_c (L A : Nat → Prop) (n i : Nat) (B : Bs) (c : Nat) : goP L A n i (B, c) = ((goP L A n i (B, 0)).1, c + (goP L A n i (B, 0)).2) := by
  unfold goP
  by_cases h1 : spB B i
  · rw [cif_y (show spB (B, c).1 i from h1), cif_y (show spB (B, 0).1 i from h1)]
    by_cases h2 : gvP L A n B i
    · rw [cif_y (show gvP L A n (B, c).1 i from h2), cif_y (show gvP L A n (B, 0).1 i from h2)]
      rfl
    · rw [cif_n (show ¬ gvP L A n (B, c).1 i from h2), cif_n (show ¬ gvP L A n (B, 0).1 i from h2)]
      by_cases h3 : bS B i 17 = nI 10
      · rw [cif_y (show bS (B, c).1 i 17 = nI 10 from h3), cif_y (show bS (B, 0).1 i 17 = nI 10 from h3)]
      · rw [cif_n (show ¬ bS (B, c).1 i 17 = nI 10 from h3), cif_n (show ¬ bS (B, 0).1 i 17 = nI 10 from h3)]
        rfl
  · rw [cif_n (show ¬ spB (B, c).1 i from h1), cif_n (show ¬ spB (B, 0).1 i from h1)]
    rfl
theorem goP_A {L A A' : Nat → Prop} {n i : Nat} {P : Bs × Nat} (h : ∀ s, A s ↔ A' s) : goP L A n i P = goP L A' n i P := by
  rw [show A = A' from funext fun s => propext (h s)]
theorem goP_01 (L A : Nat → Prop) (n i : Nat) (B : Bs) : (goP L A n i (B, 0)).2 = 0 ∨ (goP L A n i (B, 0)).2 = 1 := by
  unfold goP
  by_cases h1 : spB B i
  · rw [cif_y (show spB (B, 0).1 i from h1)]
    by_cases h2 : gvP L A n B i
    · rw [cif_y (show gvP L A n (B, 0).1 i from h2)]
      exact Or.inl rfl
    · rw [cif_n (show ¬ gvP L A n (B, 0).1 i from h2)]
      by_cases h3 : bS B i 17 = nI 10
      · rw [cif_y (show bS (B, 0).1 i 17 = nI 10 from h3)]
        exact Or.inr rfl
      · rw [cif_n (show ¬ bS (B, 0).1 i 17 = nI 10 from h3)]
        exact Or.inl rfl
  · rw [cif_n (show ¬ spB (B, 0).1 i from h1)]
    exact Or.inl rfl
set_option maxRecDepth 100000 in
set_option maxHeartbeats 4000000 in
theorem m_goesOn {X : Cx} {σ : Sp} {μ : Mm} {Q : Int32 → Sp → Mm → Prop} {m : Nat} {z : Nat → Int32} {B : Bs} {i : Nat} {L : Nat → Prop} (h : ShM σ m) (hz : ZR z B) (wf : WF B) (hi : i < nS B) (hs : spB B i) (hL : ∀ v, v < 6 → μ (m + 7) v = cif (L v) (nI 1) (nI 0)) (q : ∀ z', ZR z' (goP L (awB B) (nS B) i (B, 0)).1 → Q (nI (goP L (awB B) (nS B) i (B, 0)).2) σ (wC μ (m + 1) z')) : CTi X mX8_goesOn [.ref m, .int (nI i)] σ ((wC μ (m + 1) z)) Q := by
  refine CT.of (by decide +kernel) (Nat.le_of_ble_eq_true rfl) ?_
  show PW X mX8_goesOn 0 0 0 [some (.ref m), some (.int (nI i)), none, none] [] σ ((wC μ (m + 1) z)) (LI Q)
  have hn := wf.hn
  have h8 := wf.n8
  have hw := wf.w (i := i) (by omega)
  obtain ⟨h0, kk, kk10, hkk⟩ := (wf.s hi).sp hs
  obtain ⟨-, y, y6, hy⟩ := (wf.s hi).word h0
  have hy : bS B i 6 = nI y := hy
  refine pw_aload_0 dX8_goesOn_0 ?_
  refine pw_iload_1 dX8_goesOn_1 ?_
  refine pw_bipush (v := nI 17) dX8_goesOn_2 (by decide) ?_
  refine pw_cV2i 8 dX8_goesOn_4 kX8_40 vX8_at iX8_at ⟨by decide, by decide⟩ ⟨rfl, rfl⟩ (by decide) rfl (Nat.le_of_ble_eq_true rfl) h.t (c_X8_at h hz (by omega) (by decide) ?_)
  refine pw_top hkk ?_
  refine pw_bipush (v := nI 10) dX8_goesOn_7 (by decide) ?_
  refine pw_icmp_ne 16 dX8_goesOn_9 (by decide) (fun h1 => ?_) (fun h1 => ?_)
  · skip
    refine pw_iconst (v := nI 0) dX8_goesOn_16 (by decide) ?_
    refine pw_istore_2 dX8_goesOn_17 (by decide) ?_
    refine pw_aload_0 dX8_goesOn_18 ?_
    refine pw_iload_1 dX8_goesOn_19 ?_
    refine pw_cV1i 8 dX8_goesOn_20 kX8_130 vX8_bitOf iX8_bitOf ⟨by decide, by decide⟩ ⟨rfl, rfl⟩ (by decide) rfl (Nat.le_of_ble_eq_true rfl) h.t (m_bitOf h hz (by omega) ?_)
    refine pw_iconst (v := nI 1) dX8_goesOn_23 (by decide) ?_
    refine pw_icmp_ne 40 dX8_goesOn_24 (by decide) (fun h2 => ?_) (fun h2 => ?_)
    · skip
      refine pw_iload_2 dX8_goesOn_40 ?_
      refine pw_if_eq 65 dX8_goesOn_41 (by decide) (fun _ => ?_) (fun hh => absurd (by decide) hh)
      refine pw_iload_2 dX8_goesOn_65 ?_
      refine pw_if_ne 79 dX8_goesOn_66 (by decide) (fun hh => absurd hh (by decide)) (fun _ => ?_)
      refine pw_aload_0 dX8_goesOn_69 ?_
      refine pw_iload_1 dX8_goesOn_70 ?_
      refine pw_bipush (v := nI 17) dX8_goesOn_71 (by decide) ?_
      refine pw_iconst (v := nI 1) dX8_goesOn_73 (by decide) ?_
      refine pw_cV3v 8 dX8_goesOn_74 kX8_76 vX8_add iX8_add ⟨by decide, by decide⟩ ⟨rfl, rfl⟩ (by decide) rfl (Nat.le_of_ble_eq_true rfl) h.t (c_X8_add h hz (by omega) (by decide) (fun z1 hz1 => ?_))
      refine pw_iconst (v := nI 0) dX8_goesOn_77 (by decide) ?_
      refine pw_zreturn dX8_goesOn_78 rfl (by decide) ?_
      have h17 : bS B i 17 ≠ nI 10 := fun e => h1 (hkk.symm.trans e)
      have hng : ¬ (btB B i = nI 1 ∧ L (fwB B i)) := fun hh => h2 hh.1
      have hg : ¬ gvP L (awB B) (nS B) B i := fun hh => hh.elim hng (fun k => h17 k.1)
      have eG : goP L (awB B) (nS B) i (B, 0) = (setS B i (upd (bS B i) 17 (bS B i 17 + nI 1)), 0) := (cif_y hs).trans ((cif_n hg).trans (cif_n h17))
      rw [eG] at q
      exact q _ hz1
    · skip
      refine pw_aload_0 dX8_goesOn_27 ?_
      refine pw_getr 8 8 dX8_goesOn_28 fX8_30 rfl (by decide) rfl h.t h.r8 ?_
      refine pw_aload_0 dX8_goesOn_31 ?_
      refine pw_iload_1 dX8_goesOn_32 ?_
      refine pw_cV1i 8 dX8_goesOn_33 kX8_90 vX8_firstWire iX8_firstWire ⟨by decide, by decide⟩ ⟨rfl, rfl⟩ (by decide) rfl (Nat.le_of_ble_eq_true rfl) h.t (c_X8_firstWire h hz (by omega) ?_)
      refine pw_top hy ?_
      refine pw_zaldN dX8_goesOn_36 h.a7 (by omega) (by decide) ?_
      refine pw_top (show _ = cif (L y) (nI 1) (nI 0) by rw [wC_ne _ _ (by omega)]; exact hL _ y6) ?_
      refine pw_if_ne 58 dX8_goesOn_37 (by decide) (fun h3 => ?_) (fun h3 => ?_)
      · skip
        refine pw_aload_0 dX8_goesOn_58 ?_
        refine pw_iload_1 dX8_goesOn_59 ?_
        refine pw_cV1v 8 dX8_goesOn_60 kX8_112 vX8_giveUp iX8_giveUp ⟨by decide, by decide⟩ ⟨rfl, rfl⟩ (by decide) rfl (Nat.le_of_ble_eq_true rfl) h.t (c_X8_giveUp h hz (by omega) (wf.w (by omega)).1 (wf.w (by omega)).2 h0 hy y6 (fun z2 hz2 => ?_))
        refine pw_iconst (v := nI 0) dX8_goesOn_63 (by decide) ?_
        refine pw_zreturn dX8_goesOn_64 rfl (by decide) ?_
        have h17 : bS B i 17 ≠ nI 10 := fun e => h1 (hkk.symm.trans e)
        have hg : gvP L (awB B) (nS B) B i := Or.inl ⟨h2, by rw [fw_of hy y6]; exact cif_1 h3⟩
        have eG : goP L (awB B) (nS B) i (B, 0) = (guB B i, 0) := (cif_y hs).trans (cif_y hg)
        rw [eG] at q
        exact q _ hz2
      · skip
        refine pw_iload_2 dX8_goesOn_40 ?_
        refine pw_if_eq 65 dX8_goesOn_41 (by decide) (fun _ => ?_) (fun hh => absurd (by decide) hh)
        refine pw_iload_2 dX8_goesOn_65 ?_
        refine pw_if_ne 79 dX8_goesOn_66 (by decide) (fun hh => absurd hh (by decide)) (fun _ => ?_)
        refine pw_aload_0 dX8_goesOn_69 ?_
        refine pw_iload_1 dX8_goesOn_70 ?_
        refine pw_bipush (v := nI 17) dX8_goesOn_71 (by decide) ?_
        refine pw_iconst (v := nI 1) dX8_goesOn_73 (by decide) ?_
        refine pw_cV3v 8 dX8_goesOn_74 kX8_76 vX8_add iX8_add ⟨by decide, by decide⟩ ⟨rfl, rfl⟩ (by decide) rfl (Nat.le_of_ble_eq_true rfl) h.t (c_X8_add h hz (by omega) (by decide) (fun z3 hz3 => ?_))
        refine pw_iconst (v := nI 0) dX8_goesOn_77 (by decide) ?_
        refine pw_zreturn dX8_goesOn_78 rfl (by decide) ?_
        have h17 : bS B i 17 ≠ nI 10 := fun e => h1 (hkk.symm.trans e)
        have hng : ¬ (btB B i = nI 1 ∧ L (fwB B i)) := fun hh => cif_0 h3 (by rw [fw_of hy y6] at hh; exact hh.2)
        have hg : ¬ gvP L (awB B) (nS B) B i := fun hh => hh.elim hng (fun k => h17 k.1)
        have eG : goP L (awB B) (nS B) i (B, 0) = (setS B i (upd (bS B i) 17 (bS B i 17 + nI 1)), 0) := (cif_y hs).trans ((cif_n hg).trans (cif_n h17))
        rw [eG] at q
        exact q _ hz3
  · skip
    refine pw_iconst (v := nI 1) dX8_goesOn_12 (by decide) ?_
    refine pw_goto 17 dX8_goesOn_13 (by decide) ?_
    refine pw_istore_2 dX8_goesOn_17 (by decide) ?_
    refine pw_aload_0 dX8_goesOn_18 ?_
    refine pw_iload_1 dX8_goesOn_19 ?_
    refine pw_cV1i 8 dX8_goesOn_20 kX8_130 vX8_bitOf iX8_bitOf ⟨by decide, by decide⟩ ⟨rfl, rfl⟩ (by decide) rfl (Nat.le_of_ble_eq_true rfl) h.t (m_bitOf h hz (by omega) ?_)
    refine pw_iconst (v := nI 1) dX8_goesOn_23 (by decide) ?_
    refine pw_icmp_ne 40 dX8_goesOn_24 (by decide) (fun h4 => ?_) (fun h4 => ?_)
    · skip
      refine pw_iload_2 dX8_goesOn_40 ?_
      refine pw_if_eq 65 dX8_goesOn_41 (by decide) (fun hh => absurd hh (by decide)) (fun _ => ?_)
      refine pw_aload_0 dX8_goesOn_44 ?_
      refine pw_aload_0 dX8_goesOn_45 ?_
      refine pw_iload_1 dX8_goesOn_46 ?_
      refine pw_bipush (v := nI 18) dX8_goesOn_47 (by decide) ?_
      refine pw_cV2i 8 dX8_goesOn_49 kX8_40 vX8_at iX8_at ⟨by decide, by decide⟩ ⟨rfl, rfl⟩ (by decide) rfl (Nat.le_of_ble_eq_true rfl) h.t (c_X8_at h hz (by omega) (by decide) ?_)
      refine pw_cV1i 8 dX8_goesOn_52 kX8_133 vX8_allAwake iX8_allAwake ⟨by decide, by decide⟩ ⟨rfl, rfl⟩ (by decide) rfl (Nat.le_of_ble_eq_true rfl) h.t (m_allAwake h hz wf (fun h5 => ?_) (fun h6 => ?_))
      · skip
        refine pw_if_ne 65 dX8_goesOn_55 (by decide) (fun _ => ?_) (fun hh => absurd hh (by decide))
        refine pw_iload_2 dX8_goesOn_65 ?_
        refine pw_if_ne 79 dX8_goesOn_66 (by decide) (fun _ => ?_) (fun hh => absurd hh (by decide))
        refine pw_iconst (v := nI 0) dX8_goesOn_79 (by decide) ?_
        refine pw_istore_3 dX8_goesOn_80 (by decide) ?_
        refine pw_fg (ls' := [some (.ref m), some (.int (nI i)), some (.int (nI 1)), some (.int (nI 0))]) ⟨Or.inr rfl, Or.inr rfl, Or.inr rfl, Or.inr rfl, trivial⟩ ?_
        refine pw_up (P := fun k => ∀ z, ZR z (itr (heS B i) k B) → PW X mX8_goesOn 0 0 81 [some (.ref m), some (.int (nI i)), some (.int (nI 1)), some (.int (nI k))] [] σ (wC μ (m + 1) z) (LI Q)) (nS B) ?_ ?_ 0 (by omega) _ hz
        · intro z1 hz1
          have hz1 : ZR z1 (hrB B i) := hz1
          have e1 : bS (hrB B i) i = bS B i := hr_st _
          have hn1 : bG (hrB B i) 6 = nI (nS B) := (congrFun Fr_hr.1 6).trans hn
          refine pw_iload_3 dX8_goesOn_81 ?_
          refine pw_aload_0 dX8_goesOn_82 ?_
          refine pw_getr 8 0 dX8_goesOn_83 fX8_7 rfl (by decide) rfl h.t h.r0 ?_
          refine pw_bipush (v := nI 6) dX8_goesOn_86 (by decide) ?_
          refine pw_ialdN dX8_goesOn_88 h.a1 (by omega) (by decide) ?_
          refine pw_top (show _ = nI (nS B) from by rw [wC_self, hz1.g (by decide)]; exact hn1) ?_
          refine pw_icmp_ge 124 dX8_goesOn_89 (by decide) (fun _ => ?_) (fun hh => absurd (by rw [nI_leI (by omega) (by omega)]; omega) hh)
          refine pw_aload_0 dX8_goesOn_124 ?_
          refine pw_iload_1 dX8_goesOn_125 ?_
          refine pw_bipush (v := nI 19) dX8_goesOn_126 (by decide) ?_
          refine pw_iconst (v := nI 1) dX8_goesOn_128 (by decide) ?_
          refine pw_cV3v 8 dX8_goesOn_129 kX8_76 vX8_add iX8_add ⟨by decide, by decide⟩ ⟨rfl, rfl⟩ (by decide) rfl (Nat.le_of_ble_eq_true rfl) h.t (c_X8_add h hz1 (by omega) (by decide) (fun z4 hz4 => ?_))
          refine pw_aload_0 dX8_goesOn_132 ?_
          refine pw_aload_0 dX8_goesOn_133 ?_
          refine pw_iload_1 dX8_goesOn_134 ?_
          refine pw_cV1i 8 dX8_goesOn_135 kX8_90 vX8_firstWire iX8_firstWire ⟨by decide, by decide⟩ ⟨rfl, rfl⟩ (by decide) rfl (Nat.le_of_ble_eq_true rfl) h.t (c_X8_firstWire h hz4 (by omega) ?_)
          refine pw_top (show _ = nI y by rw [bS_setS_s, upd_n _ _ (by omega), e1]; exact hy) ?_
          refine pw_iconst (v := nI 2) dX8_goesOn_138 (by decide) ?_
          refine pw_cV2v 8 dX8_goesOn_139 kX8_93 vX8_tally iX8_tally ⟨by decide, by decide⟩ ⟨rfl, rfl⟩ (by decide) rfl (Nat.le_of_ble_eq_true rfl) h.t (c_X8_tally h hz4 (by omega) (by decide) (fun z5 hz5 => ?_))
          refine pw_aload_0 dX8_goesOn_142 ?_
          refine pw_iload_1 dX8_goesOn_143 ?_
          refine pw_cV1v 8 dX8_goesOn_144 kX8_97 vX8_leaves iX8_leaves ⟨by decide, by decide⟩ ⟨rfl, rfl⟩ (by decide) rfl (Nat.le_of_ble_eq_true rfl) h.t (c_X8_leaves h hz5 (by omega) (w := nwF (bS B i)) (by unfold tyB; rw [bS_setW, bS_setS_s, upd_n _ _ (by omega), e1]; exact hw.1) hw.2 h0 (fun z6 hz6 => ?_))
          refine pw_iconst (v := nI 1) dX8_goesOn_147 (by decide) ?_
          refine pw_zreturn dX8_goesOn_148 rfl (by decide) ?_
          have h17 : bS B i 17 = nI 10 := hkk.trans h1
          have hng : ¬ (btB B i = nI 1 ∧ L (fwB B i)) := fun hh => h4 hh.1
          have hg : ¬ gvP L (awB B) (nS B) B i := fun hh => hh.elim hng (fun k => k.2 h5)
          have eG : goP L (awB B) (nS B) i (B, 0) = (hdB B i, 1) := (cif_y hs).trans ((cif_n hg).trans (cif_y h17))
          rw [eG] at q
          refine q _ (Eq.mp (congrArg (fun b => ZR z6 b) ?_) hz6)
          show _ = hdB B i
          unfold hdB
          rw [fw_of hy y6, e1]
        · intro k hk ih z1 hz1
          have ih2 : ∀ z, ZR z (heS B i k (itr (heS B i) k B)) → _ := ih
          have wn := hr_wf (i := i) wf (show k ≤ nS B by omega)
          have wf1 := wn.1
          have en := wn.2
          have e1 : bS (itr (heS B i) k B) i = bS B i := hr_st k
          have eG : bG (itr (heS B i) k B) = bG B := hr_G
          have hn1 : bG (itr (heS B i) k B) 6 = nI (nS B) := (congrFun eG 6).trans hn
          clear wn
          generalize itr (heS B i) k B = C at hz1 ih2 wf1 hn1 en e1 eG
          refine pw_iload_3 dX8_goesOn_81 ?_
          refine pw_aload_0 dX8_goesOn_82 ?_
          refine pw_getr 8 0 dX8_goesOn_83 fX8_7 rfl (by decide) rfl h.t h.r0 ?_
          refine pw_bipush (v := nI 6) dX8_goesOn_86 (by decide) ?_
          refine pw_ialdN dX8_goesOn_88 h.a1 (by omega) (by decide) ?_
          refine pw_top (show _ = nI (nS B) from by rw [wC_self, hz1.g (by decide)]; exact hn1) ?_
          refine pw_icmp_ge 124 dX8_goesOn_89 (by decide) (fun hh => absurd hh (by rw [nI_leI (by omega) (by omega)]; omega)) (fun _ => ?_)
          refine pw_iload_3 dX8_goesOn_92 ?_
          refine pw_iload_1 dX8_goesOn_93 ?_
          refine pw_icmp_eq 118 dX8_goesOn_94 (by decide) (fun h7 => ?_) (fun h7 => ?_)
          · skip
            refine pw_iincN_3 dX8_goesOn_118 (by decide) ?_
            refine pw_goto 81 dX8_goesOn_121 (by decide) ?_
            refine ih2 _ ?_
            unfold heS
            rw [cif_n (fun hh => hh.1 ((nI_eq (by omega) (by omega)).mp h7))]
            exact hz1
          · skip
            refine pw_aload_0 dX8_goesOn_97 ?_
            refine pw_iload_1 dX8_goesOn_98 ?_
            refine pw_bipush (v := nI 18) dX8_goesOn_99 (by decide) ?_
            refine pw_cV2i 8 dX8_goesOn_101 kX8_40 vX8_at iX8_at ⟨by decide, by decide⟩ ⟨rfl, rfl⟩ (by decide) rfl (Nat.le_of_ble_eq_true rfl) h.t (c_X8_at h hz1 (by omega) (by decide) ?_)
            refine pw_iload_3 dX8_goesOn_104 ?_
            refine pw_ishr dX8_goesOn_105 ?_
            refine pw_iconst (v := nI 1) dX8_goesOn_106 (by decide) ?_
            refine pw_iand dX8_goesOn_107 ?_
            refine pw_iconst (v := nI 1) dX8_goesOn_108 (by decide) ?_
            refine pw_icmp_ne 118 dX8_goesOn_109 (by decide) (fun h8 => ?_) (fun h8 => ?_)
            · skip
              refine pw_iincN_3 dX8_goesOn_118 (by decide) ?_
              refine pw_goto 81 dX8_goesOn_121 (by decide) ?_
              refine ih2 _ ?_
              unfold heS
              rw [cif_n (fun hh => h8 (by rw [e1]; exact hh.2))]
              exact hz1
            · skip
              refine pw_aload_0 dX8_goesOn_112 ?_
              refine pw_iload_3 dX8_goesOn_113 ?_
              refine pw_iload_1 dX8_goesOn_114 ?_
              refine pw_cV2v 8 dX8_goesOn_115 kX8_136 vX8_hears iX8_hears ⟨by decide, by decide⟩ ⟨rfl, rfl⟩ (by decide) rfl (Nat.le_of_ble_eq_true rfl) h.t (m_hears h hz1 wf1 (by omega) (by omega) (fun e => h7 (by rw [e])) (fun z7 hz7 => ?_))
              refine pw_iincN_3 dX8_goesOn_118 (by decide) ?_
              refine pw_goto 81 dX8_goesOn_121 (by decide) ?_
              have hz9 := hz7
              rw [e1, eG] at hz9
              refine ih2 _ ?_
              unfold heS
              rw [cif_y ⟨fun e => h7 (by rw [e]), by have h95 := h8; rw [e1] at h95; exact h95⟩]
              exact hz9
      · skip
        refine pw_if_ne 65 dX8_goesOn_55 (by decide) (fun hh => absurd hh (by decide)) (fun _ => ?_)
        refine pw_aload_0 dX8_goesOn_58 ?_
        refine pw_iload_1 dX8_goesOn_59 ?_
        refine pw_cV1v 8 dX8_goesOn_60 kX8_112 vX8_giveUp iX8_giveUp ⟨by decide, by decide⟩ ⟨rfl, rfl⟩ (by decide) rfl (Nat.le_of_ble_eq_true rfl) h.t (c_X8_giveUp h hz (by omega) (wf.w (by omega)).1 (wf.w (by omega)).2 h0 hy y6 (fun z8 hz8 => ?_))
        refine pw_iconst (v := nI 0) dX8_goesOn_63 (by decide) ?_
        refine pw_zreturn dX8_goesOn_64 rfl (by decide) ?_
        have h17 : bS B i 17 = nI 10 := hkk.trans h1
        have hg : gvP L (awB B) (nS B) B i := Or.inr ⟨h17, h6⟩
        have eG : goP L (awB B) (nS B) i (B, 0) = (guB B i, 0) := (cif_y hs).trans (cif_y hg)
        rw [eG] at q
        exact q _ hz8
    · skip
      refine pw_aload_0 dX8_goesOn_27 ?_
      refine pw_getr 8 8 dX8_goesOn_28 fX8_30 rfl (by decide) rfl h.t h.r8 ?_
      refine pw_aload_0 dX8_goesOn_31 ?_
      refine pw_iload_1 dX8_goesOn_32 ?_
      refine pw_cV1i 8 dX8_goesOn_33 kX8_90 vX8_firstWire iX8_firstWire ⟨by decide, by decide⟩ ⟨rfl, rfl⟩ (by decide) rfl (Nat.le_of_ble_eq_true rfl) h.t (c_X8_firstWire h hz (by omega) ?_)
      refine pw_top hy ?_
      refine pw_zaldN dX8_goesOn_36 h.a7 (by omega) (by decide) ?_
      refine pw_top (show _ = cif (L y) (nI 1) (nI 0) by rw [wC_ne _ _ (by omega)]; exact hL _ y6) ?_
      refine pw_if_ne 58 dX8_goesOn_37 (by decide) (fun h9 => ?_) (fun h9 => ?_)
      · skip
        refine pw_aload_0 dX8_goesOn_58 ?_
        refine pw_iload_1 dX8_goesOn_59 ?_
        refine pw_cV1v 8 dX8_goesOn_60 kX8_112 vX8_giveUp iX8_giveUp ⟨by decide, by decide⟩ ⟨rfl, rfl⟩ (by decide) rfl (Nat.le_of_ble_eq_true rfl) h.t (c_X8_giveUp h hz (by omega) (wf.w (by omega)).1 (wf.w (by omega)).2 h0 hy y6 (fun z9 hz9 => ?_))
        refine pw_iconst (v := nI 0) dX8_goesOn_63 (by decide) ?_
        refine pw_zreturn dX8_goesOn_64 rfl (by decide) ?_
        have h17 : bS B i 17 = nI 10 := hkk.trans h1
        have hg : gvP L (awB B) (nS B) B i := Or.inl ⟨h4, by rw [fw_of hy y6]; exact cif_1 h9⟩
        have eG : goP L (awB B) (nS B) i (B, 0) = (guB B i, 0) := (cif_y hs).trans (cif_y hg)
        rw [eG] at q
        exact q _ hz9
      · skip
        refine pw_iload_2 dX8_goesOn_40 ?_
        refine pw_if_eq 65 dX8_goesOn_41 (by decide) (fun hh => absurd hh (by decide)) (fun _ => ?_)
        refine pw_aload_0 dX8_goesOn_44 ?_
        refine pw_aload_0 dX8_goesOn_45 ?_
        refine pw_iload_1 dX8_goesOn_46 ?_
        refine pw_bipush (v := nI 18) dX8_goesOn_47 (by decide) ?_
        refine pw_cV2i 8 dX8_goesOn_49 kX8_40 vX8_at iX8_at ⟨by decide, by decide⟩ ⟨rfl, rfl⟩ (by decide) rfl (Nat.le_of_ble_eq_true rfl) h.t (c_X8_at h hz (by omega) (by decide) ?_)
        refine pw_cV1i 8 dX8_goesOn_52 kX8_133 vX8_allAwake iX8_allAwake ⟨by decide, by decide⟩ ⟨rfl, rfl⟩ (by decide) rfl (Nat.le_of_ble_eq_true rfl) h.t (m_allAwake h hz wf (fun h10 => ?_) (fun h11 => ?_))
        · skip
          refine pw_if_ne 65 dX8_goesOn_55 (by decide) (fun _ => ?_) (fun hh => absurd hh (by decide))
          refine pw_iload_2 dX8_goesOn_65 ?_
          refine pw_if_ne 79 dX8_goesOn_66 (by decide) (fun _ => ?_) (fun hh => absurd hh (by decide))
          refine pw_iconst (v := nI 0) dX8_goesOn_79 (by decide) ?_
          refine pw_istore_3 dX8_goesOn_80 (by decide) ?_
          refine pw_fg (ls' := [some (.ref m), some (.int (nI i)), some (.int (nI 1)), some (.int (nI 0))]) ⟨Or.inr rfl, Or.inr rfl, Or.inr rfl, Or.inr rfl, trivial⟩ ?_
          refine pw_up (P := fun k => ∀ z, ZR z (itr (heS B i) k B) → PW X mX8_goesOn 0 0 81 [some (.ref m), some (.int (nI i)), some (.int (nI 1)), some (.int (nI k))] [] σ (wC μ (m + 1) z) (LI Q)) (nS B) ?_ ?_ 0 (by omega) _ hz
          · intro z1 hz1
            have hz1 : ZR z1 (hrB B i) := hz1
            have e1 : bS (hrB B i) i = bS B i := hr_st _
            have hn1 : bG (hrB B i) 6 = nI (nS B) := (congrFun Fr_hr.1 6).trans hn
            refine pw_iload_3 dX8_goesOn_81 ?_
            refine pw_aload_0 dX8_goesOn_82 ?_
            refine pw_getr 8 0 dX8_goesOn_83 fX8_7 rfl (by decide) rfl h.t h.r0 ?_
            refine pw_bipush (v := nI 6) dX8_goesOn_86 (by decide) ?_
            refine pw_ialdN dX8_goesOn_88 h.a1 (by omega) (by decide) ?_
            refine pw_top (show _ = nI (nS B) from by rw [wC_self, hz1.g (by decide)]; exact hn1) ?_
            refine pw_icmp_ge 124 dX8_goesOn_89 (by decide) (fun _ => ?_) (fun hh => absurd (by rw [nI_leI (by omega) (by omega)]; omega) hh)
            refine pw_aload_0 dX8_goesOn_124 ?_
            refine pw_iload_1 dX8_goesOn_125 ?_
            refine pw_bipush (v := nI 19) dX8_goesOn_126 (by decide) ?_
            refine pw_iconst (v := nI 1) dX8_goesOn_128 (by decide) ?_
            refine pw_cV3v 8 dX8_goesOn_129 kX8_76 vX8_add iX8_add ⟨by decide, by decide⟩ ⟨rfl, rfl⟩ (by decide) rfl (Nat.le_of_ble_eq_true rfl) h.t (c_X8_add h hz1 (by omega) (by decide) (fun z10 hz10 => ?_))
            refine pw_aload_0 dX8_goesOn_132 ?_
            refine pw_aload_0 dX8_goesOn_133 ?_
            refine pw_iload_1 dX8_goesOn_134 ?_
            refine pw_cV1i 8 dX8_goesOn_135 kX8_90 vX8_firstWire iX8_firstWire ⟨by decide, by decide⟩ ⟨rfl, rfl⟩ (by decide) rfl (Nat.le_of_ble_eq_true rfl) h.t (c_X8_firstWire h hz10 (by omega) ?_)
            refine pw_top (show _ = nI y by rw [bS_setS_s, upd_n _ _ (by omega), e1]; exact hy) ?_
            refine pw_iconst (v := nI 2) dX8_goesOn_138 (by decide) ?_
            refine pw_cV2v 8 dX8_goesOn_139 kX8_93 vX8_tally iX8_tally ⟨by decide, by decide⟩ ⟨rfl, rfl⟩ (by decide) rfl (Nat.le_of_ble_eq_true rfl) h.t (c_X8_tally h hz10 (by omega) (by decide) (fun z11 hz11 => ?_))
            refine pw_aload_0 dX8_goesOn_142 ?_
            refine pw_iload_1 dX8_goesOn_143 ?_
            refine pw_cV1v 8 dX8_goesOn_144 kX8_97 vX8_leaves iX8_leaves ⟨by decide, by decide⟩ ⟨rfl, rfl⟩ (by decide) rfl (Nat.le_of_ble_eq_true rfl) h.t (c_X8_leaves h hz11 (by omega) (w := nwF (bS B i)) (by unfold tyB; rw [bS_setW, bS_setS_s, upd_n _ _ (by omega), e1]; exact hw.1) hw.2 h0 (fun z12 hz12 => ?_))
            refine pw_iconst (v := nI 1) dX8_goesOn_147 (by decide) ?_
            refine pw_zreturn dX8_goesOn_148 rfl (by decide) ?_
            have h17 : bS B i 17 = nI 10 := hkk.trans h1
            have hng : ¬ (btB B i = nI 1 ∧ L (fwB B i)) := fun hh => cif_0 h9 (by rw [fw_of hy y6] at hh; exact hh.2)
            have hg : ¬ gvP L (awB B) (nS B) B i := fun hh => hh.elim hng (fun k => k.2 h10)
            have eG : goP L (awB B) (nS B) i (B, 0) = (hdB B i, 1) := (cif_y hs).trans ((cif_n hg).trans (cif_y h17))
            rw [eG] at q
            refine q _ (Eq.mp (congrArg (fun b => ZR z12 b) ?_) hz12)
            show _ = hdB B i
            unfold hdB
            rw [fw_of hy y6, e1]
          · intro k hk ih z1 hz1
            have ih2 : ∀ z, ZR z (heS B i k (itr (heS B i) k B)) → _ := ih
            have wn := hr_wf (i := i) wf (show k ≤ nS B by omega)
            have wf1 := wn.1
            have en := wn.2
            have e1 : bS (itr (heS B i) k B) i = bS B i := hr_st k
            have eG : bG (itr (heS B i) k B) = bG B := hr_G
            have hn1 : bG (itr (heS B i) k B) 6 = nI (nS B) := (congrFun eG 6).trans hn
            clear wn
            generalize itr (heS B i) k B = C at hz1 ih2 wf1 hn1 en e1 eG
            refine pw_iload_3 dX8_goesOn_81 ?_
            refine pw_aload_0 dX8_goesOn_82 ?_
            refine pw_getr 8 0 dX8_goesOn_83 fX8_7 rfl (by decide) rfl h.t h.r0 ?_
            refine pw_bipush (v := nI 6) dX8_goesOn_86 (by decide) ?_
            refine pw_ialdN dX8_goesOn_88 h.a1 (by omega) (by decide) ?_
            refine pw_top (show _ = nI (nS B) from by rw [wC_self, hz1.g (by decide)]; exact hn1) ?_
            refine pw_icmp_ge 124 dX8_goesOn_89 (by decide) (fun hh => absurd hh (by rw [nI_leI (by omega) (by omega)]; omega)) (fun _ => ?_)
            refine pw_iload_3 dX8_goesOn_92 ?_
            refine pw_iload_1 dX8_goesOn_93 ?_
            refine pw_icmp_eq 118 dX8_goesOn_94 (by decide) (fun h12 => ?_) (fun h12 => ?_)
            · skip
              refine pw_iincN_3 dX8_goesOn_118 (by decide) ?_
              refine pw_goto 81 dX8_goesOn_121 (by decide) ?_
              refine ih2 _ ?_
              unfold heS
              rw [cif_n (fun hh => hh.1 ((nI_eq (by omega) (by omega)).mp h12))]
              exact hz1
            · skip
              refine pw_aload_0 dX8_goesOn_97 ?_
              refine pw_iload_1 dX8_goesOn_98 ?_
              refine pw_bipush (v := nI 18) dX8_goesOn_99 (by decide) ?_
              refine pw_cV2i 8 dX8_goesOn_101 kX8_40 vX8_at iX8_at ⟨by decide, by decide⟩ ⟨rfl, rfl⟩ (by decide) rfl (Nat.le_of_ble_eq_true rfl) h.t (c_X8_at h hz1 (by omega) (by decide) ?_)
              refine pw_iload_3 dX8_goesOn_104 ?_
              refine pw_ishr dX8_goesOn_105 ?_
              refine pw_iconst (v := nI 1) dX8_goesOn_106 (by decide) ?_
              refine pw_iand dX8_goesOn_107 ?_
              refine pw_iconst (v := nI 1) dX8_goesOn_108 (by decide) ?_
              refine pw_icmp_ne 118 dX8_goesOn_109 (by decide) (fun h13 => ?_) (fun h13 => ?_)
              · skip
                refine pw_iincN_3 dX8_goesOn_118 (by decide) ?_
                refine pw_goto 81 dX8_goesOn_121 (by decide) ?_
                refine ih2 _ ?_
                unfold heS
                rw [cif_n (fun hh => h13 (by rw [e1]; exact hh.2))]
                exact hz1
              · skip
                refine pw_aload_0 dX8_goesOn_112 ?_
                refine pw_iload_3 dX8_goesOn_113 ?_
                refine pw_iload_1 dX8_goesOn_114 ?_
                refine pw_cV2v 8 dX8_goesOn_115 kX8_136 vX8_hears iX8_hears ⟨by decide, by decide⟩ ⟨rfl, rfl⟩ (by decide) rfl (Nat.le_of_ble_eq_true rfl) h.t (m_hears h hz1 wf1 (by omega) (by omega) (fun e => h12 (by rw [e])) (fun z13 hz13 => ?_))
                refine pw_iincN_3 dX8_goesOn_118 (by decide) ?_
                refine pw_goto 81 dX8_goesOn_121 (by decide) ?_
                have hz9 := hz13
                rw [e1, eG] at hz9
                refine ih2 _ ?_
                unfold heS
                rw [cif_y ⟨fun e => h12 (by rw [e]), by have h95 := h13; rw [e1] at h95; exact h95⟩]
                exact hz9
        · skip
          refine pw_if_ne 65 dX8_goesOn_55 (by decide) (fun hh => absurd hh (by decide)) (fun _ => ?_)
          refine pw_aload_0 dX8_goesOn_58 ?_
          refine pw_iload_1 dX8_goesOn_59 ?_
          refine pw_cV1v 8 dX8_goesOn_60 kX8_112 vX8_giveUp iX8_giveUp ⟨by decide, by decide⟩ ⟨rfl, rfl⟩ (by decide) rfl (Nat.le_of_ble_eq_true rfl) h.t (c_X8_giveUp h hz (by omega) (wf.w (by omega)).1 (wf.w (by omega)).2 h0 hy y6 (fun z14 hz14 => ?_))
          refine pw_iconst (v := nI 0) dX8_goesOn_63 (by decide) ?_
          refine pw_zreturn dX8_goesOn_64 rfl (by decide) ?_
          have h17 : bS B i 17 = nI 10 := hkk.trans h1
          have hg : gvP L (awB B) (nS B) B i := Or.inr ⟨h17, h11⟩
          have eG : goP L (awB B) (nS B) i (B, 0) = (guB B i, 0) := (cif_y hs).trans (cif_y hg)
          rw [eG] at q
          exact q _ hz14
theorem m_giveUp {X : Cx} {σ : Sp} {μ : Mm} {Q : Sp → Mm → Prop} {m i : Nat} {z : Nat → Int32} {B : Bs} (h : ShM σ m) (hz : ZR z B) (wf : WF B) (hi : i < nS B) (hs : spB B i) (q : ∀ z', ZR z' (guB B i) → Q σ (wC μ (m + 1) z')) : CTv X mX8_giveUp [.ref m, .int (nI i)] σ (wC μ (m + 1) z) Q := by
  have h8 := wf.n8
  obtain ⟨h0, -⟩ := (wf.s hi).sp hs
  obtain ⟨-, y, y6, hy⟩ := (wf.s hi).word h0
  exact c_X8_giveUp h hz (by omega) (wf.w (by omega)).1 (wf.w (by omega)).2 h0 hy y6 q
set_option maxRecDepth 100000 in
set_option maxHeartbeats 4000000 in
theorem m_charge {X : Cx} {σ : Sp} {μ : Mm} {Q : Sp → Mm → Prop} {m : Nat} {z : Nat → Int32} {B : Bs} {i : Nat} {L : Nat → Prop} (h : ShM σ m) (hz : ZR z B) (wf : WF B) (hi : i < nS B) (hL : ∀ v, v < 6 → μ (m + 7) v = cif (L v) (nI 1) (nI 0)) (q : ∀ z', ZR z' (chS L i B) → Q σ (wC μ (m + 1) z')) : CTv X mX8_charge [.ref m, .int (nI i)] σ ((wC μ (m + 1) z)) Q := by
  refine CT.of (by decide +kernel) (Nat.le_of_ble_eq_true rfl) ?_
  show PW X mX8_charge 0 0 0 [some (.ref m), some (.int (nI i)), none, none] [] σ ((wC μ (m + 1) z)) (LV Q)
  have hn := wf.hn
  have h8 := wf.n8
  refine pw_iconst (v := nI 0) dX8_charge_0 (by decide) ?_
  refine pw_istore_2 dX8_charge_1 (by decide) ?_
  refine pw_iconst (v := nI 0) dX8_charge_2 (by decide) ?_
  refine pw_istore_3 dX8_charge_3 (by decide) ?_
  refine pw_up (P := fun k => PW X mX8_charge 0 0 4 [some (.ref m), some (.int (nI i)), some (.int (nI (cntP (fun v => bi (bS B i 0) (nI v) = nI 1 ∧ ¬ L v) k))), some (.int (nI k))] [] σ (wC μ (m + 1) z) (LV Q)) 6 ?_ ?_ 0 (by omega)
  · skip
    refine pw_iload_3 dX8_charge_4 ?_
    refine pw_bipush (v := nI 6) dX8_charge_5 (by decide) ?_
    refine pw_icmp_ge 42 dX8_charge_7 (by decide) (fun _ => ?_) (fun hh => absurd (by rw [nI_leI (by omega) (by omega)]; omega) hh)
    refine pw_aload_0 dX8_charge_42 ?_
    refine pw_iload_1 dX8_charge_43 ?_
    refine pw_iconst (v := nI 1) dX8_charge_44 (by decide) ?_
    refine pw_cV2i 8 dX8_charge_45 kX8_40 vX8_at iX8_at ⟨by decide, by decide⟩ ⟨rfl, rfl⟩ (by decide) rfl (Nat.le_of_ble_eq_true rfl) h.t (c_X8_at h hz (by omega) (by decide) ?_)
    refine pw_aload_0 dX8_charge_48 ?_
    refine pw_getr 8 0 dX8_charge_49 fX8_7 rfl (by decide) rfl h.t h.r0 ?_
    refine pw_iconst (v := nI 3) dX8_charge_52 (by decide) ?_
    refine pw_ialdN dX8_charge_53 h.a1 (by omega) (by decide) ?_
    refine pw_top (show _ = bG B 3 from by rw [wC_self, hz.g (by decide)]) ?_
    refine pw_iload_2 dX8_charge_54 ?_
    refine pw_imul dX8_charge_55 ?_
    refine pw_iadd dX8_charge_56 ?_
    refine pw_aload_0 dX8_charge_57 ?_
    refine pw_iload_1 dX8_charge_58 ?_
    refine pw_cV1i 8 dX8_charge_59 kX8_121 vX8_isAwake iX8_isAwake ⟨by decide, by decide⟩ ⟨rfl, rfl⟩ (by decide) rfl (Nat.le_of_ble_eq_true rfl) h.t (c_X8_isAwake h hz (by omega) (fun h1 => ?_) (fun h2 => ?_))
    · skip
      refine pw_if_eq 74 dX8_charge_62 (by decide) (fun hh => absurd hh (by decide)) (fun _ => ?_)
      refine pw_aload_0 dX8_charge_65 ?_
      refine pw_getr 8 0 dX8_charge_66 fX8_7 rfl (by decide) rfl h.t h.r0 ?_
      refine pw_iconst (v := nI 2) dX8_charge_69 (by decide) ?_
      refine pw_ialdN dX8_charge_70 h.a1 (by omega) (by decide) ?_
      refine pw_top (show _ = bG B 2 from by rw [wC_self, hz.g (by decide)]) ?_
      refine pw_goto 75 dX8_charge_71 (by decide) ?_
      refine pw_isub dX8_charge_75 ?_
      refine pw_top (show _ = chV L B i by unfold chV hiC; rw [cif_y h1]) ?_
      refine pw_istore_3 dX8_charge_76 (by decide) ?_
      refine pw_aload_0 dX8_charge_77 ?_
      refine pw_iload_1 dX8_charge_78 ?_
      refine pw_iconst (v := nI 1) dX8_charge_79 (by decide) ?_
      refine pw_iload_3 dX8_charge_80 ?_
      refine pw_aload_0 dX8_charge_81 ?_
      refine pw_getr 8 0 dX8_charge_82 fX8_7 rfl (by decide) rfl h.t h.r0 ?_
      refine pw_iconst (v := nI 1) dX8_charge_85 (by decide) ?_
      refine pw_ialdN dX8_charge_86 h.a1 (by omega) (by decide) ?_
      refine pw_top (show _ = bG B 1 from by rw [wC_self, hz.g (by decide)]) ?_
      refine pw_icmp_le 99 dX8_charge_87 (by decide) (fun h3 => ?_) (fun h3 => ?_)
      · skip
        refine pw_iload_3 dX8_charge_99 ?_
        refine pw_if_ge 107 dX8_charge_100 (by decide) (fun h4 => ?_) (fun h4 => ?_)
        · skip
          refine pw_iload_3 dX8_charge_107 ?_
          refine pw_cV3v 8 dX8_charge_108 kX8_55 vX8_lay iX8_lay ⟨by decide, by decide⟩ ⟨rfl, rfl⟩ (by decide) rfl (Nat.le_of_ble_eq_true rfl) h.t (c_X8_lay h hz (by omega) (by decide) (fun z1 hz1 => ?_))
          have ec : clV (chV L B i) (bG B 1) = chV L B i := (if_neg (Int32.not_lt.mpr h3)).trans (if_neg (Int32.not_lt.mpr h4))
          have hz5 : ZR z1 (ch1 L B i) := by unfold ch1; rw [ec]; exact hz1
          have wf2 : WF (ch1 L B i) := wf.k1 hi
          refine pw_iload_3 dX8_charge_111 ?_
          refine pw_if_ge 135 dX8_charge_112 (by decide) (fun h5 => ?_) (fun h5 => ?_)
          · skip
            have hz6 : ZR z1 (chD L B i) := by unfold chD; rw [if_neg (Int32.not_lt.mpr h5)]; exact hz5
            have eD : bG (chD L B i) = bG B := G_chD
            refine pw_st rfl rfl ?_
            refine pw_aload_0 dX8_charge_135 ?_
            refine pw_iload_1 dX8_charge_136 ?_
            refine pw_iconst (v := nI 2) dX8_charge_137 (by decide) ?_
            refine pw_cV2i 8 dX8_charge_138 kX8_40 vX8_at iX8_at ⟨by decide, by decide⟩ ⟨rfl, rfl⟩ (by decide) rfl (Nat.le_of_ble_eq_true rfl) h.t (c_X8_at h hz6 (by omega) (by decide) ?_)
            refine pw_iconst (v := nI 1) dX8_charge_141 (by decide) ?_
            refine pw_icmp_ne 178 dX8_charge_142 (by decide) (fun h6 => ?_) (fun h6 => ?_)
            · skip
              refine pw_return dX8_charge_178 rfl ?_
              refine q _ (Eq.mp (congrArg (fun b => ZR z1 b) ?_) hz6)
              rw [chS_D]
              unfold ch3
              rw [cif_n (fun hh => h6 hh.1)]
            · skip
              refine pw_aload_0 dX8_charge_145 ?_
              refine pw_iload_1 dX8_charge_146 ?_
              refine pw_iconst (v := nI 3) dX8_charge_147 (by decide) ?_
              refine pw_cV2i 8 dX8_charge_148 kX8_40 vX8_at iX8_at ⟨by decide, by decide⟩ ⟨rfl, rfl⟩ (by decide) rfl (Nat.le_of_ble_eq_true rfl) h.t (c_X8_at h hz6 (by omega) (by decide) ?_)
              refine pw_if_ne 178 dX8_charge_151 (by decide) (fun h7 => ?_) (fun h7 => ?_)
              · skip
                refine pw_return dX8_charge_178 rfl ?_
                refine q _ (Eq.mp (congrArg (fun b => ZR z1 b) ?_) hz6)
                rw [chS_D]
                unfold ch3
                rw [cif_n (fun hh => h7 hh.2.1)]
              · skip
                refine pw_aload_0 dX8_charge_154 ?_
                refine pw_iload_1 dX8_charge_155 ?_
                refine pw_iconst (v := nI 1) dX8_charge_156 (by decide) ?_
                refine pw_cV2i 8 dX8_charge_157 kX8_40 vX8_at iX8_at ⟨by decide, by decide⟩ ⟨rfl, rfl⟩ (by decide) rfl (Nat.le_of_ble_eq_true rfl) h.t (c_X8_at h hz6 (by omega) (by decide) ?_)
                refine pw_aload_0 dX8_charge_160 ?_
                refine pw_getr 8 0 dX8_charge_161 fX8_7 rfl (by decide) rfl h.t h.r0 ?_
                refine pw_iconst (v := nI 1) dX8_charge_164 (by decide) ?_
                refine pw_ialdN dX8_charge_165 h.a1 (by omega) (by decide) ?_
                refine pw_top (show _ = bG (chD L B i) 1 from by rw [wC_self, hz6.g (by decide)]) ?_
                refine pw_iconst (v := nI 2) dX8_charge_166 (by decide) ?_
                refine pw_idiv dX8_charge_167 (by decide) ?_
                refine pw_icmp_lt 178 dX8_charge_168 (by decide) (fun h8 => ?_) (fun h8 => ?_)
                · skip
                  refine pw_return dX8_charge_178 rfl ?_
                  refine q _ (Eq.mp (congrArg (fun b => ZR z1 b) ?_) hz6)
                  rw [chS_D]
                  unfold ch3
                  rw [cif_n (fun hh => Int32.not_le.mpr h8 hh.2.2)]
                · skip
                  refine pw_aload_0 dX8_charge_171 ?_
                  refine pw_iload_1 dX8_charge_172 ?_
                  refine pw_iconst (v := nI 2) dX8_charge_173 (by decide) ?_
                  refine pw_iconst (v := nI 0) dX8_charge_174 (by decide) ?_
                  refine pw_cV3v 8 dX8_charge_175 kX8_55 vX8_lay iX8_lay ⟨by decide, by decide⟩ ⟨rfl, rfl⟩ (by decide) rfl (Nat.le_of_ble_eq_true rfl) h.t (c_X8_lay h hz6 (by omega) (by decide) (fun z2 hz2 => ?_))
                  refine pw_return dX8_charge_178 rfl ?_
                  refine q _ (Eq.mp (congrArg (fun b => ZR z2 b) ?_) hz2)
                  rw [chS_D]
                  unfold ch3
                  rw [cif_y ⟨h6, h7, Int32.not_lt.mp h8⟩]
          · skip
            refine pw_aload_0 dX8_charge_115 ?_
            refine pw_iload_1 dX8_charge_116 ?_
            refine pw_iconst (v := nI 2) dX8_charge_117 (by decide) ?_
            refine pw_iconst (v := nI 1) dX8_charge_118 (by decide) ?_
            refine pw_cV3v 8 dX8_charge_119 kX8_55 vX8_lay iX8_lay ⟨by decide, by decide⟩ ⟨rfl, rfl⟩ (by decide) rfl (Nat.le_of_ble_eq_true rfl) h.t (c_X8_lay h hz5 (by omega) (by decide) (fun z3 hz3 => ?_))
            have wf3 : WF (setS (ch1 L B i) i (upd (bS (ch1 L B i) i) 2 (nI 1))) := wf2.pS hi ((wf2.s hi).z (Or.inl rfl) (Or.inr rfl)) (by rw [upd_n _ _ (by omega)]; exact wf2.c hi)
            refine pw_aload_0 dX8_charge_122 ?_
            refine pw_iload_1 dX8_charge_123 ?_
            refine pw_cV1i 8 dX8_charge_124 kX8_109 vX8_speaks iX8_speaks ⟨by decide, by decide⟩ ⟨rfl, rfl⟩ (by decide) rfl (Nat.le_of_ble_eq_true rfl) h.t (c_X8_speaks h hz3 (by omega) (fun h9 => ?_) (fun h10 => ?_))
            · skip
              refine pw_if_eq 135 dX8_charge_127 (by decide) (fun hh => absurd hh (by decide)) (fun _ => ?_)
              refine pw_aload_0 dX8_charge_130 ?_
              refine pw_iload_1 dX8_charge_131 ?_
              refine pw_cV1v 8 dX8_charge_132 kX8_112 vX8_giveUp iX8_giveUp ⟨by decide, by decide⟩ ⟨rfl, rfl⟩ (by decide) rfl (Nat.le_of_ble_eq_true rfl) h.t (m_giveUp h hz3 wf3 hi h9 (fun z4 hz4 => ?_))
              have hz6 : ZR z4 (chD L B i) := by unfold chD; rw [if_pos (Int32.not_le.mp h5)]; unfold ch2; rw [cif_y (show spB (ch1 L B i) i from fun e => h9 (by rw [bS_setS_s, upd_n _ _ (by omega)]; exact e))]; exact hz4
              have eD : bG (chD L B i) = bG B := G_chD
              refine pw_st rfl rfl ?_
              refine pw_aload_0 dX8_charge_135 ?_
              refine pw_iload_1 dX8_charge_136 ?_
              refine pw_iconst (v := nI 2) dX8_charge_137 (by decide) ?_
              refine pw_cV2i 8 dX8_charge_138 kX8_40 vX8_at iX8_at ⟨by decide, by decide⟩ ⟨rfl, rfl⟩ (by decide) rfl (Nat.le_of_ble_eq_true rfl) h.t (c_X8_at h hz6 (by omega) (by decide) ?_)
              refine pw_iconst (v := nI 1) dX8_charge_141 (by decide) ?_
              refine pw_icmp_ne 178 dX8_charge_142 (by decide) (fun h11 => ?_) (fun h11 => ?_)
              · skip
                refine pw_return dX8_charge_178 rfl ?_
                refine q _ (Eq.mp (congrArg (fun b => ZR z4 b) ?_) hz6)
                rw [chS_D]
                unfold ch3
                rw [cif_n (fun hh => h11 hh.1)]
              · skip
                refine pw_aload_0 dX8_charge_145 ?_
                refine pw_iload_1 dX8_charge_146 ?_
                refine pw_iconst (v := nI 3) dX8_charge_147 (by decide) ?_
                refine pw_cV2i 8 dX8_charge_148 kX8_40 vX8_at iX8_at ⟨by decide, by decide⟩ ⟨rfl, rfl⟩ (by decide) rfl (Nat.le_of_ble_eq_true rfl) h.t (c_X8_at h hz6 (by omega) (by decide) ?_)
                refine pw_if_ne 178 dX8_charge_151 (by decide) (fun h12 => ?_) (fun h12 => ?_)
                · skip
                  refine pw_return dX8_charge_178 rfl ?_
                  refine q _ (Eq.mp (congrArg (fun b => ZR z4 b) ?_) hz6)
                  rw [chS_D]
                  unfold ch3
                  rw [cif_n (fun hh => h12 hh.2.1)]
                · skip
                  refine pw_aload_0 dX8_charge_154 ?_
                  refine pw_iload_1 dX8_charge_155 ?_
                  refine pw_iconst (v := nI 1) dX8_charge_156 (by decide) ?_
                  refine pw_cV2i 8 dX8_charge_157 kX8_40 vX8_at iX8_at ⟨by decide, by decide⟩ ⟨rfl, rfl⟩ (by decide) rfl (Nat.le_of_ble_eq_true rfl) h.t (c_X8_at h hz6 (by omega) (by decide) ?_)
                  refine pw_aload_0 dX8_charge_160 ?_
                  refine pw_getr 8 0 dX8_charge_161 fX8_7 rfl (by decide) rfl h.t h.r0 ?_
                  refine pw_iconst (v := nI 1) dX8_charge_164 (by decide) ?_
                  refine pw_ialdN dX8_charge_165 h.a1 (by omega) (by decide) ?_
                  refine pw_top (show _ = bG (chD L B i) 1 from by rw [wC_self, hz6.g (by decide)]) ?_
                  refine pw_iconst (v := nI 2) dX8_charge_166 (by decide) ?_
                  refine pw_idiv dX8_charge_167 (by decide) ?_
                  refine pw_icmp_lt 178 dX8_charge_168 (by decide) (fun h13 => ?_) (fun h13 => ?_)
                  · skip
                    refine pw_return dX8_charge_178 rfl ?_
                    refine q _ (Eq.mp (congrArg (fun b => ZR z4 b) ?_) hz6)
                    rw [chS_D]
                    unfold ch3
                    rw [cif_n (fun hh => Int32.not_le.mpr h13 hh.2.2)]
                  · skip
                    refine pw_aload_0 dX8_charge_171 ?_
                    refine pw_iload_1 dX8_charge_172 ?_
                    refine pw_iconst (v := nI 2) dX8_charge_173 (by decide) ?_
                    refine pw_iconst (v := nI 0) dX8_charge_174 (by decide) ?_
                    refine pw_cV3v 8 dX8_charge_175 kX8_55 vX8_lay iX8_lay ⟨by decide, by decide⟩ ⟨rfl, rfl⟩ (by decide) rfl (Nat.le_of_ble_eq_true rfl) h.t (c_X8_lay h hz6 (by omega) (by decide) (fun z5 hz5 => ?_))
                    refine pw_return dX8_charge_178 rfl ?_
                    refine q _ (Eq.mp (congrArg (fun b => ZR z5 b) ?_) hz5)
                    rw [chS_D]
                    unfold ch3
                    rw [cif_y ⟨h11, h12, Int32.not_lt.mp h13⟩]
            · skip
              refine pw_if_eq 135 dX8_charge_127 (by decide) (fun _ => ?_) (fun hh => absurd (by decide) hh)
              have hz6 : ZR z3 (chD L B i) := by unfold chD; rw [if_pos (Int32.not_le.mp h5)]; unfold ch2; rw [cif_n (fun hh => h10 (fun e => hh (by rw [bS_setS_s, upd_n _ _ (by omega)] at e; exact e)))]; exact hz3
              have eD : bG (chD L B i) = bG B := G_chD
              refine pw_st rfl rfl ?_
              refine pw_aload_0 dX8_charge_135 ?_
              refine pw_iload_1 dX8_charge_136 ?_
              refine pw_iconst (v := nI 2) dX8_charge_137 (by decide) ?_
              refine pw_cV2i 8 dX8_charge_138 kX8_40 vX8_at iX8_at ⟨by decide, by decide⟩ ⟨rfl, rfl⟩ (by decide) rfl (Nat.le_of_ble_eq_true rfl) h.t (c_X8_at h hz6 (by omega) (by decide) ?_)
              refine pw_iconst (v := nI 1) dX8_charge_141 (by decide) ?_
              refine pw_icmp_ne 178 dX8_charge_142 (by decide) (fun h14 => ?_) (fun h14 => ?_)
              · skip
                refine pw_return dX8_charge_178 rfl ?_
                refine q _ (Eq.mp (congrArg (fun b => ZR z3 b) ?_) hz6)
                rw [chS_D]
                unfold ch3
                rw [cif_n (fun hh => h14 hh.1)]
              · skip
                refine pw_aload_0 dX8_charge_145 ?_
                refine pw_iload_1 dX8_charge_146 ?_
                refine pw_iconst (v := nI 3) dX8_charge_147 (by decide) ?_
                refine pw_cV2i 8 dX8_charge_148 kX8_40 vX8_at iX8_at ⟨by decide, by decide⟩ ⟨rfl, rfl⟩ (by decide) rfl (Nat.le_of_ble_eq_true rfl) h.t (c_X8_at h hz6 (by omega) (by decide) ?_)
                refine pw_if_ne 178 dX8_charge_151 (by decide) (fun h15 => ?_) (fun h15 => ?_)
                · skip
                  refine pw_return dX8_charge_178 rfl ?_
                  refine q _ (Eq.mp (congrArg (fun b => ZR z3 b) ?_) hz6)
                  rw [chS_D]
                  unfold ch3
                  rw [cif_n (fun hh => h15 hh.2.1)]
                · skip
                  refine pw_aload_0 dX8_charge_154 ?_
                  refine pw_iload_1 dX8_charge_155 ?_
                  refine pw_iconst (v := nI 1) dX8_charge_156 (by decide) ?_
                  refine pw_cV2i 8 dX8_charge_157 kX8_40 vX8_at iX8_at ⟨by decide, by decide⟩ ⟨rfl, rfl⟩ (by decide) rfl (Nat.le_of_ble_eq_true rfl) h.t (c_X8_at h hz6 (by omega) (by decide) ?_)
                  refine pw_aload_0 dX8_charge_160 ?_
                  refine pw_getr 8 0 dX8_charge_161 fX8_7 rfl (by decide) rfl h.t h.r0 ?_
                  refine pw_iconst (v := nI 1) dX8_charge_164 (by decide) ?_
                  refine pw_ialdN dX8_charge_165 h.a1 (by omega) (by decide) ?_
                  refine pw_top (show _ = bG (chD L B i) 1 from by rw [wC_self, hz6.g (by decide)]) ?_
                  refine pw_iconst (v := nI 2) dX8_charge_166 (by decide) ?_
                  refine pw_idiv dX8_charge_167 (by decide) ?_
                  refine pw_icmp_lt 178 dX8_charge_168 (by decide) (fun h16 => ?_) (fun h16 => ?_)
                  · skip
                    refine pw_return dX8_charge_178 rfl ?_
                    refine q _ (Eq.mp (congrArg (fun b => ZR z3 b) ?_) hz6)
                    rw [chS_D]
                    unfold ch3
                    rw [cif_n (fun hh => Int32.not_le.mpr h16 hh.2.2)]
                  · skip
                    refine pw_aload_0 dX8_charge_171 ?_
                    refine pw_iload_1 dX8_charge_172 ?_
                    refine pw_iconst (v := nI 2) dX8_charge_173 (by decide) ?_
                    refine pw_iconst (v := nI 0) dX8_charge_174 (by decide) ?_
                    refine pw_cV3v 8 dX8_charge_175 kX8_55 vX8_lay iX8_lay ⟨by decide, by decide⟩ ⟨rfl, rfl⟩ (by decide) rfl (Nat.le_of_ble_eq_true rfl) h.t (c_X8_lay h hz6 (by omega) (by decide) (fun z6 hz6 => ?_))
                    refine pw_return dX8_charge_178 rfl ?_
                    refine q _ (Eq.mp (congrArg (fun b => ZR z6 b) ?_) hz6)
                    rw [chS_D]
                    unfold ch3
                    rw [cif_y ⟨h14, h15, Int32.not_lt.mp h16⟩]
        · skip
          refine pw_iconst (v := nI 0) dX8_charge_103 (by decide) ?_
          refine pw_goto 108 dX8_charge_104 (by decide) ?_
          refine pw_cV3v 8 dX8_charge_108 kX8_55 vX8_lay iX8_lay ⟨by decide, by decide⟩ ⟨rfl, rfl⟩ (by decide) rfl (Nat.le_of_ble_eq_true rfl) h.t (c_X8_lay h hz (by omega) (by decide) (fun z7 hz7 => ?_))
          have ec : clV (chV L B i) (bG B 1) = nI 0 := (if_neg (Int32.not_lt.mpr h3)).trans (if_pos (Int32.not_le.mp h4))
          have hz5 : ZR z7 (ch1 L B i) := by unfold ch1; rw [ec]; exact hz7
          have wf2 : WF (ch1 L B i) := wf.k1 hi
          refine pw_iload_3 dX8_charge_111 ?_
          refine pw_if_ge 135 dX8_charge_112 (by decide) (fun h17 => ?_) (fun h17 => ?_)
          · skip
            have hz6 : ZR z7 (chD L B i) := by unfold chD; rw [if_neg (Int32.not_lt.mpr h17)]; exact hz5
            have eD : bG (chD L B i) = bG B := G_chD
            refine pw_st rfl rfl ?_
            refine pw_aload_0 dX8_charge_135 ?_
            refine pw_iload_1 dX8_charge_136 ?_
            refine pw_iconst (v := nI 2) dX8_charge_137 (by decide) ?_
            refine pw_cV2i 8 dX8_charge_138 kX8_40 vX8_at iX8_at ⟨by decide, by decide⟩ ⟨rfl, rfl⟩ (by decide) rfl (Nat.le_of_ble_eq_true rfl) h.t (c_X8_at h hz6 (by omega) (by decide) ?_)
            refine pw_iconst (v := nI 1) dX8_charge_141 (by decide) ?_
            refine pw_icmp_ne 178 dX8_charge_142 (by decide) (fun h18 => ?_) (fun h18 => ?_)
            · skip
              refine pw_return dX8_charge_178 rfl ?_
              refine q _ (Eq.mp (congrArg (fun b => ZR z7 b) ?_) hz6)
              rw [chS_D]
              unfold ch3
              rw [cif_n (fun hh => h18 hh.1)]
            · skip
              refine pw_aload_0 dX8_charge_145 ?_
              refine pw_iload_1 dX8_charge_146 ?_
              refine pw_iconst (v := nI 3) dX8_charge_147 (by decide) ?_
              refine pw_cV2i 8 dX8_charge_148 kX8_40 vX8_at iX8_at ⟨by decide, by decide⟩ ⟨rfl, rfl⟩ (by decide) rfl (Nat.le_of_ble_eq_true rfl) h.t (c_X8_at h hz6 (by omega) (by decide) ?_)
              refine pw_if_ne 178 dX8_charge_151 (by decide) (fun h19 => ?_) (fun h19 => ?_)
              · skip
                refine pw_return dX8_charge_178 rfl ?_
                refine q _ (Eq.mp (congrArg (fun b => ZR z7 b) ?_) hz6)
                rw [chS_D]
                unfold ch3
                rw [cif_n (fun hh => h19 hh.2.1)]
              · skip
                refine pw_aload_0 dX8_charge_154 ?_
                refine pw_iload_1 dX8_charge_155 ?_
                refine pw_iconst (v := nI 1) dX8_charge_156 (by decide) ?_
                refine pw_cV2i 8 dX8_charge_157 kX8_40 vX8_at iX8_at ⟨by decide, by decide⟩ ⟨rfl, rfl⟩ (by decide) rfl (Nat.le_of_ble_eq_true rfl) h.t (c_X8_at h hz6 (by omega) (by decide) ?_)
                refine pw_aload_0 dX8_charge_160 ?_
                refine pw_getr 8 0 dX8_charge_161 fX8_7 rfl (by decide) rfl h.t h.r0 ?_
                refine pw_iconst (v := nI 1) dX8_charge_164 (by decide) ?_
                refine pw_ialdN dX8_charge_165 h.a1 (by omega) (by decide) ?_
                refine pw_top (show _ = bG (chD L B i) 1 from by rw [wC_self, hz6.g (by decide)]) ?_
                refine pw_iconst (v := nI 2) dX8_charge_166 (by decide) ?_
                refine pw_idiv dX8_charge_167 (by decide) ?_
                refine pw_icmp_lt 178 dX8_charge_168 (by decide) (fun h20 => ?_) (fun h20 => ?_)
                · skip
                  refine pw_return dX8_charge_178 rfl ?_
                  refine q _ (Eq.mp (congrArg (fun b => ZR z7 b) ?_) hz6)
                  rw [chS_D]
                  unfold ch3
                  rw [cif_n (fun hh => Int32.not_le.mpr h20 hh.2.2)]
                · skip
                  refine pw_aload_0 dX8_charge_171 ?_
                  refine pw_iload_1 dX8_charge_172 ?_
                  refine pw_iconst (v := nI 2) dX8_charge_173 (by decide) ?_
                  refine pw_iconst (v := nI 0) dX8_charge_174 (by decide) ?_
                  refine pw_cV3v 8 dX8_charge_175 kX8_55 vX8_lay iX8_lay ⟨by decide, by decide⟩ ⟨rfl, rfl⟩ (by decide) rfl (Nat.le_of_ble_eq_true rfl) h.t (c_X8_lay h hz6 (by omega) (by decide) (fun z8 hz8 => ?_))
                  refine pw_return dX8_charge_178 rfl ?_
                  refine q _ (Eq.mp (congrArg (fun b => ZR z8 b) ?_) hz8)
                  rw [chS_D]
                  unfold ch3
                  rw [cif_y ⟨h18, h19, Int32.not_lt.mp h20⟩]
          · skip
            refine pw_aload_0 dX8_charge_115 ?_
            refine pw_iload_1 dX8_charge_116 ?_
            refine pw_iconst (v := nI 2) dX8_charge_117 (by decide) ?_
            refine pw_iconst (v := nI 1) dX8_charge_118 (by decide) ?_
            refine pw_cV3v 8 dX8_charge_119 kX8_55 vX8_lay iX8_lay ⟨by decide, by decide⟩ ⟨rfl, rfl⟩ (by decide) rfl (Nat.le_of_ble_eq_true rfl) h.t (c_X8_lay h hz5 (by omega) (by decide) (fun z9 hz9 => ?_))
            have wf3 : WF (setS (ch1 L B i) i (upd (bS (ch1 L B i) i) 2 (nI 1))) := wf2.pS hi ((wf2.s hi).z (Or.inl rfl) (Or.inr rfl)) (by rw [upd_n _ _ (by omega)]; exact wf2.c hi)
            refine pw_aload_0 dX8_charge_122 ?_
            refine pw_iload_1 dX8_charge_123 ?_
            refine pw_cV1i 8 dX8_charge_124 kX8_109 vX8_speaks iX8_speaks ⟨by decide, by decide⟩ ⟨rfl, rfl⟩ (by decide) rfl (Nat.le_of_ble_eq_true rfl) h.t (c_X8_speaks h hz9 (by omega) (fun h21 => ?_) (fun h22 => ?_))
            · skip
              refine pw_if_eq 135 dX8_charge_127 (by decide) (fun hh => absurd hh (by decide)) (fun _ => ?_)
              refine pw_aload_0 dX8_charge_130 ?_
              refine pw_iload_1 dX8_charge_131 ?_
              refine pw_cV1v 8 dX8_charge_132 kX8_112 vX8_giveUp iX8_giveUp ⟨by decide, by decide⟩ ⟨rfl, rfl⟩ (by decide) rfl (Nat.le_of_ble_eq_true rfl) h.t (m_giveUp h hz9 wf3 hi h21 (fun z10 hz10 => ?_))
              have hz6 : ZR z10 (chD L B i) := by unfold chD; rw [if_pos (Int32.not_le.mp h17)]; unfold ch2; rw [cif_y (show spB (ch1 L B i) i from fun e => h21 (by rw [bS_setS_s, upd_n _ _ (by omega)]; exact e))]; exact hz10
              have eD : bG (chD L B i) = bG B := G_chD
              refine pw_st rfl rfl ?_
              refine pw_aload_0 dX8_charge_135 ?_
              refine pw_iload_1 dX8_charge_136 ?_
              refine pw_iconst (v := nI 2) dX8_charge_137 (by decide) ?_
              refine pw_cV2i 8 dX8_charge_138 kX8_40 vX8_at iX8_at ⟨by decide, by decide⟩ ⟨rfl, rfl⟩ (by decide) rfl (Nat.le_of_ble_eq_true rfl) h.t (c_X8_at h hz6 (by omega) (by decide) ?_)
              refine pw_iconst (v := nI 1) dX8_charge_141 (by decide) ?_
              refine pw_icmp_ne 178 dX8_charge_142 (by decide) (fun h23 => ?_) (fun h23 => ?_)
              · skip
                refine pw_return dX8_charge_178 rfl ?_
                refine q _ (Eq.mp (congrArg (fun b => ZR z10 b) ?_) hz6)
                rw [chS_D]
                unfold ch3
                rw [cif_n (fun hh => h23 hh.1)]
              · skip
                refine pw_aload_0 dX8_charge_145 ?_
                refine pw_iload_1 dX8_charge_146 ?_
                refine pw_iconst (v := nI 3) dX8_charge_147 (by decide) ?_
                refine pw_cV2i 8 dX8_charge_148 kX8_40 vX8_at iX8_at ⟨by decide, by decide⟩ ⟨rfl, rfl⟩ (by decide) rfl (Nat.le_of_ble_eq_true rfl) h.t (c_X8_at h hz6 (by omega) (by decide) ?_)
                refine pw_if_ne 178 dX8_charge_151 (by decide) (fun h24 => ?_) (fun h24 => ?_)
                · skip
                  refine pw_return dX8_charge_178 rfl ?_
                  refine q _ (Eq.mp (congrArg (fun b => ZR z10 b) ?_) hz6)
                  rw [chS_D]
                  unfold ch3
                  rw [cif_n (fun hh => h24 hh.2.1)]
                · skip
                  refine pw_aload_0 dX8_charge_154 ?_
                  refine pw_iload_1 dX8_charge_155 ?_
                  refine pw_iconst (v := nI 1) dX8_charge_156 (by decide) ?_
                  refine pw_cV2i 8 dX8_charge_157 kX8_40 vX8_at iX8_at ⟨by decide, by decide⟩ ⟨rfl, rfl⟩ (by decide) rfl (Nat.le_of_ble_eq_true rfl) h.t (c_X8_at h hz6 (by omega) (by decide) ?_)
                  refine pw_aload_0 dX8_charge_160 ?_
                  refine pw_getr 8 0 dX8_charge_161 fX8_7 rfl (by decide) rfl h.t h.r0 ?_
                  refine pw_iconst (v := nI 1) dX8_charge_164 (by decide) ?_
                  refine pw_ialdN dX8_charge_165 h.a1 (by omega) (by decide) ?_
                  refine pw_top (show _ = bG (chD L B i) 1 from by rw [wC_self, hz6.g (by decide)]) ?_
                  refine pw_iconst (v := nI 2) dX8_charge_166 (by decide) ?_
                  refine pw_idiv dX8_charge_167 (by decide) ?_
                  refine pw_icmp_lt 178 dX8_charge_168 (by decide) (fun h25 => ?_) (fun h25 => ?_)
                  · skip
                    refine pw_return dX8_charge_178 rfl ?_
                    refine q _ (Eq.mp (congrArg (fun b => ZR z10 b) ?_) hz6)
                    rw [chS_D]
                    unfold ch3
                    rw [cif_n (fun hh => Int32.not_le.mpr h25 hh.2.2)]
                  · skip
                    refine pw_aload_0 dX8_charge_171 ?_
                    refine pw_iload_1 dX8_charge_172 ?_
                    refine pw_iconst (v := nI 2) dX8_charge_173 (by decide) ?_
                    refine pw_iconst (v := nI 0) dX8_charge_174 (by decide) ?_
                    refine pw_cV3v 8 dX8_charge_175 kX8_55 vX8_lay iX8_lay ⟨by decide, by decide⟩ ⟨rfl, rfl⟩ (by decide) rfl (Nat.le_of_ble_eq_true rfl) h.t (c_X8_lay h hz6 (by omega) (by decide) (fun z11 hz11 => ?_))
                    refine pw_return dX8_charge_178 rfl ?_
                    refine q _ (Eq.mp (congrArg (fun b => ZR z11 b) ?_) hz11)
                    rw [chS_D]
                    unfold ch3
                    rw [cif_y ⟨h23, h24, Int32.not_lt.mp h25⟩]
            · skip
              refine pw_if_eq 135 dX8_charge_127 (by decide) (fun _ => ?_) (fun hh => absurd (by decide) hh)
              have hz6 : ZR z9 (chD L B i) := by unfold chD; rw [if_pos (Int32.not_le.mp h17)]; unfold ch2; rw [cif_n (fun hh => h22 (fun e => hh (by rw [bS_setS_s, upd_n _ _ (by omega)] at e; exact e)))]; exact hz9
              have eD : bG (chD L B i) = bG B := G_chD
              refine pw_st rfl rfl ?_
              refine pw_aload_0 dX8_charge_135 ?_
              refine pw_iload_1 dX8_charge_136 ?_
              refine pw_iconst (v := nI 2) dX8_charge_137 (by decide) ?_
              refine pw_cV2i 8 dX8_charge_138 kX8_40 vX8_at iX8_at ⟨by decide, by decide⟩ ⟨rfl, rfl⟩ (by decide) rfl (Nat.le_of_ble_eq_true rfl) h.t (c_X8_at h hz6 (by omega) (by decide) ?_)
              refine pw_iconst (v := nI 1) dX8_charge_141 (by decide) ?_
              refine pw_icmp_ne 178 dX8_charge_142 (by decide) (fun h26 => ?_) (fun h26 => ?_)
              · skip
                refine pw_return dX8_charge_178 rfl ?_
                refine q _ (Eq.mp (congrArg (fun b => ZR z9 b) ?_) hz6)
                rw [chS_D]
                unfold ch3
                rw [cif_n (fun hh => h26 hh.1)]
              · skip
                refine pw_aload_0 dX8_charge_145 ?_
                refine pw_iload_1 dX8_charge_146 ?_
                refine pw_iconst (v := nI 3) dX8_charge_147 (by decide) ?_
                refine pw_cV2i 8 dX8_charge_148 kX8_40 vX8_at iX8_at ⟨by decide, by decide⟩ ⟨rfl, rfl⟩ (by decide) rfl (Nat.le_of_ble_eq_true rfl) h.t (c_X8_at h hz6 (by omega) (by decide) ?_)
                refine pw_if_ne 178 dX8_charge_151 (by decide) (fun h27 => ?_) (fun h27 => ?_)
                · skip
                  refine pw_return dX8_charge_178 rfl ?_
                  refine q _ (Eq.mp (congrArg (fun b => ZR z9 b) ?_) hz6)
                  rw [chS_D]
                  unfold ch3
                  rw [cif_n (fun hh => h27 hh.2.1)]
                · skip
                  refine pw_aload_0 dX8_charge_154 ?_
                  refine pw_iload_1 dX8_charge_155 ?_
                  refine pw_iconst (v := nI 1) dX8_charge_156 (by decide) ?_
                  refine pw_cV2i 8 dX8_charge_157 kX8_40 vX8_at iX8_at ⟨by decide, by decide⟩ ⟨rfl, rfl⟩ (by decide) rfl (Nat.le_of_ble_eq_true rfl) h.t (c_X8_at h hz6 (by omega) (by decide) ?_)
                  refine pw_aload_0 dX8_charge_160 ?_
                  refine pw_getr 8 0 dX8_charge_161 fX8_7 rfl (by decide) rfl h.t h.r0 ?_
                  refine pw_iconst (v := nI 1) dX8_charge_164 (by decide) ?_
                  refine pw_ialdN dX8_charge_165 h.a1 (by omega) (by decide) ?_
                  refine pw_top (show _ = bG (chD L B i) 1 from by rw [wC_self, hz6.g (by decide)]) ?_
                  refine pw_iconst (v := nI 2) dX8_charge_166 (by decide) ?_
                  refine pw_idiv dX8_charge_167 (by decide) ?_
                  refine pw_icmp_lt 178 dX8_charge_168 (by decide) (fun h28 => ?_) (fun h28 => ?_)
                  · skip
                    refine pw_return dX8_charge_178 rfl ?_
                    refine q _ (Eq.mp (congrArg (fun b => ZR z9 b) ?_) hz6)
                    rw [chS_D]
                    unfold ch3
                    rw [cif_n (fun hh => Int32.not_le.mpr h28 hh.2.2)]
                  · skip
                    refine pw_aload_0 dX8_charge_171 ?_
                    refine pw_iload_1 dX8_charge_172 ?_
                    refine pw_iconst (v := nI 2) dX8_charge_173 (by decide) ?_
                    refine pw_iconst (v := nI 0) dX8_charge_174 (by decide) ?_
                    refine pw_cV3v 8 dX8_charge_175 kX8_55 vX8_lay iX8_lay ⟨by decide, by decide⟩ ⟨rfl, rfl⟩ (by decide) rfl (Nat.le_of_ble_eq_true rfl) h.t (c_X8_lay h hz6 (by omega) (by decide) (fun z12 hz12 => ?_))
                    refine pw_return dX8_charge_178 rfl ?_
                    refine q _ (Eq.mp (congrArg (fun b => ZR z12 b) ?_) hz12)
                    rw [chS_D]
                    unfold ch3
                    rw [cif_y ⟨h26, h27, Int32.not_lt.mp h28⟩]
      · skip
        refine pw_aload_0 dX8_charge_90 ?_
        refine pw_getr 8 0 dX8_charge_91 fX8_7 rfl (by decide) rfl h.t h.r0 ?_
        refine pw_iconst (v := nI 1) dX8_charge_94 (by decide) ?_
        refine pw_ialdN dX8_charge_95 h.a1 (by omega) (by decide) ?_
        refine pw_top (show _ = bG B 1 from by rw [wC_self, hz.g (by decide)]) ?_
        refine pw_goto 108 dX8_charge_96 (by decide) ?_
        refine pw_cV3v 8 dX8_charge_108 kX8_55 vX8_lay iX8_lay ⟨by decide, by decide⟩ ⟨rfl, rfl⟩ (by decide) rfl (Nat.le_of_ble_eq_true rfl) h.t (c_X8_lay h hz (by omega) (by decide) (fun z13 hz13 => ?_))
        have ec : clV (chV L B i) (bG B 1) = bG B 1 := if_pos (Int32.not_le.mp h3)
        have hz5 : ZR z13 (ch1 L B i) := by unfold ch1; rw [ec]; exact hz13
        have wf2 : WF (ch1 L B i) := wf.k1 hi
        refine pw_iload_3 dX8_charge_111 ?_
        refine pw_if_ge 135 dX8_charge_112 (by decide) (fun h29 => ?_) (fun h29 => ?_)
        · skip
          have hz6 : ZR z13 (chD L B i) := by unfold chD; rw [if_neg (Int32.not_lt.mpr h29)]; exact hz5
          have eD : bG (chD L B i) = bG B := G_chD
          refine pw_st rfl rfl ?_
          refine pw_aload_0 dX8_charge_135 ?_
          refine pw_iload_1 dX8_charge_136 ?_
          refine pw_iconst (v := nI 2) dX8_charge_137 (by decide) ?_
          refine pw_cV2i 8 dX8_charge_138 kX8_40 vX8_at iX8_at ⟨by decide, by decide⟩ ⟨rfl, rfl⟩ (by decide) rfl (Nat.le_of_ble_eq_true rfl) h.t (c_X8_at h hz6 (by omega) (by decide) ?_)
          refine pw_iconst (v := nI 1) dX8_charge_141 (by decide) ?_
          refine pw_icmp_ne 178 dX8_charge_142 (by decide) (fun h30 => ?_) (fun h30 => ?_)
          · skip
            refine pw_return dX8_charge_178 rfl ?_
            refine q _ (Eq.mp (congrArg (fun b => ZR z13 b) ?_) hz6)
            rw [chS_D]
            unfold ch3
            rw [cif_n (fun hh => h30 hh.1)]
          · skip
            refine pw_aload_0 dX8_charge_145 ?_
            refine pw_iload_1 dX8_charge_146 ?_
            refine pw_iconst (v := nI 3) dX8_charge_147 (by decide) ?_
            refine pw_cV2i 8 dX8_charge_148 kX8_40 vX8_at iX8_at ⟨by decide, by decide⟩ ⟨rfl, rfl⟩ (by decide) rfl (Nat.le_of_ble_eq_true rfl) h.t (c_X8_at h hz6 (by omega) (by decide) ?_)
            refine pw_if_ne 178 dX8_charge_151 (by decide) (fun h31 => ?_) (fun h31 => ?_)
            · skip
              refine pw_return dX8_charge_178 rfl ?_
              refine q _ (Eq.mp (congrArg (fun b => ZR z13 b) ?_) hz6)
              rw [chS_D]
              unfold ch3
              rw [cif_n (fun hh => h31 hh.2.1)]
            · skip
              refine pw_aload_0 dX8_charge_154 ?_
              refine pw_iload_1 dX8_charge_155 ?_
              refine pw_iconst (v := nI 1) dX8_charge_156 (by decide) ?_
              refine pw_cV2i 8 dX8_charge_157 kX8_40 vX8_at iX8_at ⟨by decide, by decide⟩ ⟨rfl, rfl⟩ (by decide) rfl (Nat.le_of_ble_eq_true rfl) h.t (c_X8_at h hz6 (by omega) (by decide) ?_)
              refine pw_aload_0 dX8_charge_160 ?_
              refine pw_getr 8 0 dX8_charge_161 fX8_7 rfl (by decide) rfl h.t h.r0 ?_
              refine pw_iconst (v := nI 1) dX8_charge_164 (by decide) ?_
              refine pw_ialdN dX8_charge_165 h.a1 (by omega) (by decide) ?_
              refine pw_top (show _ = bG (chD L B i) 1 from by rw [wC_self, hz6.g (by decide)]) ?_
              refine pw_iconst (v := nI 2) dX8_charge_166 (by decide) ?_
              refine pw_idiv dX8_charge_167 (by decide) ?_
              refine pw_icmp_lt 178 dX8_charge_168 (by decide) (fun h32 => ?_) (fun h32 => ?_)
              · skip
                refine pw_return dX8_charge_178 rfl ?_
                refine q _ (Eq.mp (congrArg (fun b => ZR z13 b) ?_) hz6)
                rw [chS_D]
                unfold ch3
                rw [cif_n (fun hh => Int32.not_le.mpr h32 hh.2.2)]
              · skip
                refine pw_aload_0 dX8_charge_171 ?_
                refine pw_iload_1 dX8_charge_172 ?_
                refine pw_iconst (v := nI 2) dX8_charge_173 (by decide) ?_
                refine pw_iconst (v := nI 0) dX8_charge_174 (by decide) ?_
                refine pw_cV3v 8 dX8_charge_175 kX8_55 vX8_lay iX8_lay ⟨by decide, by decide⟩ ⟨rfl, rfl⟩ (by decide) rfl (Nat.le_of_ble_eq_true rfl) h.t (c_X8_lay h hz6 (by omega) (by decide) (fun z14 hz14 => ?_))
                refine pw_return dX8_charge_178 rfl ?_
                refine q _ (Eq.mp (congrArg (fun b => ZR z14 b) ?_) hz14)
                rw [chS_D]
                unfold ch3
                rw [cif_y ⟨h30, h31, Int32.not_lt.mp h32⟩]
        · skip
          refine pw_aload_0 dX8_charge_115 ?_
          refine pw_iload_1 dX8_charge_116 ?_
          refine pw_iconst (v := nI 2) dX8_charge_117 (by decide) ?_
          refine pw_iconst (v := nI 1) dX8_charge_118 (by decide) ?_
          refine pw_cV3v 8 dX8_charge_119 kX8_55 vX8_lay iX8_lay ⟨by decide, by decide⟩ ⟨rfl, rfl⟩ (by decide) rfl (Nat.le_of_ble_eq_true rfl) h.t (c_X8_lay h hz5 (by omega) (by decide) (fun z15 hz15 => ?_))
          have wf3 : WF (setS (ch1 L B i) i (upd (bS (ch1 L B i) i) 2 (nI 1))) := wf2.pS hi ((wf2.s hi).z (Or.inl rfl) (Or.inr rfl)) (by rw [upd_n _ _ (by omega)]; exact wf2.c hi)
          refine pw_aload_0 dX8_charge_122 ?_
          refine pw_iload_1 dX8_charge_123 ?_
          refine pw_cV1i 8 dX8_charge_124 kX8_109 vX8_speaks iX8_speaks ⟨by decide, by decide⟩ ⟨rfl, rfl⟩ (by decide) rfl (Nat.le_of_ble_eq_true rfl) h.t (c_X8_speaks h hz15 (by omega) (fun h33 => ?_) (fun h34 => ?_))
          · skip
            refine pw_if_eq 135 dX8_charge_127 (by decide) (fun hh => absurd hh (by decide)) (fun _ => ?_)
            refine pw_aload_0 dX8_charge_130 ?_
            refine pw_iload_1 dX8_charge_131 ?_
            refine pw_cV1v 8 dX8_charge_132 kX8_112 vX8_giveUp iX8_giveUp ⟨by decide, by decide⟩ ⟨rfl, rfl⟩ (by decide) rfl (Nat.le_of_ble_eq_true rfl) h.t (m_giveUp h hz15 wf3 hi h33 (fun z16 hz16 => ?_))
            have hz6 : ZR z16 (chD L B i) := by unfold chD; rw [if_pos (Int32.not_le.mp h29)]; unfold ch2; rw [cif_y (show spB (ch1 L B i) i from fun e => h33 (by rw [bS_setS_s, upd_n _ _ (by omega)]; exact e))]; exact hz16
            have eD : bG (chD L B i) = bG B := G_chD
            refine pw_st rfl rfl ?_
            refine pw_aload_0 dX8_charge_135 ?_
            refine pw_iload_1 dX8_charge_136 ?_
            refine pw_iconst (v := nI 2) dX8_charge_137 (by decide) ?_
            refine pw_cV2i 8 dX8_charge_138 kX8_40 vX8_at iX8_at ⟨by decide, by decide⟩ ⟨rfl, rfl⟩ (by decide) rfl (Nat.le_of_ble_eq_true rfl) h.t (c_X8_at h hz6 (by omega) (by decide) ?_)
            refine pw_iconst (v := nI 1) dX8_charge_141 (by decide) ?_
            refine pw_icmp_ne 178 dX8_charge_142 (by decide) (fun h35 => ?_) (fun h35 => ?_)
            · skip
              refine pw_return dX8_charge_178 rfl ?_
              refine q _ (Eq.mp (congrArg (fun b => ZR z16 b) ?_) hz6)
              rw [chS_D]
              unfold ch3
              rw [cif_n (fun hh => h35 hh.1)]
            · skip
              refine pw_aload_0 dX8_charge_145 ?_
              refine pw_iload_1 dX8_charge_146 ?_
              refine pw_iconst (v := nI 3) dX8_charge_147 (by decide) ?_
              refine pw_cV2i 8 dX8_charge_148 kX8_40 vX8_at iX8_at ⟨by decide, by decide⟩ ⟨rfl, rfl⟩ (by decide) rfl (Nat.le_of_ble_eq_true rfl) h.t (c_X8_at h hz6 (by omega) (by decide) ?_)
              refine pw_if_ne 178 dX8_charge_151 (by decide) (fun h36 => ?_) (fun h36 => ?_)
              · skip
                refine pw_return dX8_charge_178 rfl ?_
                refine q _ (Eq.mp (congrArg (fun b => ZR z16 b) ?_) hz6)
                rw [chS_D]
                unfold ch3
                rw [cif_n (fun hh => h36 hh.2.1)]
              · skip
                refine pw_aload_0 dX8_charge_154 ?_
                refine pw_iload_1 dX8_charge_155 ?_
                refine pw_iconst (v := nI 1) dX8_charge_156 (by decide) ?_
                refine pw_cV2i 8 dX8_charge_157 kX8_40 vX8_at iX8_at ⟨by decide, by decide⟩ ⟨rfl, rfl⟩ (by decide) rfl (Nat.le_of_ble_eq_true rfl) h.t (c_X8_at h hz6 (by omega) (by decide) ?_)
                refine pw_aload_0 dX8_charge_160 ?_
                refine pw_getr 8 0 dX8_charge_161 fX8_7 rfl (by decide) rfl h.t h.r0 ?_
                refine pw_iconst (v := nI 1) dX8_charge_164 (by decide) ?_
                refine pw_ialdN dX8_charge_165 h.a1 (by omega) (by decide) ?_
                refine pw_top (show _ = bG (chD L B i) 1 from by rw [wC_self, hz6.g (by decide)]) ?_
                refine pw_iconst (v := nI 2) dX8_charge_166 (by decide) ?_
                refine pw_idiv dX8_charge_167 (by decide) ?_
                refine pw_icmp_lt 178 dX8_charge_168 (by decide) (fun h37 => ?_) (fun h37 => ?_)
                · skip
                  refine pw_return dX8_charge_178 rfl ?_
                  refine q _ (Eq.mp (congrArg (fun b => ZR z16 b) ?_) hz6)
                  rw [chS_D]
                  unfold ch3
                  rw [cif_n (fun hh => Int32.not_le.mpr h37 hh.2.2)]
                · skip
                  refine pw_aload_0 dX8_charge_171 ?_
                  refine pw_iload_1 dX8_charge_172 ?_
                  refine pw_iconst (v := nI 2) dX8_charge_173 (by decide) ?_
                  refine pw_iconst (v := nI 0) dX8_charge_174 (by decide) ?_
                  refine pw_cV3v 8 dX8_charge_175 kX8_55 vX8_lay iX8_lay ⟨by decide, by decide⟩ ⟨rfl, rfl⟩ (by decide) rfl (Nat.le_of_ble_eq_true rfl) h.t (c_X8_lay h hz6 (by omega) (by decide) (fun z17 hz17 => ?_))
                  refine pw_return dX8_charge_178 rfl ?_
                  refine q _ (Eq.mp (congrArg (fun b => ZR z17 b) ?_) hz17)
                  rw [chS_D]
                  unfold ch3
                  rw [cif_y ⟨h35, h36, Int32.not_lt.mp h37⟩]
          · skip
            refine pw_if_eq 135 dX8_charge_127 (by decide) (fun _ => ?_) (fun hh => absurd (by decide) hh)
            have hz6 : ZR z15 (chD L B i) := by unfold chD; rw [if_pos (Int32.not_le.mp h29)]; unfold ch2; rw [cif_n (fun hh => h34 (fun e => hh (by rw [bS_setS_s, upd_n _ _ (by omega)] at e; exact e)))]; exact hz15
            have eD : bG (chD L B i) = bG B := G_chD
            refine pw_st rfl rfl ?_
            refine pw_aload_0 dX8_charge_135 ?_
            refine pw_iload_1 dX8_charge_136 ?_
            refine pw_iconst (v := nI 2) dX8_charge_137 (by decide) ?_
            refine pw_cV2i 8 dX8_charge_138 kX8_40 vX8_at iX8_at ⟨by decide, by decide⟩ ⟨rfl, rfl⟩ (by decide) rfl (Nat.le_of_ble_eq_true rfl) h.t (c_X8_at h hz6 (by omega) (by decide) ?_)
            refine pw_iconst (v := nI 1) dX8_charge_141 (by decide) ?_
            refine pw_icmp_ne 178 dX8_charge_142 (by decide) (fun h38 => ?_) (fun h38 => ?_)
            · skip
              refine pw_return dX8_charge_178 rfl ?_
              refine q _ (Eq.mp (congrArg (fun b => ZR z15 b) ?_) hz6)
              rw [chS_D]
              unfold ch3
              rw [cif_n (fun hh => h38 hh.1)]
            · skip
              refine pw_aload_0 dX8_charge_145 ?_
              refine pw_iload_1 dX8_charge_146 ?_
              refine pw_iconst (v := nI 3) dX8_charge_147 (by decide) ?_
              refine pw_cV2i 8 dX8_charge_148 kX8_40 vX8_at iX8_at ⟨by decide, by decide⟩ ⟨rfl, rfl⟩ (by decide) rfl (Nat.le_of_ble_eq_true rfl) h.t (c_X8_at h hz6 (by omega) (by decide) ?_)
              refine pw_if_ne 178 dX8_charge_151 (by decide) (fun h39 => ?_) (fun h39 => ?_)
              · skip
                refine pw_return dX8_charge_178 rfl ?_
                refine q _ (Eq.mp (congrArg (fun b => ZR z15 b) ?_) hz6)
                rw [chS_D]
                unfold ch3
                rw [cif_n (fun hh => h39 hh.2.1)]
              · skip
                refine pw_aload_0 dX8_charge_154 ?_
                refine pw_iload_1 dX8_charge_155 ?_
                refine pw_iconst (v := nI 1) dX8_charge_156 (by decide) ?_
                refine pw_cV2i 8 dX8_charge_157 kX8_40 vX8_at iX8_at ⟨by decide, by decide⟩ ⟨rfl, rfl⟩ (by decide) rfl (Nat.le_of_ble_eq_true rfl) h.t (c_X8_at h hz6 (by omega) (by decide) ?_)
                refine pw_aload_0 dX8_charge_160 ?_
                refine pw_getr 8 0 dX8_charge_161 fX8_7 rfl (by decide) rfl h.t h.r0 ?_
                refine pw_iconst (v := nI 1) dX8_charge_164 (by decide) ?_
                refine pw_ialdN dX8_charge_165 h.a1 (by omega) (by decide) ?_
                refine pw_top (show _ = bG (chD L B i) 1 from by rw [wC_self, hz6.g (by decide)]) ?_
                refine pw_iconst (v := nI 2) dX8_charge_166 (by decide) ?_
                refine pw_idiv dX8_charge_167 (by decide) ?_
                refine pw_icmp_lt 178 dX8_charge_168 (by decide) (fun h40 => ?_) (fun h40 => ?_)
                · skip
                  refine pw_return dX8_charge_178 rfl ?_
                  refine q _ (Eq.mp (congrArg (fun b => ZR z15 b) ?_) hz6)
                  rw [chS_D]
                  unfold ch3
                  rw [cif_n (fun hh => Int32.not_le.mpr h40 hh.2.2)]
                · skip
                  refine pw_aload_0 dX8_charge_171 ?_
                  refine pw_iload_1 dX8_charge_172 ?_
                  refine pw_iconst (v := nI 2) dX8_charge_173 (by decide) ?_
                  refine pw_iconst (v := nI 0) dX8_charge_174 (by decide) ?_
                  refine pw_cV3v 8 dX8_charge_175 kX8_55 vX8_lay iX8_lay ⟨by decide, by decide⟩ ⟨rfl, rfl⟩ (by decide) rfl (Nat.le_of_ble_eq_true rfl) h.t (c_X8_lay h hz6 (by omega) (by decide) (fun z18 hz18 => ?_))
                  refine pw_return dX8_charge_178 rfl ?_
                  refine q _ (Eq.mp (congrArg (fun b => ZR z18 b) ?_) hz18)
                  rw [chS_D]
                  unfold ch3
                  rw [cif_y ⟨h38, h39, Int32.not_lt.mp h40⟩]
    · skip
      refine pw_if_eq 74 dX8_charge_62 (by decide) (fun _ => ?_) (fun hh => absurd (by decide) hh)
      refine pw_iconst (v := nI 0) dX8_charge_74 (by decide) ?_
      refine pw_isub dX8_charge_75 ?_
      refine pw_top (show _ = chV L B i by unfold chV hiC; rw [cif_n h2]) ?_
      refine pw_istore_3 dX8_charge_76 (by decide) ?_
      refine pw_aload_0 dX8_charge_77 ?_
      refine pw_iload_1 dX8_charge_78 ?_
      refine pw_iconst (v := nI 1) dX8_charge_79 (by decide) ?_
      refine pw_iload_3 dX8_charge_80 ?_
      refine pw_aload_0 dX8_charge_81 ?_
      refine pw_getr 8 0 dX8_charge_82 fX8_7 rfl (by decide) rfl h.t h.r0 ?_
      refine pw_iconst (v := nI 1) dX8_charge_85 (by decide) ?_
      refine pw_ialdN dX8_charge_86 h.a1 (by omega) (by decide) ?_
      refine pw_top (show _ = bG B 1 from by rw [wC_self, hz.g (by decide)]) ?_
      refine pw_icmp_le 99 dX8_charge_87 (by decide) (fun h41 => ?_) (fun h41 => ?_)
      · skip
        refine pw_iload_3 dX8_charge_99 ?_
        refine pw_if_ge 107 dX8_charge_100 (by decide) (fun h42 => ?_) (fun h42 => ?_)
        · skip
          refine pw_iload_3 dX8_charge_107 ?_
          refine pw_cV3v 8 dX8_charge_108 kX8_55 vX8_lay iX8_lay ⟨by decide, by decide⟩ ⟨rfl, rfl⟩ (by decide) rfl (Nat.le_of_ble_eq_true rfl) h.t (c_X8_lay h hz (by omega) (by decide) (fun z19 hz19 => ?_))
          have ec : clV (chV L B i) (bG B 1) = chV L B i := (if_neg (Int32.not_lt.mpr h41)).trans (if_neg (Int32.not_lt.mpr h42))
          have hz5 : ZR z19 (ch1 L B i) := by unfold ch1; rw [ec]; exact hz19
          have wf2 : WF (ch1 L B i) := wf.k1 hi
          refine pw_iload_3 dX8_charge_111 ?_
          refine pw_if_ge 135 dX8_charge_112 (by decide) (fun h43 => ?_) (fun h43 => ?_)
          · skip
            have hz6 : ZR z19 (chD L B i) := by unfold chD; rw [if_neg (Int32.not_lt.mpr h43)]; exact hz5
            have eD : bG (chD L B i) = bG B := G_chD
            refine pw_st rfl rfl ?_
            refine pw_aload_0 dX8_charge_135 ?_
            refine pw_iload_1 dX8_charge_136 ?_
            refine pw_iconst (v := nI 2) dX8_charge_137 (by decide) ?_
            refine pw_cV2i 8 dX8_charge_138 kX8_40 vX8_at iX8_at ⟨by decide, by decide⟩ ⟨rfl, rfl⟩ (by decide) rfl (Nat.le_of_ble_eq_true rfl) h.t (c_X8_at h hz6 (by omega) (by decide) ?_)
            refine pw_iconst (v := nI 1) dX8_charge_141 (by decide) ?_
            refine pw_icmp_ne 178 dX8_charge_142 (by decide) (fun h44 => ?_) (fun h44 => ?_)
            · skip
              refine pw_return dX8_charge_178 rfl ?_
              refine q _ (Eq.mp (congrArg (fun b => ZR z19 b) ?_) hz6)
              rw [chS_D]
              unfold ch3
              rw [cif_n (fun hh => h44 hh.1)]
            · skip
              refine pw_aload_0 dX8_charge_145 ?_
              refine pw_iload_1 dX8_charge_146 ?_
              refine pw_iconst (v := nI 3) dX8_charge_147 (by decide) ?_
              refine pw_cV2i 8 dX8_charge_148 kX8_40 vX8_at iX8_at ⟨by decide, by decide⟩ ⟨rfl, rfl⟩ (by decide) rfl (Nat.le_of_ble_eq_true rfl) h.t (c_X8_at h hz6 (by omega) (by decide) ?_)
              refine pw_if_ne 178 dX8_charge_151 (by decide) (fun h45 => ?_) (fun h45 => ?_)
              · skip
                refine pw_return dX8_charge_178 rfl ?_
                refine q _ (Eq.mp (congrArg (fun b => ZR z19 b) ?_) hz6)
                rw [chS_D]
                unfold ch3
                rw [cif_n (fun hh => h45 hh.2.1)]
              · skip
                refine pw_aload_0 dX8_charge_154 ?_
                refine pw_iload_1 dX8_charge_155 ?_
                refine pw_iconst (v := nI 1) dX8_charge_156 (by decide) ?_
                refine pw_cV2i 8 dX8_charge_157 kX8_40 vX8_at iX8_at ⟨by decide, by decide⟩ ⟨rfl, rfl⟩ (by decide) rfl (Nat.le_of_ble_eq_true rfl) h.t (c_X8_at h hz6 (by omega) (by decide) ?_)
                refine pw_aload_0 dX8_charge_160 ?_
                refine pw_getr 8 0 dX8_charge_161 fX8_7 rfl (by decide) rfl h.t h.r0 ?_
                refine pw_iconst (v := nI 1) dX8_charge_164 (by decide) ?_
                refine pw_ialdN dX8_charge_165 h.a1 (by omega) (by decide) ?_
                refine pw_top (show _ = bG (chD L B i) 1 from by rw [wC_self, hz6.g (by decide)]) ?_
                refine pw_iconst (v := nI 2) dX8_charge_166 (by decide) ?_
                refine pw_idiv dX8_charge_167 (by decide) ?_
                refine pw_icmp_lt 178 dX8_charge_168 (by decide) (fun h46 => ?_) (fun h46 => ?_)
                · skip
                  refine pw_return dX8_charge_178 rfl ?_
                  refine q _ (Eq.mp (congrArg (fun b => ZR z19 b) ?_) hz6)
                  rw [chS_D]
                  unfold ch3
                  rw [cif_n (fun hh => Int32.not_le.mpr h46 hh.2.2)]
                · skip
                  refine pw_aload_0 dX8_charge_171 ?_
                  refine pw_iload_1 dX8_charge_172 ?_
                  refine pw_iconst (v := nI 2) dX8_charge_173 (by decide) ?_
                  refine pw_iconst (v := nI 0) dX8_charge_174 (by decide) ?_
                  refine pw_cV3v 8 dX8_charge_175 kX8_55 vX8_lay iX8_lay ⟨by decide, by decide⟩ ⟨rfl, rfl⟩ (by decide) rfl (Nat.le_of_ble_eq_true rfl) h.t (c_X8_lay h hz6 (by omega) (by decide) (fun z20 hz20 => ?_))
                  refine pw_return dX8_charge_178 rfl ?_
                  refine q _ (Eq.mp (congrArg (fun b => ZR z20 b) ?_) hz20)
                  rw [chS_D]
                  unfold ch3
                  rw [cif_y ⟨h44, h45, Int32.not_lt.mp h46⟩]
          · skip
            refine pw_aload_0 dX8_charge_115 ?_
            refine pw_iload_1 dX8_charge_116 ?_
            refine pw_iconst (v := nI 2) dX8_charge_117 (by decide) ?_
            refine pw_iconst (v := nI 1) dX8_charge_118 (by decide) ?_
            refine pw_cV3v 8 dX8_charge_119 kX8_55 vX8_lay iX8_lay ⟨by decide, by decide⟩ ⟨rfl, rfl⟩ (by decide) rfl (Nat.le_of_ble_eq_true rfl) h.t (c_X8_lay h hz5 (by omega) (by decide) (fun z21 hz21 => ?_))
            have wf3 : WF (setS (ch1 L B i) i (upd (bS (ch1 L B i) i) 2 (nI 1))) := wf2.pS hi ((wf2.s hi).z (Or.inl rfl) (Or.inr rfl)) (by rw [upd_n _ _ (by omega)]; exact wf2.c hi)
            refine pw_aload_0 dX8_charge_122 ?_
            refine pw_iload_1 dX8_charge_123 ?_
            refine pw_cV1i 8 dX8_charge_124 kX8_109 vX8_speaks iX8_speaks ⟨by decide, by decide⟩ ⟨rfl, rfl⟩ (by decide) rfl (Nat.le_of_ble_eq_true rfl) h.t (c_X8_speaks h hz21 (by omega) (fun h47 => ?_) (fun h48 => ?_))
            · skip
              refine pw_if_eq 135 dX8_charge_127 (by decide) (fun hh => absurd hh (by decide)) (fun _ => ?_)
              refine pw_aload_0 dX8_charge_130 ?_
              refine pw_iload_1 dX8_charge_131 ?_
              refine pw_cV1v 8 dX8_charge_132 kX8_112 vX8_giveUp iX8_giveUp ⟨by decide, by decide⟩ ⟨rfl, rfl⟩ (by decide) rfl (Nat.le_of_ble_eq_true rfl) h.t (m_giveUp h hz21 wf3 hi h47 (fun z22 hz22 => ?_))
              have hz6 : ZR z22 (chD L B i) := by unfold chD; rw [if_pos (Int32.not_le.mp h43)]; unfold ch2; rw [cif_y (show spB (ch1 L B i) i from fun e => h47 (by rw [bS_setS_s, upd_n _ _ (by omega)]; exact e))]; exact hz22
              have eD : bG (chD L B i) = bG B := G_chD
              refine pw_st rfl rfl ?_
              refine pw_aload_0 dX8_charge_135 ?_
              refine pw_iload_1 dX8_charge_136 ?_
              refine pw_iconst (v := nI 2) dX8_charge_137 (by decide) ?_
              refine pw_cV2i 8 dX8_charge_138 kX8_40 vX8_at iX8_at ⟨by decide, by decide⟩ ⟨rfl, rfl⟩ (by decide) rfl (Nat.le_of_ble_eq_true rfl) h.t (c_X8_at h hz6 (by omega) (by decide) ?_)
              refine pw_iconst (v := nI 1) dX8_charge_141 (by decide) ?_
              refine pw_icmp_ne 178 dX8_charge_142 (by decide) (fun h49 => ?_) (fun h49 => ?_)
              · skip
                refine pw_return dX8_charge_178 rfl ?_
                refine q _ (Eq.mp (congrArg (fun b => ZR z22 b) ?_) hz6)
                rw [chS_D]
                unfold ch3
                rw [cif_n (fun hh => h49 hh.1)]
              · skip
                refine pw_aload_0 dX8_charge_145 ?_
                refine pw_iload_1 dX8_charge_146 ?_
                refine pw_iconst (v := nI 3) dX8_charge_147 (by decide) ?_
                refine pw_cV2i 8 dX8_charge_148 kX8_40 vX8_at iX8_at ⟨by decide, by decide⟩ ⟨rfl, rfl⟩ (by decide) rfl (Nat.le_of_ble_eq_true rfl) h.t (c_X8_at h hz6 (by omega) (by decide) ?_)
                refine pw_if_ne 178 dX8_charge_151 (by decide) (fun h50 => ?_) (fun h50 => ?_)
                · skip
                  refine pw_return dX8_charge_178 rfl ?_
                  refine q _ (Eq.mp (congrArg (fun b => ZR z22 b) ?_) hz6)
                  rw [chS_D]
                  unfold ch3
                  rw [cif_n (fun hh => h50 hh.2.1)]
                · skip
                  refine pw_aload_0 dX8_charge_154 ?_
                  refine pw_iload_1 dX8_charge_155 ?_
                  refine pw_iconst (v := nI 1) dX8_charge_156 (by decide) ?_
                  refine pw_cV2i 8 dX8_charge_157 kX8_40 vX8_at iX8_at ⟨by decide, by decide⟩ ⟨rfl, rfl⟩ (by decide) rfl (Nat.le_of_ble_eq_true rfl) h.t (c_X8_at h hz6 (by omega) (by decide) ?_)
                  refine pw_aload_0 dX8_charge_160 ?_
                  refine pw_getr 8 0 dX8_charge_161 fX8_7 rfl (by decide) rfl h.t h.r0 ?_
                  refine pw_iconst (v := nI 1) dX8_charge_164 (by decide) ?_
                  refine pw_ialdN dX8_charge_165 h.a1 (by omega) (by decide) ?_
                  refine pw_top (show _ = bG (chD L B i) 1 from by rw [wC_self, hz6.g (by decide)]) ?_
                  refine pw_iconst (v := nI 2) dX8_charge_166 (by decide) ?_
                  refine pw_idiv dX8_charge_167 (by decide) ?_
                  refine pw_icmp_lt 178 dX8_charge_168 (by decide) (fun h51 => ?_) (fun h51 => ?_)
                  · skip
                    refine pw_return dX8_charge_178 rfl ?_
                    refine q _ (Eq.mp (congrArg (fun b => ZR z22 b) ?_) hz6)
                    rw [chS_D]
                    unfold ch3
                    rw [cif_n (fun hh => Int32.not_le.mpr h51 hh.2.2)]
                  · skip
                    refine pw_aload_0 dX8_charge_171 ?_
                    refine pw_iload_1 dX8_charge_172 ?_
                    refine pw_iconst (v := nI 2) dX8_charge_173 (by decide) ?_
                    refine pw_iconst (v := nI 0) dX8_charge_174 (by decide) ?_
                    refine pw_cV3v 8 dX8_charge_175 kX8_55 vX8_lay iX8_lay ⟨by decide, by decide⟩ ⟨rfl, rfl⟩ (by decide) rfl (Nat.le_of_ble_eq_true rfl) h.t (c_X8_lay h hz6 (by omega) (by decide) (fun z23 hz23 => ?_))
                    refine pw_return dX8_charge_178 rfl ?_
                    refine q _ (Eq.mp (congrArg (fun b => ZR z23 b) ?_) hz23)
                    rw [chS_D]
                    unfold ch3
                    rw [cif_y ⟨h49, h50, Int32.not_lt.mp h51⟩]
            · skip
              refine pw_if_eq 135 dX8_charge_127 (by decide) (fun _ => ?_) (fun hh => absurd (by decide) hh)
              have hz6 : ZR z21 (chD L B i) := by unfold chD; rw [if_pos (Int32.not_le.mp h43)]; unfold ch2; rw [cif_n (fun hh => h48 (fun e => hh (by rw [bS_setS_s, upd_n _ _ (by omega)] at e; exact e)))]; exact hz21
              have eD : bG (chD L B i) = bG B := G_chD
              refine pw_st rfl rfl ?_
              refine pw_aload_0 dX8_charge_135 ?_
              refine pw_iload_1 dX8_charge_136 ?_
              refine pw_iconst (v := nI 2) dX8_charge_137 (by decide) ?_
              refine pw_cV2i 8 dX8_charge_138 kX8_40 vX8_at iX8_at ⟨by decide, by decide⟩ ⟨rfl, rfl⟩ (by decide) rfl (Nat.le_of_ble_eq_true rfl) h.t (c_X8_at h hz6 (by omega) (by decide) ?_)
              refine pw_iconst (v := nI 1) dX8_charge_141 (by decide) ?_
              refine pw_icmp_ne 178 dX8_charge_142 (by decide) (fun h52 => ?_) (fun h52 => ?_)
              · skip
                refine pw_return dX8_charge_178 rfl ?_
                refine q _ (Eq.mp (congrArg (fun b => ZR z21 b) ?_) hz6)
                rw [chS_D]
                unfold ch3
                rw [cif_n (fun hh => h52 hh.1)]
              · skip
                refine pw_aload_0 dX8_charge_145 ?_
                refine pw_iload_1 dX8_charge_146 ?_
                refine pw_iconst (v := nI 3) dX8_charge_147 (by decide) ?_
                refine pw_cV2i 8 dX8_charge_148 kX8_40 vX8_at iX8_at ⟨by decide, by decide⟩ ⟨rfl, rfl⟩ (by decide) rfl (Nat.le_of_ble_eq_true rfl) h.t (c_X8_at h hz6 (by omega) (by decide) ?_)
                refine pw_if_ne 178 dX8_charge_151 (by decide) (fun h53 => ?_) (fun h53 => ?_)
                · skip
                  refine pw_return dX8_charge_178 rfl ?_
                  refine q _ (Eq.mp (congrArg (fun b => ZR z21 b) ?_) hz6)
                  rw [chS_D]
                  unfold ch3
                  rw [cif_n (fun hh => h53 hh.2.1)]
                · skip
                  refine pw_aload_0 dX8_charge_154 ?_
                  refine pw_iload_1 dX8_charge_155 ?_
                  refine pw_iconst (v := nI 1) dX8_charge_156 (by decide) ?_
                  refine pw_cV2i 8 dX8_charge_157 kX8_40 vX8_at iX8_at ⟨by decide, by decide⟩ ⟨rfl, rfl⟩ (by decide) rfl (Nat.le_of_ble_eq_true rfl) h.t (c_X8_at h hz6 (by omega) (by decide) ?_)
                  refine pw_aload_0 dX8_charge_160 ?_
                  refine pw_getr 8 0 dX8_charge_161 fX8_7 rfl (by decide) rfl h.t h.r0 ?_
                  refine pw_iconst (v := nI 1) dX8_charge_164 (by decide) ?_
                  refine pw_ialdN dX8_charge_165 h.a1 (by omega) (by decide) ?_
                  refine pw_top (show _ = bG (chD L B i) 1 from by rw [wC_self, hz6.g (by decide)]) ?_
                  refine pw_iconst (v := nI 2) dX8_charge_166 (by decide) ?_
                  refine pw_idiv dX8_charge_167 (by decide) ?_
                  refine pw_icmp_lt 178 dX8_charge_168 (by decide) (fun h54 => ?_) (fun h54 => ?_)
                  · skip
                    refine pw_return dX8_charge_178 rfl ?_
                    refine q _ (Eq.mp (congrArg (fun b => ZR z21 b) ?_) hz6)
                    rw [chS_D]
                    unfold ch3
                    rw [cif_n (fun hh => Int32.not_le.mpr h54 hh.2.2)]
                  · skip
                    refine pw_aload_0 dX8_charge_171 ?_
                    refine pw_iload_1 dX8_charge_172 ?_
                    refine pw_iconst (v := nI 2) dX8_charge_173 (by decide) ?_
                    refine pw_iconst (v := nI 0) dX8_charge_174 (by decide) ?_
                    refine pw_cV3v 8 dX8_charge_175 kX8_55 vX8_lay iX8_lay ⟨by decide, by decide⟩ ⟨rfl, rfl⟩ (by decide) rfl (Nat.le_of_ble_eq_true rfl) h.t (c_X8_lay h hz6 (by omega) (by decide) (fun z24 hz24 => ?_))
                    refine pw_return dX8_charge_178 rfl ?_
                    refine q _ (Eq.mp (congrArg (fun b => ZR z24 b) ?_) hz24)
                    rw [chS_D]
                    unfold ch3
                    rw [cif_y ⟨h52, h53, Int32.not_lt.mp h54⟩]
        · skip
          refine pw_iconst (v := nI 0) dX8_charge_103 (by decide) ?_
          refine pw_goto 108 dX8_charge_104 (by decide) ?_
          refine pw_cV3v 8 dX8_charge_108 kX8_55 vX8_lay iX8_lay ⟨by decide, by decide⟩ ⟨rfl, rfl⟩ (by decide) rfl (Nat.le_of_ble_eq_true rfl) h.t (c_X8_lay h hz (by omega) (by decide) (fun z25 hz25 => ?_))
          have ec : clV (chV L B i) (bG B 1) = nI 0 := (if_neg (Int32.not_lt.mpr h41)).trans (if_pos (Int32.not_le.mp h42))
          have hz5 : ZR z25 (ch1 L B i) := by unfold ch1; rw [ec]; exact hz25
          have wf2 : WF (ch1 L B i) := wf.k1 hi
          refine pw_iload_3 dX8_charge_111 ?_
          refine pw_if_ge 135 dX8_charge_112 (by decide) (fun h55 => ?_) (fun h55 => ?_)
          · skip
            have hz6 : ZR z25 (chD L B i) := by unfold chD; rw [if_neg (Int32.not_lt.mpr h55)]; exact hz5
            have eD : bG (chD L B i) = bG B := G_chD
            refine pw_st rfl rfl ?_
            refine pw_aload_0 dX8_charge_135 ?_
            refine pw_iload_1 dX8_charge_136 ?_
            refine pw_iconst (v := nI 2) dX8_charge_137 (by decide) ?_
            refine pw_cV2i 8 dX8_charge_138 kX8_40 vX8_at iX8_at ⟨by decide, by decide⟩ ⟨rfl, rfl⟩ (by decide) rfl (Nat.le_of_ble_eq_true rfl) h.t (c_X8_at h hz6 (by omega) (by decide) ?_)
            refine pw_iconst (v := nI 1) dX8_charge_141 (by decide) ?_
            refine pw_icmp_ne 178 dX8_charge_142 (by decide) (fun h56 => ?_) (fun h56 => ?_)
            · skip
              refine pw_return dX8_charge_178 rfl ?_
              refine q _ (Eq.mp (congrArg (fun b => ZR z25 b) ?_) hz6)
              rw [chS_D]
              unfold ch3
              rw [cif_n (fun hh => h56 hh.1)]
            · skip
              refine pw_aload_0 dX8_charge_145 ?_
              refine pw_iload_1 dX8_charge_146 ?_
              refine pw_iconst (v := nI 3) dX8_charge_147 (by decide) ?_
              refine pw_cV2i 8 dX8_charge_148 kX8_40 vX8_at iX8_at ⟨by decide, by decide⟩ ⟨rfl, rfl⟩ (by decide) rfl (Nat.le_of_ble_eq_true rfl) h.t (c_X8_at h hz6 (by omega) (by decide) ?_)
              refine pw_if_ne 178 dX8_charge_151 (by decide) (fun h57 => ?_) (fun h57 => ?_)
              · skip
                refine pw_return dX8_charge_178 rfl ?_
                refine q _ (Eq.mp (congrArg (fun b => ZR z25 b) ?_) hz6)
                rw [chS_D]
                unfold ch3
                rw [cif_n (fun hh => h57 hh.2.1)]
              · skip
                refine pw_aload_0 dX8_charge_154 ?_
                refine pw_iload_1 dX8_charge_155 ?_
                refine pw_iconst (v := nI 1) dX8_charge_156 (by decide) ?_
                refine pw_cV2i 8 dX8_charge_157 kX8_40 vX8_at iX8_at ⟨by decide, by decide⟩ ⟨rfl, rfl⟩ (by decide) rfl (Nat.le_of_ble_eq_true rfl) h.t (c_X8_at h hz6 (by omega) (by decide) ?_)
                refine pw_aload_0 dX8_charge_160 ?_
                refine pw_getr 8 0 dX8_charge_161 fX8_7 rfl (by decide) rfl h.t h.r0 ?_
                refine pw_iconst (v := nI 1) dX8_charge_164 (by decide) ?_
                refine pw_ialdN dX8_charge_165 h.a1 (by omega) (by decide) ?_
                refine pw_top (show _ = bG (chD L B i) 1 from by rw [wC_self, hz6.g (by decide)]) ?_
                refine pw_iconst (v := nI 2) dX8_charge_166 (by decide) ?_
                refine pw_idiv dX8_charge_167 (by decide) ?_
                refine pw_icmp_lt 178 dX8_charge_168 (by decide) (fun h58 => ?_) (fun h58 => ?_)
                · skip
                  refine pw_return dX8_charge_178 rfl ?_
                  refine q _ (Eq.mp (congrArg (fun b => ZR z25 b) ?_) hz6)
                  rw [chS_D]
                  unfold ch3
                  rw [cif_n (fun hh => Int32.not_le.mpr h58 hh.2.2)]
                · skip
                  refine pw_aload_0 dX8_charge_171 ?_
                  refine pw_iload_1 dX8_charge_172 ?_
                  refine pw_iconst (v := nI 2) dX8_charge_173 (by decide) ?_
                  refine pw_iconst (v := nI 0) dX8_charge_174 (by decide) ?_
                  refine pw_cV3v 8 dX8_charge_175 kX8_55 vX8_lay iX8_lay ⟨by decide, by decide⟩ ⟨rfl, rfl⟩ (by decide) rfl (Nat.le_of_ble_eq_true rfl) h.t (c_X8_lay h hz6 (by omega) (by decide) (fun z26 hz26 => ?_))
                  refine pw_return dX8_charge_178 rfl ?_
                  refine q _ (Eq.mp (congrArg (fun b => ZR z26 b) ?_) hz26)
                  rw [chS_D]
                  unfold ch3
                  rw [cif_y ⟨h56, h57, Int32.not_lt.mp h58⟩]
          · skip
            refine pw_aload_0 dX8_charge_115 ?_
            refine pw_iload_1 dX8_charge_116 ?_
            refine pw_iconst (v := nI 2) dX8_charge_117 (by decide) ?_
            refine pw_iconst (v := nI 1) dX8_charge_118 (by decide) ?_
            refine pw_cV3v 8 dX8_charge_119 kX8_55 vX8_lay iX8_lay ⟨by decide, by decide⟩ ⟨rfl, rfl⟩ (by decide) rfl (Nat.le_of_ble_eq_true rfl) h.t (c_X8_lay h hz5 (by omega) (by decide) (fun z27 hz27 => ?_))
            have wf3 : WF (setS (ch1 L B i) i (upd (bS (ch1 L B i) i) 2 (nI 1))) := wf2.pS hi ((wf2.s hi).z (Or.inl rfl) (Or.inr rfl)) (by rw [upd_n _ _ (by omega)]; exact wf2.c hi)
            refine pw_aload_0 dX8_charge_122 ?_
            refine pw_iload_1 dX8_charge_123 ?_
            refine pw_cV1i 8 dX8_charge_124 kX8_109 vX8_speaks iX8_speaks ⟨by decide, by decide⟩ ⟨rfl, rfl⟩ (by decide) rfl (Nat.le_of_ble_eq_true rfl) h.t (c_X8_speaks h hz27 (by omega) (fun h59 => ?_) (fun h60 => ?_))
            · skip
              refine pw_if_eq 135 dX8_charge_127 (by decide) (fun hh => absurd hh (by decide)) (fun _ => ?_)
              refine pw_aload_0 dX8_charge_130 ?_
              refine pw_iload_1 dX8_charge_131 ?_
              refine pw_cV1v 8 dX8_charge_132 kX8_112 vX8_giveUp iX8_giveUp ⟨by decide, by decide⟩ ⟨rfl, rfl⟩ (by decide) rfl (Nat.le_of_ble_eq_true rfl) h.t (m_giveUp h hz27 wf3 hi h59 (fun z28 hz28 => ?_))
              have hz6 : ZR z28 (chD L B i) := by unfold chD; rw [if_pos (Int32.not_le.mp h55)]; unfold ch2; rw [cif_y (show spB (ch1 L B i) i from fun e => h59 (by rw [bS_setS_s, upd_n _ _ (by omega)]; exact e))]; exact hz28
              have eD : bG (chD L B i) = bG B := G_chD
              refine pw_st rfl rfl ?_
              refine pw_aload_0 dX8_charge_135 ?_
              refine pw_iload_1 dX8_charge_136 ?_
              refine pw_iconst (v := nI 2) dX8_charge_137 (by decide) ?_
              refine pw_cV2i 8 dX8_charge_138 kX8_40 vX8_at iX8_at ⟨by decide, by decide⟩ ⟨rfl, rfl⟩ (by decide) rfl (Nat.le_of_ble_eq_true rfl) h.t (c_X8_at h hz6 (by omega) (by decide) ?_)
              refine pw_iconst (v := nI 1) dX8_charge_141 (by decide) ?_
              refine pw_icmp_ne 178 dX8_charge_142 (by decide) (fun h61 => ?_) (fun h61 => ?_)
              · skip
                refine pw_return dX8_charge_178 rfl ?_
                refine q _ (Eq.mp (congrArg (fun b => ZR z28 b) ?_) hz6)
                rw [chS_D]
                unfold ch3
                rw [cif_n (fun hh => h61 hh.1)]
              · skip
                refine pw_aload_0 dX8_charge_145 ?_
                refine pw_iload_1 dX8_charge_146 ?_
                refine pw_iconst (v := nI 3) dX8_charge_147 (by decide) ?_
                refine pw_cV2i 8 dX8_charge_148 kX8_40 vX8_at iX8_at ⟨by decide, by decide⟩ ⟨rfl, rfl⟩ (by decide) rfl (Nat.le_of_ble_eq_true rfl) h.t (c_X8_at h hz6 (by omega) (by decide) ?_)
                refine pw_if_ne 178 dX8_charge_151 (by decide) (fun h62 => ?_) (fun h62 => ?_)
                · skip
                  refine pw_return dX8_charge_178 rfl ?_
                  refine q _ (Eq.mp (congrArg (fun b => ZR z28 b) ?_) hz6)
                  rw [chS_D]
                  unfold ch3
                  rw [cif_n (fun hh => h62 hh.2.1)]
                · skip
                  refine pw_aload_0 dX8_charge_154 ?_
                  refine pw_iload_1 dX8_charge_155 ?_
                  refine pw_iconst (v := nI 1) dX8_charge_156 (by decide) ?_
                  refine pw_cV2i 8 dX8_charge_157 kX8_40 vX8_at iX8_at ⟨by decide, by decide⟩ ⟨rfl, rfl⟩ (by decide) rfl (Nat.le_of_ble_eq_true rfl) h.t (c_X8_at h hz6 (by omega) (by decide) ?_)
                  refine pw_aload_0 dX8_charge_160 ?_
                  refine pw_getr 8 0 dX8_charge_161 fX8_7 rfl (by decide) rfl h.t h.r0 ?_
                  refine pw_iconst (v := nI 1) dX8_charge_164 (by decide) ?_
                  refine pw_ialdN dX8_charge_165 h.a1 (by omega) (by decide) ?_
                  refine pw_top (show _ = bG (chD L B i) 1 from by rw [wC_self, hz6.g (by decide)]) ?_
                  refine pw_iconst (v := nI 2) dX8_charge_166 (by decide) ?_
                  refine pw_idiv dX8_charge_167 (by decide) ?_
                  refine pw_icmp_lt 178 dX8_charge_168 (by decide) (fun h63 => ?_) (fun h63 => ?_)
                  · skip
                    refine pw_return dX8_charge_178 rfl ?_
                    refine q _ (Eq.mp (congrArg (fun b => ZR z28 b) ?_) hz6)
                    rw [chS_D]
                    unfold ch3
                    rw [cif_n (fun hh => Int32.not_le.mpr h63 hh.2.2)]
                  · skip
                    refine pw_aload_0 dX8_charge_171 ?_
                    refine pw_iload_1 dX8_charge_172 ?_
                    refine pw_iconst (v := nI 2) dX8_charge_173 (by decide) ?_
                    refine pw_iconst (v := nI 0) dX8_charge_174 (by decide) ?_
                    refine pw_cV3v 8 dX8_charge_175 kX8_55 vX8_lay iX8_lay ⟨by decide, by decide⟩ ⟨rfl, rfl⟩ (by decide) rfl (Nat.le_of_ble_eq_true rfl) h.t (c_X8_lay h hz6 (by omega) (by decide) (fun z29 hz29 => ?_))
                    refine pw_return dX8_charge_178 rfl ?_
                    refine q _ (Eq.mp (congrArg (fun b => ZR z29 b) ?_) hz29)
                    rw [chS_D]
                    unfold ch3
                    rw [cif_y ⟨h61, h62, Int32.not_lt.mp h63⟩]
            · skip
              refine pw_if_eq 135 dX8_charge_127 (by decide) (fun _ => ?_) (fun hh => absurd (by decide) hh)
              have hz6 : ZR z27 (chD L B i) := by unfold chD; rw [if_pos (Int32.not_le.mp h55)]; unfold ch2; rw [cif_n (fun hh => h60 (fun e => hh (by rw [bS_setS_s, upd_n _ _ (by omega)] at e; exact e)))]; exact hz27
              have eD : bG (chD L B i) = bG B := G_chD
              refine pw_st rfl rfl ?_
              refine pw_aload_0 dX8_charge_135 ?_
              refine pw_iload_1 dX8_charge_136 ?_
              refine pw_iconst (v := nI 2) dX8_charge_137 (by decide) ?_
              refine pw_cV2i 8 dX8_charge_138 kX8_40 vX8_at iX8_at ⟨by decide, by decide⟩ ⟨rfl, rfl⟩ (by decide) rfl (Nat.le_of_ble_eq_true rfl) h.t (c_X8_at h hz6 (by omega) (by decide) ?_)
              refine pw_iconst (v := nI 1) dX8_charge_141 (by decide) ?_
              refine pw_icmp_ne 178 dX8_charge_142 (by decide) (fun h64 => ?_) (fun h64 => ?_)
              · skip
                refine pw_return dX8_charge_178 rfl ?_
                refine q _ (Eq.mp (congrArg (fun b => ZR z27 b) ?_) hz6)
                rw [chS_D]
                unfold ch3
                rw [cif_n (fun hh => h64 hh.1)]
              · skip
                refine pw_aload_0 dX8_charge_145 ?_
                refine pw_iload_1 dX8_charge_146 ?_
                refine pw_iconst (v := nI 3) dX8_charge_147 (by decide) ?_
                refine pw_cV2i 8 dX8_charge_148 kX8_40 vX8_at iX8_at ⟨by decide, by decide⟩ ⟨rfl, rfl⟩ (by decide) rfl (Nat.le_of_ble_eq_true rfl) h.t (c_X8_at h hz6 (by omega) (by decide) ?_)
                refine pw_if_ne 178 dX8_charge_151 (by decide) (fun h65 => ?_) (fun h65 => ?_)
                · skip
                  refine pw_return dX8_charge_178 rfl ?_
                  refine q _ (Eq.mp (congrArg (fun b => ZR z27 b) ?_) hz6)
                  rw [chS_D]
                  unfold ch3
                  rw [cif_n (fun hh => h65 hh.2.1)]
                · skip
                  refine pw_aload_0 dX8_charge_154 ?_
                  refine pw_iload_1 dX8_charge_155 ?_
                  refine pw_iconst (v := nI 1) dX8_charge_156 (by decide) ?_
                  refine pw_cV2i 8 dX8_charge_157 kX8_40 vX8_at iX8_at ⟨by decide, by decide⟩ ⟨rfl, rfl⟩ (by decide) rfl (Nat.le_of_ble_eq_true rfl) h.t (c_X8_at h hz6 (by omega) (by decide) ?_)
                  refine pw_aload_0 dX8_charge_160 ?_
                  refine pw_getr 8 0 dX8_charge_161 fX8_7 rfl (by decide) rfl h.t h.r0 ?_
                  refine pw_iconst (v := nI 1) dX8_charge_164 (by decide) ?_
                  refine pw_ialdN dX8_charge_165 h.a1 (by omega) (by decide) ?_
                  refine pw_top (show _ = bG (chD L B i) 1 from by rw [wC_self, hz6.g (by decide)]) ?_
                  refine pw_iconst (v := nI 2) dX8_charge_166 (by decide) ?_
                  refine pw_idiv dX8_charge_167 (by decide) ?_
                  refine pw_icmp_lt 178 dX8_charge_168 (by decide) (fun h66 => ?_) (fun h66 => ?_)
                  · skip
                    refine pw_return dX8_charge_178 rfl ?_
                    refine q _ (Eq.mp (congrArg (fun b => ZR z27 b) ?_) hz6)
                    rw [chS_D]
                    unfold ch3
                    rw [cif_n (fun hh => Int32.not_le.mpr h66 hh.2.2)]
                  · skip
                    refine pw_aload_0 dX8_charge_171 ?_
                    refine pw_iload_1 dX8_charge_172 ?_
                    refine pw_iconst (v := nI 2) dX8_charge_173 (by decide) ?_
                    refine pw_iconst (v := nI 0) dX8_charge_174 (by decide) ?_
                    refine pw_cV3v 8 dX8_charge_175 kX8_55 vX8_lay iX8_lay ⟨by decide, by decide⟩ ⟨rfl, rfl⟩ (by decide) rfl (Nat.le_of_ble_eq_true rfl) h.t (c_X8_lay h hz6 (by omega) (by decide) (fun z30 hz30 => ?_))
                    refine pw_return dX8_charge_178 rfl ?_
                    refine q _ (Eq.mp (congrArg (fun b => ZR z30 b) ?_) hz30)
                    rw [chS_D]
                    unfold ch3
                    rw [cif_y ⟨h64, h65, Int32.not_lt.mp h66⟩]
      · skip
        refine pw_aload_0 dX8_charge_90 ?_
        refine pw_getr 8 0 dX8_charge_91 fX8_7 rfl (by decide) rfl h.t h.r0 ?_
        refine pw_iconst (v := nI 1) dX8_charge_94 (by decide) ?_
        refine pw_ialdN dX8_charge_95 h.a1 (by omega) (by decide) ?_
        refine pw_top (show _ = bG B 1 from by rw [wC_self, hz.g (by decide)]) ?_
        refine pw_goto 108 dX8_charge_96 (by decide) ?_
        refine pw_cV3v 8 dX8_charge_108 kX8_55 vX8_lay iX8_lay ⟨by decide, by decide⟩ ⟨rfl, rfl⟩ (by decide) rfl (Nat.le_of_ble_eq_true rfl) h.t (c_X8_lay h hz (by omega) (by decide) (fun z31 hz31 => ?_))
        have ec : clV (chV L B i) (bG B 1) = bG B 1 := if_pos (Int32.not_le.mp h41)
        have hz5 : ZR z31 (ch1 L B i) := by unfold ch1; rw [ec]; exact hz31
        have wf2 : WF (ch1 L B i) := wf.k1 hi
        refine pw_iload_3 dX8_charge_111 ?_
        refine pw_if_ge 135 dX8_charge_112 (by decide) (fun h67 => ?_) (fun h67 => ?_)
        · skip
          have hz6 : ZR z31 (chD L B i) := by unfold chD; rw [if_neg (Int32.not_lt.mpr h67)]; exact hz5
          have eD : bG (chD L B i) = bG B := G_chD
          refine pw_st rfl rfl ?_
          refine pw_aload_0 dX8_charge_135 ?_
          refine pw_iload_1 dX8_charge_136 ?_
          refine pw_iconst (v := nI 2) dX8_charge_137 (by decide) ?_
          refine pw_cV2i 8 dX8_charge_138 kX8_40 vX8_at iX8_at ⟨by decide, by decide⟩ ⟨rfl, rfl⟩ (by decide) rfl (Nat.le_of_ble_eq_true rfl) h.t (c_X8_at h hz6 (by omega) (by decide) ?_)
          refine pw_iconst (v := nI 1) dX8_charge_141 (by decide) ?_
          refine pw_icmp_ne 178 dX8_charge_142 (by decide) (fun h68 => ?_) (fun h68 => ?_)
          · skip
            refine pw_return dX8_charge_178 rfl ?_
            refine q _ (Eq.mp (congrArg (fun b => ZR z31 b) ?_) hz6)
            rw [chS_D]
            unfold ch3
            rw [cif_n (fun hh => h68 hh.1)]
          · skip
            refine pw_aload_0 dX8_charge_145 ?_
            refine pw_iload_1 dX8_charge_146 ?_
            refine pw_iconst (v := nI 3) dX8_charge_147 (by decide) ?_
            refine pw_cV2i 8 dX8_charge_148 kX8_40 vX8_at iX8_at ⟨by decide, by decide⟩ ⟨rfl, rfl⟩ (by decide) rfl (Nat.le_of_ble_eq_true rfl) h.t (c_X8_at h hz6 (by omega) (by decide) ?_)
            refine pw_if_ne 178 dX8_charge_151 (by decide) (fun h69 => ?_) (fun h69 => ?_)
            · skip
              refine pw_return dX8_charge_178 rfl ?_
              refine q _ (Eq.mp (congrArg (fun b => ZR z31 b) ?_) hz6)
              rw [chS_D]
              unfold ch3
              rw [cif_n (fun hh => h69 hh.2.1)]
            · skip
              refine pw_aload_0 dX8_charge_154 ?_
              refine pw_iload_1 dX8_charge_155 ?_
              refine pw_iconst (v := nI 1) dX8_charge_156 (by decide) ?_
              refine pw_cV2i 8 dX8_charge_157 kX8_40 vX8_at iX8_at ⟨by decide, by decide⟩ ⟨rfl, rfl⟩ (by decide) rfl (Nat.le_of_ble_eq_true rfl) h.t (c_X8_at h hz6 (by omega) (by decide) ?_)
              refine pw_aload_0 dX8_charge_160 ?_
              refine pw_getr 8 0 dX8_charge_161 fX8_7 rfl (by decide) rfl h.t h.r0 ?_
              refine pw_iconst (v := nI 1) dX8_charge_164 (by decide) ?_
              refine pw_ialdN dX8_charge_165 h.a1 (by omega) (by decide) ?_
              refine pw_top (show _ = bG (chD L B i) 1 from by rw [wC_self, hz6.g (by decide)]) ?_
              refine pw_iconst (v := nI 2) dX8_charge_166 (by decide) ?_
              refine pw_idiv dX8_charge_167 (by decide) ?_
              refine pw_icmp_lt 178 dX8_charge_168 (by decide) (fun h70 => ?_) (fun h70 => ?_)
              · skip
                refine pw_return dX8_charge_178 rfl ?_
                refine q _ (Eq.mp (congrArg (fun b => ZR z31 b) ?_) hz6)
                rw [chS_D]
                unfold ch3
                rw [cif_n (fun hh => Int32.not_le.mpr h70 hh.2.2)]
              · skip
                refine pw_aload_0 dX8_charge_171 ?_
                refine pw_iload_1 dX8_charge_172 ?_
                refine pw_iconst (v := nI 2) dX8_charge_173 (by decide) ?_
                refine pw_iconst (v := nI 0) dX8_charge_174 (by decide) ?_
                refine pw_cV3v 8 dX8_charge_175 kX8_55 vX8_lay iX8_lay ⟨by decide, by decide⟩ ⟨rfl, rfl⟩ (by decide) rfl (Nat.le_of_ble_eq_true rfl) h.t (c_X8_lay h hz6 (by omega) (by decide) (fun z32 hz32 => ?_))
                refine pw_return dX8_charge_178 rfl ?_
                refine q _ (Eq.mp (congrArg (fun b => ZR z32 b) ?_) hz32)
                rw [chS_D]
                unfold ch3
                rw [cif_y ⟨h68, h69, Int32.not_lt.mp h70⟩]
        · skip
          refine pw_aload_0 dX8_charge_115 ?_
          refine pw_iload_1 dX8_charge_116 ?_
          refine pw_iconst (v := nI 2) dX8_charge_117 (by decide) ?_
          refine pw_iconst (v := nI 1) dX8_charge_118 (by decide) ?_
          refine pw_cV3v 8 dX8_charge_119 kX8_55 vX8_lay iX8_lay ⟨by decide, by decide⟩ ⟨rfl, rfl⟩ (by decide) rfl (Nat.le_of_ble_eq_true rfl) h.t (c_X8_lay h hz5 (by omega) (by decide) (fun z33 hz33 => ?_))
          have wf3 : WF (setS (ch1 L B i) i (upd (bS (ch1 L B i) i) 2 (nI 1))) := wf2.pS hi ((wf2.s hi).z (Or.inl rfl) (Or.inr rfl)) (by rw [upd_n _ _ (by omega)]; exact wf2.c hi)
          refine pw_aload_0 dX8_charge_122 ?_
          refine pw_iload_1 dX8_charge_123 ?_
          refine pw_cV1i 8 dX8_charge_124 kX8_109 vX8_speaks iX8_speaks ⟨by decide, by decide⟩ ⟨rfl, rfl⟩ (by decide) rfl (Nat.le_of_ble_eq_true rfl) h.t (c_X8_speaks h hz33 (by omega) (fun h71 => ?_) (fun h72 => ?_))
          · skip
            refine pw_if_eq 135 dX8_charge_127 (by decide) (fun hh => absurd hh (by decide)) (fun _ => ?_)
            refine pw_aload_0 dX8_charge_130 ?_
            refine pw_iload_1 dX8_charge_131 ?_
            refine pw_cV1v 8 dX8_charge_132 kX8_112 vX8_giveUp iX8_giveUp ⟨by decide, by decide⟩ ⟨rfl, rfl⟩ (by decide) rfl (Nat.le_of_ble_eq_true rfl) h.t (m_giveUp h hz33 wf3 hi h71 (fun z34 hz34 => ?_))
            have hz6 : ZR z34 (chD L B i) := by unfold chD; rw [if_pos (Int32.not_le.mp h67)]; unfold ch2; rw [cif_y (show spB (ch1 L B i) i from fun e => h71 (by rw [bS_setS_s, upd_n _ _ (by omega)]; exact e))]; exact hz34
            have eD : bG (chD L B i) = bG B := G_chD
            refine pw_st rfl rfl ?_
            refine pw_aload_0 dX8_charge_135 ?_
            refine pw_iload_1 dX8_charge_136 ?_
            refine pw_iconst (v := nI 2) dX8_charge_137 (by decide) ?_
            refine pw_cV2i 8 dX8_charge_138 kX8_40 vX8_at iX8_at ⟨by decide, by decide⟩ ⟨rfl, rfl⟩ (by decide) rfl (Nat.le_of_ble_eq_true rfl) h.t (c_X8_at h hz6 (by omega) (by decide) ?_)
            refine pw_iconst (v := nI 1) dX8_charge_141 (by decide) ?_
            refine pw_icmp_ne 178 dX8_charge_142 (by decide) (fun h73 => ?_) (fun h73 => ?_)
            · skip
              refine pw_return dX8_charge_178 rfl ?_
              refine q _ (Eq.mp (congrArg (fun b => ZR z34 b) ?_) hz6)
              rw [chS_D]
              unfold ch3
              rw [cif_n (fun hh => h73 hh.1)]
            · skip
              refine pw_aload_0 dX8_charge_145 ?_
              refine pw_iload_1 dX8_charge_146 ?_
              refine pw_iconst (v := nI 3) dX8_charge_147 (by decide) ?_
              refine pw_cV2i 8 dX8_charge_148 kX8_40 vX8_at iX8_at ⟨by decide, by decide⟩ ⟨rfl, rfl⟩ (by decide) rfl (Nat.le_of_ble_eq_true rfl) h.t (c_X8_at h hz6 (by omega) (by decide) ?_)
              refine pw_if_ne 178 dX8_charge_151 (by decide) (fun h74 => ?_) (fun h74 => ?_)
              · skip
                refine pw_return dX8_charge_178 rfl ?_
                refine q _ (Eq.mp (congrArg (fun b => ZR z34 b) ?_) hz6)
                rw [chS_D]
                unfold ch3
                rw [cif_n (fun hh => h74 hh.2.1)]
              · skip
                refine pw_aload_0 dX8_charge_154 ?_
                refine pw_iload_1 dX8_charge_155 ?_
                refine pw_iconst (v := nI 1) dX8_charge_156 (by decide) ?_
                refine pw_cV2i 8 dX8_charge_157 kX8_40 vX8_at iX8_at ⟨by decide, by decide⟩ ⟨rfl, rfl⟩ (by decide) rfl (Nat.le_of_ble_eq_true rfl) h.t (c_X8_at h hz6 (by omega) (by decide) ?_)
                refine pw_aload_0 dX8_charge_160 ?_
                refine pw_getr 8 0 dX8_charge_161 fX8_7 rfl (by decide) rfl h.t h.r0 ?_
                refine pw_iconst (v := nI 1) dX8_charge_164 (by decide) ?_
                refine pw_ialdN dX8_charge_165 h.a1 (by omega) (by decide) ?_
                refine pw_top (show _ = bG (chD L B i) 1 from by rw [wC_self, hz6.g (by decide)]) ?_
                refine pw_iconst (v := nI 2) dX8_charge_166 (by decide) ?_
                refine pw_idiv dX8_charge_167 (by decide) ?_
                refine pw_icmp_lt 178 dX8_charge_168 (by decide) (fun h75 => ?_) (fun h75 => ?_)
                · skip
                  refine pw_return dX8_charge_178 rfl ?_
                  refine q _ (Eq.mp (congrArg (fun b => ZR z34 b) ?_) hz6)
                  rw [chS_D]
                  unfold ch3
                  rw [cif_n (fun hh => Int32.not_le.mpr h75 hh.2.2)]
                · skip
                  refine pw_aload_0 dX8_charge_171 ?_
                  refine pw_iload_1 dX8_charge_172 ?_
                  refine pw_iconst (v := nI 2) dX8_charge_173 (by decide) ?_
                  refine pw_iconst (v := nI 0) dX8_charge_174 (by decide) ?_
                  refine pw_cV3v 8 dX8_charge_175 kX8_55 vX8_lay iX8_lay ⟨by decide, by decide⟩ ⟨rfl, rfl⟩ (by decide) rfl (Nat.le_of_ble_eq_true rfl) h.t (c_X8_lay h hz6 (by omega) (by decide) (fun z35 hz35 => ?_))
                  refine pw_return dX8_charge_178 rfl ?_
                  refine q _ (Eq.mp (congrArg (fun b => ZR z35 b) ?_) hz35)
                  rw [chS_D]
                  unfold ch3
                  rw [cif_y ⟨h73, h74, Int32.not_lt.mp h75⟩]
          · skip
            refine pw_if_eq 135 dX8_charge_127 (by decide) (fun _ => ?_) (fun hh => absurd (by decide) hh)
            have hz6 : ZR z33 (chD L B i) := by unfold chD; rw [if_pos (Int32.not_le.mp h67)]; unfold ch2; rw [cif_n (fun hh => h72 (fun e => hh (by rw [bS_setS_s, upd_n _ _ (by omega)] at e; exact e)))]; exact hz33
            have eD : bG (chD L B i) = bG B := G_chD
            refine pw_st rfl rfl ?_
            refine pw_aload_0 dX8_charge_135 ?_
            refine pw_iload_1 dX8_charge_136 ?_
            refine pw_iconst (v := nI 2) dX8_charge_137 (by decide) ?_
            refine pw_cV2i 8 dX8_charge_138 kX8_40 vX8_at iX8_at ⟨by decide, by decide⟩ ⟨rfl, rfl⟩ (by decide) rfl (Nat.le_of_ble_eq_true rfl) h.t (c_X8_at h hz6 (by omega) (by decide) ?_)
            refine pw_iconst (v := nI 1) dX8_charge_141 (by decide) ?_
            refine pw_icmp_ne 178 dX8_charge_142 (by decide) (fun h76 => ?_) (fun h76 => ?_)
            · skip
              refine pw_return dX8_charge_178 rfl ?_
              refine q _ (Eq.mp (congrArg (fun b => ZR z33 b) ?_) hz6)
              rw [chS_D]
              unfold ch3
              rw [cif_n (fun hh => h76 hh.1)]
            · skip
              refine pw_aload_0 dX8_charge_145 ?_
              refine pw_iload_1 dX8_charge_146 ?_
              refine pw_iconst (v := nI 3) dX8_charge_147 (by decide) ?_
              refine pw_cV2i 8 dX8_charge_148 kX8_40 vX8_at iX8_at ⟨by decide, by decide⟩ ⟨rfl, rfl⟩ (by decide) rfl (Nat.le_of_ble_eq_true rfl) h.t (c_X8_at h hz6 (by omega) (by decide) ?_)
              refine pw_if_ne 178 dX8_charge_151 (by decide) (fun h77 => ?_) (fun h77 => ?_)
              · skip
                refine pw_return dX8_charge_178 rfl ?_
                refine q _ (Eq.mp (congrArg (fun b => ZR z33 b) ?_) hz6)
                rw [chS_D]
                unfold ch3
                rw [cif_n (fun hh => h77 hh.2.1)]
              · skip
                refine pw_aload_0 dX8_charge_154 ?_
                refine pw_iload_1 dX8_charge_155 ?_
                refine pw_iconst (v := nI 1) dX8_charge_156 (by decide) ?_
                refine pw_cV2i 8 dX8_charge_157 kX8_40 vX8_at iX8_at ⟨by decide, by decide⟩ ⟨rfl, rfl⟩ (by decide) rfl (Nat.le_of_ble_eq_true rfl) h.t (c_X8_at h hz6 (by omega) (by decide) ?_)
                refine pw_aload_0 dX8_charge_160 ?_
                refine pw_getr 8 0 dX8_charge_161 fX8_7 rfl (by decide) rfl h.t h.r0 ?_
                refine pw_iconst (v := nI 1) dX8_charge_164 (by decide) ?_
                refine pw_ialdN dX8_charge_165 h.a1 (by omega) (by decide) ?_
                refine pw_top (show _ = bG (chD L B i) 1 from by rw [wC_self, hz6.g (by decide)]) ?_
                refine pw_iconst (v := nI 2) dX8_charge_166 (by decide) ?_
                refine pw_idiv dX8_charge_167 (by decide) ?_
                refine pw_icmp_lt 178 dX8_charge_168 (by decide) (fun h78 => ?_) (fun h78 => ?_)
                · skip
                  refine pw_return dX8_charge_178 rfl ?_
                  refine q _ (Eq.mp (congrArg (fun b => ZR z33 b) ?_) hz6)
                  rw [chS_D]
                  unfold ch3
                  rw [cif_n (fun hh => Int32.not_le.mpr h78 hh.2.2)]
                · skip
                  refine pw_aload_0 dX8_charge_171 ?_
                  refine pw_iload_1 dX8_charge_172 ?_
                  refine pw_iconst (v := nI 2) dX8_charge_173 (by decide) ?_
                  refine pw_iconst (v := nI 0) dX8_charge_174 (by decide) ?_
                  refine pw_cV3v 8 dX8_charge_175 kX8_55 vX8_lay iX8_lay ⟨by decide, by decide⟩ ⟨rfl, rfl⟩ (by decide) rfl (Nat.le_of_ble_eq_true rfl) h.t (c_X8_lay h hz6 (by omega) (by decide) (fun z36 hz36 => ?_))
                  refine pw_return dX8_charge_178 rfl ?_
                  refine q _ (Eq.mp (congrArg (fun b => ZR z36 b) ?_) hz36)
                  rw [chS_D]
                  unfold ch3
                  rw [cif_y ⟨h76, h77, Int32.not_lt.mp h78⟩]
  · intro k hk ih
    refine pw_iload_3 dX8_charge_4 ?_
    refine pw_bipush (v := nI 6) dX8_charge_5 (by decide) ?_
    refine pw_icmp_ge 42 dX8_charge_7 (by decide) (fun hh => absurd hh (by rw [nI_leI (by omega) (by omega)]; omega)) (fun _ => ?_)
    refine pw_iload_2 dX8_charge_10 ?_
    refine pw_aload_0 dX8_charge_11 ?_
    refine pw_iload_1 dX8_charge_12 ?_
    refine pw_iload_3 dX8_charge_13 ?_
    refine pw_cV2i 8 dX8_charge_14 kX8_73 vX8_isAt iX8_isAt ⟨by decide, by decide⟩ ⟨rfl, rfl⟩ (by decide) rfl (Nat.le_of_ble_eq_true rfl) h.t (c_X8_isAt h hz (by omega) (fun h79 => ?_) (fun h80 => ?_))
    · skip
      refine pw_if_eq 33 dX8_charge_17 (by decide) (fun hh => absurd hh (by decide)) (fun _ => ?_)
      refine pw_aload_0 dX8_charge_20 ?_
      refine pw_getr 8 8 dX8_charge_21 fX8_30 rfl (by decide) rfl h.t h.r8 ?_
      refine pw_iload_3 dX8_charge_24 ?_
      refine pw_zaldN dX8_charge_25 h.a7 (by omega) (by decide) ?_
      refine pw_top (show _ = cif (L k) (nI 1) (nI 0) by rw [wC_ne _ _ (by omega)]; exact hL _ hk) ?_
      refine pw_if_ne 33 dX8_charge_26 (by decide) (fun h81 => ?_) (fun h81 => ?_)
      · skip
        refine pw_iconst (v := nI 0) dX8_charge_33 (by decide) ?_
        refine pw_iaddN dX8_charge_34 ?_
        refine pw_istore_2 dX8_charge_35 (by decide) ?_
        refine pw_iincN_3 dX8_charge_36 (by decide) ?_
        refine pw_goto 4 dX8_charge_39 (by decide) ?_
        rw [cntP_n (p := (fun v => bi (bS B i 0) (nI v) = nI 1 ∧ ¬ L v)) (fun hh => hh.2 (cif_1 h81))] at ih
        exact ih
      · skip
        refine pw_iconst (v := nI 1) dX8_charge_29 (by decide) ?_
        refine pw_goto 34 dX8_charge_30 (by decide) ?_
        refine pw_iaddN dX8_charge_34 ?_
        refine pw_istore_2 dX8_charge_35 (by decide) ?_
        refine pw_iincN_3 dX8_charge_36 (by decide) ?_
        refine pw_goto 4 dX8_charge_39 (by decide) ?_
        rw [cntP_y (p := (fun v => bi (bS B i 0) (nI v) = nI 1 ∧ ¬ L v)) ⟨h79, cif_0 h81⟩] at ih
        exact ih
    · skip
      refine pw_if_eq 33 dX8_charge_17 (by decide) (fun _ => ?_) (fun hh => absurd (by decide) hh)
      refine pw_iconst (v := nI 0) dX8_charge_33 (by decide) ?_
      refine pw_iaddN dX8_charge_34 ?_
      refine pw_istore_2 dX8_charge_35 (by decide) ?_
      refine pw_iincN_3 dX8_charge_36 (by decide) ?_
      refine pw_goto 4 dX8_charge_39 (by decide) ?_
      rw [cntP_n (p := (fun v => bi (bS B i 0) (nI v) = nI 1 ∧ ¬ L v)) (fun hh => h80 hh.1)] at ih
      exact ih
def FM (μ : Mm) (m : Nat) (ν : Mm) : Prop := ∀ a, a ≠ m + 7 → ν a = μ a
theorem FM.tr {μ ν κ : Mm} {m : Nat} (h : FM μ m ν) (k : FM ν m κ) : FM μ m κ := fun a ha => (k a ha).trans (h a ha)
theorem goN_wf {B : Bs} {L A : Nat → Prop} {k : Nat} (wf : WF B) (hk : k ≤ nS B) : WF (itr (goP L A (nS B)) k (bgB B, 0)).1 ∧ nS (itr (goP L A (nS B)) k (bgB B, 0)).1 = nS B ∧ ∀ s, awB (itr (goP L A (nS B)) k (bgB B, 0)).1 s ↔ awB (bgB B) s := by
  have e : nS (bgB B) = nS B := Fr_bg.n
  have g := go_wf (L := L) (A := A) (n := nS B) (P := (bgB B, 0)) wf.bg (show k ≤ nS (bgB B) by omega)
  exact ⟨g.1, g.2.n.trans e, fun s => g.2.aw s⟩
theorem chN_wf {B : Bs} {k : Nat} (wf : WF B) (hk : k ≤ nS B) : WF (itr (chS (lowB (bgB B))) k (goB B).1) ∧ bG (itr (chS (lowB (bgB B))) k (goB B).1) = bG B := by
  have g := ch_wf (L := lowB (bgB B)) (k := k) wf.kgo (by rw [n_go]; exact hk)
  exact ⟨g.1, g.2.trans G_go⟩
theorem rsZ {z : Nat → Int32} {C : Bs} {L : Nat → Prop} {k : Nat} {v : Int32} (hz : ZR z C) (hk : k < 6) (e : cif (L k) (nI 0) (if bW C k 0 < nI 999 then bW C k 0 + nI 1 else nI 999) = v) : ZR (upd z (7 + 4 * k + 0) v) (rsS L k C) := by
  subst e
  exact hz.updW hk (by omega) _
theorem rsN_wf {B : Bs} {k : Nat} (wf : WF B) (hk : k ≤ 6) : WF (itr (rsS (lowB (bgB B))) k (chB B)) ∧ bG (itr (rsS (lowB (bgB B))) k (chB B)) = bG B := by
  have g := rs_wf (L := lowB (bgB B)) (k := k) wf.kchB hk
  exact ⟨g.1, g.2.trans G_chB⟩
set_option maxRecDepth 100000 in
set_option maxHeartbeats 4000000 in
theorem m_beat {X : Cx} {σ : Sp} {μ : Mm} {Q : Int32 → Sp → Mm → Prop} {m : Nat} {z : Nat → Int32} {B : Bs} (h : ShM σ m) (hz : ZR z B) (wf : WF B) (q : ∀ ν z', FM μ m ν → ZR z' (btO B) → Q (nI (btN B)) σ (wC ν (m + 1) z')) : CTi X mX8_beat [.ref m] σ ((wC μ (m + 1) z)) Q := by
  refine CT.of (by decide +kernel) (Nat.le_of_ble_eq_true rfl) ?_
  show PW X mX8_beat 0 0 0 [some (.ref m), none, none, none] [] σ ((wC μ (m + 1) z)) (LI Q)
  have hn := wf.hn
  have h8 := wf.n8
  refine pw_iconst (v := nI 0) dX8_beat_0 (by decide) ?_
  refine pw_istore_1 dX8_beat_1 (by decide) ?_
  refine pw_aload_0 dX8_beat_2 ?_
  refine pw_cV0v 8 dX8_beat_3 kX8_139 vX8_begin iX8_begin ⟨by decide, by decide⟩ ⟨rfl, rfl⟩ (by decide) rfl (Nat.le_of_ble_eq_true rfl) h.t (m_begin h hz wf (fun z1 hz1 => ?_))
  refine pw_aload_0 dX8_beat_6 ?_
  refine pw_cV0v 8 dX8_beat_7 kX8_142 vX8_pull iX8_pull ⟨by decide, by decide⟩ ⟨rfl, rfl⟩ (by decide) rfl (Nat.le_of_ble_eq_true rfl) h.t (m_pull h hz1 wf.bg (fun ν hl => ?_))
  refine pw_iconst (v := nI 0) dX8_beat_10 (by decide) ?_
  refine pw_istore_2 dX8_beat_11 (by decide) ?_
  refine pw_fg (ls' := [some (.ref m), some (.int (nI ((itr (goP (lowB (bgB B)) (awB (bgB B)) (nS B)) 0 (bgB B, 0)).2))), some (.int (nI 0)), none]) ⟨Or.inr rfl, Or.inr rfl, Or.inr rfl, Or.inl rfl, trivial⟩ ?_
  refine pw_up (P := fun k => ∀ z, ZR z ((itr (goP (lowB (bgB B)) (awB (bgB B)) (nS B)) k (bgB B, 0)).1) → PW X mX8_beat 0 0 12 [some (.ref m), some (.int (nI ((itr (goP (lowB (bgB B)) (awB (bgB B)) (nS B)) k (bgB B, 0)).2))), some (.int (nI k)), none] [] σ (wC ν (m + 1) z) (LI Q)) (nS B) ?_ ?_ 0 (by omega) _ hz1
  · intro z1 hz1
    have hz1 : ZR z1 (goB B).1 := hz1
    have hn1 : bG (goB B).1 6 = nI (nS B) := (congrFun G_go 6).trans hn
    refine pw_iload_2 dX8_beat_12 ?_
    refine pw_aload_0 dX8_beat_13 ?_
    refine pw_getr 8 0 dX8_beat_14 fX8_7 rfl (by decide) rfl h.t h.r0 ?_
    refine pw_bipush (v := nI 6) dX8_beat_17 (by decide) ?_
    refine pw_ialdN dX8_beat_19 h.a1 (by omega) (by decide) ?_
    refine pw_top (show _ = nI (nS B) from by rw [wC_self, hz1.g (by decide)]; exact hn1) ?_
    refine pw_icmp_ge 53 dX8_beat_20 (by decide) (fun _ => ?_) (fun hh => absurd (by rw [nI_leI (by omega) (by omega)]; omega) hh)
    refine pw_iconst (v := nI 0) dX8_beat_53 (by decide) ?_
    refine pw_istore_2 dX8_beat_54 (by decide) ?_
    refine pw_fg (ls' := [some (.ref m), some (.int (nI ((btN B)))), some (.int (nI 0)), none]) ⟨Or.inr rfl, Or.inr rfl, Or.inr rfl, Or.inl rfl, trivial⟩ ?_
    refine pw_up (P := fun k => ∀ z, ZR z (itr (chS (lowB (bgB B))) k (goB B).1) → PW X mX8_beat 0 0 55 [some (.ref m), some (.int (nI ((btN B)))), some (.int (nI k)), none] [] σ (wC ν (m + 1) z) (LI Q)) (nS B) ?_ ?_ 0 (by omega) _ hz1
    · intro z2 hz2
      have hz2 : ZR z2 (chB B) := hz2
      refine pw_iload_2 dX8_beat_55 ?_
      refine pw_aload_0 dX8_beat_56 ?_
      refine pw_getr 8 0 dX8_beat_57 fX8_7 rfl (by decide) rfl h.t h.r0 ?_
      refine pw_bipush (v := nI 6) dX8_beat_60 (by decide) ?_
      refine pw_ialdN dX8_beat_62 h.a1 (by omega) (by decide) ?_
      refine pw_top (show _ = nI (nS B) from by rw [wC_self, hz2.g (by decide)]; exact ((congrFun G_chB 6).trans hn)) ?_
      refine pw_icmp_ge 77 dX8_beat_63 (by decide) (fun _ => ?_) (fun hh => absurd (by rw [nI_leI (by omega) (by omega)]; omega) hh)
      refine pw_iconst (v := nI 0) dX8_beat_77 (by decide) ?_
      refine pw_istore_2 dX8_beat_78 (by decide) ?_
      refine pw_fg (ls' := [some (.ref m), some (.int (nI ((btN B)))), some (.int (nI 0)), none]) ⟨Or.inr rfl, Or.inr rfl, Or.inr rfl, Or.inl rfl, trivial⟩ ?_
      refine pw_up (P := fun k => ∀ z, ZR z (itr (rsS (lowB (bgB B))) k (chB B)) → PW X mX8_beat 0 0 79 [some (.ref m), some (.int (nI ((btN B)))), some (.int (nI k)), none] [] σ (wC ν (m + 1) z) (LI Q)) 6 ?_ ?_ 0 (by omega) _ hz2
      · intro z3 hz3
        have hz3 : ZR z3 (rsB B) := hz3
        refine pw_iload_2 dX8_beat_79 ?_
        refine pw_bipush (v := nI 6) dX8_beat_80 (by decide) ?_
        refine pw_icmp_ge 145 dX8_beat_82 (by decide) (fun _ => ?_) (fun hh => absurd (by rw [nI_leI (by omega) (by omega)]; omega) hh)
        refine pw_aload_0 dX8_beat_145 ?_
        refine pw_getr 8 0 dX8_beat_146 fX8_7 rfl (by decide) rfl h.t h.r0 ?_
        refine pw_iconst (v := nI 5) dX8_beat_149 (by decide) ?_
        refine pw_dup2_11 dX8_beat_150 ?_
        refine pw_ialdN dX8_beat_151 h.a1 (by omega) (by decide) ?_
        refine pw_top (show _ = bG (rsB B) 5 from by rw [wC_self, hz3.g (by decide)]) ?_
        refine pw_iconst (v := nI 1) dX8_beat_152 (by decide) ?_
        refine pw_iadd dX8_beat_153 ?_
        refine pw_iastN dX8_beat_154 h.a1 (by omega) (by decide) ?_
        refine pw_iload_1 dX8_beat_155 ?_
        refine pw_ireturn dX8_beat_156 rfl ?_
        refine Eq.mp (congrArg (fun m' => Q (nI (btN B)) σ m') (wr_wC_s _ _ _ _ _).symm) (q ν _ hl.1 ?_)
        unfold btO
        rw [show bG B 5 = bG (rsB B) 5 from (congrFun G_rsB 5).symm]
        exact hz3.updG (k := 5) (by omega) _
      · intro k hk ih z3 hz3
        have ih2 : ∀ z, ZR z (rsS (lowB (bgB B)) k (itr (rsS (lowB (bgB B))) k (chB B))) → _ := ih
        generalize itr (rsS (lowB (bgB B))) k (chB B) = C at hz3 ih2
        have hz1 := hz3
        refine pw_iload_2 dX8_beat_79 ?_
        refine pw_bipush (v := nI 6) dX8_beat_80 (by decide) ?_
        refine pw_icmp_ge 145 dX8_beat_82 (by decide) (fun hh => absurd hh (by rw [nI_leI (by omega) (by omega)]; omega)) (fun _ => ?_)
        refine pw_aload_0 dX8_beat_85 ?_
        refine pw_iload_2 dX8_beat_86 ?_
        refine pw_iconst (v := nI 0) dX8_beat_87 (by decide) ?_
        refine pw_cV2i 8 dX8_beat_88 kX8_100 vX8_wire iX8_wire ⟨by decide, by decide⟩ ⟨rfl, rfl⟩ (by decide) rfl (Nat.le_of_ble_eq_true rfl) h.t (c_X8_wire h hz3 (by omega) (by decide) ?_)
        refine pw_sipush (v := nI 999) dX8_beat_91 (by decide) ?_
        refine pw_icmp_ge 108 dX8_beat_94 (by decide) (fun h1 => ?_) (fun h1 => ?_)
        · skip
          refine pw_sipush (v := nI 999) dX8_beat_108 (by decide) ?_
          refine pw_istore_3 dX8_beat_111 (by decide) ?_
          refine pw_aload_0 dX8_beat_112 ?_
          refine pw_getr 8 0 dX8_beat_113 fX8_7 rfl (by decide) rfl h.t h.r0 ?_
          refine pw_bipush (v := nI 7) dX8_beat_116 (by decide) ?_
          refine pw_iconst (v := nI 4) dX8_beat_118 (by decide) ?_
          refine pw_iload_2 dX8_beat_119 ?_
          refine pw_imulN dX8_beat_120 ?_
          refine pw_iaddN dX8_beat_121 ?_
          refine pw_iconst (v := nI 0) dX8_beat_122 (by decide) ?_
          refine pw_iaddN dX8_beat_123 ?_
          refine pw_aload_0 dX8_beat_124 ?_
          refine pw_getr 8 8 dX8_beat_125 fX8_30 rfl (by decide) rfl h.t h.r8 ?_
          refine pw_iload_2 dX8_beat_128 ?_
          refine pw_zaldN dX8_beat_129 h.a7 (by omega) (by decide) ?_
          refine pw_top (show _ = cif ((lowB (bgB B)) k) (nI 1) (nI 0) by rw [wC_ne _ _ (by omega)]; exact hl.2 _ hk) ?_
          refine pw_if_eq 137 dX8_beat_130 (by decide) (fun h2 => ?_) (fun h2 => ?_)
          · skip
            refine pw_iload_3 dX8_beat_137 ?_
            refine pw_iastN dX8_beat_138 h.a1 (by omega) (by decide) ?_
            refine pw_iincN_2 dX8_beat_139 (by decide) ?_
            refine pw_goto 79 dX8_beat_142 (by decide) ?_
            refine pw_fg (ls' := [some (.ref m), some (.int (nI ((btN B)))), some (.int (nI ((k + 1)))), none]) ⟨Or.inr rfl, Or.inr rfl, Or.inr rfl, Or.inl rfl, trivial⟩ (pw_mem (wr_wC_s _ _ _ _ _) (ih2 _ (rsZ hz1 hk ((cif_n (cif_0 h2)).trans (if_neg (Int32.not_lt.mpr h1))))))
          · skip
            refine pw_iconst (v := nI 0) dX8_beat_133 (by decide) ?_
            refine pw_goto 138 dX8_beat_134 (by decide) ?_
            refine pw_iastN dX8_beat_138 h.a1 (by omega) (by decide) ?_
            refine pw_iincN_2 dX8_beat_139 (by decide) ?_
            refine pw_goto 79 dX8_beat_142 (by decide) ?_
            refine pw_fg (ls' := [some (.ref m), some (.int (nI ((btN B)))), some (.int (nI ((k + 1)))), none]) ⟨Or.inr rfl, Or.inr rfl, Or.inr rfl, Or.inl rfl, trivial⟩ (pw_mem (wr_wC_s _ _ _ _ _) (ih2 _ (rsZ hz1 hk (cif_y (cif_1 h2)))))
        · skip
          refine pw_aload_0 dX8_beat_97 ?_
          refine pw_iload_2 dX8_beat_98 ?_
          refine pw_iconst (v := nI 0) dX8_beat_99 (by decide) ?_
          refine pw_cV2i 8 dX8_beat_100 kX8_100 vX8_wire iX8_wire ⟨by decide, by decide⟩ ⟨rfl, rfl⟩ (by decide) rfl (Nat.le_of_ble_eq_true rfl) h.t (c_X8_wire h hz3 (by omega) (by decide) ?_)
          refine pw_iconst (v := nI 1) dX8_beat_103 (by decide) ?_
          refine pw_iadd dX8_beat_104 ?_
          refine pw_goto 111 dX8_beat_105 (by decide) ?_
          refine pw_istore_3 dX8_beat_111 (by decide) ?_
          refine pw_aload_0 dX8_beat_112 ?_
          refine pw_getr 8 0 dX8_beat_113 fX8_7 rfl (by decide) rfl h.t h.r0 ?_
          refine pw_bipush (v := nI 7) dX8_beat_116 (by decide) ?_
          refine pw_iconst (v := nI 4) dX8_beat_118 (by decide) ?_
          refine pw_iload_2 dX8_beat_119 ?_
          refine pw_imulN dX8_beat_120 ?_
          refine pw_iaddN dX8_beat_121 ?_
          refine pw_iconst (v := nI 0) dX8_beat_122 (by decide) ?_
          refine pw_iaddN dX8_beat_123 ?_
          refine pw_aload_0 dX8_beat_124 ?_
          refine pw_getr 8 8 dX8_beat_125 fX8_30 rfl (by decide) rfl h.t h.r8 ?_
          refine pw_iload_2 dX8_beat_128 ?_
          refine pw_zaldN dX8_beat_129 h.a7 (by omega) (by decide) ?_
          refine pw_top (show _ = cif ((lowB (bgB B)) k) (nI 1) (nI 0) by rw [wC_ne _ _ (by omega)]; exact hl.2 _ hk) ?_
          refine pw_if_eq 137 dX8_beat_130 (by decide) (fun h3 => ?_) (fun h3 => ?_)
          · skip
            refine pw_iload_3 dX8_beat_137 ?_
            refine pw_iastN dX8_beat_138 h.a1 (by omega) (by decide) ?_
            refine pw_iincN_2 dX8_beat_139 (by decide) ?_
            refine pw_goto 79 dX8_beat_142 (by decide) ?_
            refine pw_fg (ls' := [some (.ref m), some (.int (nI ((btN B)))), some (.int (nI ((k + 1)))), none]) ⟨Or.inr rfl, Or.inr rfl, Or.inr rfl, Or.inl rfl, trivial⟩ (pw_mem (wr_wC_s _ _ _ _ _) (ih2 _ (rsZ hz1 hk ((cif_n (cif_0 h3)).trans (if_pos (Int32.not_le.mp h1))))))
          · skip
            refine pw_iconst (v := nI 0) dX8_beat_133 (by decide) ?_
            refine pw_goto 138 dX8_beat_134 (by decide) ?_
            refine pw_iastN dX8_beat_138 h.a1 (by omega) (by decide) ?_
            refine pw_iincN_2 dX8_beat_139 (by decide) ?_
            refine pw_goto 79 dX8_beat_142 (by decide) ?_
            refine pw_fg (ls' := [some (.ref m), some (.int (nI ((btN B)))), some (.int (nI ((k + 1)))), none]) ⟨Or.inr rfl, Or.inr rfl, Or.inr rfl, Or.inl rfl, trivial⟩ (pw_mem (wr_wC_s _ _ _ _ _) (ih2 _ (rsZ hz1 hk (cif_y (cif_1 h3)))))
    · intro k hk ih z2 hz2
      have ih2 : ∀ z, ZR z (chS (lowB (bgB B)) k (itr (chS (lowB (bgB B))) k (goB B).1)) → _ := ih
      obtain ⟨wf1, eG⟩ := chN_wf wf (show k ≤ nS B by omega)
      generalize itr (chS (lowB (bgB B))) k (goB B).1 = C at hz2 ih2 wf1 eG
      have en : nS C = nS B := nS_G eG
      have hn1 : bG C 6 = nI (nS B) := (congrFun eG 6).trans hn
      refine pw_iload_2 dX8_beat_55 ?_
      refine pw_aload_0 dX8_beat_56 ?_
      refine pw_getr 8 0 dX8_beat_57 fX8_7 rfl (by decide) rfl h.t h.r0 ?_
      refine pw_bipush (v := nI 6) dX8_beat_60 (by decide) ?_
      refine pw_ialdN dX8_beat_62 h.a1 (by omega) (by decide) ?_
      refine pw_top (show _ = nI (nS B) from by rw [wC_self, hz2.g (by decide)]; exact hn1) ?_
      refine pw_icmp_ge 77 dX8_beat_63 (by decide) (fun hh => absurd hh (by rw [nI_leI (by omega) (by omega)]; omega)) (fun _ => ?_)
      refine pw_aload_0 dX8_beat_66 ?_
      refine pw_iload_2 dX8_beat_67 ?_
      refine pw_cV1v 8 dX8_beat_68 kX8_148 vX8_charge iX8_charge ⟨by decide, by decide⟩ ⟨rfl, rfl⟩ (by decide) rfl (Nat.le_of_ble_eq_true rfl) h.t (m_charge (L := (lowB (bgB B))) h hz2 wf1 (by omega) hl.2 (fun z2 hz2 => ?_))
      refine pw_iincN_2 dX8_beat_71 (by decide) ?_
      refine pw_goto 55 dX8_beat_74 (by decide) ?_
      refine ih2 _ hz2
  · intro k hk ih z1 hz1
    have ih2 : ∀ z, ZR z (goP (lowB (bgB B)) (awB (bgB B)) (nS B) k (itr (goP (lowB (bgB B)) (awB (bgB B)) (nS B)) k (bgB B, 0))).1 → PW X mX8_beat 0 0 12 [some (.ref m), some (.int (nI (goP (lowB (bgB B)) (awB (bgB B)) (nS B) k (itr (goP (lowB (bgB B)) (awB (bgB B)) (nS B)) k (bgB B, 0))).2)), some (.int (nI (k + 1))), none] [] σ (wC ν (m + 1) z) (LI Q) := ih
    obtain ⟨wf1, en, ea⟩ := goN_wf (L := (lowB (bgB B))) (A := (awB (bgB B))) wf (show k ≤ nS B by omega)
    clear ih
    generalize (itr (goP (lowB (bgB B)) (awB (bgB B)) (nS B)) k (bgB B, 0)) = C at hz1 ih2 wf1 en ea
    have hn1 : bG C.1 6 = nI (nS B) := by rw [wf1.hn, en]
    refine pw_iload_2 dX8_beat_12 ?_
    refine pw_aload_0 dX8_beat_13 ?_
    refine pw_getr 8 0 dX8_beat_14 fX8_7 rfl (by decide) rfl h.t h.r0 ?_
    refine pw_bipush (v := nI 6) dX8_beat_17 (by decide) ?_
    refine pw_ialdN dX8_beat_19 h.a1 (by omega) (by decide) ?_
    refine pw_top (show _ = nI (nS B) from by rw [wC_self, hz1.g (by decide)]; exact hn1) ?_
    refine pw_icmp_ge 53 dX8_beat_20 (by decide) (fun hh => absurd hh (by rw [nI_leI (by omega) (by omega)]; omega)) (fun _ => ?_)
    refine pw_iload_1 dX8_beat_23 ?_
    refine pw_aload_0 dX8_beat_24 ?_
    refine pw_iload_2 dX8_beat_25 ?_
    refine pw_cV1i 8 dX8_beat_26 kX8_109 vX8_speaks iX8_speaks ⟨by decide, by decide⟩ ⟨rfl, rfl⟩ (by decide) rfl (Nat.le_of_ble_eq_true rfl) h.t (c_X8_speaks h hz1 (by omega) (fun h4 => ?_) (fun h5 => ?_))
    · skip
      refine pw_if_eq 44 dX8_beat_29 (by decide) (fun hh => absurd hh (by decide)) (fun _ => ?_)
      refine pw_aload_0 dX8_beat_32 ?_
      refine pw_iload_2 dX8_beat_33 ?_
      refine pw_cV1i 8 dX8_beat_34 kX8_145 vX8_goesOn iX8_goesOn ⟨by decide, by decide⟩ ⟨rfl, rfl⟩ (by decide) rfl (Nat.le_of_ble_eq_true rfl) h.t (m_goesOn (L := (lowB (bgB B))) h hz1 wf1 (by omega) h4 hl.2 (fun z3 hz3 => ?_))
      refine pw_if_eq 44 dX8_beat_37 (by decide) (fun h6 => ?_) (fun h6 => ?_)
      · skip
        refine pw_iconst (v := nI 0) dX8_beat_44 (by decide) ?_
        refine pw_iaddN dX8_beat_45 ?_
        refine pw_istore_1 dX8_beat_46 (by decide) ?_
        refine pw_iincN_2 dX8_beat_47 (by decide) ?_
        refine pw_goto 12 dX8_beat_50 (by decide) ?_
        have er : (goP (lowB (bgB B)) (awB C.1) (nS C.1) k (C.1, 0)).2 = 0 := (nI_eq (by rcases goP_01 (lowB (bgB B)) (awB C.1) (nS C.1) k C.1 with e | e <;> omega) (by omega)).mp h6
        have eA : goP (lowB (bgB B)) (awB (bgB B)) (nS B) k C = ((goP (lowB (bgB B)) (awB C.1) (nS C.1) k (C.1, 0)).1, C.2 + (goP (lowB (bgB B)) (awB C.1) (nS C.1) k (C.1, 0)).2) := by
          rw [en, goP_A (fun s => (ea s).symm), ← goP_c]
        rw [eA, er] at ih2
        refine pw_fg (ls' := [some (.ref m), some (.int (nI (C.2 + 0))), some (.int (nI ((k + 1)))), none]) ⟨Or.inr rfl, Or.inr rfl, Or.inr rfl, Or.inl rfl, trivial⟩ (ih2 _ hz3)
      · skip
        refine pw_iconst (v := nI 1) dX8_beat_40 (by decide) ?_
        refine pw_goto 45 dX8_beat_41 (by decide) ?_
        refine pw_iaddN dX8_beat_45 ?_
        refine pw_istore_1 dX8_beat_46 (by decide) ?_
        refine pw_iincN_2 dX8_beat_47 (by decide) ?_
        refine pw_goto 12 dX8_beat_50 (by decide) ?_
        have er : (goP (lowB (bgB B)) (awB C.1) (nS C.1) k (C.1, 0)).2 = 1 := (goP_01 _ _ _ _ _).resolve_left (fun e => h6 (by rw [e]; rfl))
        have eA : goP (lowB (bgB B)) (awB (bgB B)) (nS B) k C = ((goP (lowB (bgB B)) (awB C.1) (nS C.1) k (C.1, 0)).1, C.2 + (goP (lowB (bgB B)) (awB C.1) (nS C.1) k (C.1, 0)).2) := by
          rw [en, goP_A (fun s => (ea s).symm), ← goP_c]
        rw [eA, er] at ih2
        refine pw_fg (ls' := [some (.ref m), some (.int (nI (C.2 + 1))), some (.int (nI ((k + 1)))), none]) ⟨Or.inr rfl, Or.inr rfl, Or.inr rfl, Or.inl rfl, trivial⟩ (ih2 _ hz3)
    · skip
      refine pw_if_eq 44 dX8_beat_29 (by decide) (fun _ => ?_) (fun hh => absurd (by decide) hh)
      refine pw_iconst (v := nI 0) dX8_beat_44 (by decide) ?_
      refine pw_iaddN dX8_beat_45 ?_
      refine pw_istore_1 dX8_beat_46 (by decide) ?_
      refine pw_iincN_2 dX8_beat_47 (by decide) ?_
      refine pw_goto 12 dX8_beat_50 (by decide) ?_
      have eG : goP (lowB (bgB B)) (awB (bgB B)) (nS B) k C = C := cif_n h5
      rw [eG] at ih2
      refine pw_fg (ls' := [some (.ref m), some (.int (nI C.2)), some (.int (nI ((k + 1)))), none]) ⟨Or.inr rfl, Or.inr rfl, Or.inr rfl, Or.inl rfl, trivial⟩ (ih2 _ hz1)
set_option maxRecDepth 100000 in
set_option maxHeartbeats 4000000 in
theorem m_beats {X : Cx} {σ : Sp} {μ : Mm} {Q : Int32 → Sp → Mm → Prop} {m : Nat} {z : Nat → Int32} {B : Bs} {c : Nat} (h : ShM σ m) (hz : ZR z B) (wf : WF B) (hc : c < 2 ^ 31) (q : ∀ ν z', FM μ m ν → ZR z' (btI c B).1 → Q (nI (btI c B).2) σ (wC ν (m + 1) z')) : CTi X mX8_beats [.ref m, .int (nI c)] σ ((wC μ (m + 1) z)) Q := by
  refine CT.of (by decide +kernel) (Nat.le_of_ble_eq_true rfl) ?_
  show PW X mX8_beats 0 0 0 [some (.ref m), some (.int (nI c)), none, none] [] σ ((wC μ (m + 1) z)) (LI Q)
  have hn := wf.hn
  have h8 := wf.n8
  refine pw_iconst (v := nI 0) dX8_beats_0 (by decide) ?_
  refine pw_istore_2 dX8_beats_1 (by decide) ?_
  refine pw_iconst (v := nI 0) dX8_beats_2 (by decide) ?_
  refine pw_istore_3 dX8_beats_3 (by decide) ?_
  refine pw_up (P := fun k => ∀ ν z, FM μ m ν → ZR z (btI k B).1 → PW X mX8_beats 0 0 4 [some (.ref m), some (.int (nI c)), some (.int (nI ((btI k B).2))), some (.int (nI k))] [] σ (wC ν (m + 1) z) (LI Q)) c ?_ ?_ 0 (by omega) μ z (fun _ _ => rfl) hz
  · intro ν z1 hf1 hz1
    refine pw_iload_3 dX8_beats_4 ?_
    refine pw_iload_1 dX8_beats_5 ?_
    refine pw_icmp_ge 22 dX8_beats_6 (by decide) (fun _ => ?_) (fun hh => absurd (by rw [nI_leI (by omega) (by omega)]; omega) hh)
    refine pw_iload_2 dX8_beats_22 ?_
    refine pw_ireturn dX8_beats_23 rfl ?_
    exact q _ _ hf1 hz1
  · intro k hk ih ν z1 hf1 hz1
    have ih2 : ∀ ν z, FM μ m ν → ZR z (btO (btI k B).1) → PW X mX8_beats 0 0 4 [some (.ref m), some (.int (nI c)), some (.int (nI ((btI k B).2 + btN (btI k B).1))), some (.int (nI ((k + 1))))] [] σ (wC ν (m + 1) z) (LI Q) := ih
    refine pw_iload_3 dX8_beats_4 ?_
    refine pw_iload_1 dX8_beats_5 ?_
    refine pw_icmp_ge 22 dX8_beats_6 (by decide) (fun hh => absurd hh (by rw [nI_leI (by omega) (by omega)]; omega)) (fun _ => ?_)
    refine pw_iload_2 dX8_beats_9 ?_
    refine pw_aload_0 dX8_beats_10 ?_
    refine pw_cV0i 8 dX8_beats_11 kX8_152 vX8_beat iX8_beat ⟨by decide, by decide⟩ ⟨rfl, rfl⟩ (by decide) rfl (Nat.le_of_ble_eq_true rfl) h.t (m_beat h hz1 (bI_wf wf k) (fun κ z2 hf2 hz2 => ?_))
    refine pw_iaddN dX8_beats_14 ?_
    refine pw_istore_2 dX8_beats_15 (by decide) ?_
    refine pw_iincN_3 dX8_beats_16 (by decide) ?_
    refine pw_goto 4 dX8_beats_19 (by decide) ?_
    exact ih2 κ z2 (hf1.tr hf2) hz2
theorem wc_y {f : Nat → Int32} {x : Int32} {k : Nat} (h : f (6 + 3 * k) = x) : cntP (fun r => f (6 + 3 * r) = x) (k + 1) = cntP (fun r => f (6 + 3 * r) = x) k + 1 := cntP_y (p := fun r => f (6 + 3 * r) = x) h
theorem wc_n {f : Nat → Int32} {x : Int32} {k : Nat} (h : ¬ f (6 + 3 * k) = x) : cntP (fun r => f (6 + 3 * r) = x) (k + 1) = cntP (fun r => f (6 + 3 * r) = x) k := cntP_n (p := fun r => f (6 + 3 * r) = x) h
set_option maxRecDepth 100000 in
set_option maxHeartbeats 4000000 in
theorem m_waiting {X : Cx} {σ : Sp} {μ : Mm} {Q : Int32 → Sp → Mm → Prop} {m : Nat} {z : Nat → Int32} {B : Bs} {x : Int32} (h : ShM σ m) (hz : ZR z B) (wf : WF B) (q : Q (nI (smN (fun s => wcB B s x) (nS B))) σ (wC μ (m + 1) z)) : CTi X mX8_waiting [.ref m, .int x] σ ((wC μ (m + 1) z)) Q := by
  refine CT.of (by decide +kernel) (Nat.le_of_ble_eq_true rfl) ?_
  show PW X mX8_waiting 0 0 0 [some (.ref m), some (.int x), none, none, none] [] σ ((wC μ (m + 1) z)) (LI Q)
  have hn := wf.hn
  have h8 := wf.n8
  refine pw_iconst (v := nI 0) dX8_waiting_0 (by decide) ?_
  refine pw_istore_2 dX8_waiting_1 (by decide) ?_
  refine pw_iconst (v := nI 0) dX8_waiting_2 (by decide) ?_
  refine pw_istore_3 dX8_waiting_3 (by decide) ?_
  refine pw_fg (ls' := [some (.ref m), some (.int x), some (.int (nI (smN (fun s => wcB B s x) 0))), some (.int (nI 0)), none]) ⟨Or.inr rfl, Or.inr rfl, Or.inr rfl, Or.inr rfl, Or.inl rfl, trivial⟩ ?_
  refine pw_up (P := fun k => PW X mX8_waiting 0 0 4 [some (.ref m), some (.int x), some (.int (nI (smN (fun s => wcB B s x) k))), some (.int (nI k)), none] [] σ (wC μ (m + 1) z) (LI Q)) (nS B) ?_ ?_ 0 (by omega)
  · skip
    refine pw_iload_3 dX8_waiting_4 ?_
    refine pw_aload_0 dX8_waiting_5 ?_
    refine pw_getr 8 0 dX8_waiting_6 fX8_7 rfl (by decide) rfl h.t h.r0 ?_
    refine pw_bipush (v := nI 6) dX8_waiting_9 (by decide) ?_
    refine pw_ialdN dX8_waiting_11 h.a1 (by omega) (by decide) ?_
    refine pw_top (show _ = nI (nS B) from by rw [wC_self, hz.g (by decide)]; exact hn) ?_
    refine pw_icmp_ge 66 dX8_waiting_12 (by decide) (fun _ => ?_) (fun hh => absurd (by rw [nI_leI (by omega) (by omega)]; omega) hh)
    refine pw_iload_2 dX8_waiting_66 ?_
    refine pw_ireturn dX8_waiting_67 rfl ?_
    exact q
  · intro k hk ih
    refine pw_iload_3 dX8_waiting_4 ?_
    refine pw_aload_0 dX8_waiting_5 ?_
    refine pw_getr 8 0 dX8_waiting_6 fX8_7 rfl (by decide) rfl h.t h.r0 ?_
    refine pw_bipush (v := nI 6) dX8_waiting_9 (by decide) ?_
    refine pw_ialdN dX8_waiting_11 h.a1 (by omega) (by decide) ?_
    refine pw_top (show _ = nI (nS B) from by rw [wC_self, hz.g (by decide)]; exact hn) ?_
    refine pw_icmp_ge 66 dX8_waiting_12 (by decide) (fun hh => absurd hh (by rw [nI_leI (by omega) (by omega)]; omega)) (fun _ => ?_)
    refine pw_iconst (v := nI 0) dX8_waiting_15 (by decide) ?_
    refine pw_istore_4 dX8_waiting_16 (by decide) ?_
    have hw9 := (wf.w (i := k) (by omega)).2
    refine pw_up (P := fun j => PW X mX8_waiting 0 0 18 [some (.ref m), some (.int x), some (.int (nI (smN (fun s => wcB B s x) k + cntP (fun r => bS B k (6 + 3 * r) = x) j))), some (.int (nI k)), some (.int (nI j))] [] σ (wC μ (m + 1) z) (LI Q)) (nwF (bS B k)) ?_ ?_ 0 (by omega)
    · skip
      refine pw_iload_4 dX8_waiting_18 ?_
      refine pw_aload_0 dX8_waiting_20 ?_
      refine pw_iload_3 dX8_waiting_21 ?_
      refine pw_iconst (v := nI 4) dX8_waiting_22 (by decide) ?_
      refine pw_cV2i 8 dX8_waiting_23 kX8_40 vX8_at iX8_at ⟨by decide, by decide⟩ ⟨rfl, rfl⟩ (by decide) rfl (Nat.le_of_ble_eq_true rfl) h.t (c_X8_at h hz (by omega) (by decide) ?_)
      refine pw_top (wf.w (by omega)).1 ?_
      refine pw_icmp_ge 60 dX8_waiting_26 (by decide) (fun _ => ?_) (fun hh => absurd (by rw [nI_leI (by omega) (by omega)]; omega) hh)
      refine pw_iincN_3 dX8_waiting_60 (by decide) ?_
      refine pw_goto 4 dX8_waiting_63 (by decide) ?_
      refine pw_fg (ls' := [some (.ref m), some (.int x), some (.int (nI (smN (fun s => wcB B s x) ((k + 1))))), some (.int (nI ((k + 1)))), none]) ⟨Or.inr rfl, Or.inr rfl, Or.inr rfl, Or.inr rfl, Or.inl rfl, trivial⟩ ih
    · intro j hj ih2
      refine pw_iload_4 dX8_waiting_18 ?_
      refine pw_aload_0 dX8_waiting_20 ?_
      refine pw_iload_3 dX8_waiting_21 ?_
      refine pw_iconst (v := nI 4) dX8_waiting_22 (by decide) ?_
      refine pw_cV2i 8 dX8_waiting_23 kX8_40 vX8_at iX8_at ⟨by decide, by decide⟩ ⟨rfl, rfl⟩ (by decide) rfl (Nat.le_of_ble_eq_true rfl) h.t (c_X8_at h hz (by omega) (by decide) ?_)
      refine pw_top (wf.w (by omega)).1 ?_
      refine pw_icmp_ge 60 dX8_waiting_26 (by decide) (fun hh => absurd hh (by rw [nI_leI (by omega) (by omega)]; omega)) (fun _ => ?_)
      refine pw_iload_2 dX8_waiting_29 ?_
      refine pw_aload_0 dX8_waiting_30 ?_
      refine pw_iload_3 dX8_waiting_31 ?_
      refine pw_iconst (v := nI 5) dX8_waiting_32 (by decide) ?_
      refine pw_iconst (v := nI 3) dX8_waiting_33 (by decide) ?_
      refine pw_iload_4 dX8_waiting_34 ?_
      refine pw_imulN dX8_waiting_36 ?_
      refine pw_iaddN dX8_waiting_37 ?_
      refine pw_iconst (v := nI 1) dX8_waiting_38 (by decide) ?_
      refine pw_iaddN dX8_waiting_39 ?_
      refine pw_cV2i 8 dX8_waiting_40 kX8_40 vX8_at iX8_at ⟨by decide, by decide⟩ ⟨rfl, rfl⟩ (by decide) rfl (Nat.le_of_ble_eq_true rfl) h.t (c_X8_at h hz (by omega) (by omega) ?_)
      refine pw_iload_1 dX8_waiting_43 ?_
      refine pw_icmp_ne 51 dX8_waiting_44 (by decide) (fun h1 => ?_) (fun h1 => ?_)
      · skip
        refine pw_iconst (v := nI 0) dX8_waiting_51 (by decide) ?_
        refine pw_iaddN dX8_waiting_52 ?_
        refine pw_istore_2 dX8_waiting_53 (by decide) ?_
        refine pw_iincN_4 dX8_waiting_54 (by decide) ?_
        refine pw_goto 18 dX8_waiting_57 (by decide) ?_
        rw [wc_n (f := bS B k) (by rw [show 6 + 3 * j = 5 + 3 * j + 1 by omega]; exact h1)] at ih2
        exact ih2
      · skip
        refine pw_iconst (v := nI 1) dX8_waiting_47 (by decide) ?_
        refine pw_goto 52 dX8_waiting_48 (by decide) ?_
        refine pw_iaddN dX8_waiting_52 ?_
        refine pw_istore_2 dX8_waiting_53 (by decide) ?_
        refine pw_iincN_4 dX8_waiting_54 (by decide) ?_
        refine pw_goto 18 dX8_waiting_57 (by decide) ?_
        rw [wc_y (f := bS B k) (by rw [show 6 + 3 * j = 5 + 3 * j + 1 by omega]; exact h1)] at ih2
        exact ih2
