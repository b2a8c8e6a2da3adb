/-! The law's beat: words begin -/
theorem bg_no {B : Bs} {i : Nat} (h : ¬ bgP B i) : bgS i B = B := cif_n h
theorem atB_bi {B : Bs} {i : Nat} {x : Int32} (h : atB B i x) : bi (bS B i 0) x = nI 1 := h
theorem or_0 (x : Int32) : x ||| nI 0 = x := Int32.or_zero
set_option maxRecDepth 100000 in
set_option maxHeartbeats 4000000 in
theorem bt_begin {X : Cx} {σ : Sp} {μ : Mm} {Q : Int32 → Sp → Mm → Prop} {κ : Prop} {μ0 : Mm} {p n : Nat} {B : Bs} (hs : ShL σ p) (hl : LU κ μ0 p B μ) (gd : GDn n B) (K : ∀ ν, LU κ μ0 p (bgB B) ν → PW X mL_beat 0 0 151 [some (.ref p), some (.ref (p + 1)), some (.ref (p + 2)), some (.ref (p + 3)), some (.ref (p + 4)), some (.ref (p + 5)), some (.int (nI 0)), none, some (.int (nI 0)), none, none, none, none, none, none] [] σ ν (LI Q)) : PW X mL_beat 0 0 12 [some (.ref p), some (.ref (p + 1)), some (.ref (p + 2)), some (.ref (p + 3)), some (.ref (p + 4)), some (.ref (p + 5)), some (.int (nI 0)), some (.int (nI 0)), some (.int (nI 0)), some (.int (nI 0)), none, none, none, none, none] [] σ μ (LI Q) := by
  have h8 := gd.n8
  refine pw_fg (ls' := [some (.ref p), some (.ref (p + 1)), some (.ref (p + 2)), some (.ref (p + 3)), some (.ref (p + 4)), some (.ref (p + 5)), some (.int (nI 0)), none, some (.int (nI 0)), some (.int (nI 0)), none, none, none, none, none]) ⟨Or.inr rfl, Or.inr rfl, Or.inr rfl, Or.inr rfl, Or.inr rfl, Or.inr rfl, Or.inr rfl, Or.inl rfl, Or.inr rfl, Or.inr rfl, Or.inl rfl, Or.inl rfl, Or.inl rfl, Or.inl rfl, Or.inl rfl, trivial⟩ ?_
  refine pw_up (P := fun k => ∀ ν, LU κ μ0 p (itr bgS k B) ν → PW X mL_beat 0 0 12 [some (.ref p), some (.ref (p + 1)), some (.ref (p + 2)), some (.ref (p + 3)), some (.ref (p + 4)), some (.ref (p + 5)), some (.int (nI 0)), none, some (.int (nI 0)), some (.int (nI k)), none, none, none, none, none] [] σ ν (LI Q)) n ?_ ?_ 0 (Nat.zero_le _) _ hl
  · intro ν hl1
    have gd1 := gd.bgk (Nat.le_refl n)
    have e9 : itr bgS n B = bgB B := by unfold bgB; rw [gd.hn]
    refine pw_iload_9 dL_beat_12 ?_
    refine pw_aload_5 dL_beat_14 ?_
    refine pw_bipush (v := nI 6) dL_beat_16 (by decide) ?_
    refine pw_ialdN dL_beat_18 hs.t (by omega) (by decide) ?_
    refine pw_top ((hl1.t (by omega)).trans gd1.g6) ?_
    refine pw_icmp_ge 151 dL_beat_19 (by decide) (fun _ => ?_) (fun hh => absurd (by rw [nI_leI (by omega) (by omega)]; omega) hh)
    refine pw_fg (ls' := [some (.ref p), some (.ref (p + 1)), some (.ref (p + 2)), some (.ref (p + 3)), some (.ref (p + 4)), some (.ref (p + 5)), some (.int (nI 0)), none, some (.int (nI 0)), none, none, none, none, none, none]) ⟨Or.inr rfl, Or.inr rfl, Or.inr rfl, Or.inr rfl, Or.inr rfl, Or.inr rfl, Or.inr rfl, Or.inl rfl, Or.inr rfl, Or.inl rfl, Or.inl rfl, Or.inl rfl, Or.inl rfl, Or.inl rfl, Or.inl rfl, trivial⟩ ?_
    rw [e9] at hl1
    exact K _ hl1
  · intro k hk ih ν hl1
    have gd1 := gd.bgk (k := k) (by omega)
    have gd2 := gd.bgk (k := k + 1) (by omega)
    have ih2 : ∀ ν, LU κ μ0 p (bgS k (itr bgS k B)) ν → PW X mL_beat 0 0 12 [some (.ref p), some (.ref (p + 1)), some (.ref (p + 2)), some (.ref (p + 3)), some (.ref (p + 4)), some (.ref (p + 5)), some (.int (nI 0)), none, some (.int (nI 0)), some (.int (nI (k + 1))), none, none, none, none, none] [] σ ν (LI Q) := ih
    clear ih gd2
    generalize itr bgS k B = C at hl1 gd1 ih2
    refine pw_iload_9 dL_beat_12 ?_
    refine pw_aload_5 dL_beat_14 ?_
    refine pw_bipush (v := nI 6) dL_beat_16 (by decide) ?_
    refine pw_ialdN dL_beat_18 hs.t (by omega) (by decide) ?_
    refine pw_top ((hl1.t (by omega)).trans gd1.g6) ?_
    refine pw_icmp_ge 151 dL_beat_19 (by decide) (fun hh => absurd hh (by rw [nI_leI (by omega) (by omega)]; omega)) (fun _ => ?_)
    refine pw_aload_0 dL_beat_22 ?_
    refine pw_iload_9 dL_beat_23 ?_
    refine pw_cS2i dL_beat_25 kL_20 vL_up sL_up ⟨by decide, by decide⟩ ⟨rfl, rfl⟩ (Nat.le_of_ble_eq_true rfl) (k_up hs hl1 gd1.wf (by rw [gd1.hn]; omega) (fun a1 => ?_) (fun a1 => ?_))
    · skip
      refine pw_if_eq 145 dL_beat_28 (by decide) (fun hh => absurd hh (by decide)) (fun _ => ?_)
      refine pw_aload_0 dL_beat_31 ?_
      refine pw_bipush (v := nI 40) dL_beat_32 (by decide) ?_
      refine pw_iload_9 dL_beat_34 ?_
      refine pw_iaddN dL_beat_36 ?_
      refine pw_ialdN dL_beat_37 hs.a (by omega) (by decide) ?_
      refine pw_top (hl1.a5 (i := k) (by omega) (by omega)) ?_
      rcases Classical.em (spB C k) with sp2 | sp2
      · skip
        obtain ⟨sp20, kk3, kk310, kk3e, kk3v⟩ := gd1.sp (by omega) sp2
        refine pw_top kk3v ?_
        refine pw_if_ge 145 dL_beat_38 (by decide) (fun _ => ?_) (fun hh => absurd (nI_pos' (by omega)) hh)
        refine pw_iincN_9 dL_beat_145 (by decide) ?_
        refine pw_goto 12 dL_beat_148 (by decide) ?_
        refine pw_fg (ls' := [some (.ref p), some (.ref (p + 1)), some (.ref (p + 2)), some (.ref (p + 3)), some (.ref (p + 4)), some (.ref (p + 5)), some (.int (nI 0)), none, some (.int (nI 0)), some (.int (nI (k + 1))), none, none, none, none, none]) ⟨Or.inr rfl, Or.inr rfl, Or.inr rfl, Or.inr rfl, Or.inr rfl, Or.inr rfl, Or.inr rfl, Or.inl rfl, Or.inr rfl, Or.inr rfl, Or.inl rfl, Or.inl rfl, Or.inl rfl, Or.inl rfl, Or.inl rfl, trivial⟩ ?_
        refine ih2 _ ?_
        rw [bg_no (fun hb => hb.2.1 sp2)]
        exact hl1
      · skip
        refine pw_top (spV_no sp2) ?_
        refine pw_if_ge 145 dL_beat_38 (by decide) (fun hh => absurd hh m1_neg) (fun _ => ?_)
        refine pw_aload_0 dL_beat_41 ?_
        refine pw_bipush (v := nI 32) dL_beat_42 (by decide) ?_
        refine pw_iload_9 dL_beat_44 ?_
        refine pw_iaddN dL_beat_46 ?_
        refine pw_ialdN dL_beat_47 hs.a (by omega) (by decide) ?_
        refine pw_top ((hl1.a4 (i := k) (by omega) (by omega)).trans ((gd1.s (i := k) (by omega)).w).1) ?_
        refine pw_if_le 145 dL_beat_48 (by decide) (fun nw4 => ?_) (fun nw4 => ?_)
        · skip
          have nw4z := nz_le (by have := (gd1.s (i := k) (by omega)).w.2; omega) nw4
          refine pw_iincN_9 dL_beat_145 (by decide) ?_
          refine pw_goto 12 dL_beat_148 (by decide) ?_
          refine pw_fg (ls' := [some (.ref p), some (.ref (p + 1)), some (.ref (p + 2)), some (.ref (p + 3)), some (.ref (p + 4)), some (.ref (p + 5)), some (.int (nI 0)), none, some (.int (nI 0)), some (.int (nI (k + 1))), none, none, none, none, none]) ⟨Or.inr rfl, Or.inr rfl, Or.inr rfl, Or.inr rfl, Or.inr rfl, Or.inr rfl, Or.inr rfl, Or.inl rfl, Or.inr rfl, Or.inr rfl, Or.inl rfl, Or.inl rfl, Or.inl rfl, Or.inl rfl, Or.inl rfl, trivial⟩ ?_
          refine ih2 _ ?_
          rw [bg_no (fun hb => absurd hb.2.2.1 (by omega))]
          exact hl1
        · skip
          have nw4p := nz_nle nw4
          obtain ⟨v5, x6, y7, v5b, x6b, y7b, v5e, x6e, y7e⟩ := gd1.wd (i := k) (by omega) nw4p
          refine pw_aload_4 dL_beat_51 ?_
          refine pw_aload_2 dL_beat_53 ?_
          refine pw_iload_9 dL_beat_54 ?_
          refine pw_cS2i dL_beat_56 kL_10 vL_wireOf sL_wireOf ⟨by decide, by decide⟩ ⟨rfl, rfl⟩ (Nat.le_of_ble_eq_true rfl) (c_wireOf (x := x6) hs.q (by omega) (hl1.word (by omega) nw4p v5e x6e y7e) (by omega) (by omega) ?_)
          refine pw_ialdN dL_beat_59 hs.w (by omega) (by decide) ?_
          refine pw_top (hl1.rw x6 0 (by omega) (by omega) (by omega)) ?_
          refine pw_aload_5 dL_beat_60 ?_
          refine pw_iconst (v := nI 0) dL_beat_62 (by decide) ?_
          refine pw_ialdN dL_beat_63 hs.t (by omega) (by decide) ?_
          refine pw_top (hl1.t (k := 0) (by omega)) ?_
          refine pw_icmp_lt 145 dL_beat_64 (by decide) (fun h8 => ?_) (fun h8 => ?_)
          · skip
            refine pw_iincN_9 dL_beat_145 (by decide) ?_
            refine pw_goto 12 dL_beat_148 (by decide) ?_
            refine pw_fg (ls' := [some (.ref p), some (.ref (p + 1)), some (.ref (p + 2)), some (.ref (p + 3)), some (.ref (p + 4)), some (.ref (p + 5)), some (.int (nI 0)), none, some (.int (nI 0)), some (.int (nI (k + 1))), none, none, none, none, none]) ⟨Or.inr rfl, Or.inr rfl, Or.inr rfl, Or.inr rfl, Or.inr rfl, Or.inr rfl, Or.inr rfl, Or.inl rfl, Or.inr rfl, Or.inr rfl, Or.inl rfl, Or.inl rfl, Or.inl rfl, Or.inl rfl, Or.inl rfl, trivial⟩ ?_
            refine ih2 _ ?_
            rw [bg_no (fun hb => Int32.not_le.mpr h8 (show bG C 0 ≤ bW C x6 0 by have h95 := hb.2.2.2; unfold fwB at h95; rw [x6e, nI_clamp (by omega)] at h95; exact h95))]
            exact hl1
          · skip
            refine pw_aload_0 dL_beat_67 ?_
            refine pw_bipush (v := nI 40) dL_beat_68 (by decide) ?_
            refine pw_iload_9 dL_beat_70 ?_
            refine pw_iaddN dL_beat_72 ?_
            refine pw_iconst (v := nI 0) dL_beat_73 (by decide) ?_
            refine pw_iastN dL_beat_74 hs.a (by omega) (by decide) ?_
            refine pw_gen (P := LU κ μ0 p (setS C k (upd (bS C k) 17 (nI 0)))) ((hl1.self k).wA 5 17 (by omega) (by omega) (by omega) rfl (by omega) (aV_5.trans (spV_n (lx_m6 (by omega))))) (fun μ1 hl1 => ?_)
            refine pw_iconst (v := nI 0) dL_beat_75 (by decide) ?_
            refine pw_istore_7 dL_beat_76 (by decide) ?_
            refine pw_iconst (v := nI 0) dL_beat_78 (by decide) ?_
            refine pw_istore_10 dL_beat_79 (by decide) ?_
            obtain ⟨C1, eC1⟩ : ∃ C1, C1 = setS C k (upd (bS C k) 17 (nI 0)) := ⟨_, rfl⟩
            rw [← eC1] at hl1
            have gd2 : GDn n C1 := by
              rw [eC1]
              refine gd1.pS hk ((gd1.s hk).spk (k := 0) (by omega) nw4p) (by rw [upd_n _ _ (by omega)]; exact gd1.c hk) ((gd1.l hk).free (by omega))
            have hC : ∀ s q, q ≠ 17 → bS C1 s q = bS C s q := fun s q hq => by
              rw [eC1]
              by_cases e : s = k
              · rw [e, bS_setS_s, upd_n _ _ hq]
              · rw [bS_setS_n _ _ e]
            have hW1 : ∀ s, awB C1 s ↔ awB C s := fun s => by unfold awB; rw [hC s 2 (by omega), hC s 3 (by omega)]
            have hn1 : 0 < nwF (bS C1 k) := by unfold nwF; rw [hC k 4 (by omega)]; exact nw4p
            have d5 : bS C1 k 5 = nI v5 := (hC k 5 (by omega)).trans v5e
            have d6 : bS C1 k 6 = nI x6 := (hC k 6 (by omega)).trans x6e
            have d7 : bS C1 k 7 = nI y7 := (hC k 7 (by omega)).trans y7e
            have e7 : msk (fun s => awB C s ∧ atB C s (nI x6)) 0 = nI 0 := msk_0 (fun _ h95 => absurd h95 (Nat.not_lt_zero _))
            refine pw_fg (ls' := [some (.ref p), some (.ref (p + 1)), some (.ref (p + 2)), some (.ref (p + 3)), some (.ref (p + 4)), some (.ref (p + 5)), some (.int (nI 0)), some (.int (msk (fun s => awB C s ∧ atB C s (nI x6)) 0)), some (.int (nI 0)), some (.int (nI k)), some (.int (nI 0)), none, none, none, none]) (by rw [e7]; exact ⟨Or.inr rfl, Or.inr rfl, Or.inr rfl, Or.inr rfl, Or.inr rfl, Or.inr rfl, Or.inr rfl, Or.inr rfl, Or.inr rfl, Or.inr rfl, Or.inr rfl, Or.inl rfl, Or.inl rfl, Or.inl rfl, Or.inl rfl, trivial⟩) ?_
            refine pw_up (P := fun m => PW X mL_beat 0 0 81 [some (.ref p), some (.ref (p + 1)), some (.ref (p + 2)), some (.ref (p + 3)), some (.ref (p + 4)), some (.ref (p + 5)), some (.int (nI 0)), some (.int (msk (fun s => awB C s ∧ atB C s (nI x6)) m)), some (.int (nI 0)), some (.int (nI k)), some (.int (nI m)), none, none, none, none] [] σ μ1 (LI Q)) n ?_ ?_ 0 (Nat.zero_le _)
            · skip
              refine pw_iload_10 dL_beat_81 ?_
              refine pw_aload_5 dL_beat_83 ?_
              refine pw_bipush (v := nI 6) dL_beat_85 (by decide) ?_
              refine pw_ialdN dL_beat_87 hs.t (by omega) (by decide) ?_
              refine pw_top ((hl1.t (by omega)).trans gd2.g6) ?_
              refine pw_icmp_ge 136 dL_beat_88 (by decide) (fun _ => ?_) (fun hh => absurd (by rw [nI_leI (by omega) (by omega)]; omega) hh)
              refine pw_aload_0 dL_beat_136 ?_
              refine pw_bipush (v := nI 48) dL_beat_137 (by decide) ?_
              refine pw_iload_9 dL_beat_139 ?_
              refine pw_iaddN dL_beat_141 ?_
              refine pw_iload_7 dL_beat_142 ?_
              refine pw_iastN dL_beat_144 hs.a (by omega) (by decide) ?_
              refine pw_gen (P := LU κ μ0 p (setS C1 k (upd (bS C1 k) 18 (msk (fun s => awB C s ∧ atB C s (nI x6)) n)))) ((hl1.self k).wA 6 18 (by omega) (by omega) (by omega) rfl (by omega) (aV_s (d := 6) (by omega))) (fun μ2 hl2 => ?_)
              refine pw_iincN_9 dL_beat_145 (by decide) ?_
              refine pw_goto 12 dL_beat_148 (by decide) ?_
              refine pw_fg (ls' := [some (.ref p), some (.ref (p + 1)), some (.ref (p + 2)), some (.ref (p + 3)), some (.ref (p + 4)), some (.ref (p + 5)), some (.int (nI 0)), none, some (.int (nI 0)), some (.int (nI (k + 1))), none, none, none, none, none]) ⟨Or.inr rfl, Or.inr rfl, Or.inr rfl, Or.inr rfl, Or.inr rfl, Or.inr rfl, Or.inr rfl, Or.inl rfl, Or.inr rfl, Or.inr rfl, Or.inl rfl, Or.inl rfl, Or.inl rfl, Or.inl rfl, Or.inl rfl, trivial⟩ ?_
              refine ih2 _ ?_
              have eb : bgS k C = setS C1 k (upd (bS C1 k) 18 (msk (fun s => awB C s ∧ atB C s (nI x6)) n)) := by
                have hb : bgP C k := ⟨a1, sp2, nw4p, by unfold fwB; rw [x6e, nI_clamp (by omega)]; exact Int32.not_lt.mp h8⟩
                unfold bgS
                rw [cif_y hb, eC1, setS_setS, bS_setS_s, x6e]
                unfold awM
                rw [gd1.hn]
              rw [eb]
              exact hl2
            · intro m hm ihm
              refine pw_iload_10 dL_beat_81 ?_
              refine pw_aload_5 dL_beat_83 ?_
              refine pw_bipush (v := nI 6) dL_beat_85 (by decide) ?_
              refine pw_ialdN dL_beat_87 hs.t (by omega) (by decide) ?_
              refine pw_top ((hl1.t (by omega)).trans gd2.g6) ?_
              refine pw_icmp_ge 136 dL_beat_88 (by decide) (fun hh => absurd hh (by rw [nI_leI (by omega) (by omega)]; omega)) (fun _ => ?_)
              refine pw_iload_7 dL_beat_91 ?_
              refine pw_aload_0 dL_beat_93 ?_
              refine pw_iload_10 dL_beat_94 ?_
              refine pw_cS2i dL_beat_96 kL_20 vL_up sL_up ⟨by decide, by decide⟩ ⟨rfl, rfl⟩ (Nat.le_of_ble_eq_true rfl) (k_up hs hl1 gd2.wf (by rw [gd2.hn]; omega) (fun a9 => ?_) (fun a9 => ?_))
              · skip
                refine pw_if_eq 126 dL_beat_99 (by decide) (fun hh => absurd hh (by decide)) (fun _ => ?_)
                refine pw_aload_0 dL_beat_102 ?_
                refine pw_iload_10 dL_beat_103 ?_
                refine pw_ialdN dL_beat_105 hs.a (by omega) (by decide) ?_
                refine pw_top (hl1.a0 (i := m) (by omega) (by omega)) ?_
                refine pw_aload_2 dL_beat_106 ?_
                refine pw_iload_9 dL_beat_107 ?_
                refine pw_cS2i dL_beat_109 kL_10 vL_wireOf sL_wireOf ⟨by decide, by decide⟩ ⟨rfl, rfl⟩ (Nat.le_of_ble_eq_true rfl) (c_wireOf (x := x6) hs.q (by omega) (hl1.word (by omega) hn1 d5 d6 d7) (by omega) (by omega) ?_)
                refine pw_ishr dL_beat_112 ?_
                refine pw_iconst (v := nI 1) dL_beat_113 (by decide) ?_
                refine pw_iand dL_beat_114 ?_
                refine pw_iconst (v := nI 1) dL_beat_115 (by decide) ?_
                refine pw_icmp_ne 126 dL_beat_116 (by decide) (fun h10 => ?_) (fun h10 => ?_)
                · skip
                  refine pw_iconst (v := nI 0) dL_beat_126 (by decide) ?_
                  refine pw_ior dL_beat_127 ?_
                  refine pw_top (or_0 _) ?_
                  refine pw_istore_7 dL_beat_128 (by decide) ?_
                  refine pw_iincN_10 dL_beat_130 (by decide) ?_
                  refine pw_goto 81 dL_beat_133 (by decide) ?_
                  have e8 : msk (fun s => awB C s ∧ atB C s (nI x6)) (m + 1) = msk (fun s => awB C s ∧ atB C s (nI x6)) m := msk_n (fun h95 => h10 (by rw [hC m 0 (by omega)]; exact h95.2))
                  rw [e8] at ihm
                  exact ihm
                · skip
                  refine pw_iconst (v := nI 1) dL_beat_119 (by decide) ?_
                  refine pw_iload_10 dL_beat_120 ?_
                  refine pw_ishl dL_beat_122 ?_
                  refine pw_goto 127 dL_beat_123 (by decide) ?_
                  refine pw_ior dL_beat_127 ?_
                  refine pw_istore_7 dL_beat_128 (by decide) ?_
                  refine pw_iincN_10 dL_beat_130 (by decide) ?_
                  refine pw_goto 81 dL_beat_133 (by decide) ?_
                  have e8 : msk (fun s => awB C s ∧ atB C s (nI x6)) (m + 1) = msk (fun s => awB C s ∧ atB C s (nI x6)) m ||| (nI 1 <<< (nI m &&& 31)) := msk_y ⟨(hW1 m).mp a9, show bi (bS C m 0) (nI x6) = nI 1 from by rw [← hC m 0 (by omega)]; exact h10⟩
                  rw [e8] at ihm
                  exact ihm
              · skip
                refine pw_if_eq 126 dL_beat_99 (by decide) (fun _ => ?_) (fun hh => absurd (by decide) hh)
                refine pw_iconst (v := nI 0) dL_beat_126 (by decide) ?_
                refine pw_ior dL_beat_127 ?_
                refine pw_top (or_0 _) ?_
                refine pw_istore_7 dL_beat_128 (by decide) ?_
                refine pw_iincN_10 dL_beat_130 (by decide) ?_
                refine pw_goto 81 dL_beat_133 (by decide) ?_
                have e8 : msk (fun s => awB C s ∧ atB C s (nI x6)) (m + 1) = msk (fun s => awB C s ∧ atB C s (nI x6)) m := msk_n (fun h95 => a9 ((hW1 m).mpr h95.1))
                rw [e8] at ihm
                exact ihm
    · skip
      refine pw_if_eq 145 dL_beat_28 (by decide) (fun _ => ?_) (fun hh => absurd (by decide) hh)
      refine pw_iincN_9 dL_beat_145 (by decide) ?_
      refine pw_goto 12 dL_beat_148 (by decide) ?_
      refine pw_fg (ls' := [some (.ref p), some (.ref (p + 1)), some (.ref (p + 2)), some (.ref (p + 3)), some (.ref (p + 4)), some (.ref (p + 5)), some (.int (nI 0)), none, some (.int (nI 0)), some (.int (nI (k + 1))), none, none, none, none, none]) ⟨Or.inr rfl, Or.inr rfl, Or.inr rfl, Or.inr rfl, Or.inr rfl, Or.inr rfl, Or.inr rfl, Or.inl rfl, Or.inr rfl, Or.inr rfl, Or.inl rfl, Or.inl rfl, Or.inl rfl, Or.inl rfl, Or.inl rfl, trivial⟩ ?_
      refine ih2 _ ?_
      rw [bg_no (fun hb => a1 hb.1)]
      exact hl1
