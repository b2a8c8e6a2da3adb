/-! The law's wires and counts told anew -/
theorem smN_s (f : Nat → Nat) (n : Nat) : smN f (n + 1) = smN f n + f n := rfl
theorem smI_s (f : Nat → Int32) (n : Nat) : smI f (n + 1) = smI f n + f n := rfl
set_option maxRecDepth 100000 in
set_option maxHeartbeats 4000000 in
theorem te_in {X : Cx} {σ : Sp} {μ : Mm} {Q : Int32 → Sp → Mm → Prop} {κ : Prop} {μ0 : Mm} {o x p n s9 mv : Nat} {bv : Int32} {B : Bs} (hs : ShL σ p) (hl : LU κ μ0 p B μ) (gd : GDn n B) (hx : x < 6) (K : PW X mL_tells 0 0 155 [some (.ref o), some (.ref p), some (.ref (p + 1)), some (.ref (p + 2)), some (.ref (p + 3)), some (.ref (p + 4)), some (.ref (p + 5)), some (.ref s9), some (.int bv), some (.int (nI mv)), some (.int (nI x)), some (.int (msk (fun s => atB B s (nI x)) n)), some (.int (msk (fun s => spB B s ∧ fwB B s = x) n)), some (.int (nI (smN (fun s => wcB B s (nI x)) n))), none, none] [] σ μ (LI Q)) : PW X mL_tells 0 0 23 [some (.ref o), some (.ref p), some (.ref (p + 1)), some (.ref (p + 2)), some (.ref (p + 3)), some (.ref (p + 4)), some (.ref (p + 5)), some (.ref s9), some (.int bv), some (.int (nI mv)), some (.int (nI x)), none, none, none, none, none] [] σ μ (LI Q) := by
  have h8 := gd.n8
  refine pw_iconst (v := nI 0) dL_tells_23 (by decide) ?_
  refine pw_istore_11 dL_tells_24 (by decide) ?_
  refine pw_iconst (v := nI 0) dL_tells_26 (by decide) ?_
  refine pw_istore_12 dL_tells_27 (by decide) ?_
  refine pw_iconst (v := nI 0) dL_tells_29 (by decide) ?_
  refine pw_istore_13 dL_tells_30 (by decide) ?_
  refine pw_iconst (v := nI 0) dL_tells_32 (by decide) ?_
  refine pw_istore_14 dL_tells_33 (by decide) ?_
  have e1 : msk (fun s => atB B s (nI x)) 0 = nI 0 := msk_0 (fun _ h95 => absurd h95 (Nat.not_lt_zero _))
  have e2 : msk (fun s => spB B s ∧ fwB B s = x) 0 = nI 0 := msk_0 (fun _ h95 => absurd h95 (Nat.not_lt_zero _))
  refine pw_fg (ls' := [some (.ref o), some (.ref p), some (.ref (p + 1)), some (.ref (p + 2)), some (.ref (p + 3)), some (.ref (p + 4)), some (.ref (p + 5)), some (.ref s9), some (.int bv), some (.int (nI mv)), some (.int (nI x)), some (.int (msk (fun s => atB B s (nI x)) 0)), some (.int (msk (fun s => spB B s ∧ fwB B s = x) 0)), some (.int (nI (smN (fun s => wcB B s (nI x)) 0))), some (.int (nI 0)), none]) (by rw [e1, e2]; exact ⟨Or.inr rfl, Or.inr rfl, Or.inr rfl, Or.inr rfl, Or.inr rfl, Or.inr rfl, Or.inr rfl, Or.inr rfl, Or.inr rfl, Or.inr rfl, Or.inr rfl, Or.inr rfl, Or.inr rfl, Or.inr rfl, Or.inr rfl, Or.inl rfl, trivial⟩) ?_
  refine pw_up (P := fun i => PW X mL_tells 0 0 35 [some (.ref o), some (.ref p), some (.ref (p + 1)), some (.ref (p + 2)), some (.ref (p + 3)), some (.ref (p + 4)), some (.ref (p + 5)), some (.ref s9), some (.int bv), some (.int (nI mv)), some (.int (nI x)), some (.int (msk (fun s => atB B s (nI x)) i)), some (.int (msk (fun s => spB B s ∧ fwB B s = x) i)), some (.int (nI (smN (fun s => wcB B s (nI x)) i))), some (.int (nI i)), none] [] σ μ (LI Q)) n ?_ ?_ 0 (Nat.zero_le _)
  · skip
    refine pw_iload_14 dL_tells_35 ?_
    refine pw_aload_6 dL_tells_37 ?_
    refine pw_bipush (v := nI 6) dL_tells_39 (by decide) ?_
    refine pw_ialdN dL_tells_41 hs.t (by omega) (by decide) ?_
    refine pw_top ((hl.t (by omega)).trans gd.g6) ?_
    refine pw_icmp_ge 155 dL_tells_42 (by decide) (fun _ => ?_) (fun hh => absurd (by rw [nI_leI (by omega) (by omega)]; omega) hh)
    refine pw_fg (ls' := [some (.ref o), some (.ref p), some (.ref (p + 1)), some (.ref (p + 2)), some (.ref (p + 3)), some (.ref (p + 4)), some (.ref (p + 5)), some (.ref s9), some (.int bv), some (.int (nI mv)), some (.int (nI x)), some (.int (msk (fun s => atB B s (nI x)) n)), some (.int (msk (fun s => spB B s ∧ fwB B s = x) n)), some (.int (nI (smN (fun s => wcB B s (nI x)) n))), none, none]) ⟨Or.inr rfl, Or.inr rfl, Or.inr rfl, Or.inr rfl, Or.inr rfl, Or.inr rfl, Or.inr rfl, Or.inr rfl, Or.inr rfl, Or.inr rfl, Or.inr rfl, Or.inr rfl, Or.inr rfl, Or.inr rfl, Or.inl rfl, Or.inl rfl, trivial⟩ ?_
    exact K
  · intro i hi ih
    refine pw_iload_14 dL_tells_35 ?_
    refine pw_aload_6 dL_tells_37 ?_
    refine pw_bipush (v := nI 6) dL_tells_39 (by decide) ?_
    refine pw_ialdN dL_tells_41 hs.t (by omega) (by decide) ?_
    refine pw_top ((hl.t (by omega)).trans gd.g6) ?_
    refine pw_icmp_ge 155 dL_tells_42 (by decide) (fun hh => absurd hh (by rw [nI_leI (by omega) (by omega)]; omega)) (fun _ => ?_)
    rcases Classical.em (atB B i (nI x)) with at1 | at1
    · skip
      have ea : msk (fun s => atB B s (nI x)) (i + 1) = msk (fun s => atB B s (nI x)) i ||| (nI 1 <<< (nI i &&& 31)) := msk_y at1
      refine pw_iload_11 dL_tells_45 ?_
      refine pw_aload_1 dL_tells_47 ?_
      refine pw_iload_14 dL_tells_48 ?_
      refine pw_ialdN dL_tells_50 hs.a (by omega) (by decide) ?_
      refine pw_top (hl.a0 (i := i) (by omega) (by omega)) ?_
      refine pw_iload_10 dL_tells_51 ?_
      refine pw_ishr dL_tells_53 ?_
      refine pw_iconst (v := nI 1) dL_tells_54 (by decide) ?_
      refine pw_iand dL_tells_55 ?_
      refine pw_top (show _ = nI 1 from at1) ?_
      refine pw_iload_14 dL_tells_56 ?_
      refine pw_ishl dL_tells_58 ?_
      refine pw_ior dL_tells_59 ?_
      refine pw_top ea.symm ?_
      refine pw_istore_11 dL_tells_60 (by decide) ?_
      refine pw_iload_12 dL_tells_62 ?_
      refine pw_aload_1 dL_tells_64 ?_
      refine pw_bipush (v := nI 40) dL_tells_65 (by decide) ?_
      refine pw_iload_14 dL_tells_67 ?_
      refine pw_iaddN dL_tells_69 ?_
      refine pw_ialdN dL_tells_70 hs.a (by omega) (by decide) ?_
      refine pw_top (hl.a5 (i := i) (by omega) (by omega)) ?_
      rcases Classical.em (spB B i) with sp1 | sp1
      · skip
        obtain ⟨sp10, kk2, kk210, kk2e, kk2v⟩ := gd.sp (by omega) sp1
        refine pw_top kk2v ?_
        refine pw_if_lt 92 dL_tells_71 (by decide) (fun hh => absurd hh (nI_pos (by omega))) (fun _ => ?_)
        obtain ⟨v, y0, y, hv, hx6, hy, e5, e6, e7⟩ := gd.wd (i := i) hi sp10
        have hfw : fwB B i = y0 := by unfold fwB; rw [e6, nI_clamp (by omega)]
        refine pw_aload_3 dL_tells_74 ?_
        refine pw_iload_14 dL_tells_75 ?_
        refine pw_cS2i dL_tells_77 kL_10 vL_wireOf sL_wireOf ⟨by decide, by decide⟩ ⟨rfl, rfl⟩ (Nat.le_of_ble_eq_true rfl) (c_wireOf (x := y0) hs.q (by omega) (hl.word (by omega) sp10 e5 e6 e7) (by omega) (by omega) ?_)
        refine pw_iload_10 dL_tells_80 ?_
        refine pw_icmp_ne 92 dL_tells_82 (by decide) (fun h3 => ?_) (fun h3 => ?_)
        · skip
          refine pw_iconst (v := nI 0) dL_tells_92 (by decide) ?_
          refine pw_ior dL_tells_93 ?_
          have es : msk (fun s => spB B s ∧ fwB B s = x) (i + 1) = msk (fun s => spB B s ∧ fwB B s = x) i := msk_n (fun h95 => h3 (by rw [← h95.2, hfw]))
          refine pw_top (or_0 _) ?_
          refine pw_top es.symm ?_
          refine pw_istore_12 dL_tells_94 (by decide) ?_
          refine pw_iconst (v := nI 0) dL_tells_96 (by decide) ?_
          refine pw_istore_15 dL_tells_97 (by decide) ?_
          refine pw_fg (ls' := [some (.ref o), some (.ref p), some (.ref (p + 1)), some (.ref (p + 2)), some (.ref (p + 3)), some (.ref (p + 4)), some (.ref (p + 5)), some (.ref s9), some (.int bv), some (.int (nI mv)), some (.int (nI x)), some (.int (msk (fun s => atB B s (nI x)) (i + 1))), some (.int (msk (fun s => spB B s ∧ fwB B s = x) (i + 1))), some (.int (nI (smN (fun s => wcB B s (nI x)) i + cntP (fun r => bS B i (6 + 3 * r) = nI x) 0))), some (.int (nI i)), some (.int (nI 0))]) ⟨Or.inr rfl, Or.inr rfl, Or.inr rfl, Or.inr rfl, Or.inr rfl, Or.inr rfl, Or.inr rfl, Or.inr rfl, Or.inr rfl, Or.inr rfl, Or.inr rfl, Or.inr rfl, Or.inr rfl, Or.inr rfl, Or.inr rfl, Or.inr rfl, trivial⟩ ?_
          refine pw_up (P := fun r => PW X mL_tells 0 0 99 [some (.ref o), some (.ref p), some (.ref (p + 1)), some (.ref (p + 2)), some (.ref (p + 3)), some (.ref (p + 4)), some (.ref (p + 5)), some (.ref s9), some (.int bv), some (.int (nI mv)), some (.int (nI x)), some (.int (msk (fun s => atB B s (nI x)) (i + 1))), some (.int (msk (fun s => spB B s ∧ fwB B s = x) (i + 1))), some (.int (nI (smN (fun s => wcB B s (nI x)) i + cntP (fun r => bS B i (6 + 3 * r) = nI x) r))), some (.int (nI i)), some (.int (nI r))] [] σ μ (LI Q)) (nwF (bS B i)) ?_ ?_ 0 (Nat.zero_le _)
          · skip
            have hw4 := (gd.s hi).w.2
            refine pw_iload_15 dL_tells_99 ?_
            refine pw_aload_1 dL_tells_101 ?_
            refine pw_bipush (v := nI 32) dL_tells_102 (by decide) ?_
            refine pw_iload_14 dL_tells_104 ?_
            refine pw_iaddN dL_tells_106 ?_
            refine pw_ialdN dL_tells_107 hs.a (by omega) (by decide) ?_
            refine pw_top ((hl.a4 (i := i) (by omega) (by omega)).trans ((gd.s (i := i) (by omega)).w).1) ?_
            refine pw_icmp_ge 149 dL_tells_108 (by decide) (fun _ => ?_) (fun hh => absurd (by rw [nI_leI (by omega) (by omega)]; omega) hh)
            refine pw_iincN_14 dL_tells_149 (by decide) ?_
            refine pw_goto 35 dL_tells_152 (by decide) ?_
            refine pw_fg (ls' := [some (.ref o), some (.ref p), some (.ref (p + 1)), some (.ref (p + 2)), some (.ref (p + 3)), some (.ref (p + 4)), some (.ref (p + 5)), some (.ref s9), some (.int bv), some (.int (nI mv)), some (.int (nI x)), some (.int (msk (fun s => atB B s (nI x)) (i + 1))), some (.int (msk (fun s => spB B s ∧ fwB B s = x) (i + 1))), some (.int (nI (smN (fun s => wcB B s (nI x)) (i + 1)))), some (.int (nI (i + 1))), none]) ⟨Or.inr rfl, Or.inr rfl, Or.inr rfl, Or.inr rfl, Or.inr rfl, Or.inr rfl, Or.inr rfl, Or.inr rfl, Or.inr rfl, Or.inr rfl, Or.inr rfl, Or.inr rfl, Or.inr rfl, Or.inr rfl, Or.inr rfl, Or.inl rfl, trivial⟩ ?_
            exact ih
          · intro r hr ihr
            have hw4 := (gd.s hi).w.2
            obtain ⟨v9, x9, y9, hv9, hx9, hy9, f5, f6, f7⟩ := (gd.l hi).wd (r := r) (gd.s hi) (by omega) hr
            have eq9 : μ (p + 2) (8 * r + i) = nI (v9 + 256 * x9 + 2048 * y9) := by rw [hl.rq r rfl (by omega) (by omega) hr, qV_of f5 f6 f7]
            refine pw_iload_15 dL_tells_99 ?_
            refine pw_aload_1 dL_tells_101 ?_
            refine pw_bipush (v := nI 32) dL_tells_102 (by decide) ?_
            refine pw_iload_14 dL_tells_104 ?_
            refine pw_iaddN dL_tells_106 ?_
            refine pw_ialdN dL_tells_107 hs.a (by omega) (by decide) ?_
            refine pw_top ((hl.a4 (i := i) (by omega) (by omega)).trans ((gd.s (i := i) (by omega)).w).1) ?_
            refine pw_icmp_ge 149 dL_tells_108 (by decide) (fun hh => absurd hh (by rw [nI_leI (by omega) (by omega)]; omega)) (fun _ => ?_)
            refine pw_iload_13 dL_tells_111 ?_
            refine pw_aload_3 dL_tells_113 ?_
            refine pw_bipush (v := nI 8) dL_tells_114 (by decide) ?_
            refine pw_iload_15 dL_tells_116 ?_
            refine pw_imulN dL_tells_118 ?_
            refine pw_iload_14 dL_tells_119 ?_
            refine pw_iaddN dL_tells_121 ?_
            refine pw_ialdN dL_tells_122 hs.q (by omega) (by decide) ?_
            refine pw_top eq9 ?_
            refine pw_sipush (v := nI 256) dL_tells_123 (by decide) ?_
            refine pw_idiv dL_tells_126 (by decide) ?_
            refine pw_top (pk_div (d := 256) (by omega) (by decide) (by decide)) ?_
            refine pw_bipush (v := nI 8) dL_tells_127 (by decide) ?_
            refine pw_irem dL_tells_129 (by decide) ?_
            refine pw_top ((pk_rem (d := 8) (by omega) (by decide) (by decide)).trans (congrArg nI (show (v9 + 256 * x9 + 2048 * y9) / 256 % 8 = x9 by omega))) ?_
            refine pw_iload_10 dL_tells_130 ?_
            refine pw_icmp_ne 139 dL_tells_132 (by decide) (fun h4 => ?_) (fun h4 => ?_)
            · skip
              refine pw_iconst (v := nI 0) dL_tells_139 (by decide) ?_
              refine pw_iaddN dL_tells_140 ?_
              refine pw_istore_13 dL_tells_141 (by decide) ?_
              refine pw_iincN_15 dL_tells_143 (by decide) ?_
              refine pw_goto 99 dL_tells_146 (by decide) ?_
              have ec : cntP (fun r => bS B i (6 + 3 * r) = nI x) (r + 1) = cntP (fun r => bS B i (6 + 3 * r) = nI x) r := cntP_n (fun h95 => h4 (f6.symm.trans h95))
              rw [ec] at ihr
              exact ihr
            · skip
              refine pw_iconst (v := nI 1) dL_tells_135 (by decide) ?_
              refine pw_goto 140 dL_tells_136 (by decide) ?_
              refine pw_iaddN dL_tells_140 ?_
              refine pw_istore_13 dL_tells_141 (by decide) ?_
              refine pw_iincN_15 dL_tells_143 (by decide) ?_
              refine pw_goto 99 dL_tells_146 (by decide) ?_
              have ec : cntP (fun r => bS B i (6 + 3 * r) = nI x) (r + 1) = cntP (fun r => bS B i (6 + 3 * r) = nI x) r + 1 := cntP_y (f6.trans h4)
              rw [ec] at ihr
              exact ihr
        · skip
          refine pw_iconst (v := nI 1) dL_tells_85 (by decide) ?_
          refine pw_iload_14 dL_tells_86 ?_
          refine pw_ishl dL_tells_88 ?_
          refine pw_goto 93 dL_tells_89 (by decide) ?_
          refine pw_ior dL_tells_93 ?_
          have es : msk (fun s => spB B s ∧ fwB B s = x) (i + 1) = msk (fun s => spB B s ∧ fwB B s = x) i ||| (nI 1 <<< (nI i &&& 31)) := msk_y ⟨sp1, hfw.trans ((nI_eq (by omega) (by omega)).mp h3)⟩
          refine pw_top es.symm ?_
          refine pw_istore_12 dL_tells_94 (by decide) ?_
          refine pw_iconst (v := nI 0) dL_tells_96 (by decide) ?_
          refine pw_istore_15 dL_tells_97 (by decide) ?_
          refine pw_fg (ls' := [some (.ref o), some (.ref p), some (.ref (p + 1)), some (.ref (p + 2)), some (.ref (p + 3)), some (.ref (p + 4)), some (.ref (p + 5)), some (.ref s9), some (.int bv), some (.int (nI mv)), some (.int (nI x)), some (.int (msk (fun s => atB B s (nI x)) (i + 1))), some (.int (msk (fun s => spB B s ∧ fwB B s = x) (i + 1))), some (.int (nI (smN (fun s => wcB B s (nI x)) i + cntP (fun r => bS B i (6 + 3 * r) = nI x) 0))), some (.int (nI i)), some (.int (nI 0))]) ⟨Or.inr rfl, Or.inr rfl, Or.inr rfl, Or.inr rfl, Or.inr rfl, Or.inr rfl, Or.inr rfl, Or.inr rfl, Or.inr rfl, Or.inr rfl, Or.inr rfl, Or.inr rfl, Or.inr rfl, Or.inr rfl, Or.inr rfl, Or.inr rfl, trivial⟩ ?_
          refine pw_up (P := fun r => PW X mL_tells 0 0 99 [some (.ref o), some (.ref p), some (.ref (p + 1)), some (.ref (p + 2)), some (.ref (p + 3)), some (.ref (p + 4)), some (.ref (p + 5)), some (.ref s9), some (.int bv), some (.int (nI mv)), some (.int (nI x)), some (.int (msk (fun s => atB B s (nI x)) (i + 1))), some (.int (msk (fun s => spB B s ∧ fwB B s = x) (i + 1))), some (.int (nI (smN (fun s => wcB B s (nI x)) i + cntP (fun r => bS B i (6 + 3 * r) = nI x) r))), some (.int (nI i)), some (.int (nI r))] [] σ μ (LI Q)) (nwF (bS B i)) ?_ ?_ 0 (Nat.zero_le _)
          · skip
            have hw4 := (gd.s hi).w.2
            refine pw_iload_15 dL_tells_99 ?_
            refine pw_aload_1 dL_tells_101 ?_
            refine pw_bipush (v := nI 32) dL_tells_102 (by decide) ?_
            refine pw_iload_14 dL_tells_104 ?_
            refine pw_iaddN dL_tells_106 ?_
            refine pw_ialdN dL_tells_107 hs.a (by omega) (by decide) ?_
            refine pw_top ((hl.a4 (i := i) (by omega) (by omega)).trans ((gd.s (i := i) (by omega)).w).1) ?_
            refine pw_icmp_ge 149 dL_tells_108 (by decide) (fun _ => ?_) (fun hh => absurd (by rw [nI_leI (by omega) (by omega)]; omega) hh)
            refine pw_iincN_14 dL_tells_149 (by decide) ?_
            refine pw_goto 35 dL_tells_152 (by decide) ?_
            refine pw_fg (ls' := [some (.ref o), some (.ref p), some (.ref (p + 1)), some (.ref (p + 2)), some (.ref (p + 3)), some (.ref (p + 4)), some (.ref (p + 5)), some (.ref s9), some (.int bv), some (.int (nI mv)), some (.int (nI x)), some (.int (msk (fun s => atB B s (nI x)) (i + 1))), some (.int (msk (fun s => spB B s ∧ fwB B s = x) (i + 1))), some (.int (nI (smN (fun s => wcB B s (nI x)) (i + 1)))), some (.int (nI (i + 1))), none]) ⟨Or.inr rfl, Or.inr rfl, Or.inr rfl, Or.inr rfl, Or.inr rfl, Or.inr rfl, Or.inr rfl, Or.inr rfl, Or.inr rfl, Or.inr rfl, Or.inr rfl, Or.inr rfl, Or.inr rfl, Or.inr rfl, Or.inr rfl, Or.inl rfl, trivial⟩ ?_
            exact ih
          · intro r hr ihr
            have hw4 := (gd.s hi).w.2
            obtain ⟨v9, x9, y9, hv9, hx9, hy9, f5, f6, f7⟩ := (gd.l hi).wd (r := r) (gd.s hi) (by omega) hr
            have eq9 : μ (p + 2) (8 * r + i) = nI (v9 + 256 * x9 + 2048 * y9) := by rw [hl.rq r rfl (by omega) (by omega) hr, qV_of f5 f6 f7]
            refine pw_iload_15 dL_tells_99 ?_
            refine pw_aload_1 dL_tells_101 ?_
            refine pw_bipush (v := nI 32) dL_tells_102 (by decide) ?_
            refine pw_iload_14 dL_tells_104 ?_
            refine pw_iaddN dL_tells_106 ?_
            refine pw_ialdN dL_tells_107 hs.a (by omega) (by decide) ?_
            refine pw_top ((hl.a4 (i := i) (by omega) (by omega)).trans ((gd.s (i := i) (by omega)).w).1) ?_
            refine pw_icmp_ge 149 dL_tells_108 (by decide) (fun hh => absurd hh (by rw [nI_leI (by omega) (by omega)]; omega)) (fun _ => ?_)
            refine pw_iload_13 dL_tells_111 ?_
            refine pw_aload_3 dL_tells_113 ?_
            refine pw_bipush (v := nI 8) dL_tells_114 (by decide) ?_
            refine pw_iload_15 dL_tells_116 ?_
            refine pw_imulN dL_tells_118 ?_
            refine pw_iload_14 dL_tells_119 ?_
            refine pw_iaddN dL_tells_121 ?_
            refine pw_ialdN dL_tells_122 hs.q (by omega) (by decide) ?_
            refine pw_top eq9 ?_
            refine pw_sipush (v := nI 256) dL_tells_123 (by decide) ?_
            refine pw_idiv dL_tells_126 (by decide) ?_
            refine pw_top (pk_div (d := 256) (by omega) (by decide) (by decide)) ?_
            refine pw_bipush (v := nI 8) dL_tells_127 (by decide) ?_
            refine pw_irem dL_tells_129 (by decide) ?_
            refine pw_top ((pk_rem (d := 8) (by omega) (by decide) (by decide)).trans (congrArg nI (show (v9 + 256 * x9 + 2048 * y9) / 256 % 8 = x9 by omega))) ?_
            refine pw_iload_10 dL_tells_130 ?_
            refine pw_icmp_ne 139 dL_tells_132 (by decide) (fun h5 => ?_) (fun h5 => ?_)
            · skip
              refine pw_iconst (v := nI 0) dL_tells_139 (by decide) ?_
              refine pw_iaddN dL_tells_140 ?_
              refine pw_istore_13 dL_tells_141 (by decide) ?_
              refine pw_iincN_15 dL_tells_143 (by decide) ?_
              refine pw_goto 99 dL_tells_146 (by decide) ?_
              have ec : cntP (fun r => bS B i (6 + 3 * r) = nI x) (r + 1) = cntP (fun r => bS B i (6 + 3 * r) = nI x) r := cntP_n (fun h95 => h5 (f6.symm.trans h95))
              rw [ec] at ihr
              exact ihr
            · skip
              refine pw_iconst (v := nI 1) dL_tells_135 (by decide) ?_
              refine pw_goto 140 dL_tells_136 (by decide) ?_
              refine pw_iaddN dL_tells_140 ?_
              refine pw_istore_13 dL_tells_141 (by decide) ?_
              refine pw_iincN_15 dL_tells_143 (by decide) ?_
              refine pw_goto 99 dL_tells_146 (by decide) ?_
              have ec : cntP (fun r => bS B i (6 + 3 * r) = nI x) (r + 1) = cntP (fun r => bS B i (6 + 3 * r) = nI x) r + 1 := cntP_y (f6.trans h5)
              rw [ec] at ihr
              exact ihr
      · skip
        refine pw_top (spV_no sp1) ?_
        refine pw_if_lt 92 dL_tells_71 (by decide) (fun _ => ?_) (fun hh => absurd m1_lt hh)
        refine pw_iconst (v := nI 0) dL_tells_92 (by decide) ?_
        refine pw_ior dL_tells_93 ?_
        have es : msk (fun s => spB B s ∧ fwB B s = x) (i + 1) = msk (fun s => spB B s ∧ fwB B s = x) i := msk_n (fun h95 => sp1 h95.1)
        refine pw_top (or_0 _) ?_
        refine pw_top es.symm ?_
        refine pw_istore_12 dL_tells_94 (by decide) ?_
        refine pw_iconst (v := nI 0) dL_tells_96 (by decide) ?_
        refine pw_istore_15 dL_tells_97 (by decide) ?_
        refine pw_fg (ls' := [some (.ref o), some (.ref p), some (.ref (p + 1)), some (.ref (p + 2)), some (.ref (p + 3)), some (.ref (p + 4)), some (.ref (p + 5)), some (.ref s9), some (.int bv), some (.int (nI mv)), some (.int (nI x)), some (.int (msk (fun s => atB B s (nI x)) (i + 1))), some (.int (msk (fun s => spB B s ∧ fwB B s = x) (i + 1))), some (.int (nI (smN (fun s => wcB B s (nI x)) i + cntP (fun r => bS B i (6 + 3 * r) = nI x) 0))), some (.int (nI i)), some (.int (nI 0))]) ⟨Or.inr rfl, Or.inr rfl, Or.inr rfl, Or.inr rfl, Or.inr rfl, Or.inr rfl, Or.inr rfl, Or.inr rfl, Or.inr rfl, Or.inr rfl, Or.inr rfl, Or.inr rfl, Or.inr rfl, Or.inr rfl, Or.inr rfl, Or.inr rfl, trivial⟩ ?_
        refine pw_up (P := fun r => PW X mL_tells 0 0 99 [some (.ref o), some (.ref p), some (.ref (p + 1)), some (.ref (p + 2)), some (.ref (p + 3)), some (.ref (p + 4)), some (.ref (p + 5)), some (.ref s9), some (.int bv), some (.int (nI mv)), some (.int (nI x)), some (.int (msk (fun s => atB B s (nI x)) (i + 1))), some (.int (msk (fun s => spB B s ∧ fwB B s = x) (i + 1))), some (.int (nI (smN (fun s => wcB B s (nI x)) i + cntP (fun r => bS B i (6 + 3 * r) = nI x) r))), some (.int (nI i)), some (.int (nI r))] [] σ μ (LI Q)) (nwF (bS B i)) ?_ ?_ 0 (Nat.zero_le _)
        · skip
          have hw4 := (gd.s hi).w.2
          refine pw_iload_15 dL_tells_99 ?_
          refine pw_aload_1 dL_tells_101 ?_
          refine pw_bipush (v := nI 32) dL_tells_102 (by decide) ?_
          refine pw_iload_14 dL_tells_104 ?_
          refine pw_iaddN dL_tells_106 ?_
          refine pw_ialdN dL_tells_107 hs.a (by omega) (by decide) ?_
          refine pw_top ((hl.a4 (i := i) (by omega) (by omega)).trans ((gd.s (i := i) (by omega)).w).1) ?_
          refine pw_icmp_ge 149 dL_tells_108 (by decide) (fun _ => ?_) (fun hh => absurd (by rw [nI_leI (by omega) (by omega)]; omega) hh)
          refine pw_iincN_14 dL_tells_149 (by decide) ?_
          refine pw_goto 35 dL_tells_152 (by decide) ?_
          refine pw_fg (ls' := [some (.ref o), some (.ref p), some (.ref (p + 1)), some (.ref (p + 2)), some (.ref (p + 3)), some (.ref (p + 4)), some (.ref (p + 5)), some (.ref s9), some (.int bv), some (.int (nI mv)), some (.int (nI x)), some (.int (msk (fun s => atB B s (nI x)) (i + 1))), some (.int (msk (fun s => spB B s ∧ fwB B s = x) (i + 1))), some (.int (nI (smN (fun s => wcB B s (nI x)) (i + 1)))), some (.int (nI (i + 1))), none]) ⟨Or.inr rfl, Or.inr rfl, Or.inr rfl, Or.inr rfl, Or.inr rfl, Or.inr rfl, Or.inr rfl, Or.inr rfl, Or.inr rfl, Or.inr rfl, Or.inr rfl, Or.inr rfl, Or.inr rfl, Or.inr rfl, Or.inr rfl, Or.inl rfl, trivial⟩ ?_
          exact ih
        · intro r hr ihr
          have hw4 := (gd.s hi).w.2
          obtain ⟨v9, x9, y9, hv9, hx9, hy9, f5, f6, f7⟩ := (gd.l hi).wd (r := r) (gd.s hi) (by omega) hr
          have eq9 : μ (p + 2) (8 * r + i) = nI (v9 + 256 * x9 + 2048 * y9) := by rw [hl.rq r rfl (by omega) (by omega) hr, qV_of f5 f6 f7]
          refine pw_iload_15 dL_tells_99 ?_
          refine pw_aload_1 dL_tells_101 ?_
          refine pw_bipush (v := nI 32) dL_tells_102 (by decide) ?_
          refine pw_iload_14 dL_tells_104 ?_
          refine pw_iaddN dL_tells_106 ?_
          refine pw_ialdN dL_tells_107 hs.a (by omega) (by decide) ?_
          refine pw_top ((hl.a4 (i := i) (by omega) (by omega)).trans ((gd.s (i := i) (by omega)).w).1) ?_
          refine pw_icmp_ge 149 dL_tells_108 (by decide) (fun hh => absurd hh (by rw [nI_leI (by omega) (by omega)]; omega)) (fun _ => ?_)
          refine pw_iload_13 dL_tells_111 ?_
          refine pw_aload_3 dL_tells_113 ?_
          refine pw_bipush (v := nI 8) dL_tells_114 (by decide) ?_
          refine pw_iload_15 dL_tells_116 ?_
          refine pw_imulN dL_tells_118 ?_
          refine pw_iload_14 dL_tells_119 ?_
          refine pw_iaddN dL_tells_121 ?_
          refine pw_ialdN dL_tells_122 hs.q (by omega) (by decide) ?_
          refine pw_top eq9 ?_
          refine pw_sipush (v := nI 256) dL_tells_123 (by decide) ?_
          refine pw_idiv dL_tells_126 (by decide) ?_
          refine pw_top (pk_div (d := 256) (by omega) (by decide) (by decide)) ?_
          refine pw_bipush (v := nI 8) dL_tells_127 (by decide) ?_
          refine pw_irem dL_tells_129 (by decide) ?_
          refine pw_top ((pk_rem (d := 8) (by omega) (by decide) (by decide)).trans (congrArg nI (show (v9 + 256 * x9 + 2048 * y9) / 256 % 8 = x9 by omega))) ?_
          refine pw_iload_10 dL_tells_130 ?_
          refine pw_icmp_ne 139 dL_tells_132 (by decide) (fun h6 => ?_) (fun h6 => ?_)
          · skip
            refine pw_iconst (v := nI 0) dL_tells_139 (by decide) ?_
            refine pw_iaddN dL_tells_140 ?_
            refine pw_istore_13 dL_tells_141 (by decide) ?_
            refine pw_iincN_15 dL_tells_143 (by decide) ?_
            refine pw_goto 99 dL_tells_146 (by decide) ?_
            have ec : cntP (fun r => bS B i (6 + 3 * r) = nI x) (r + 1) = cntP (fun r => bS B i (6 + 3 * r) = nI x) r := cntP_n (fun h95 => h6 (f6.symm.trans h95))
            rw [ec] at ihr
            exact ihr
          · skip
            refine pw_iconst (v := nI 1) dL_tells_135 (by decide) ?_
            refine pw_goto 140 dL_tells_136 (by decide) ?_
            refine pw_iaddN dL_tells_140 ?_
            refine pw_istore_13 dL_tells_141 (by decide) ?_
            refine pw_iincN_15 dL_tells_143 (by decide) ?_
            refine pw_goto 99 dL_tells_146 (by decide) ?_
            have ec : cntP (fun r => bS B i (6 + 3 * r) = nI x) (r + 1) = cntP (fun r => bS B i (6 + 3 * r) = nI x) r + 1 := cntP_y (f6.trans h6)
            rw [ec] at ihr
            exact ihr
    · skip
      have ea : msk (fun s => atB B s (nI x)) (i + 1) = msk (fun s => atB B s (nI x)) i := msk_n at1
      refine pw_iload_11 dL_tells_45 ?_
      refine pw_aload_1 dL_tells_47 ?_
      refine pw_iload_14 dL_tells_48 ?_
      refine pw_ialdN dL_tells_50 hs.a (by omega) (by decide) ?_
      refine pw_top (hl.a0 (i := i) (by omega) (by omega)) ?_
      refine pw_iload_10 dL_tells_51 ?_
      refine pw_ishr dL_tells_53 ?_
      refine pw_iconst (v := nI 1) dL_tells_54 (by decide) ?_
      refine pw_iand dL_tells_55 ?_
      refine pw_top (show _ = nI 0 from bi_n1 at1) ?_
      refine pw_iload_14 dL_tells_56 ?_
      refine pw_ishl dL_tells_58 ?_
      refine pw_ior dL_tells_59 ?_
      refine pw_top (show _ = msk (fun s => atB B s (nI x)) i from by rw [zsh i (by omega), or_0]) ?_
      refine pw_top ea.symm ?_
      refine pw_istore_11 dL_tells_60 (by decide) ?_
      refine pw_iload_12 dL_tells_62 ?_
      refine pw_aload_1 dL_tells_64 ?_
      refine pw_bipush (v := nI 40) dL_tells_65 (by decide) ?_
      refine pw_iload_14 dL_tells_67 ?_
      refine pw_iaddN dL_tells_69 ?_
      refine pw_ialdN dL_tells_70 hs.a (by omega) (by decide) ?_
      refine pw_top (hl.a5 (i := i) (by omega) (by omega)) ?_
      rcases Classical.em (spB B i) with sp7 | sp7
      · skip
        obtain ⟨sp70, kk8, kk810, kk8e, kk8v⟩ := gd.sp (by omega) sp7
        refine pw_top kk8v ?_
        refine pw_if_lt 92 dL_tells_71 (by decide) (fun hh => absurd hh (nI_pos (by omega))) (fun _ => ?_)
        obtain ⟨v, y0, y, hv, hx6, hy, e5, e6, e7⟩ := gd.wd (i := i) hi sp70
        have hfw : fwB B i = y0 := by unfold fwB; rw [e6, nI_clamp (by omega)]
        refine pw_aload_3 dL_tells_74 ?_
        refine pw_iload_14 dL_tells_75 ?_
        refine pw_cS2i dL_tells_77 kL_10 vL_wireOf sL_wireOf ⟨by decide, by decide⟩ ⟨rfl, rfl⟩ (Nat.le_of_ble_eq_true rfl) (c_wireOf (x := y0) hs.q (by omega) (hl.word (by omega) sp70 e5 e6 e7) (by omega) (by omega) ?_)
        refine pw_iload_10 dL_tells_80 ?_
        refine pw_icmp_ne 92 dL_tells_82 (by decide) (fun h9 => ?_) (fun h9 => ?_)
        · skip
          refine pw_iconst (v := nI 0) dL_tells_92 (by decide) ?_
          refine pw_ior dL_tells_93 ?_
          have es : msk (fun s => spB B s ∧ fwB B s = x) (i + 1) = msk (fun s => spB B s ∧ fwB B s = x) i := msk_n (fun h95 => h9 (by rw [← h95.2, hfw]))
          refine pw_top (or_0 _) ?_
          refine pw_top es.symm ?_
          refine pw_istore_12 dL_tells_94 (by decide) ?_
          refine pw_iconst (v := nI 0) dL_tells_96 (by decide) ?_
          refine pw_istore_15 dL_tells_97 (by decide) ?_
          refine pw_fg (ls' := [some (.ref o), some (.ref p), some (.ref (p + 1)), some (.ref (p + 2)), some (.ref (p + 3)), some (.ref (p + 4)), some (.ref (p + 5)), some (.ref s9), some (.int bv), some (.int (nI mv)), some (.int (nI x)), some (.int (msk (fun s => atB B s (nI x)) (i + 1))), some (.int (msk (fun s => spB B s ∧ fwB B s = x) (i + 1))), some (.int (nI (smN (fun s => wcB B s (nI x)) i + cntP (fun r => bS B i (6 + 3 * r) = nI x) 0))), some (.int (nI i)), some (.int (nI 0))]) ⟨Or.inr rfl, Or.inr rfl, Or.inr rfl, Or.inr rfl, Or.inr rfl, Or.inr rfl, Or.inr rfl, Or.inr rfl, Or.inr rfl, Or.inr rfl, Or.inr rfl, Or.inr rfl, Or.inr rfl, Or.inr rfl, Or.inr rfl, Or.inr rfl, trivial⟩ ?_
          refine pw_up (P := fun r => PW X mL_tells 0 0 99 [some (.ref o), some (.ref p), some (.ref (p + 1)), some (.ref (p + 2)), some (.ref (p + 3)), some (.ref (p + 4)), some (.ref (p + 5)), some (.ref s9), some (.int bv), some (.int (nI mv)), some (.int (nI x)), some (.int (msk (fun s => atB B s (nI x)) (i + 1))), some (.int (msk (fun s => spB B s ∧ fwB B s = x) (i + 1))), some (.int (nI (smN (fun s => wcB B s (nI x)) i + cntP (fun r => bS B i (6 + 3 * r) = nI x) r))), some (.int (nI i)), some (.int (nI r))] [] σ μ (LI Q)) (nwF (bS B i)) ?_ ?_ 0 (Nat.zero_le _)
          · skip
            have hw4 := (gd.s hi).w.2
            refine pw_iload_15 dL_tells_99 ?_
            refine pw_aload_1 dL_tells_101 ?_
            refine pw_bipush (v := nI 32) dL_tells_102 (by decide) ?_
            refine pw_iload_14 dL_tells_104 ?_
            refine pw_iaddN dL_tells_106 ?_
            refine pw_ialdN dL_tells_107 hs.a (by omega) (by decide) ?_
            refine pw_top ((hl.a4 (i := i) (by omega) (by omega)).trans ((gd.s (i := i) (by omega)).w).1) ?_
            refine pw_icmp_ge 149 dL_tells_108 (by decide) (fun _ => ?_) (fun hh => absurd (by rw [nI_leI (by omega) (by omega)]; omega) hh)
            refine pw_iincN_14 dL_tells_149 (by decide) ?_
            refine pw_goto 35 dL_tells_152 (by decide) ?_
            refine pw_fg (ls' := [some (.ref o), some (.ref p), some (.ref (p + 1)), some (.ref (p + 2)), some (.ref (p + 3)), some (.ref (p + 4)), some (.ref (p + 5)), some (.ref s9), some (.int bv), some (.int (nI mv)), some (.int (nI x)), some (.int (msk (fun s => atB B s (nI x)) (i + 1))), some (.int (msk (fun s => spB B s ∧ fwB B s = x) (i + 1))), some (.int (nI (smN (fun s => wcB B s (nI x)) (i + 1)))), some (.int (nI (i + 1))), none]) ⟨Or.inr rfl, Or.inr rfl, Or.inr rfl, Or.inr rfl, Or.inr rfl, Or.inr rfl, Or.inr rfl, Or.inr rfl, Or.inr rfl, Or.inr rfl, Or.inr rfl, Or.inr rfl, Or.inr rfl, Or.inr rfl, Or.inr rfl, Or.inl rfl, trivial⟩ ?_
            exact ih
          · intro r hr ihr
            have hw4 := (gd.s hi).w.2
            obtain ⟨v9, x9, y9, hv9, hx9, hy9, f5, f6, f7⟩ := (gd.l hi).wd (r := r) (gd.s hi) (by omega) hr
            have eq9 : μ (p + 2) (8 * r + i) = nI (v9 + 256 * x9 + 2048 * y9) := by rw [hl.rq r rfl (by omega) (by omega) hr, qV_of f5 f6 f7]
            refine pw_iload_15 dL_tells_99 ?_
            refine pw_aload_1 dL_tells_101 ?_
            refine pw_bipush (v := nI 32) dL_tells_102 (by decide) ?_
            refine pw_iload_14 dL_tells_104 ?_
            refine pw_iaddN dL_tells_106 ?_
            refine pw_ialdN dL_tells_107 hs.a (by omega) (by decide) ?_
            refine pw_top ((hl.a4 (i := i) (by omega) (by omega)).trans ((gd.s (i := i) (by omega)).w).1) ?_
            refine pw_icmp_ge 149 dL_tells_108 (by decide) (fun hh => absurd hh (by rw [nI_leI (by omega) (by omega)]; omega)) (fun _ => ?_)
            refine pw_iload_13 dL_tells_111 ?_
            refine pw_aload_3 dL_tells_113 ?_
            refine pw_bipush (v := nI 8) dL_tells_114 (by decide) ?_
            refine pw_iload_15 dL_tells_116 ?_
            refine pw_imulN dL_tells_118 ?_
            refine pw_iload_14 dL_tells_119 ?_
            refine pw_iaddN dL_tells_121 ?_
            refine pw_ialdN dL_tells_122 hs.q (by omega) (by decide) ?_
            refine pw_top eq9 ?_
            refine pw_sipush (v := nI 256) dL_tells_123 (by decide) ?_
            refine pw_idiv dL_tells_126 (by decide) ?_
            refine pw_top (pk_div (d := 256) (by omega) (by decide) (by decide)) ?_
            refine pw_bipush (v := nI 8) dL_tells_127 (by decide) ?_
            refine pw_irem dL_tells_129 (by decide) ?_
            refine pw_top ((pk_rem (d := 8) (by omega) (by decide) (by decide)).trans (congrArg nI (show (v9 + 256 * x9 + 2048 * y9) / 256 % 8 = x9 by omega))) ?_
            refine pw_iload_10 dL_tells_130 ?_
            refine pw_icmp_ne 139 dL_tells_132 (by decide) (fun h10 => ?_) (fun h10 => ?_)
            · skip
              refine pw_iconst (v := nI 0) dL_tells_139 (by decide) ?_
              refine pw_iaddN dL_tells_140 ?_
              refine pw_istore_13 dL_tells_141 (by decide) ?_
              refine pw_iincN_15 dL_tells_143 (by decide) ?_
              refine pw_goto 99 dL_tells_146 (by decide) ?_
              have ec : cntP (fun r => bS B i (6 + 3 * r) = nI x) (r + 1) = cntP (fun r => bS B i (6 + 3 * r) = nI x) r := cntP_n (fun h95 => h10 (f6.symm.trans h95))
              rw [ec] at ihr
              exact ihr
            · skip
              refine pw_iconst (v := nI 1) dL_tells_135 (by decide) ?_
              refine pw_goto 140 dL_tells_136 (by decide) ?_
              refine pw_iaddN dL_tells_140 ?_
              refine pw_istore_13 dL_tells_141 (by decide) ?_
              refine pw_iincN_15 dL_tells_143 (by decide) ?_
              refine pw_goto 99 dL_tells_146 (by decide) ?_
              have ec : cntP (fun r => bS B i (6 + 3 * r) = nI x) (r + 1) = cntP (fun r => bS B i (6 + 3 * r) = nI x) r + 1 := cntP_y (f6.trans h10)
              rw [ec] at ihr
              exact ihr
        · skip
          refine pw_iconst (v := nI 1) dL_tells_85 (by decide) ?_
          refine pw_iload_14 dL_tells_86 ?_
          refine pw_ishl dL_tells_88 ?_
          refine pw_goto 93 dL_tells_89 (by decide) ?_
          refine pw_ior dL_tells_93 ?_
          have es : msk (fun s => spB B s ∧ fwB B s = x) (i + 1) = msk (fun s => spB B s ∧ fwB B s = x) i ||| (nI 1 <<< (nI i &&& 31)) := msk_y ⟨sp7, hfw.trans ((nI_eq (by omega) (by omega)).mp h9)⟩
          refine pw_top es.symm ?_
          refine pw_istore_12 dL_tells_94 (by decide) ?_
          refine pw_iconst (v := nI 0) dL_tells_96 (by decide) ?_
          refine pw_istore_15 dL_tells_97 (by decide) ?_
          refine pw_fg (ls' := [some (.ref o), some (.ref p), some (.ref (p + 1)), some (.ref (p + 2)), some (.ref (p + 3)), some (.ref (p + 4)), some (.ref (p + 5)), some (.ref s9), some (.int bv), some (.int (nI mv)), some (.int (nI x)), some (.int (msk (fun s => atB B s (nI x)) (i + 1))), some (.int (msk (fun s => spB B s ∧ fwB B s = x) (i + 1))), some (.int (nI (smN (fun s => wcB B s (nI x)) i + cntP (fun r => bS B i (6 + 3 * r) = nI x) 0))), some (.int (nI i)), some (.int (nI 0))]) ⟨Or.inr rfl, Or.inr rfl, Or.inr rfl, Or.inr rfl, Or.inr rfl, Or.inr rfl, Or.inr rfl, Or.inr rfl, Or.inr rfl, Or.inr rfl, Or.inr rfl, Or.inr rfl, Or.inr rfl, Or.inr rfl, Or.inr rfl, Or.inr rfl, trivial⟩ ?_
          refine pw_up (P := fun r => PW X mL_tells 0 0 99 [some (.ref o), some (.ref p), some (.ref (p + 1)), some (.ref (p + 2)), some (.ref (p + 3)), some (.ref (p + 4)), some (.ref (p + 5)), some (.ref s9), some (.int bv), some (.int (nI mv)), some (.int (nI x)), some (.int (msk (fun s => atB B s (nI x)) (i + 1))), some (.int (msk (fun s => spB B s ∧ fwB B s = x) (i + 1))), some (.int (nI (smN (fun s => wcB B s (nI x)) i + cntP (fun r => bS B i (6 + 3 * r) = nI x) r))), some (.int (nI i)), some (.int (nI r))] [] σ μ (LI Q)) (nwF (bS B i)) ?_ ?_ 0 (Nat.zero_le _)
          · skip
            have hw4 := (gd.s hi).w.2
            refine pw_iload_15 dL_tells_99 ?_
            refine pw_aload_1 dL_tells_101 ?_
            refine pw_bipush (v := nI 32) dL_tells_102 (by decide) ?_
            refine pw_iload_14 dL_tells_104 ?_
            refine pw_iaddN dL_tells_106 ?_
            refine pw_ialdN dL_tells_107 hs.a (by omega) (by decide) ?_
            refine pw_top ((hl.a4 (i := i) (by omega) (by omega)).trans ((gd.s (i := i) (by omega)).w).1) ?_
            refine pw_icmp_ge 149 dL_tells_108 (by decide) (fun _ => ?_) (fun hh => absurd (by rw [nI_leI (by omega) (by omega)]; omega) hh)
            refine pw_iincN_14 dL_tells_149 (by decide) ?_
            refine pw_goto 35 dL_tells_152 (by decide) ?_
            refine pw_fg (ls' := [some (.ref o), some (.ref p), some (.ref (p + 1)), some (.ref (p + 2)), some (.ref (p + 3)), some (.ref (p + 4)), some (.ref (p + 5)), some (.ref s9), some (.int bv), some (.int (nI mv)), some (.int (nI x)), some (.int (msk (fun s => atB B s (nI x)) (i + 1))), some (.int (msk (fun s => spB B s ∧ fwB B s = x) (i + 1))), some (.int (nI (smN (fun s => wcB B s (nI x)) (i + 1)))), some (.int (nI (i + 1))), none]) ⟨Or.inr rfl, Or.inr rfl, Or.inr rfl, Or.inr rfl, Or.inr rfl, Or.inr rfl, Or.inr rfl, Or.inr rfl, Or.inr rfl, Or.inr rfl, Or.inr rfl, Or.inr rfl, Or.inr rfl, Or.inr rfl, Or.inr rfl, Or.inl rfl, trivial⟩ ?_
            exact ih
          · intro r hr ihr
            have hw4 := (gd.s hi).w.2
            obtain ⟨v9, x9, y9, hv9, hx9, hy9, f5, f6, f7⟩ := (gd.l hi).wd (r := r) (gd.s hi) (by omega) hr
            have eq9 : μ (p + 2) (8 * r + i) = nI (v9 + 256 * x9 + 2048 * y9) := by rw [hl.rq r rfl (by omega) (by omega) hr, qV_of f5 f6 f7]
            refine pw_iload_15 dL_tells_99 ?_
            refine pw_aload_1 dL_tells_101 ?_
            refine pw_bipush (v := nI 32) dL_tells_102 (by decide) ?_
            refine pw_iload_14 dL_tells_104 ?_
            refine pw_iaddN dL_tells_106 ?_
            refine pw_ialdN dL_tells_107 hs.a (by omega) (by decide) ?_
            refine pw_top ((hl.a4 (i := i) (by omega) (by omega)).trans ((gd.s (i := i) (by omega)).w).1) ?_
            refine pw_icmp_ge 149 dL_tells_108 (by decide) (fun hh => absurd hh (by rw [nI_leI (by omega) (by omega)]; omega)) (fun _ => ?_)
            refine pw_iload_13 dL_tells_111 ?_
            refine pw_aload_3 dL_tells_113 ?_
            refine pw_bipush (v := nI 8) dL_tells_114 (by decide) ?_
            refine pw_iload_15 dL_tells_116 ?_
            refine pw_imulN dL_tells_118 ?_
            refine pw_iload_14 dL_tells_119 ?_
            refine pw_iaddN dL_tells_121 ?_
            refine pw_ialdN dL_tells_122 hs.q (by omega) (by decide) ?_
            refine pw_top eq9 ?_
            refine pw_sipush (v := nI 256) dL_tells_123 (by decide) ?_
            refine pw_idiv dL_tells_126 (by decide) ?_
            refine pw_top (pk_div (d := 256) (by omega) (by decide) (by decide)) ?_
            refine pw_bipush (v := nI 8) dL_tells_127 (by decide) ?_
            refine pw_irem dL_tells_129 (by decide) ?_
            refine pw_top ((pk_rem (d := 8) (by omega) (by decide) (by decide)).trans (congrArg nI (show (v9 + 256 * x9 + 2048 * y9) / 256 % 8 = x9 by omega))) ?_
            refine pw_iload_10 dL_tells_130 ?_
            refine pw_icmp_ne 139 dL_tells_132 (by decide) (fun h11 => ?_) (fun h11 => ?_)
            · skip
              refine pw_iconst (v := nI 0) dL_tells_139 (by decide) ?_
              refine pw_iaddN dL_tells_140 ?_
              refine pw_istore_13 dL_tells_141 (by decide) ?_
              refine pw_iincN_15 dL_tells_143 (by decide) ?_
              refine pw_goto 99 dL_tells_146 (by decide) ?_
              have ec : cntP (fun r => bS B i (6 + 3 * r) = nI x) (r + 1) = cntP (fun r => bS B i (6 + 3 * r) = nI x) r := cntP_n (fun h95 => h11 (f6.symm.trans h95))
              rw [ec] at ihr
              exact ihr
            · skip
              refine pw_iconst (v := nI 1) dL_tells_135 (by decide) ?_
              refine pw_goto 140 dL_tells_136 (by decide) ?_
              refine pw_iaddN dL_tells_140 ?_
              refine pw_istore_13 dL_tells_141 (by decide) ?_
              refine pw_iincN_15 dL_tells_143 (by decide) ?_
              refine pw_goto 99 dL_tells_146 (by decide) ?_
              have ec : cntP (fun r => bS B i (6 + 3 * r) = nI x) (r + 1) = cntP (fun r => bS B i (6 + 3 * r) = nI x) r + 1 := cntP_y (f6.trans h11)
              rw [ec] at ihr
              exact ihr
      · skip
        refine pw_top (spV_no sp7) ?_
        refine pw_if_lt 92 dL_tells_71 (by decide) (fun _ => ?_) (fun hh => absurd m1_lt hh)
        refine pw_iconst (v := nI 0) dL_tells_92 (by decide) ?_
        refine pw_ior dL_tells_93 ?_
        have es : msk (fun s => spB B s ∧ fwB B s = x) (i + 1) = msk (fun s => spB B s ∧ fwB B s = x) i := msk_n (fun h95 => sp7 h95.1)
        refine pw_top (or_0 _) ?_
        refine pw_top es.symm ?_
        refine pw_istore_12 dL_tells_94 (by decide) ?_
        refine pw_iconst (v := nI 0) dL_tells_96 (by decide) ?_
        refine pw_istore_15 dL_tells_97 (by decide) ?_
        refine pw_fg (ls' := [some (.ref o), some (.ref p), some (.ref (p + 1)), some (.ref (p + 2)), some (.ref (p + 3)), some (.ref (p + 4)), some (.ref (p + 5)), some (.ref s9), some (.int bv), some (.int (nI mv)), some (.int (nI x)), some (.int (msk (fun s => atB B s (nI x)) (i + 1))), some (.int (msk (fun s => spB B s ∧ fwB B s = x) (i + 1))), some (.int (nI (smN (fun s => wcB B s (nI x)) i + cntP (fun r => bS B i (6 + 3 * r) = nI x) 0))), some (.int (nI i)), some (.int (nI 0))]) ⟨Or.inr rfl, Or.inr rfl, Or.inr rfl, Or.inr rfl, Or.inr rfl, Or.inr rfl, Or.inr rfl, Or.inr rfl, Or.inr rfl, Or.inr rfl, Or.inr rfl, Or.inr rfl, Or.inr rfl, Or.inr rfl, Or.inr rfl, Or.inr rfl, trivial⟩ ?_
        refine pw_up (P := fun r => PW X mL_tells 0 0 99 [some (.ref o), some (.ref p), some (.ref (p + 1)), some (.ref (p + 2)), some (.ref (p + 3)), some (.ref (p + 4)), some (.ref (p + 5)), some (.ref s9), some (.int bv), some (.int (nI mv)), some (.int (nI x)), some (.int (msk (fun s => atB B s (nI x)) (i + 1))), some (.int (msk (fun s => spB B s ∧ fwB B s = x) (i + 1))), some (.int (nI (smN (fun s => wcB B s (nI x)) i + cntP (fun r => bS B i (6 + 3 * r) = nI x) r))), some (.int (nI i)), some (.int (nI r))] [] σ μ (LI Q)) (nwF (bS B i)) ?_ ?_ 0 (Nat.zero_le _)
        · skip
          have hw4 := (gd.s hi).w.2
          refine pw_iload_15 dL_tells_99 ?_
          refine pw_aload_1 dL_tells_101 ?_
          refine pw_bipush (v := nI 32) dL_tells_102 (by decide) ?_
          refine pw_iload_14 dL_tells_104 ?_
          refine pw_iaddN dL_tells_106 ?_
          refine pw_ialdN dL_tells_107 hs.a (by omega) (by decide) ?_
          refine pw_top ((hl.a4 (i := i) (by omega) (by omega)).trans ((gd.s (i := i) (by omega)).w).1) ?_
          refine pw_icmp_ge 149 dL_tells_108 (by decide) (fun _ => ?_) (fun hh => absurd (by rw [nI_leI (by omega) (by omega)]; omega) hh)
          refine pw_iincN_14 dL_tells_149 (by decide) ?_
          refine pw_goto 35 dL_tells_152 (by decide) ?_
          refine pw_fg (ls' := [some (.ref o), some (.ref p), some (.ref (p + 1)), some (.ref (p + 2)), some (.ref (p + 3)), some (.ref (p + 4)), some (.ref (p + 5)), some (.ref s9), some (.int bv), some (.int (nI mv)), some (.int (nI x)), some (.int (msk (fun s => atB B s (nI x)) (i + 1))), some (.int (msk (fun s => spB B s ∧ fwB B s = x) (i + 1))), some (.int (nI (smN (fun s => wcB B s (nI x)) (i + 1)))), some (.int (nI (i + 1))), none]) ⟨Or.inr rfl, Or.inr rfl, Or.inr rfl, Or.inr rfl, Or.inr rfl, Or.inr rfl, Or.inr rfl, Or.inr rfl, Or.inr rfl, Or.inr rfl, Or.inr rfl, Or.inr rfl, Or.inr rfl, Or.inr rfl, Or.inr rfl, Or.inl rfl, trivial⟩ ?_
          exact ih
        · intro r hr ihr
          have hw4 := (gd.s hi).w.2
          obtain ⟨v9, x9, y9, hv9, hx9, hy9, f5, f6, f7⟩ := (gd.l hi).wd (r := r) (gd.s hi) (by omega) hr
          have eq9 : μ (p + 2) (8 * r + i) = nI (v9 + 256 * x9 + 2048 * y9) := by rw [hl.rq r rfl (by omega) (by omega) hr, qV_of f5 f6 f7]
          refine pw_iload_15 dL_tells_99 ?_
          refine pw_aload_1 dL_tells_101 ?_
          refine pw_bipush (v := nI 32) dL_tells_102 (by decide) ?_
          refine pw_iload_14 dL_tells_104 ?_
          refine pw_iaddN dL_tells_106 ?_
          refine pw_ialdN dL_tells_107 hs.a (by omega) (by decide) ?_
          refine pw_top ((hl.a4 (i := i) (by omega) (by omega)).trans ((gd.s (i := i) (by omega)).w).1) ?_
          refine pw_icmp_ge 149 dL_tells_108 (by decide) (fun hh => absurd hh (by rw [nI_leI (by omega) (by omega)]; omega)) (fun _ => ?_)
          refine pw_iload_13 dL_tells_111 ?_
          refine pw_aload_3 dL_tells_113 ?_
          refine pw_bipush (v := nI 8) dL_tells_114 (by decide) ?_
          refine pw_iload_15 dL_tells_116 ?_
          refine pw_imulN dL_tells_118 ?_
          refine pw_iload_14 dL_tells_119 ?_
          refine pw_iaddN dL_tells_121 ?_
          refine pw_ialdN dL_tells_122 hs.q (by omega) (by decide) ?_
          refine pw_top eq9 ?_
          refine pw_sipush (v := nI 256) dL_tells_123 (by decide) ?_
          refine pw_idiv dL_tells_126 (by decide) ?_
          refine pw_top (pk_div (d := 256) (by omega) (by decide) (by decide)) ?_
          refine pw_bipush (v := nI 8) dL_tells_127 (by decide) ?_
          refine pw_irem dL_tells_129 (by decide) ?_
          refine pw_top ((pk_rem (d := 8) (by omega) (by decide) (by decide)).trans (congrArg nI (show (v9 + 256 * x9 + 2048 * y9) / 256 % 8 = x9 by omega))) ?_
          refine pw_iload_10 dL_tells_130 ?_
          refine pw_icmp_ne 139 dL_tells_132 (by decide) (fun h12 => ?_) (fun h12 => ?_)
          · skip
            refine pw_iconst (v := nI 0) dL_tells_139 (by decide) ?_
            refine pw_iaddN dL_tells_140 ?_
            refine pw_istore_13 dL_tells_141 (by decide) ?_
            refine pw_iincN_15 dL_tells_143 (by decide) ?_
            refine pw_goto 99 dL_tells_146 (by decide) ?_
            have ec : cntP (fun r => bS B i (6 + 3 * r) = nI x) (r + 1) = cntP (fun r => bS B i (6 + 3 * r) = nI x) r := cntP_n (fun h95 => h12 (f6.symm.trans h95))
            rw [ec] at ihr
            exact ihr
          · skip
            refine pw_iconst (v := nI 1) dL_tells_135 (by decide) ?_
            refine pw_goto 140 dL_tells_136 (by decide) ?_
            refine pw_iaddN dL_tells_140 ?_
            refine pw_istore_13 dL_tells_141 (by decide) ?_
            refine pw_iincN_15 dL_tells_143 (by decide) ?_
            refine pw_goto 99 dL_tells_146 (by decide) ?_
            have ec : cntP (fun r => bS B i (6 + 3 * r) = nI x) (r + 1) = cntP (fun r => bS B i (6 + 3 * r) = nI x) r + 1 := cntP_y (f6.trans h12)
            rw [ec] at ihr
            exact ihr
