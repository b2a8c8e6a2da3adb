/-! The law's beat: charge -/
theorem upd_id (f : Nat → Int32) (k : Nat) : upd f k (f k) = f := by
  funext j
  by_cases e : j = k
  · subst e
    rw [upd_s]
  · rw [upd_n _ _ e]
theorem ch_y (a F : Int32) (c : Nat) : a + F * nI c + nI 1 * F = a + F * nI (c + 1) := by
  rw [← nI_add, Int32.mul_add, Int32.add_assoc, Int32.mul_comm (nI 1) F]
theorem ch_n (a F : Int32) : a + nI 0 * F = a := by
  rw [show nI 0 * F = 0 from Int32.zero_mul]
  exact Int32.add_zero a
theorem ch_eq (x c t : Int32) : x - c + t = x + t - c := by
  rw [Int32.sub_eq_add_neg, Int32.sub_eq_add_neg, Int32.add_assoc, Int32.add_comm (-c) t, ← Int32.add_assoc]
theorem bi_not {x : Int32} {L : Nat → Prop} {m : Nat} (hm : m < 6) : bi (x &&& (msk L 6 ^^^ (-1))) (nI m) = nI 1 ↔ bi x (nI m) = nI 1 ∧ ¬ L m := by
  rw [bi_1 (by omega), bi_1 (by omega), b_and, b_xor, b_m1 m (by omega)]
  have h := msk_bt (p := L) (n := 6) (by decide) (i := m) (by omega)
  have h2 : bt (msk L 6) m = true ↔ L m := h.trans ⟨fun q => q.2, fun q => ⟨hm, q⟩⟩
  rw [← h2]
  cases bt x m <;> cases bt (msk L 6) m <;> simp
theorem GDn.c1 {n k : Nat} {L : Nat → Prop} {B : Bs} (h : GDn n B) (hk : k < n) : GDn n (ch1 L B k) := ⟨h.1.k1 (by rw [h.2.2]; exact hk), h.2.1.pS ((h.l hk).free (by omega)), h.2.2⟩
theorem GDn.z1 {n k : Nat} {B : Bs} {x : Int32} (h : GDn n B) (hk : k < n) (hx : x = nI 0 ∨ x = nI 1) : GDn n (setS B k (upd (bS B k) 2 x)) := h.pS hk ((h.s hk).z (Or.inl rfl) hx) (by rw [upd_n _ _ (by omega)]; exact h.c hk) ((h.l hk).free (by omega))
theorem GDn.c2 {n k : Nat} {B : Bs} (h : GDn n B) (hk : k < n) : GDn n (ch2 B k) := by
  have h2 := h.z1 hk (Or.inr (rfl : nI 1 = nI 1))
  unfold ch2
  by_cases hb : spB B k
  · rw [cif_y hb]
    exact h2.gu hk
  · rw [cif_n hb]
    exact h2
theorem GDn.c3 {n k : Nat} {B : Bs} (h : GDn n B) (hk : k < n) : GDn n (ch3 B k) := by
  unfold ch3
  by_cases hb : wkP B k
  · rw [cif_y hb]
    exact h.z1 hk (Or.inl rfl)
  · rw [cif_n hb]
    exact h
theorem GDn.chs {n k : Nat} {L : Nat → Prop} {B : Bs} (h : GDn n B) (hk : k < n) : GDn n (chS L k B) := by
  unfold chS
  split
  · exact ((h.c1 hk).c2 hk).c3 hk
  · exact (h.c1 hk).c3 hk
theorem GDn.chk {n k : Nat} {L : Nat → Prop} {B : Bs} (h : GDn n B) (hk : k ≤ n) : GDn n (itr (chS L) k B) := h.it (fun _ _ hi hC => hC.chs hi) k hk
set_option maxRecDepth 100000 in
set_option maxHeartbeats 4000000 in
theorem bt_ch4 {X : Cx} {σ : Sp} {μ : Mm} {Q : Int32 → Sp → Mm → Prop} {κ : Prop} {μ0 : Mm} {p n k hd : Nat} {L : Nat → Prop} {M : Bs} (hs : ShL σ p) (hl : LU κ μ0 p M μ) (gd : GDn n M) (hk : k < n) (ih : ∀ ν, LU κ μ0 p (ch3 M k) ν → PW X mL_beat 0 0 661 [some (.ref p), some (.ref (p + 1)), some (.ref (p + 2)), some (.ref (p + 3)), some (.ref (p + 4)), some (.ref (p + 5)), some (.int (msk L 6)), none, some (.int (nI hd)), none, some (.int (nI (k + 1))), none, none, none, none] [] σ ν (LI Q))  : PW X mL_beat 0 0 807 [some (.ref p), some (.ref (p + 1)), some (.ref (p + 2)), some (.ref (p + 3)), some (.ref (p + 4)), some (.ref (p + 5)), some (.int (msk L 6)), none, some (.int (nI hd)), none, some (.int (nI k)), none, none, none, none] [] σ μ (LI Q) := by
  have h8 := gd.n8
  refine pw_aload_0 dL_beat_807 ?_
  refine pw_bipush (v := nI 16) dL_beat_808 (by decide) ?_
  refine pw_iload_10 dL_beat_810 ?_
  refine pw_iaddN dL_beat_812 ?_
  refine pw_aload_0 dL_beat_813 ?_
  refine pw_bipush (v := nI 24) dL_beat_814 (by decide) ?_
  refine pw_iload_10 dL_beat_816 ?_
  refine pw_iaddN dL_beat_818 ?_
  refine pw_ialdN dL_beat_819 hs.a (by omega) (by decide) ?_
  refine pw_top (hl.a3 (i := k) (by omega) (by omega)) ?_
  refine pw_if_ne 843 dL_beat_820 (by decide) (fun h1 => ?_) (fun h1 => ?_)
  · skip
    refine pw_aload_0 dL_beat_843 ?_
    refine pw_bipush (v := nI 16) dL_beat_844 (by decide) ?_
    refine pw_iload_10 dL_beat_846 ?_
    refine pw_iaddN dL_beat_848 ?_
    refine pw_ialdN dL_beat_849 hs.a (by omega) (by decide) ?_
    refine pw_top (hl.a2 (i := k) (by omega) (by omega)) ?_
    refine pw_iastN dL_beat_850 hs.a (by omega) (by decide) ?_
    refine pw_gen (P := LU κ μ0 p (setS M k (upd (bS M k) 2 (bS M k 2)))) ((hl.self k).wA 2 2 (by omega) (by omega) (by omega) rfl (by omega) (aV_s (d := 2) (by omega))) (fun μ1 hl1 => ?_)
    refine pw_iincN_10 dL_beat_851 (by decide) ?_
    refine pw_goto 661 dL_beat_854 (by decide) ?_
    refine pw_fg (ls' := [some (.ref p), some (.ref (p + 1)), some (.ref (p + 2)), some (.ref (p + 3)), some (.ref (p + 4)), some (.ref (p + 5)), some (.int (msk L 6)), none, some (.int (nI hd)), none, some (.int (nI (k + 1))), none, none, none, none]) ⟨Or.inr rfl, Or.inr rfl, Or.inr rfl, Or.inr rfl, Or.inr rfl, Or.inr rfl, Or.inr rfl, Or.inl rfl, Or.inr rfl, Or.inl rfl, Or.inr rfl, Or.inl rfl, Or.inl rfl, Or.inl rfl, Or.inl rfl, trivial⟩ ?_
    have e9 : ch3 M k = M := cif_n (fun hb => h1 hb.2.1)
    rw [e9] at ih
    rw [upd_id, setS_id] at hl1
    exact ih _ hl1
  · skip
    refine pw_aload_0 dL_beat_823 ?_
    refine pw_bipush (v := nI 8) dL_beat_824 (by decide) ?_
    refine pw_iload_10 dL_beat_826 ?_
    refine pw_iaddN dL_beat_828 ?_
    refine pw_ialdN dL_beat_829 hs.a (by omega) (by decide) ?_
    refine pw_top (hl.a1 (i := k) (by omega) (by omega)) ?_
    refine pw_aload_5 dL_beat_830 ?_
    refine pw_iconst (v := nI 1) dL_beat_832 (by decide) ?_
    refine pw_ialdN dL_beat_833 hs.t (by omega) (by decide) ?_
    refine pw_top (hl.t (k := 1) (by omega)) ?_
    refine pw_iconst (v := nI 2) dL_beat_834 (by decide) ?_
    refine pw_idiv dL_beat_835 (by decide) ?_
    refine pw_icmp_lt 843 dL_beat_836 (by decide) (fun h2 => ?_) (fun h2 => ?_)
    · skip
      refine pw_aload_0 dL_beat_843 ?_
      refine pw_bipush (v := nI 16) dL_beat_844 (by decide) ?_
      refine pw_iload_10 dL_beat_846 ?_
      refine pw_iaddN dL_beat_848 ?_
      refine pw_ialdN dL_beat_849 hs.a (by omega) (by decide) ?_
      refine pw_top (hl.a2 (i := k) (by omega) (by omega)) ?_
      refine pw_iastN dL_beat_850 hs.a (by omega) (by decide) ?_
      refine pw_gen (P := LU κ μ0 p (setS M k (upd (bS M k) 2 (bS M k 2)))) ((hl.self k).wA 2 2 (by omega) (by omega) (by omega) rfl (by omega) (aV_s (d := 2) (by omega))) (fun μ2 hl2 => ?_)
      refine pw_iincN_10 dL_beat_851 (by decide) ?_
      refine pw_goto 661 dL_beat_854 (by decide) ?_
      refine pw_fg (ls' := [some (.ref p), some (.ref (p + 1)), some (.ref (p + 2)), some (.ref (p + 3)), some (.ref (p + 4)), some (.ref (p + 5)), some (.int (msk L 6)), none, some (.int (nI hd)), none, some (.int (nI (k + 1))), none, none, none, none]) ⟨Or.inr rfl, Or.inr rfl, Or.inr rfl, Or.inr rfl, Or.inr rfl, Or.inr rfl, Or.inr rfl, Or.inl rfl, Or.inr rfl, Or.inl rfl, Or.inr rfl, Or.inl rfl, Or.inl rfl, Or.inl rfl, Or.inl rfl, trivial⟩ ?_
      have e9 : ch3 M k = M := cif_n (fun hb => Int32.not_lt.mpr hb.2.2 h2)
      rw [e9] at ih
      rw [upd_id, setS_id] at hl2
      exact ih _ hl2
    · skip
      refine pw_iconst (v := nI 0) dL_beat_839 (by decide) ?_
      refine pw_goto 850 dL_beat_840 (by decide) ?_
      refine pw_iastN dL_beat_850 hs.a (by omega) (by decide) ?_
      refine pw_gen (P := LU κ μ0 p (setS M k (upd (bS M k) 2 (nI 0)))) ((hl.self k).wA 2 2 (by omega) (by omega) (by omega) rfl (by omega) (aV_s (d := 2) (by omega))) (fun μ3 hl3 => ?_)
      refine pw_iincN_10 dL_beat_851 (by decide) ?_
      refine pw_goto 661 dL_beat_854 (by decide) ?_
      refine pw_fg (ls' := [some (.ref p), some (.ref (p + 1)), some (.ref (p + 2)), some (.ref (p + 3)), some (.ref (p + 4)), some (.ref (p + 5)), some (.int (msk L 6)), none, some (.int (nI hd)), none, some (.int (nI (k + 1))), none, none, none, none]) ⟨Or.inr rfl, Or.inr rfl, Or.inr rfl, Or.inr rfl, Or.inr rfl, Or.inr rfl, Or.inr rfl, Or.inl rfl, Or.inr rfl, Or.inl rfl, Or.inr rfl, Or.inl rfl, Or.inl rfl, Or.inl rfl, Or.inl rfl, trivial⟩ ?_
      rcases (gd.s hk).2.1.1 with g | g
      · have e9 : ch3 M k = M := cif_n (fun hb => absurd (g.symm.trans hb.1) (by decide))
        rw [e9] at ih
        rw [← g, upd_id, setS_id] at hl3
        exact ih _ hl3
      · have e9 : ch3 M k = setS M k (upd (bS M k) 2 (nI 0)) := cif_y ⟨g, h1, Int32.not_lt.mp h2⟩
        rw [e9] at ih
        exact ih _ hl3
set_option maxRecDepth 100000 in
set_option maxHeartbeats 4000000 in
theorem bt_ch3 {X : Cx} {σ : Sp} {μ : Mm} {Q : Int32 → Sp → Mm → Prop} {κ : Prop} {μ0 : Mm} {p n k hd : Nat} {L : Nat → Prop} {D : Bs} (hs : ShL σ p) (hl : LU κ μ0 p (ch1 L D k) μ) (gd : GDn n D) (hk : k < n) (ih : ∀ ν, LU κ μ0 p (ch3 (if chV L D k < 0 then ch2 (ch1 L D k) k else ch1 L D k) k) ν → PW X mL_beat 0 0 661 [some (.ref p), some (.ref (p + 1)), some (.ref (p + 2)), some (.ref (p + 3)), some (.ref (p + 4)), some (.ref (p + 5)), some (.int (msk L 6)), none, some (.int (nI hd)), none, some (.int (nI (k + 1))), none, none, none, none] [] σ ν (LI Q))  : PW X mL_beat 0 0 772 [some (.ref p), some (.ref (p + 1)), some (.ref (p + 2)), some (.ref (p + 3)), some (.ref (p + 4)), some (.ref (p + 5)), some (.int (msk L 6)), none, some (.int (nI hd)), none, some (.int (nI k)), some (.int (chV L D k)), none, none, none] [] σ μ (LI Q) := by
  have h8 := gd.n8
  refine pw_iload_11 dL_beat_772 ?_
  refine pw_if_ge 807 dL_beat_774 (by decide) (fun h1 => ?_) (fun h1 => ?_)
  · skip
    refine pw_fg (ls' := [some (.ref p), some (.ref (p + 1)), some (.ref (p + 2)), some (.ref (p + 3)), some (.ref (p + 4)), some (.ref (p + 5)), some (.int (msk L 6)), none, some (.int (nI hd)), none, some (.int (nI k)), none, none, none, none]) ⟨Or.inr rfl, Or.inr rfl, Or.inr rfl, Or.inr rfl, Or.inr rfl, Or.inr rfl, Or.inr rfl, Or.inl rfl, Or.inr rfl, Or.inl rfl, Or.inr rfl, Or.inl rfl, Or.inl rfl, Or.inl rfl, Or.inl rfl, trivial⟩ ?_
    rw [if_neg (Int32.not_lt.mpr h1)] at ih
    exact bt_ch4 hs hl (gd.c1 hk) hk ih
  · skip
    refine pw_aload_0 dL_beat_777 ?_
    refine pw_bipush (v := nI 16) dL_beat_778 (by decide) ?_
    refine pw_iload_10 dL_beat_780 ?_
    refine pw_iaddN dL_beat_782 ?_
    refine pw_iconst (v := nI 1) dL_beat_783 (by decide) ?_
    refine pw_iastN dL_beat_784 hs.a (by omega) (by decide) ?_
    refine pw_gen (P := LU κ μ0 p (setS (ch1 L D k) k (upd (bS (ch1 L D k) k) 2 (nI 1)))) ((hl.self k).wA 2 2 (by omega) (by omega) (by omega) rfl (by omega) (aV_s (d := 2) (by omega))) (fun μ1 hl1 => ?_)
    obtain ⟨E1, eE1⟩ : ∃ E1, E1 = setS (ch1 L D k) k (upd (bS (ch1 L D k) k) 2 (nI 1)) := ⟨_, rfl⟩
    rw [← eE1] at hl1
    have gdE : GDn n E1 := by rw [eE1]; exact (gd.c1 hk).z1 hk (Or.inr rfl)
    have hsp1 : spB E1 k ↔ spB (ch1 L D k) k := by unfold spB; rw [eE1, bS_setS_s, upd_n _ _ (by omega)]
    refine pw_aload_0 dL_beat_785 ?_
    refine pw_bipush (v := nI 40) dL_beat_786 (by decide) ?_
    refine pw_iload_10 dL_beat_788 ?_
    refine pw_iaddN dL_beat_790 ?_
    refine pw_ialdN dL_beat_791 hs.a (by omega) (by decide) ?_
    refine pw_top (hl1.a5 (i := k) (by omega) (by omega)) ?_
    rcases Classical.em (spB E1 k) with sp2 | sp2
    · skip
      obtain ⟨sp20, kk3, kk310, kk3e, kk3v⟩ := gdE.sp (by omega) sp2
      refine pw_top kk3v ?_
      refine pw_if_lt 807 dL_beat_792 (by decide) (fun hh => absurd hh (nI_pos (by omega))) (fun _ => ?_)
      refine pw_aload_0 dL_beat_795 ?_
      refine pw_aload_1 dL_beat_796 ?_
      refine pw_aload_2 dL_beat_797 ?_
      refine pw_aload_4 dL_beat_798 ?_
      refine pw_aload_5 dL_beat_800 ?_
      refine pw_iload_10 dL_beat_802 ?_
      refine pw_cS6v dL_beat_804 kL_24 vL_fails sL_fails ⟨by decide, by decide⟩ ⟨rfl, rfl⟩ (Nat.le_of_ble_eq_true rfl) (k_fails hs hl1 gdE.wf gdE.wl (by rw [gdE.hn]; omega) sp20 (fun μf hlf => ?_))
      refine pw_fg (ls' := [some (.ref p), some (.ref (p + 1)), some (.ref (p + 2)), some (.ref (p + 3)), some (.ref (p + 4)), some (.ref (p + 5)), some (.int (msk L 6)), none, some (.int (nI hd)), none, some (.int (nI k)), none, none, none, none]) ⟨Or.inr rfl, Or.inr rfl, Or.inr rfl, Or.inr rfl, Or.inr rfl, Or.inr rfl, Or.inr rfl, Or.inl rfl, Or.inr rfl, Or.inl rfl, Or.inr rfl, Or.inl rfl, Or.inl rfl, Or.inl rfl, Or.inl rfl, trivial⟩ ?_
      rw [if_pos (Int32.not_le.mp h1)] at ih
      have e9 : ch2 (ch1 L D k) k = guB E1 k := (cif_y (hsp1.mp sp2)).trans (by rw [eE1])
      rw [e9] at ih
      exact bt_ch4 hs hlf (gdE.gu hk) hk ih
    · skip
      refine pw_top (spV_no sp2) ?_
      refine pw_if_lt 807 dL_beat_792 (by decide) (fun _ => ?_) (fun hh => absurd m1_lt hh)
      refine pw_fg (ls' := [some (.ref p), some (.ref (p + 1)), some (.ref (p + 2)), some (.ref (p + 3)), some (.ref (p + 4)), some (.ref (p + 5)), some (.int (msk L 6)), none, some (.int (nI hd)), none, some (.int (nI k)), none, none, none, none]) ⟨Or.inr rfl, Or.inr rfl, Or.inr rfl, Or.inr rfl, Or.inr rfl, Or.inr rfl, Or.inr rfl, Or.inl rfl, Or.inr rfl, Or.inl rfl, Or.inr rfl, Or.inl rfl, Or.inl rfl, Or.inl rfl, Or.inl rfl, trivial⟩ ?_
      rw [if_pos (Int32.not_le.mp h1)] at ih
      have e9 : ch2 (ch1 L D k) k = E1 := (cif_n (fun h95 => sp2 (hsp1.mpr h95))).trans eE1.symm
      rw [e9] at ih
      exact bt_ch4 hs hl1 gdE hk ih
set_option maxRecDepth 100000 in
set_option maxHeartbeats 4000000 in
theorem bt_ch2 {X : Cx} {σ : Sp} {μ : Mm} {Q : Int32 → Sp → Mm → Prop} {κ : Prop} {μ0 : Mm} {p n k hd : Nat} {L : Nat → Prop} {D : Bs} (hs : ShL σ p) (hl : LU κ μ0 p D μ) (gd : GDn n D) (hk : k < n) (ih : ∀ ν, LU κ μ0 p (chS L k D) ν → PW X mL_beat 0 0 661 [some (.ref p), some (.ref (p + 1)), some (.ref (p + 2)), some (.ref (p + 3)), some (.ref (p + 4)), some (.ref (p + 5)), some (.int (msk L 6)), none, some (.int (nI hd)), none, some (.int (nI (k + 1))), none, none, none, none] [] σ ν (LI Q))  : PW X mL_beat 0 0 698 [some (.ref p), some (.ref (p + 1)), some (.ref (p + 2)), some (.ref (p + 3)), some (.ref (p + 4)), some (.ref (p + 5)), some (.int (msk L 6)), none, some (.int (nI hd)), none, some (.int (nI k)), some (.int ((bS D k 1 - cif (awB D k) (bG D 2) (nI 0)))), none, none, none] [] σ μ (LI Q) := by
  have h8 := gd.n8
  refine pw_iconst (v := nI 0) dL_beat_698 (by decide) ?_
  refine pw_istore_12 dL_beat_699 (by decide) ?_
  have e0 : (bS D k 1 - cif (awB D k) (bG D 2) (nI 0)) = (bS D k 1 - cif (awB D k) (bG D 2) (nI 0)) + bG D 3 * nI (cntP (fun w => bi (bS D k 0) (nI w) = nI 1 ∧ ¬ L w) 0) := by
    show _ = _ + bG D 3 * nI 0
    rw [show bG D 3 * nI 0 = 0 from Int32.mul_zero]
    exact (Int32.add_zero _).symm
  refine pw_fg (ls' := [some (.ref p), some (.ref (p + 1)), some (.ref (p + 2)), some (.ref (p + 3)), some (.ref (p + 4)), some (.ref (p + 5)), some (.int (msk L 6)), none, some (.int (nI hd)), none, some (.int (nI k)), some (.int ((bS D k 1 - cif (awB D k) (bG D 2) (nI 0)))), some (.int (nI 0)), none, none]) ⟨Or.inr rfl, Or.inr rfl, Or.inr rfl, Or.inr rfl, Or.inr rfl, Or.inr rfl, Or.inr rfl, Or.inl rfl, Or.inr rfl, Or.inl rfl, Or.inr rfl, Or.inr rfl, Or.inr rfl, Or.inl rfl, Or.inl rfl, trivial⟩ ?_
  rw [e0]
  refine pw_up (P := fun m => PW X mL_beat 0 0 701 [some (.ref p), some (.ref (p + 1)), some (.ref (p + 2)), some (.ref (p + 3)), some (.ref (p + 4)), some (.ref (p + 5)), some (.int (msk L 6)), none, some (.int (nI hd)), none, some (.int (nI k)), some (.int ((bS D k 1 - cif (awB D k) (bG D 2) (nI 0)) + bG D 3 * nI (cntP (fun w => bi (bS D k 0) (nI w) = nI 1 ∧ ¬ L w) m))), some (.int (nI m)), none, none] [] σ μ (LI Q)) 6 ?_ ?_ 0 (Nat.zero_le _)
  · skip
    have ev : (bS D k 1 - cif (awB D k) (bG D 2) (nI 0)) + bG D 3 * nI (cntP (fun w => bi (bS D k 0) (nI w) = nI 1 ∧ ¬ L w) 6) = chV L D k := by rw [ch_eq]; rfl
    rw [ev]
    refine pw_iload_12 dL_beat_701 ?_
    refine pw_bipush (v := nI 6) dL_beat_703 (by decide) ?_
    refine pw_icmp_ge 738 dL_beat_705 (by decide) (fun _ => ?_) (fun hh => absurd (by decide) hh)
    refine pw_aload_0 dL_beat_738 ?_
    refine pw_bipush (v := nI 8) dL_beat_739 (by decide) ?_
    refine pw_iload_10 dL_beat_741 ?_
    refine pw_iaddN dL_beat_743 ?_
    refine pw_iload_11 dL_beat_744 ?_
    refine pw_if_ge 753 dL_beat_746 (by decide) (fun h1 => ?_) (fun h1 => ?_)
    · skip
      refine pw_iload_11 dL_beat_753 ?_
      refine pw_aload_5 dL_beat_755 ?_
      refine pw_iconst (v := nI 1) dL_beat_757 (by decide) ?_
      refine pw_ialdN dL_beat_758 hs.t (by omega) (by decide) ?_
      refine pw_top (hl.t (k := 1) (by omega)) ?_
      refine pw_icmp_le 769 dL_beat_759 (by decide) (fun h2 => ?_) (fun h2 => ?_)
      · skip
        refine pw_iload_11 dL_beat_769 ?_
        refine pw_top (y := clV (chV L D k) (bG D 1)) (by unfold clV; rw [if_neg (Int32.not_lt.mpr h2), if_neg (Int32.not_lt.mpr h1)]) ?_
        refine pw_iastN dL_beat_771 hs.a (by omega) (by decide) ?_
        refine pw_gen (P := LU κ μ0 p (ch1 L D k)) ((hl.self k).wA 1 1 (by omega) (by omega) (by omega) rfl (by omega) (aV_s (d := 1) (by omega))) (fun μ7 hl7 => ?_)
        refine pw_fg (ls' := [some (.ref p), some (.ref (p + 1)), some (.ref (p + 2)), some (.ref (p + 3)), some (.ref (p + 4)), some (.ref (p + 5)), some (.int (msk L 6)), none, some (.int (nI hd)), none, some (.int (nI k)), some (.int (chV L D k)), none, none, none]) ⟨Or.inr rfl, Or.inr rfl, Or.inr rfl, Or.inr rfl, Or.inr rfl, Or.inr rfl, Or.inr rfl, Or.inl rfl, Or.inr rfl, Or.inl rfl, Or.inr rfl, Or.inr rfl, Or.inl rfl, Or.inl rfl, Or.inl rfl, trivial⟩ ?_
        exact bt_ch3 hs hl7 gd hk ih
      · skip
        refine pw_aload_5 dL_beat_762 ?_
        refine pw_iconst (v := nI 1) dL_beat_764 (by decide) ?_
        refine pw_ialdN dL_beat_765 hs.t (by omega) (by decide) ?_
        refine pw_top (hl.t (k := 1) (by omega)) ?_
        refine pw_goto 771 dL_beat_766 (by decide) ?_
        refine pw_top (y := clV (chV L D k) (bG D 1)) (by unfold clV; rw [if_pos (Int32.not_le.mp h2)]) ?_
        refine pw_iastN dL_beat_771 hs.a (by omega) (by decide) ?_
        refine pw_gen (P := LU κ μ0 p (ch1 L D k)) ((hl.self k).wA 1 1 (by omega) (by omega) (by omega) rfl (by omega) (aV_s (d := 1) (by omega))) (fun μ7 hl7 => ?_)
        refine pw_fg (ls' := [some (.ref p), some (.ref (p + 1)), some (.ref (p + 2)), some (.ref (p + 3)), some (.ref (p + 4)), some (.ref (p + 5)), some (.int (msk L 6)), none, some (.int (nI hd)), none, some (.int (nI k)), some (.int (chV L D k)), none, none, none]) ⟨Or.inr rfl, Or.inr rfl, Or.inr rfl, Or.inr rfl, Or.inr rfl, Or.inr rfl, Or.inr rfl, Or.inl rfl, Or.inr rfl, Or.inl rfl, Or.inr rfl, Or.inr rfl, Or.inl rfl, Or.inl rfl, Or.inl rfl, trivial⟩ ?_
        exact bt_ch3 hs hl7 gd hk ih
    · skip
      refine pw_iconst (v := nI 0) dL_beat_749 (by decide) ?_
      refine pw_goto 771 dL_beat_750 (by decide) ?_
      refine pw_top (y := clV (chV L D k) (bG D 1)) (by unfold clV; rw [if_neg (fun h95 => absurd (Int32.lt_of_le_of_lt gd.wf.full h95) (fun h96 => h1 (Int32.le_of_lt h96))), if_pos (Int32.not_le.mp h1)]) ?_
      refine pw_iastN dL_beat_771 hs.a (by omega) (by decide) ?_
      refine pw_gen (P := LU κ μ0 p (ch1 L D k)) ((hl.self k).wA 1 1 (by omega) (by omega) (by omega) rfl (by omega) (aV_s (d := 1) (by omega))) (fun μ7 hl7 => ?_)
      refine pw_fg (ls' := [some (.ref p), some (.ref (p + 1)), some (.ref (p + 2)), some (.ref (p + 3)), some (.ref (p + 4)), some (.ref (p + 5)), some (.int (msk L 6)), none, some (.int (nI hd)), none, some (.int (nI k)), some (.int (chV L D k)), none, none, none]) ⟨Or.inr rfl, Or.inr rfl, Or.inr rfl, Or.inr rfl, Or.inr rfl, Or.inr rfl, Or.inr rfl, Or.inl rfl, Or.inr rfl, Or.inl rfl, Or.inr rfl, Or.inr rfl, Or.inl rfl, Or.inl rfl, Or.inl rfl, trivial⟩ ?_
      exact bt_ch3 hs hl7 gd hk ih
  · intro m hm ihm
    refine pw_iload_12 dL_beat_701 ?_
    refine pw_bipush (v := nI 6) dL_beat_703 (by decide) ?_
    refine pw_icmp_ge 738 dL_beat_705 (by decide) (fun hh => absurd hh (by rw [nI_leI (by omega) (by omega)]; omega)) (fun _ => ?_)
    refine pw_iload_11 dL_beat_708 ?_
    refine pw_aload_0 dL_beat_710 ?_
    refine pw_iload_10 dL_beat_711 ?_
    refine pw_ialdN dL_beat_713 hs.a (by omega) (by decide) ?_
    refine pw_top (hl.a0 (i := k) (by omega) (by omega)) ?_
    refine pw_iload_6 dL_beat_714 ?_
    refine pw_iconst (v := -1) dL_beat_716 (by decide) ?_
    refine pw_ixor dL_beat_717 ?_
    refine pw_iand dL_beat_718 ?_
    refine pw_iload_12 dL_beat_719 ?_
    refine pw_ishr dL_beat_721 ?_
    refine pw_iconst (v := nI 1) dL_beat_722 (by decide) ?_
    refine pw_iand dL_beat_723 ?_
    rcases Classical.em (bi (bS D k 0) (nI m) = nI 1 ∧ ¬ L m) with cb | cb
    · skip
      refine pw_top (show _ = nI 1 from (bi_not hm).mpr cb) ?_
      refine pw_aload_5 dL_beat_724 ?_
      refine pw_iconst (v := nI 3) dL_beat_726 (by decide) ?_
      refine pw_ialdN dL_beat_727 hs.t (by omega) (by decide) ?_
      refine pw_top (hl.t (k := 3) (by omega)) ?_
      refine pw_imul dL_beat_728 ?_
      refine pw_iadd dL_beat_729 ?_
      refine pw_istore_11 dL_beat_730 (by decide) ?_
      refine pw_iincN_12 dL_beat_732 (by decide) ?_
      refine pw_goto 701 dL_beat_735 (by decide) ?_
      have e8 : cntP (fun w => bi (bS D k 0) (nI w) = nI 1 ∧ ¬ L w) (m + 1) = cntP (fun w => bi (bS D k 0) (nI w) = nI 1 ∧ ¬ L w) m + 1 := cntP_y cb
      rw [e8, ← ch_y] at ihm
      exact ihm
    · skip
      refine pw_top (show _ = nI 0 from bi_n1 (fun h95 => cb ((bi_not hm).mp h95))) ?_
      refine pw_aload_5 dL_beat_724 ?_
      refine pw_iconst (v := nI 3) dL_beat_726 (by decide) ?_
      refine pw_ialdN dL_beat_727 hs.t (by omega) (by decide) ?_
      refine pw_top (hl.t (k := 3) (by omega)) ?_
      refine pw_imul dL_beat_728 ?_
      refine pw_iadd dL_beat_729 ?_
      refine pw_istore_11 dL_beat_730 (by decide) ?_
      refine pw_iincN_12 dL_beat_732 (by decide) ?_
      refine pw_goto 701 dL_beat_735 (by decide) ?_
      have e8 : cntP (fun w => bi (bS D k 0) (nI w) = nI 1 ∧ ¬ L w) (m + 1) = cntP (fun w => bi (bS D k 0) (nI w) = nI 1 ∧ ¬ L w) m := cntP_n cb
      rw [e8, ← ch_n ((bS D k 1 - cif (awB D k) (bG D 2) (nI 0)) + bG D 3 * nI (cntP (fun w => bi (bS D k 0) (nI w) = nI 1 ∧ ¬ L w) m)) (bG D 3)] at ihm
      exact ihm
set_option maxRecDepth 100000 in
set_option maxHeartbeats 4000000 in
theorem bt_ch {X : Cx} {σ : Sp} {μ : Mm} {Q : Int32 → Sp → Mm → Prop} {κ : Prop} {μ0 : Mm} {p n hd : Nat} {B : Bs} {L : Nat → Prop} (hs : ShL σ p) (hl : LU κ μ0 p B μ) (gd : GDn n B) (K : ∀ ν, LU κ μ0 p (itr (chS L) n B) ν → PW X mL_beat 0 0 857 [some (.ref p), some (.ref (p + 1)), some (.ref (p + 2)), some (.ref (p + 3)), some (.ref (p + 4)), some (.ref (p + 5)), some (.int (msk L 6)), none, some (.int (nI hd)), none, none, none, none, none, none] [] σ ν (LI Q)) : PW X mL_beat 0 0 658 [some (.ref p), some (.ref (p + 1)), some (.ref (p + 2)), some (.ref (p + 3)), some (.ref (p + 4)), some (.ref (p + 5)), some (.int (msk L 6)), none, some (.int (nI hd)), none, none, none, none, none, none] [] σ μ (LI Q) := by
  have h8 := gd.n8
  refine pw_iconst (v := nI 0) dL_beat_658 (by decide) ?_
  refine pw_istore_10 dL_beat_659 (by decide) ?_
  refine pw_up (P := fun k => ∀ ν, LU κ μ0 p (itr (chS L) k B) ν → PW X mL_beat 0 0 661 [some (.ref p), some (.ref (p + 1)), some (.ref (p + 2)), some (.ref (p + 3)), some (.ref (p + 4)), some (.ref (p + 5)), some (.int (msk L 6)), none, some (.int (nI hd)), none, some (.int (nI k)), none, none, none, none] [] σ ν (LI Q)) n ?_ ?_ 0 (Nat.zero_le _) _ hl
  · intro ν hl1
    have gd1 := gd.chk (L := L) (Nat.le_refl n)
    refine pw_iload_10 dL_beat_661 ?_
    refine pw_aload_5 dL_beat_663 ?_
    refine pw_bipush (v := nI 6) dL_beat_665 (by decide) ?_
    refine pw_ialdN dL_beat_667 hs.t (by omega) (by decide) ?_
    refine pw_top ((hl1.t (by omega)).trans gd1.g6) ?_
    refine pw_icmp_ge 857 dL_beat_668 (by decide) (fun _ => ?_) (fun hh => absurd (by rw [nI_leI (by omega) (by omega)]; omega) hh)
    refine pw_fg (ls' := [some (.ref p), some (.ref (p + 1)), some (.ref (p + 2)), some (.ref (p + 3)), some (.ref (p + 4)), some (.ref (p + 5)), some (.int (msk L 6)), none, some (.int (nI hd)), none, none, none, none, none, none]) ⟨Or.inr rfl, Or.inr rfl, Or.inr rfl, Or.inr rfl, Or.inr rfl, Or.inr rfl, Or.inr rfl, Or.inl rfl, Or.inr rfl, Or.inl rfl, Or.inl rfl, Or.inl rfl, Or.inl rfl, Or.inl rfl, Or.inl rfl, trivial⟩ ?_
    exact K _ hl1
  · intro k hk ihk ν hl1
    have gd1 := gd.chk (L := L) (k := k) (by omega)
    have ih2 : ∀ ν, LU κ μ0 p (chS L k (itr (chS L) k B)) ν → PW X mL_beat 0 0 661 [some (.ref p), some (.ref (p + 1)), some (.ref (p + 2)), some (.ref (p + 3)), some (.ref (p + 4)), some (.ref (p + 5)), some (.int (msk L 6)), none, some (.int (nI hd)), none, some (.int (nI (k + 1))), none, none, none, none] [] σ ν (LI Q) := ihk
    clear ihk
    generalize itr (chS L) k B = D at hl1 gd1 ih2
    refine pw_iload_10 dL_beat_661 ?_
    refine pw_aload_5 dL_beat_663 ?_
    refine pw_bipush (v := nI 6) dL_beat_665 (by decide) ?_
    refine pw_ialdN dL_beat_667 hs.t (by omega) (by decide) ?_
    refine pw_top ((hl1.t (by omega)).trans gd1.g6) ?_
    refine pw_icmp_ge 857 dL_beat_668 (by decide) (fun hh => absurd hh (by rw [nI_leI (by omega) (by omega)]; omega)) (fun _ => ?_)
    refine pw_aload_0 dL_beat_671 ?_
    refine pw_bipush (v := nI 8) dL_beat_672 (by decide) ?_
    refine pw_iload_10 dL_beat_674 ?_
    refine pw_iaddN dL_beat_676 ?_
    refine pw_ialdN dL_beat_677 hs.a (by omega) (by decide) ?_
    refine pw_top (hl1.a1 (i := k) (by omega) (by omega)) ?_
    refine pw_aload_0 dL_beat_678 ?_
    refine pw_iload_10 dL_beat_679 ?_
    refine pw_cS2i dL_beat_681 kL_20 vL_up sL_up ⟨by decide, by decide⟩ ⟨rfl, rfl⟩ (Nat.le_of_ble_eq_true rfl) (k_up hs hl1 gd1.wf (by rw [gd1.hn]; omega) (fun a1 => ?_) (fun a1 => ?_))
    · skip
      refine pw_if_eq 694 dL_beat_684 (by decide) (fun hh => absurd hh (by decide)) (fun _ => ?_)
      refine pw_aload_5 dL_beat_687 ?_
      refine pw_iconst (v := nI 2) dL_beat_689 (by decide) ?_
      refine pw_ialdN dL_beat_690 hs.t (by omega) (by decide) ?_
      refine pw_top (hl1.t (k := 2) (by omega)) ?_
      refine pw_goto 695 dL_beat_691 (by decide) ?_
      refine pw_isub dL_beat_695 ?_
      refine pw_top (y := bS D k 1 - cif (awB D k) (bG D 2) (nI 0)) (by rw [cif_y a1]) ?_
      refine pw_istore_11 dL_beat_696 (by decide) ?_
      refine pw_fg (ls' := [some (.ref p), some (.ref (p + 1)), some (.ref (p + 2)), some (.ref (p + 3)), some (.ref (p + 4)), some (.ref (p + 5)), some (.int (msk L 6)), none, some (.int (nI hd)), none, some (.int (nI k)), some (.int ((bS D k 1 - cif (awB D k) (bG D 2) (nI 0)))), none, none, none]) ⟨Or.inr rfl, Or.inr rfl, Or.inr rfl, Or.inr rfl, Or.inr rfl, Or.inr rfl, Or.inr rfl, Or.inl rfl, Or.inr rfl, Or.inl rfl, Or.inr rfl, Or.inr rfl, Or.inl rfl, Or.inl rfl, Or.inl rfl, trivial⟩ ?_
      exact bt_ch2 hs hl1 gd1 hk ih2
    · skip
      refine pw_if_eq 694 dL_beat_684 (by decide) (fun _ => ?_) (fun hh => absurd (by decide) hh)
      refine pw_iconst (v := nI 0) dL_beat_694 (by decide) ?_
      refine pw_isub dL_beat_695 ?_
      refine pw_top (y := bS D k 1 - cif (awB D k) (bG D 2) (nI 0)) (by rw [cif_n a1]) ?_
      refine pw_istore_11 dL_beat_696 (by decide) ?_
      refine pw_fg (ls' := [some (.ref p), some (.ref (p + 1)), some (.ref (p + 2)), some (.ref (p + 3)), some (.ref (p + 4)), some (.ref (p + 5)), some (.int (msk L 6)), none, some (.int (nI hd)), none, some (.int (nI k)), some (.int ((bS D k 1 - cif (awB D k) (bG D 2) (nI 0)))), none, none, none]) ⟨Or.inr rfl, Or.inr rfl, Or.inr rfl, Or.inr rfl, Or.inr rfl, Or.inr rfl, Or.inr rfl, Or.inl rfl, Or.inr rfl, Or.inl rfl, Or.inr rfl, Or.inr rfl, Or.inl rfl, Or.inl rfl, Or.inl rfl, trivial⟩ ?_
      exact bt_ch2 hs hl1 gd1 hk ih2
