/-! The law's choices: settings, beats; which choice -/
set_option maxRecDepth 100000 in
set_option maxHeartbeats 4000000 in
theorem law_se2 {X : Cx} {σ : Sp} {μ : Mm} {Q : Int32 → Sp → Mm → Prop} {b1 b2 : Nat} {o x9 p n e : Nat} {hx0 : Int32} {A : Aw} (hc : CX σ μ o x9 A) (hno : ∀ k, aS A k = none) (wa : WA A) (hs : ShL σ p) (hl : LU True μ p (aB A) μ) (gd : GDn n (aB A)) (ht : WT (60 * e) (aB A)) (hop : p = o + 565) (he : e < 60) (K : ∀ μ' x' A' n', CX σ μ' o x' A' → (∀ k, aS A' k = none) → WA A' → LU True μ' p (aB A') μ' → GDn n' (aB A') → WT (60 * (e + 1)) (aB A') → (2 ≤ n' ∨ e + 1 ≤ n') → PW X mL_law b1 b2 943 [some (.ref (cxS X).1), some (.ref o), some (.ref p), some (.ref (p + 1)), some (.ref (p + 2)), some (.ref (p + 3)), some (.ref (p + 4)), some (.ref (p + 5)), some (.int (nI e)), none, none, some (.int (nI 1)), none, none, none, none, none] [] σ μ' (LI Q)) (hn2 : 2 ≤ n) {k v : Nat} (hk : k < 5) (hv : seP (nI k) (nI v)) (hv9 : v < 200) : PW X mL_law b1 b2 771 [some (.ref (cxS X).1), some (.ref o), some (.ref p), some (.ref (p + 1)), some (.ref (p + 2)), some (.ref (p + 3)), some (.ref (p + 4)), some (.ref (p + 5)), some (.int (nI e)), none, none, none, some (.int (nI k)), some (.int (nI v)), none, none, none] [] σ μ (LI Q) := by
  have h8 := gd.n8
  have w9 := gd.wf
  refine pw_aload_1 dL_law_771 ?_
  refine pw_iload_12 dL_law_772 ?_
  refine pw_iload_13 dL_law_774 ?_
  refine pw_cV2i 7 dL_law_776 kL_101 vX7_set iX7_set ⟨by decide, by decide⟩ ⟨rfl, rfl⟩ (by decide) rfl (Nat.le_of_ble_eq_true rfl) hc.1.t (kf_set hc wa (fun μ1 x1 hc1 fx1 => ?_))
  refine pw_top (se_v hk hv).1 ?_
  have hl1 : LU True μ1 p (aB A) μ1 := hl.mv (fun a a1 a2 => fx1 a (by omega) (by omega))
  refine pw_aload_7 dL_law_779 ?_
  refine pw_iload_12 dL_law_781 ?_
  refine pw_ialdN dL_law_783 hs.t (by omega) (by decide) ?_
  refine pw_top (hl1.t (k := k) (by omega)) ?_
  refine pw_icmp_ne 791 dL_law_784 (by decide) (fun hh => absurd rfl hh) (fun _ => ?_)
  refine pw_iconst (v := nI 1) dL_law_787 (by decide) ?_
  refine pw_goto 792 dL_law_788 (by decide) ?_
  refine pw_istore_11 dL_law_792 (by decide) ?_
  refine pw_aload_7 dL_law_794 ?_
  refine pw_iload_12 dL_law_796 ?_
  refine pw_iload_13 dL_law_798 ?_
  refine pw_iastN dL_law_800 hs.t (by omega) (by decide) ?_
  refine pw_gen (P := LU True μ1 p (setG (aB A) k (nI v))) (hl1.wT k (by omega)) (fun ν hlv => ?_)
  refine pw_iconst (v := nI 0) dL_law_801 (by decide) ?_
  refine pw_istore_14 dL_law_802 (by decide) ?_
  have hnC : nS (setG (aB A) k (nI v)) = n := (nS_setG _ _ (by omega)).trans gd.hn
  have hg6 : ∀ i, bG (itr clS i (setG (aB A) k (nI v))) 6 = nI n := fun i => by rw [clk_G, bG_setG, upd_n _ _ (by omega)]; exact gd.g6
  refine pw_fg (ls' := [some (.ref (cxS X).1), some (.ref o), some (.ref p), some (.ref (p + 1)), some (.ref (p + 2)), some (.ref (p + 3)), some (.ref (p + 4)), some (.ref (p + 5)), some (.int (nI e)), none, none, some (.int (nI 1)), some (.int (nI k)), some (.int (nI v)), some (.int (nI 0)), none, none]) ⟨Or.inr rfl, Or.inr rfl, Or.inr rfl, Or.inr rfl, Or.inr rfl, Or.inr rfl, Or.inr rfl, Or.inr rfl, Or.inr rfl, Or.inl rfl, Or.inl rfl, Or.inr rfl, Or.inr rfl, Or.inr rfl, Or.inr rfl, Or.inl rfl, Or.inl rfl, trivial⟩ ?_
  refine pw_up (P := fun i => ∀ ν, LU True μ1 p (itr clS i (setG (aB A) k (nI v))) ν → PW X mL_law b1 b2 804 [some (.ref (cxS X).1), some (.ref o), some (.ref p), some (.ref (p + 1)), some (.ref (p + 2)), some (.ref (p + 3)), some (.ref (p + 4)), some (.ref (p + 5)), some (.int (nI e)), none, none, some (.int (nI 1)), some (.int (nI k)), some (.int (nI v)), some (.int (nI i)), none, none] [] σ ν (LI Q)) n ?_ ?_ 0 (Nat.zero_le _) _ hlv
  · intro ν hlk
    refine pw_iload_14 dL_law_804 ?_
    refine pw_aload_7 dL_law_806 ?_
    refine pw_bipush (v := nI 6) dL_law_808 (by decide) ?_
    refine pw_ialdN dL_law_810 hs.t (by omega) (by decide) ?_
    refine pw_top ((hlk.t (by omega)).trans (hg6 n)) ?_
    refine pw_icmp_ge 855 dL_law_811 (by decide) (fun _ => ?_) (fun hh => absurd (by rw [nI_leI (by omega) (by omega)]; omega) hh)
    refine pw_goto 943 dL_law_855 (by decide) ?_
    have eB : aB (upA A (seR (aB A) (nI k) (nI v)) (seN (aB A) (nI k) (nI v))) = seB (aB A) k (nI v) := (up_B (fun h95 => se_neg gd.wf h95)).trans (se_v hk hv).2
    have eC : itr clS n (setG (aB A) k (nI v)) = seB (aB A) k (nI v) := by unfold seB; rw [gd.hn]
    rw [eC] at hlk
    have hno1 : ∀ k', aS (upA A (seR (aB A) (nI k) (nI v)) (seN (aB A) (nI k) (nI v))) k' = none := fun k' => by rw [up_S]; exact hno k'
    refine pw_fg (ls' := [some (.ref (cxS X).1), some (.ref o), some (.ref p), some (.ref (p + 1)), some (.ref (p + 2)), some (.ref (p + 3)), some (.ref (p + 4)), some (.ref (p + 5)), some (.int (nI e)), none, none, some (.int (nI 1)), none, none, none, none, none]) ⟨Or.inr rfl, Or.inr rfl, Or.inr rfl, Or.inr rfl, Or.inr rfl, Or.inr rfl, Or.inr rfl, Or.inr rfl, Or.inr rfl, Or.inl rfl, Or.inl rfl, Or.inr rfl, Or.inl rfl, Or.inl rfl, Or.inl rfl, Or.inl rfl, Or.inl rfl, trivial⟩ ?_
    refine K _ _ _ n (hc1.mv hno1 (fun a ha => hlk.out (Or.inl (by omega)))) hno1 (wa_se wa) ?_ ?_ ?_ (Or.inl hn2)
    · rw [eB]
      exact hlk.mv (fun _ _ _ => rfl)
    · rw [eB]
      exact gd.se hv hk
    · rw [eB]
      exact (ht.mono (by omega)).eq (by rw [← eC, clk_G, bG_setG, upd_n _ _ (by omega)])
  · intro i hi ih ν hlk
    have hg6i := hg6 i
    have ih2 : ∀ ν, LU True μ1 p (clS i (itr clS i (setG (aB A) k (nI v)))) ν → PW X mL_law b1 b2 804 [some (.ref (cxS X).1), some (.ref o), some (.ref p), some (.ref (p + 1)), some (.ref (p + 2)), some (.ref (p + 3)), some (.ref (p + 4)), some (.ref (p + 5)), some (.int (nI e)), none, none, some (.int (nI 1)), some (.int (nI k)), some (.int (nI v)), some (.int (nI (i + 1))), none, none] [] σ ν (LI Q) := ih
    clear ih
    generalize itr clS i (setG (aB A) k (nI v)) = D at hlk ih2 hg6i
    refine pw_iload_14 dL_law_804 ?_
    refine pw_aload_7 dL_law_806 ?_
    refine pw_bipush (v := nI 6) dL_law_808 (by decide) ?_
    refine pw_ialdN dL_law_810 hs.t (by omega) (by decide) ?_
    refine pw_top ((hlk.t (by omega)).trans hg6i) ?_
    refine pw_icmp_ge 855 dL_law_811 (by decide) (fun hh => absurd hh (by rw [nI_leI (by omega) (by omega)]; omega)) (fun _ => ?_)
    refine pw_aload_2 dL_law_814 ?_
    refine pw_bipush (v := nI 8) dL_law_815 (by decide) ?_
    refine pw_iload_14 dL_law_817 ?_
    refine pw_iaddN dL_law_819 ?_
    refine pw_aload_2 dL_law_820 ?_
    refine pw_bipush (v := nI 8) dL_law_821 (by decide) ?_
    refine pw_iload_14 dL_law_823 ?_
    refine pw_iaddN dL_law_825 ?_
    refine pw_ialdN dL_law_826 hs.a (by omega) (by decide) ?_
    refine pw_top (hlk.a1 (i := i) (by omega) (by omega)) ?_
    refine pw_aload_7 dL_law_827 ?_
    refine pw_iconst (v := nI 1) dL_law_829 (by decide) ?_
    refine pw_ialdN dL_law_830 hs.t (by omega) (by decide) ?_
    refine pw_top (hlk.t (k := 1) (by omega)) ?_
    refine pw_icmp_le 841 dL_law_831 (by decide) (fun h1 => ?_) (fun h1 => ?_)
    · skip
      refine pw_aload_2 dL_law_841 ?_
      refine pw_bipush (v := nI 8) dL_law_842 (by decide) ?_
      refine pw_iload_14 dL_law_844 ?_
      refine pw_iaddN dL_law_846 ?_
      refine pw_ialdN dL_law_847 hs.a (by omega) (by decide) ?_
      refine pw_top (hlk.a1 (i := i) (by omega) (by omega)) ?_
      refine pw_iastN dL_law_848 hs.a (by omega) (by decide) ?_
      refine pw_gen (P := LU True μ1 p (setS D i (upd (bS D i) 1 (bS D i 1)))) ((hlk.self i).wA 1 1 (by omega) (by omega) (by omega) rfl (by omega) (aV_s (d := 1) (by omega))) (fun μ1 hl1 => ?_)
      refine pw_iincN_14 dL_law_849 (by decide) ?_
      refine pw_goto 804 dL_law_852 (by decide) ?_
      refine pw_fg (ls' := [some (.ref (cxS X).1), some (.ref o), some (.ref p), some (.ref (p + 1)), some (.ref (p + 2)), some (.ref (p + 3)), some (.ref (p + 4)), some (.ref (p + 5)), some (.int (nI e)), none, none, some (.int (nI 1)), some (.int (nI k)), some (.int (nI v)), some (.int (nI (i + 1))), none, none]) ⟨Or.inr rfl, Or.inr rfl, Or.inr rfl, Or.inr rfl, Or.inr rfl, Or.inr rfl, Or.inr rfl, Or.inr rfl, Or.inr rfl, Or.inl rfl, Or.inl rfl, Or.inr rfl, Or.inr rfl, Or.inr rfl, Or.inr rfl, Or.inl rfl, Or.inl rfl, trivial⟩ ?_
      refine ih2 _ ?_
      have e9 : clS i D = setS D i (upd (bS D i) 1 (bS D i 1)) := by
        unfold clS
        rw [if_neg (Int32.not_lt.mpr h1)]
      rw [e9]
      exact hl1
    · skip
      refine pw_aload_7 dL_law_834 ?_
      refine pw_iconst (v := nI 1) dL_law_836 (by decide) ?_
      refine pw_ialdN dL_law_837 hs.t (by omega) (by decide) ?_
      refine pw_top (hlk.t (k := 1) (by omega)) ?_
      refine pw_goto 848 dL_law_838 (by decide) ?_
      refine pw_iastN dL_law_848 hs.a (by omega) (by decide) ?_
      refine pw_gen (P := LU True μ1 p (setS D i (upd (bS D i) 1 (bG D 1)))) ((hlk.self i).wA 1 1 (by omega) (by omega) (by omega) rfl (by omega) (aV_s (d := 1) (by omega))) (fun μ2 hl2 => ?_)
      refine pw_iincN_14 dL_law_849 (by decide) ?_
      refine pw_goto 804 dL_law_852 (by decide) ?_
      refine pw_fg (ls' := [some (.ref (cxS X).1), some (.ref o), some (.ref p), some (.ref (p + 1)), some (.ref (p + 2)), some (.ref (p + 3)), some (.ref (p + 4)), some (.ref (p + 5)), some (.int (nI e)), none, none, some (.int (nI 1)), some (.int (nI k)), some (.int (nI v)), some (.int (nI (i + 1))), none, none]) ⟨Or.inr rfl, Or.inr rfl, Or.inr rfl, Or.inr rfl, Or.inr rfl, Or.inr rfl, Or.inr rfl, Or.inr rfl, Or.inr rfl, Or.inl rfl, Or.inl rfl, Or.inr rfl, Or.inr rfl, Or.inr rfl, Or.inr rfl, Or.inl rfl, Or.inl rfl, trivial⟩ ?_
      refine ih2 _ ?_
      have e9 : clS i D = setS D i (upd (bS D i) 1 (bG D 1)) := by
        unfold clS
        rw [if_pos (Int32.not_le.mp h1)]
      rw [e9]
      exact hl2
set_option maxRecDepth 100000 in
set_option maxHeartbeats 4000000 in
theorem law_se {X : Cx} {σ : Sp} {μ : Mm} {Q : Int32 → Sp → Mm → Prop} {b1 b2 : Nat} {o x9 p n e : Nat} {hx0 : Int32} {A : Aw} (hc : CX σ μ o x9 A) (hno : ∀ k, aS A k = none) (wa : WA A) (hs : ShL σ p) (hl : LU True μ p (aB A) μ) (gd : GDn n (aB A)) (ht : WT (60 * e) (aB A)) (hop : p = o + 565) (he : e < 60) (K : ∀ μ' x' A' n', CX σ μ' o x' A' → (∀ k, aS A' k = none) → WA A' → LU True μ' p (aB A') μ' → GDn n' (aB A') → WT (60 * (e + 1)) (aB A') → (2 ≤ n' ∨ e + 1 ≤ n') → PW X mL_law b1 b2 943 [some (.ref (cxS X).1), some (.ref o), some (.ref p), some (.ref (p + 1)), some (.ref (p + 2)), some (.ref (p + 3)), some (.ref (p + 4)), some (.ref (p + 5)), some (.int (nI e)), none, none, some (.int (nI 1)), none, none, none, none, none] [] σ μ' (LI Q)) (hn2 : 2 ≤ n) : PW X mL_law b1 b2 671 [some (.ref (cxS X).1), some (.ref o), some (.ref p), some (.ref (p + 1)), some (.ref (p + 2)), some (.ref (p + 3)), some (.ref (p + 4)), some (.ref (p + 5)), some (.int (nI e)), some (.int hx0), none, none, none, none, none, none, none] [] σ μ (LI Q) := by
  have h8 := gd.n8
  have w9 := gd.wf
  refine pw_iload_9 dL_law_671 ?_
  refine pw_iconst (v := nI 4) dL_law_673 (by decide) ?_
  refine pw_ishr dL_law_674 ?_
  refine pw_iconst (v := nI 5) dL_law_675 (by decide) ?_
  refine pw_cS2i dL_law_676 kL_59 vL_low sL_low ⟨by decide, by decide⟩ ⟨rfl, rfl⟩ (Nat.le_of_ble_eq_true rfl) (c_low (by omega) (by omega) (fun j1 j1b => ?_))
  refine pw_istore_12 dL_law_679 (by decide) ?_
  rcases (by omega : j1 = 0 ∨ j1 = 1 ∨ j1 = 2 ∨ j1 = 3 ∨ j1 = 4) with ek | ek | ek | ek | ek
  · skip
    subst ek
    refine pw_iload_12 dL_law_681 ?_
    refine pw_if_ne 701 dL_law_683 (by decide) (fun hh => absurd hh (by decide)) (fun _ => ?_)
    refine pw_iconst (v := nI 1) dL_law_686 (by decide) ?_
    refine pw_iload_9 dL_law_687 ?_
    refine pw_bipush (v := nI 7) dL_law_689 (by decide) ?_
    refine pw_ishr dL_law_691 ?_
    refine pw_bipush (v := nI 20) dL_law_692 (by decide) ?_
    refine pw_cS2i dL_law_694 kL_59 vL_low sL_low ⟨by decide, by decide⟩ ⟨rfl, rfl⟩ (Nat.le_of_ble_eq_true rfl) (c_low (by omega) (by omega) (fun j2 j2b => ?_))
    refine pw_iaddN dL_law_697 ?_
    refine pw_goto 769 dL_law_698 (by decide) ?_
    refine pw_istore_13 dL_law_769 (by decide) ?_
    refine pw_fg (ls' := [some (.ref (cxS X).1), some (.ref o), some (.ref p), some (.ref (p + 1)), some (.ref (p + 2)), some (.ref (p + 3)), some (.ref (p + 4)), some (.ref (p + 5)), some (.int (nI e)), none, none, none, some (.int (nI 0)), some (.int (nI (1 + j2))), none, none, none]) ⟨Or.inr rfl, Or.inr rfl, Or.inr rfl, Or.inr rfl, Or.inr rfl, Or.inr rfl, Or.inr rfl, Or.inr rfl, Or.inr rfl, Or.inl rfl, Or.inl rfl, Or.inl rfl, Or.inr rfl, Or.inr rfl, Or.inl rfl, Or.inl rfl, Or.inl rfl, trivial⟩ ?_
    exact law_se2 (hx0 := hx0) hc hno wa hs hl gd ht hop he K hn2 (k := 0) (v := 1 + j2) (by omega) (seP_ok (by omega) (by omega)) (by omega)
  · skip
    subst ek
    refine pw_iload_12 dL_law_681 ?_
    refine pw_if_ne 701 dL_law_683 (by decide) (fun _ => ?_) (fun hh => absurd hh (by decide))
    refine pw_iload_12 dL_law_701 ?_
    refine pw_iconst (v := nI 1) dL_law_703 (by decide) ?_
    refine pw_icmp_ne 722 dL_law_704 (by decide) (fun hh => absurd hh (by decide)) (fun _ => ?_)
    refine pw_iconst (v := nI 2) dL_law_707 (by decide) ?_
    refine pw_iload_9 dL_law_708 ?_
    refine pw_bipush (v := nI 7) dL_law_710 (by decide) ?_
    refine pw_ishr dL_law_712 ?_
    refine pw_bipush (v := nI 98) dL_law_713 (by decide) ?_
    refine pw_cS2i dL_law_715 kL_59 vL_low sL_low ⟨by decide, by decide⟩ ⟨rfl, rfl⟩ (Nat.le_of_ble_eq_true rfl) (c_low (by omega) (by omega) (fun j3 j3b => ?_))
    refine pw_iaddN dL_law_718 ?_
    refine pw_goto 769 dL_law_719 (by decide) ?_
    refine pw_istore_13 dL_law_769 (by decide) ?_
    refine pw_fg (ls' := [some (.ref (cxS X).1), some (.ref o), some (.ref p), some (.ref (p + 1)), some (.ref (p + 2)), some (.ref (p + 3)), some (.ref (p + 4)), some (.ref (p + 5)), some (.int (nI e)), none, none, none, some (.int (nI 1)), some (.int (nI (2 + j3))), none, none, none]) ⟨Or.inr rfl, Or.inr rfl, Or.inr rfl, Or.inr rfl, Or.inr rfl, Or.inr rfl, Or.inr rfl, Or.inr rfl, Or.inr rfl, Or.inl rfl, Or.inl rfl, Or.inl rfl, Or.inr rfl, Or.inr rfl, Or.inl rfl, Or.inl rfl, Or.inl rfl, trivial⟩ ?_
    exact law_se2 (hx0 := hx0) hc hno wa hs hl gd ht hop he K hn2 (k := 1) (v := 2 + j3) (by omega) (seP_ok (by omega) (by omega)) (by omega)
  · skip
    subst ek
    refine pw_iload_12 dL_law_681 ?_
    refine pw_if_ne 701 dL_law_683 (by decide) (fun _ => ?_) (fun hh => absurd hh (by decide))
    refine pw_iload_12 dL_law_701 ?_
    refine pw_iconst (v := nI 1) dL_law_703 (by decide) ?_
    refine pw_icmp_ne 722 dL_law_704 (by decide) (fun _ => ?_) (fun hh => absurd hh (by decide))
    refine pw_iload_12 dL_law_722 ?_
    refine pw_iconst (v := nI 4) dL_law_724 (by decide) ?_
    refine pw_icmp_ne 743 dL_law_725 (by decide) (fun _ => ?_) (fun hh => absurd hh (by decide))
    refine pw_iload_9 dL_law_743 ?_
    refine pw_bipush (v := nI 7) dL_law_745 (by decide) ?_
    refine pw_ishr dL_law_747 ?_
    refine pw_iload_9 dL_law_748 ?_
    refine pw_bipush (v := nI 12) dL_law_750 (by decide) ?_
    refine pw_ishr dL_law_752 ?_
    refine pw_iconst (v := nI 2) dL_law_753 (by decide) ?_
    refine pw_cS2i dL_law_754 kL_59 vL_low sL_low ⟨by decide, by decide⟩ ⟨rfl, rfl⟩ (Nat.le_of_ble_eq_true rfl) (c_low (by omega) (by omega) (fun j4 j4b => ?_))
    refine pw_if_ne 765 dL_law_757 (by decide) (fun h5 => ?_) (fun h5 => ?_)
    · skip
      refine pw_iconst (v := nI 3) dL_law_765 (by decide) ?_
      refine pw_cS2i dL_law_766 kL_59 vL_low sL_low ⟨by decide, by decide⟩ ⟨rfl, rfl⟩ (Nat.le_of_ble_eq_true rfl) (c_low (by omega) (by omega) (fun j6 j6b => ?_))
      refine pw_istore_13 dL_law_769 (by decide) ?_
      refine pw_fg (ls' := [some (.ref (cxS X).1), some (.ref o), some (.ref p), some (.ref (p + 1)), some (.ref (p + 2)), some (.ref (p + 3)), some (.ref (p + 4)), some (.ref (p + 5)), some (.int (nI e)), none, none, none, some (.int (nI 2)), some (.int (nI j6)), none, none, none]) ⟨Or.inr rfl, Or.inr rfl, Or.inr rfl, Or.inr rfl, Or.inr rfl, Or.inr rfl, Or.inr rfl, Or.inr rfl, Or.inr rfl, Or.inl rfl, Or.inl rfl, Or.inl rfl, Or.inr rfl, Or.inr rfl, Or.inl rfl, Or.inl rfl, Or.inl rfl, trivial⟩ ?_
      exact law_se2 (hx0 := hx0) hc hno wa hs hl gd ht hop he K hn2 (k := 2) (v := j6) (by omega) (seP_ok (by omega) (by omega)) (by omega)
    · skip
      refine pw_bipush (v := nI 10) dL_law_760 (by decide) ?_
      refine pw_goto 766 dL_law_762 (by decide) ?_
      refine pw_cS2i dL_law_766 kL_59 vL_low sL_low ⟨by decide, by decide⟩ ⟨rfl, rfl⟩ (Nat.le_of_ble_eq_true rfl) (c_low (by omega) (by omega) (fun j7 j7b => ?_))
      refine pw_istore_13 dL_law_769 (by decide) ?_
      refine pw_fg (ls' := [some (.ref (cxS X).1), some (.ref o), some (.ref p), some (.ref (p + 1)), some (.ref (p + 2)), some (.ref (p + 3)), some (.ref (p + 4)), some (.ref (p + 5)), some (.int (nI e)), none, none, none, some (.int (nI 2)), some (.int (nI j7)), none, none, none]) ⟨Or.inr rfl, Or.inr rfl, Or.inr rfl, Or.inr rfl, Or.inr rfl, Or.inr rfl, Or.inr rfl, Or.inr rfl, Or.inr rfl, Or.inl rfl, Or.inl rfl, Or.inl rfl, Or.inr rfl, Or.inr rfl, Or.inl rfl, Or.inl rfl, Or.inl rfl, trivial⟩ ?_
      exact law_se2 (hx0 := hx0) hc hno wa hs hl gd ht hop he K hn2 (k := 2) (v := j7) (by omega) (seP_ok (by omega) (by omega)) (by omega)
  · skip
    subst ek
    refine pw_iload_12 dL_law_681 ?_
    refine pw_if_ne 701 dL_law_683 (by decide) (fun _ => ?_) (fun hh => absurd hh (by decide))
    refine pw_iload_12 dL_law_701 ?_
    refine pw_iconst (v := nI 1) dL_law_703 (by decide) ?_
    refine pw_icmp_ne 722 dL_law_704 (by decide) (fun _ => ?_) (fun hh => absurd hh (by decide))
    refine pw_iload_12 dL_law_722 ?_
    refine pw_iconst (v := nI 4) dL_law_724 (by decide) ?_
    refine pw_icmp_ne 743 dL_law_725 (by decide) (fun _ => ?_) (fun hh => absurd hh (by decide))
    refine pw_iload_9 dL_law_743 ?_
    refine pw_bipush (v := nI 7) dL_law_745 (by decide) ?_
    refine pw_ishr dL_law_747 ?_
    refine pw_iload_9 dL_law_748 ?_
    refine pw_bipush (v := nI 12) dL_law_750 (by decide) ?_
    refine pw_ishr dL_law_752 ?_
    refine pw_iconst (v := nI 2) dL_law_753 (by decide) ?_
    refine pw_cS2i dL_law_754 kL_59 vL_low sL_low ⟨by decide, by decide⟩ ⟨rfl, rfl⟩ (Nat.le_of_ble_eq_true rfl) (c_low (by omega) (by omega) (fun j8 j8b => ?_))
    refine pw_if_ne 765 dL_law_757 (by decide) (fun h9 => ?_) (fun h9 => ?_)
    · skip
      refine pw_iconst (v := nI 3) dL_law_765 (by decide) ?_
      refine pw_cS2i dL_law_766 kL_59 vL_low sL_low ⟨by decide, by decide⟩ ⟨rfl, rfl⟩ (Nat.le_of_ble_eq_true rfl) (c_low (by omega) (by omega) (fun j10 j10b => ?_))
      refine pw_istore_13 dL_law_769 (by decide) ?_
      refine pw_fg (ls' := [some (.ref (cxS X).1), some (.ref o), some (.ref p), some (.ref (p + 1)), some (.ref (p + 2)), some (.ref (p + 3)), some (.ref (p + 4)), some (.ref (p + 5)), some (.int (nI e)), none, none, none, some (.int (nI 3)), some (.int (nI j10)), none, none, none]) ⟨Or.inr rfl, Or.inr rfl, Or.inr rfl, Or.inr rfl, Or.inr rfl, Or.inr rfl, Or.inr rfl, Or.inr rfl, Or.inr rfl, Or.inl rfl, Or.inl rfl, Or.inl rfl, Or.inr rfl, Or.inr rfl, Or.inl rfl, Or.inl rfl, Or.inl rfl, trivial⟩ ?_
      exact law_se2 (hx0 := hx0) hc hno wa hs hl gd ht hop he K hn2 (k := 3) (v := j10) (by omega) (seP_ok (by omega) (by omega)) (by omega)
    · skip
      refine pw_bipush (v := nI 10) dL_law_760 (by decide) ?_
      refine pw_goto 766 dL_law_762 (by decide) ?_
      refine pw_cS2i dL_law_766 kL_59 vL_low sL_low ⟨by decide, by decide⟩ ⟨rfl, rfl⟩ (Nat.le_of_ble_eq_true rfl) (c_low (by omega) (by omega) (fun j11 j11b => ?_))
      refine pw_istore_13 dL_law_769 (by decide) ?_
      refine pw_fg (ls' := [some (.ref (cxS X).1), some (.ref o), some (.ref p), some (.ref (p + 1)), some (.ref (p + 2)), some (.ref (p + 3)), some (.ref (p + 4)), some (.ref (p + 5)), some (.int (nI e)), none, none, none, some (.int (nI 3)), some (.int (nI j11)), none, none, none]) ⟨Or.inr rfl, Or.inr rfl, Or.inr rfl, Or.inr rfl, Or.inr rfl, Or.inr rfl, Or.inr rfl, Or.inr rfl, Or.inr rfl, Or.inl rfl, Or.inl rfl, Or.inl rfl, Or.inr rfl, Or.inr rfl, Or.inl rfl, Or.inl rfl, Or.inl rfl, trivial⟩ ?_
      exact law_se2 (hx0 := hx0) hc hno wa hs hl gd ht hop he K hn2 (k := 3) (v := j11) (by omega) (seP_ok (by omega) (by omega)) (by omega)
  · skip
    subst ek
    refine pw_iload_12 dL_law_681 ?_
    refine pw_if_ne 701 dL_law_683 (by decide) (fun _ => ?_) (fun hh => absurd hh (by decide))
    refine pw_iload_12 dL_law_701 ?_
    refine pw_iconst (v := nI 1) dL_law_703 (by decide) ?_
    refine pw_icmp_ne 722 dL_law_704 (by decide) (fun _ => ?_) (fun hh => absurd hh (by decide))
    refine pw_iload_12 dL_law_722 ?_
    refine pw_iconst (v := nI 4) dL_law_724 (by decide) ?_
    refine pw_icmp_ne 743 dL_law_725 (by decide) (fun hh => absurd hh (by decide)) (fun _ => ?_)
    refine pw_iconst (v := nI 1) dL_law_728 (by decide) ?_
    refine pw_iload_9 dL_law_729 ?_
    refine pw_bipush (v := nI 7) dL_law_731 (by decide) ?_
    refine pw_ishr dL_law_733 ?_
    refine pw_bipush (v := nI 9) dL_law_734 (by decide) ?_
    refine pw_cS2i dL_law_736 kL_59 vL_low sL_low ⟨by decide, by decide⟩ ⟨rfl, rfl⟩ (Nat.le_of_ble_eq_true rfl) (c_low (by omega) (by omega) (fun j12 j12b => ?_))
    refine pw_iaddN dL_law_739 ?_
    refine pw_goto 769 dL_law_740 (by decide) ?_
    refine pw_istore_13 dL_law_769 (by decide) ?_
    refine pw_fg (ls' := [some (.ref (cxS X).1), some (.ref o), some (.ref p), some (.ref (p + 1)), some (.ref (p + 2)), some (.ref (p + 3)), some (.ref (p + 4)), some (.ref (p + 5)), some (.int (nI e)), none, none, none, some (.int (nI 4)), some (.int (nI (1 + j12))), none, none, none]) ⟨Or.inr rfl, Or.inr rfl, Or.inr rfl, Or.inr rfl, Or.inr rfl, Or.inr rfl, Or.inr rfl, Or.inr rfl, Or.inr rfl, Or.inl rfl, Or.inl rfl, Or.inl rfl, Or.inr rfl, Or.inr rfl, Or.inl rfl, Or.inl rfl, Or.inl rfl, trivial⟩ ?_
    exact law_se2 (hx0 := hx0) hc hno wa hs hl gd ht hop he K hn2 (k := 4) (v := 1 + j12) (by omega) (seP_ok (by omega) (by omega)) (by omega)
set_option maxRecDepth 100000 in
set_option maxHeartbeats 4000000 in
theorem law_ps2 {X : Cx} {σ : Sp} {μ : Mm} {Q : Int32 → Sp → Mm → Prop} {b1 b2 : Nat} {o x9 p n e : Nat} {hx0 : Int32} {A : Aw} (hc : CX σ μ o x9 A) (hno : ∀ k, aS A k = none) (wa : WA A) (hs : ShL σ p) (hl : LU True μ p (aB A) μ) (gd : GDn n (aB A)) (ht : WT (60 * e) (aB A)) (hop : p = o + 565) (he : e < 60) (K : ∀ μ' x' A' n', CX σ μ' o x' A' → (∀ k, aS A' k = none) → WA A' → LU True μ' p (aB A') μ' → GDn n' (aB A') → WT (60 * (e + 1)) (aB A') → (2 ≤ n' ∨ e + 1 ≤ n') → PW X mL_law b1 b2 943 [some (.ref (cxS X).1), some (.ref o), some (.ref p), some (.ref (p + 1)), some (.ref (p + 2)), some (.ref (p + 3)), some (.ref (p + 4)), some (.ref (p + 5)), some (.int (nI e)), none, none, some (.int (nI 1)), none, none, none, none, none] [] σ μ' (LI Q)) (hn2 : 2 ≤ n) {b : Nat} (hb1 : 1 ≤ b) (hb2 : b ≤ 60) : PW X mL_law b1 b2 888 [some (.ref (cxS X).1), some (.ref o), some (.ref p), some (.ref (p + 1)), some (.ref (p + 2)), some (.ref (p + 3)), some (.ref (p + 4)), some (.ref (p + 5)), some (.int (nI e)), none, none, none, some (.int (nI b)), none, none, none, none] [] σ μ (LI Q) := by
  have h8 := gd.n8
  have w9 := gd.wf
  refine pw_iconst (v := nI 0) dL_law_888 (by decide) ?_
  refine pw_istore_13 dL_law_889 (by decide) ?_
  refine pw_iconst (v := nI 0) dL_law_891 (by decide) ?_
  refine pw_istore_14 dL_law_892 (by decide) ?_
  refine pw_fg (ls' := [some (.ref (cxS X).1), some (.ref o), some (.ref p), some (.ref (p + 1)), some (.ref (p + 2)), some (.ref (p + 3)), some (.ref (p + 4)), some (.ref (p + 5)), some (.int (nI e)), none, none, none, some (.int (nI b)), some (.int (nI ((btI 0 (aB A)).2))), some (.int (nI 0)), none, none]) ⟨Or.inr rfl, Or.inr rfl, Or.inr rfl, Or.inr rfl, Or.inr rfl, Or.inr rfl, Or.inr rfl, Or.inr rfl, Or.inr rfl, Or.inl rfl, Or.inl rfl, Or.inl rfl, Or.inr rfl, Or.inr rfl, Or.inr rfl, Or.inl rfl, Or.inl rfl, trivial⟩ ?_
  refine pw_up (P := fun k => ∀ ν, LU True μ p (bk (aB A) k) ν → PW X mL_law b1 b2 894 [some (.ref (cxS X).1), some (.ref o), some (.ref p), some (.ref (p + 1)), some (.ref (p + 2)), some (.ref (p + 3)), some (.ref (p + 4)), some (.ref (p + 5)), some (.int (nI e)), none, none, none, some (.int (nI b)), some (.int (nI ((btI k (aB A)).2))), some (.int (nI k)), none, none] [] σ ν (LI Q)) b ?_ ?_ 0 (Nat.zero_le _) _ hl
  · intro ν hlk
    obtain ⟨t, t1, t2⟩ := ht
    obtain ⟨gdb, htb⟩ := gd.bkk (m := t) ⟨t, Nat.le_refl _, t2⟩ b (by omega)
    refine pw_iload_14 dL_law_894 ?_
    refine pw_iload_12 dL_law_896 ?_
    refine pw_icmp_ge 925 dL_law_898 (by decide) (fun _ => ?_) (fun hh => absurd (by rw [nI_leI (by omega) (by omega)]; omega) hh)
    refine pw_aload_1 dL_law_925 ?_
    refine pw_iload_12 dL_law_926 ?_
    refine pw_cV1i 7 dL_law_928 kL_104 vX7_pass iX7_pass ⟨by decide, by decide⟩ ⟨rfl, rfl⟩ (by decide) rfl (Nat.le_of_ble_eq_true rfl) hc.1.t (kf_pass (hc.mv hno (fun a ha => hlk.out (Or.inl (by omega)))) wa (fun μ1 x1 hc1 fx1 => ?_))
    refine pw_top (ps_v hb1 hb2 t2 (by omega)).1 ?_
    refine pw_iload_13 dL_law_931 ?_
    refine pw_icmp_ne 940 dL_law_933 (by decide) (fun hh => absurd rfl hh) (fun _ => ?_)
    refine pw_iconst (v := nI 1) dL_law_936 (by decide) ?_
    refine pw_goto 941 dL_law_937 (by decide) ?_
    refine pw_istore_11 dL_law_941 (by decide) ?_
    have eB : aB (upA A (psR (aB A) (nI b)) (psN (aB A) (nI b))) = bk (aB A) b := (up_B (fun h95 => ps_neg gd.wf h95)).trans (ps_v hb1 hb2 t2 (by omega)).2
    refine pw_fg (ls' := [some (.ref (cxS X).1), some (.ref o), some (.ref p), some (.ref (p + 1)), some (.ref (p + 2)), some (.ref (p + 3)), some (.ref (p + 4)), some (.ref (p + 5)), some (.int (nI e)), none, none, some (.int (nI 1)), none, none, none, none, none]) ⟨Or.inr rfl, Or.inr rfl, Or.inr rfl, Or.inr rfl, Or.inr rfl, Or.inr rfl, Or.inr rfl, Or.inr rfl, Or.inr rfl, Or.inl rfl, Or.inl rfl, Or.inr rfl, Or.inl rfl, Or.inl rfl, Or.inl rfl, Or.inl rfl, Or.inl rfl, trivial⟩ ?_
    refine K _ _ _ n hc1 (fun k => by rw [up_S]; exact hno k) (wa_ps wa) ?_ ?_ ?_ (Or.inl hn2)
    · rw [eB]
      exact hlk.mv (fun a a1 a2 => fx1 a (by omega) (by omega))
    · rw [eB]
      exact gdb
    · rw [eB]
      exact (htb.mono (by omega))
  · intro k hk ihk ν hlk
    obtain ⟨gdk, htk⟩ := gd.bkk ht k (by omega)
    refine pw_iload_14 dL_law_894 ?_
    refine pw_iload_12 dL_law_896 ?_
    refine pw_icmp_ge 925 dL_law_898 (by decide) (fun hh => absurd hh (by rw [nI_leI (by omega) (by omega)]; omega)) (fun _ => ?_)
    refine pw_iload_13 dL_law_901 ?_
    refine pw_aload_2 dL_law_903 ?_
    refine pw_aload_3 dL_law_904 ?_
    refine pw_aload_4 dL_law_905 ?_
    refine pw_aload_5 dL_law_907 ?_
    refine pw_aload_6 dL_law_909 ?_
    refine pw_aload_7 dL_law_911 ?_
    refine pw_cS6i dL_law_913 kL_66 vL_beat sL_beat ⟨by decide, by decide⟩ ⟨rfl, rfl⟩ (Nat.le_of_ble_eq_true rfl) (k_beat hs hlk gdk htk (by omega) (fun ν3 hl3 => ?_))
    refine pw_iaddN dL_law_916 ?_
    refine pw_istore_13 dL_law_917 (by decide) ?_
    refine pw_iincN_14 dL_law_919 (by decide) ?_
    refine pw_goto 894 dL_law_922 (by decide) ?_
    exact ihk ν3 hl3
set_option maxRecDepth 100000 in
set_option maxHeartbeats 4000000 in
theorem law_ps {X : Cx} {σ : Sp} {μ : Mm} {Q : Int32 → Sp → Mm → Prop} {b1 b2 : Nat} {o x9 p n e : Nat} {hx0 : Int32} {A : Aw} (hc : CX σ μ o x9 A) (hno : ∀ k, aS A k = none) (wa : WA A) (hs : ShL σ p) (hl : LU True μ p (aB A) μ) (gd : GDn n (aB A)) (ht : WT (60 * e) (aB A)) (hop : p = o + 565) (he : e < 60) (K : ∀ μ' x' A' n', CX σ μ' o x' A' → (∀ k, aS A' k = none) → WA A' → LU True μ' p (aB A') μ' → GDn n' (aB A') → WT (60 * (e + 1)) (aB A') → (2 ≤ n' ∨ e + 1 ≤ n') → PW X mL_law b1 b2 943 [some (.ref (cxS X).1), some (.ref o), some (.ref p), some (.ref (p + 1)), some (.ref (p + 2)), some (.ref (p + 3)), some (.ref (p + 4)), some (.ref (p + 5)), some (.int (nI e)), none, none, some (.int (nI 1)), none, none, none, none, none] [] σ μ' (LI Q)) (hn2 : 2 ≤ n) : PW X mL_law b1 b2 858 [some (.ref (cxS X).1), some (.ref o), some (.ref p), some (.ref (p + 1)), some (.ref (p + 2)), some (.ref (p + 3)), some (.ref (p + 4)), some (.ref (p + 5)), some (.int (nI e)), some (.int hx0), none, none, none, none, none, none, none] [] σ μ (LI Q) := by
  have h8 := gd.n8
  have w9 := gd.wf
  refine pw_iconst (v := nI 1) dL_law_858 (by decide) ?_
  refine pw_iload_9 dL_law_859 ?_
  refine pw_iconst (v := nI 4) dL_law_861 (by decide) ?_
  refine pw_ishr dL_law_862 ?_
  refine pw_iload_9 dL_law_863 ?_
  refine pw_bipush (v := nI 12) dL_law_865 (by decide) ?_
  refine pw_ishr dL_law_867 ?_
  refine pw_iconst (v := nI 3) dL_law_868 (by decide) ?_
  refine pw_cS2i dL_law_869 kL_59 vL_low sL_low ⟨by decide, by decide⟩ ⟨rfl, rfl⟩ (Nat.le_of_ble_eq_true rfl) (c_low (by omega) (by omega) (fun j1 j1b => ?_))
  refine pw_if_ne 880 dL_law_872 (by decide) (fun h2 => ?_) (fun h2 => ?_)
  · skip
    refine pw_bipush (v := nI 12) dL_law_880 (by decide) ?_
    refine pw_cS2i dL_law_882 kL_59 vL_low sL_low ⟨by decide, by decide⟩ ⟨rfl, rfl⟩ (Nat.le_of_ble_eq_true rfl) (c_low (by omega) (by omega) (fun j3 j3b => ?_))
    refine pw_iaddN dL_law_885 ?_
    refine pw_istore_12 dL_law_886 (by decide) ?_
    refine pw_fg (ls' := [some (.ref (cxS X).1), some (.ref o), some (.ref p), some (.ref (p + 1)), some (.ref (p + 2)), some (.ref (p + 3)), some (.ref (p + 4)), some (.ref (p + 5)), some (.int (nI e)), none, none, none, some (.int (nI (1 + j3))), none, none, none, none]) ⟨Or.inr rfl, Or.inr rfl, Or.inr rfl, Or.inr rfl, Or.inr rfl, Or.inr rfl, Or.inr rfl, Or.inr rfl, Or.inr rfl, Or.inl rfl, Or.inl rfl, Or.inl rfl, Or.inr rfl, Or.inl rfl, Or.inl rfl, Or.inl rfl, Or.inl rfl, trivial⟩ ?_
    exact law_ps2 (hx0 := hx0) hc hno wa hs hl gd ht hop he K hn2 (b := 1 + j3) (by omega) (by omega)
  · skip
    refine pw_bipush (v := nI 60) dL_law_875 (by decide) ?_
    refine pw_goto 882 dL_law_877 (by decide) ?_
    refine pw_cS2i dL_law_882 kL_59 vL_low sL_low ⟨by decide, by decide⟩ ⟨rfl, rfl⟩ (Nat.le_of_ble_eq_true rfl) (c_low (by omega) (by omega) (fun j4 j4b => ?_))
    refine pw_iaddN dL_law_885 ?_
    refine pw_istore_12 dL_law_886 (by decide) ?_
    refine pw_fg (ls' := [some (.ref (cxS X).1), some (.ref o), some (.ref p), some (.ref (p + 1)), some (.ref (p + 2)), some (.ref (p + 3)), some (.ref (p + 4)), some (.ref (p + 5)), some (.int (nI e)), none, none, none, some (.int (nI (1 + j4))), none, none, none, none]) ⟨Or.inr rfl, Or.inr rfl, Or.inr rfl, Or.inr rfl, Or.inr rfl, Or.inr rfl, Or.inr rfl, Or.inr rfl, Or.inr rfl, Or.inl rfl, Or.inl rfl, Or.inl rfl, Or.inr rfl, Or.inl rfl, Or.inl rfl, Or.inl rfl, Or.inl rfl, trivial⟩ ?_
    exact law_ps2 (hx0 := hx0) hc hno wa hs hl gd ht hop he K hn2 (b := 1 + j4) (by omega) (by omega)
set_option maxRecDepth 100000 in
set_option maxHeartbeats 4000000 in
theorem law_wh {X : Cx} {σ : Sp} {μ : Mm} {Q : Int32 → Sp → Mm → Prop} {b1 b2 : Nat} {o x9 p n e : Nat} {hx0 : Int32} {A : Aw} (hc : CX σ μ o x9 A) (hno : ∀ k, aS A k = none) (wa : WA A) (hs : ShL σ p) (hl : LU True μ p (aB A) μ) (gd : GDn n (aB A)) (ht : WT (60 * e) (aB A)) (hop : p = o + 565) (he : e < 60) (K : ∀ μ' x' A' n', CX σ μ' o x' A' → (∀ k, aS A' k = none) → WA A' → LU True μ' p (aB A') μ' → GDn n' (aB A') → WT (60 * (e + 1)) (aB A') → (2 ≤ n' ∨ e + 1 ≤ n') → PW X mL_law b1 b2 943 [some (.ref (cxS X).1), some (.ref o), some (.ref p), some (.ref (p + 1)), some (.ref (p + 2)), some (.ref (p + 3)), some (.ref (p + 4)), some (.ref (p + 5)), some (.int (nI e)), none, none, some (.int (nI 1)), none, none, none, none, none] [] σ μ' (LI Q)) (hn0 : 2 ≤ n ∨ e ≤ n) : PW X mL_law b1 b2 86 [some (.ref (cxS X).1), some (.ref o), some (.ref p), some (.ref (p + 1)), some (.ref (p + 2)), some (.ref (p + 3)), some (.ref (p + 4)), some (.ref (p + 5)), some (.int (nI e)), some (.int hx0), none, none, none, none, none, none, none] [] σ μ (LI Q) := by
  have h8 := gd.n8
  have w9 := gd.wf
  refine pw_iload_9 dL_law_86 ?_
  refine pw_bipush (v := nI 16) dL_law_88 (by decide) ?_
  refine pw_cS2i dL_law_90 kL_59 vL_low sL_low ⟨by decide, by decide⟩ ⟨rfl, rfl⟩ (Nat.le_of_ble_eq_true rfl) (c_low (by omega) (by omega) (fun j1 j1b => ?_))
  refine pw_istore_10 dL_law_93 (by decide) ?_
  refine pw_iconst (v := nI 1) dL_law_95 (by decide) ?_
  refine pw_istore_11 dL_law_96 (by decide) ?_
  refine pw_iload_10 dL_law_98 ?_
  refine pw_iconst (v := nI 3) dL_law_100 (by decide) ?_
  refine pw_icmp_lt 113 dL_law_101 (by decide) (fun h2 => ?_) (fun h2 => ?_)
  · skip
    refine pw_aload_7 dL_law_113 ?_
    refine pw_bipush (v := nI 6) dL_law_115 (by decide) ?_
    refine pw_ialdN dL_law_117 hs.t (by omega) (by decide) ?_
    refine pw_top ((hl.t (by omega)).trans gd.g6) ?_
    refine pw_bipush (v := nI 8) dL_law_118 (by decide) ?_
    refine pw_icmp_ge 215 dL_law_120 (by decide) (fun h3 => ?_) (fun h3 => ?_)
    · skip
      refine pw_iload_10 dL_law_215 ?_
      refine pw_bipush (v := nI 8) dL_law_217 (by decide) ?_
      refine pw_icmp_ge 411 dL_law_219 (by decide) (fun h4 => ?_) (fun h4 => ?_)
      · skip
        refine pw_iload_10 dL_law_411 ?_
        refine pw_bipush (v := nI 8) dL_law_413 (by decide) ?_
        refine pw_icmp_ne 504 dL_law_415 (by decide) (fun h5 => ?_) (fun h5 => ?_)
        · skip
          refine pw_iload_10 dL_law_504 ?_
          refine pw_bipush (v := nI 9) dL_law_506 (by decide) ?_
          refine pw_icmp_ne 567 dL_law_508 (by decide) (fun h6 => ?_) (fun h6 => ?_)
          · skip
            refine pw_iload_10 dL_law_567 ?_
            refine pw_bipush (v := nI 10) dL_law_569 (by decide) ?_
            refine pw_icmp_ne 664 dL_law_571 (by decide) (fun h7 => ?_) (fun h7 => ?_)
            · skip
              refine pw_iload_10 dL_law_664 ?_
              refine pw_bipush (v := nI 11) dL_law_666 (by decide) ?_
              refine pw_icmp_ne 858 dL_law_668 (by decide) (fun h8 => ?_) (fun h8 => ?_)
              · skip
                refine pw_fg (ls' := [some (.ref (cxS X).1), some (.ref o), some (.ref p), some (.ref (p + 1)), some (.ref (p + 2)), some (.ref (p + 3)), some (.ref (p + 4)), some (.ref (p + 5)), some (.int (nI e)), some (.int hx0), none, none, none, none, none, none, none]) ⟨Or.inr rfl, Or.inr rfl, Or.inr rfl, Or.inr rfl, Or.inr rfl, Or.inr rfl, Or.inr rfl, Or.inr rfl, Or.inr rfl, Or.inr rfl, Or.inl rfl, Or.inl rfl, Or.inl rfl, Or.inl rfl, Or.inl rfl, Or.inl rfl, Or.inl rfl, trivial⟩ ?_
                exact law_ps hc hno wa hs hl gd ht hop he K (by have h95 := h3; rw [nI_leI (by omega) (by omega)] at h95; omega)
              · skip
                refine pw_fg (ls' := [some (.ref (cxS X).1), some (.ref o), some (.ref p), some (.ref (p + 1)), some (.ref (p + 2)), some (.ref (p + 3)), some (.ref (p + 4)), some (.ref (p + 5)), some (.int (nI e)), some (.int hx0), none, none, none, none, none, none, none]) ⟨Or.inr rfl, Or.inr rfl, Or.inr rfl, Or.inr rfl, Or.inr rfl, Or.inr rfl, Or.inr rfl, Or.inr rfl, Or.inr rfl, Or.inr rfl, Or.inl rfl, Or.inl rfl, Or.inl rfl, Or.inl rfl, Or.inl rfl, Or.inl rfl, Or.inl rfl, trivial⟩ ?_
                exact law_se hc hno wa hs hl gd ht hop he K (by have h95 := h3; rw [nI_leI (by omega) (by omega)] at h95; omega)
            · skip
              refine pw_fg (ls' := [some (.ref (cxS X).1), some (.ref o), some (.ref p), some (.ref (p + 1)), some (.ref (p + 2)), some (.ref (p + 3)), some (.ref (p + 4)), some (.ref (p + 5)), some (.int (nI e)), some (.int hx0), none, none, none, none, none, none, none]) ⟨Or.inr rfl, Or.inr rfl, Or.inr rfl, Or.inr rfl, Or.inr rfl, Or.inr rfl, Or.inr rfl, Or.inr rfl, Or.inr rfl, Or.inr rfl, Or.inl rfl, Or.inl rfl, Or.inl rfl, Or.inl rfl, Or.inl rfl, Or.inl rfl, Or.inl rfl, trivial⟩ ?_
              exact law_dz hc hno wa hs hl gd ht hop he K (by have h95 := h3; rw [nI_leI (by omega) (by omega)] at h95; omega)
          · skip
            refine pw_fg (ls' := [some (.ref (cxS X).1), some (.ref o), some (.ref p), some (.ref (p + 1)), some (.ref (p + 2)), some (.ref (p + 3)), some (.ref (p + 4)), some (.ref (p + 5)), some (.int (nI e)), some (.int hx0), none, none, none, none, none, none, none]) ⟨Or.inr rfl, Or.inr rfl, Or.inr rfl, Or.inr rfl, Or.inr rfl, Or.inr rfl, Or.inr rfl, Or.inr rfl, Or.inr rfl, Or.inr rfl, Or.inl rfl, Or.inl rfl, Or.inl rfl, Or.inl rfl, Or.inl rfl, Or.inl rfl, Or.inl rfl, trivial⟩ ?_
            exact law_sk hc hno wa hs hl gd ht hop he K (by have h95 := h3; rw [nI_leI (by omega) (by omega)] at h95; omega)
        · skip
          refine pw_fg (ls' := [some (.ref (cxS X).1), some (.ref o), some (.ref p), some (.ref (p + 1)), some (.ref (p + 2)), some (.ref (p + 3)), some (.ref (p + 4)), some (.ref (p + 5)), some (.int (nI e)), some (.int hx0), none, none, none, none, none, none, none]) ⟨Or.inr rfl, Or.inr rfl, Or.inr rfl, Or.inr rfl, Or.inr rfl, Or.inr rfl, Or.inr rfl, Or.inr rfl, Or.inr rfl, Or.inr rfl, Or.inl rfl, Or.inl rfl, Or.inl rfl, Or.inl rfl, Or.inl rfl, Or.inl rfl, Or.inl rfl, trivial⟩ ?_
          exact law_fg hc hno wa hs hl gd ht hop he K (by have h95 := h3; rw [nI_leI (by omega) (by omega)] at h95; omega)
      · skip
        refine pw_fg (ls' := [some (.ref (cxS X).1), some (.ref o), some (.ref p), some (.ref (p + 1)), some (.ref (p + 2)), some (.ref (p + 3)), some (.ref (p + 4)), some (.ref (p + 5)), some (.int (nI e)), some (.int hx0), none, none, none, none, none, none, none]) ⟨Or.inr rfl, Or.inr rfl, Or.inr rfl, Or.inr rfl, Or.inr rfl, Or.inr rfl, Or.inr rfl, Or.inr rfl, Or.inr rfl, Or.inr rfl, Or.inl rfl, Or.inl rfl, Or.inl rfl, Or.inl rfl, Or.inl rfl, Or.inl rfl, Or.inl rfl, trivial⟩ ?_
        exact law_wd hc hno wa hs hl gd ht hop he K (by have h95 := h3; rw [nI_leI (by omega) (by omega)] at h95; omega)
    · skip
      refine pw_fg (ls' := [some (.ref (cxS X).1), some (.ref o), some (.ref p), some (.ref (p + 1)), some (.ref (p + 2)), some (.ref (p + 3)), some (.ref (p + 4)), some (.ref (p + 5)), some (.int (nI e)), some (.int hx0), none, none, none, none, none, none, none]) ⟨Or.inr rfl, Or.inr rfl, Or.inr rfl, Or.inr rfl, Or.inr rfl, Or.inr rfl, Or.inr rfl, Or.inr rfl, Or.inr rfl, Or.inr rfl, Or.inl rfl, Or.inl rfl, Or.inl rfl, Or.inl rfl, Or.inl rfl, Or.inl rfl, Or.inl rfl, trivial⟩ ?_
      exact law_st hc hno wa hs hl gd ht hop he K (by have h95 := h3; rw [nI_leI (by omega) (by omega)] at h95; omega) hn0
  · skip
    refine pw_aload_7 dL_law_104 ?_
    refine pw_bipush (v := nI 6) dL_law_106 (by decide) ?_
    refine pw_ialdN dL_law_108 hs.t (by omega) (by decide) ?_
    refine pw_top ((hl.t (by omega)).trans gd.g6) ?_
    refine pw_iconst (v := nI 2) dL_law_109 (by decide) ?_
    refine pw_icmp_ge 215 dL_law_110 (by decide) (fun h9 => ?_) (fun h9 => ?_)
    · skip
      refine pw_iload_10 dL_law_215 ?_
      refine pw_bipush (v := nI 8) dL_law_217 (by decide) ?_
      refine pw_icmp_ge 411 dL_law_219 (by decide) (fun h10 => ?_) (fun h10 => ?_)
      · skip
        refine pw_iload_10 dL_law_411 ?_
        refine pw_bipush (v := nI 8) dL_law_413 (by decide) ?_
        refine pw_icmp_ne 504 dL_law_415 (by decide) (fun h11 => ?_) (fun h11 => ?_)
        · skip
          refine pw_iload_10 dL_law_504 ?_
          refine pw_bipush (v := nI 9) dL_law_506 (by decide) ?_
          refine pw_icmp_ne 567 dL_law_508 (by decide) (fun h12 => ?_) (fun h12 => ?_)
          · skip
            refine pw_iload_10 dL_law_567 ?_
            refine pw_bipush (v := nI 10) dL_law_569 (by decide) ?_
            refine pw_icmp_ne 664 dL_law_571 (by decide) (fun h13 => ?_) (fun h13 => ?_)
            · skip
              refine pw_iload_10 dL_law_664 ?_
              refine pw_bipush (v := nI 11) dL_law_666 (by decide) ?_
              refine pw_icmp_ne 858 dL_law_668 (by decide) (fun h14 => ?_) (fun h14 => ?_)
              · skip
                refine pw_fg (ls' := [some (.ref (cxS X).1), some (.ref o), some (.ref p), some (.ref (p + 1)), some (.ref (p + 2)), some (.ref (p + 3)), some (.ref (p + 4)), some (.ref (p + 5)), some (.int (nI e)), some (.int hx0), none, none, none, none, none, none, none]) ⟨Or.inr rfl, Or.inr rfl, Or.inr rfl, Or.inr rfl, Or.inr rfl, Or.inr rfl, Or.inr rfl, Or.inr rfl, Or.inr rfl, Or.inr rfl, Or.inl rfl, Or.inl rfl, Or.inl rfl, Or.inl rfl, Or.inl rfl, Or.inl rfl, Or.inl rfl, trivial⟩ ?_
                exact law_ps hc hno wa hs hl gd ht hop he K (by have h95 := h9; rw [nI_leI (by omega) (by omega)] at h95; omega)
              · skip
                refine pw_fg (ls' := [some (.ref (cxS X).1), some (.ref o), some (.ref p), some (.ref (p + 1)), some (.ref (p + 2)), some (.ref (p + 3)), some (.ref (p + 4)), some (.ref (p + 5)), some (.int (nI e)), some (.int hx0), none, none, none, none, none, none, none]) ⟨Or.inr rfl, Or.inr rfl, Or.inr rfl, Or.inr rfl, Or.inr rfl, Or.inr rfl, Or.inr rfl, Or.inr rfl, Or.inr rfl, Or.inr rfl, Or.inl rfl, Or.inl rfl, Or.inl rfl, Or.inl rfl, Or.inl rfl, Or.inl rfl, Or.inl rfl, trivial⟩ ?_
                exact law_se hc hno wa hs hl gd ht hop he K (by have h95 := h9; rw [nI_leI (by omega) (by omega)] at h95; omega)
            · skip
              refine pw_fg (ls' := [some (.ref (cxS X).1), some (.ref o), some (.ref p), some (.ref (p + 1)), some (.ref (p + 2)), some (.ref (p + 3)), some (.ref (p + 4)), some (.ref (p + 5)), some (.int (nI e)), some (.int hx0), none, none, none, none, none, none, none]) ⟨Or.inr rfl, Or.inr rfl, Or.inr rfl, Or.inr rfl, Or.inr rfl, Or.inr rfl, Or.inr rfl, Or.inr rfl, Or.inr rfl, Or.inr rfl, Or.inl rfl, Or.inl rfl, Or.inl rfl, Or.inl rfl, Or.inl rfl, Or.inl rfl, Or.inl rfl, trivial⟩ ?_
              exact law_dz hc hno wa hs hl gd ht hop he K (by have h95 := h9; rw [nI_leI (by omega) (by omega)] at h95; omega)
          · skip
            refine pw_fg (ls' := [some (.ref (cxS X).1), some (.ref o), some (.ref p), some (.ref (p + 1)), some (.ref (p + 2)), some (.ref (p + 3)), some (.ref (p + 4)), some (.ref (p + 5)), some (.int (nI e)), some (.int hx0), none, none, none, none, none, none, none]) ⟨Or.inr rfl, Or.inr rfl, Or.inr rfl, Or.inr rfl, Or.inr rfl, Or.inr rfl, Or.inr rfl, Or.inr rfl, Or.inr rfl, Or.inr rfl, Or.inl rfl, Or.inl rfl, Or.inl rfl, Or.inl rfl, Or.inl rfl, Or.inl rfl, Or.inl rfl, trivial⟩ ?_
            exact law_sk hc hno wa hs hl gd ht hop he K (by have h95 := h9; rw [nI_leI (by omega) (by omega)] at h95; omega)
        · skip
          refine pw_fg (ls' := [some (.ref (cxS X).1), some (.ref o), some (.ref p), some (.ref (p + 1)), some (.ref (p + 2)), some (.ref (p + 3)), some (.ref (p + 4)), some (.ref (p + 5)), some (.int (nI e)), some (.int hx0), none, none, none, none, none, none, none]) ⟨Or.inr rfl, Or.inr rfl, Or.inr rfl, Or.inr rfl, Or.inr rfl, Or.inr rfl, Or.inr rfl, Or.inr rfl, Or.inr rfl, Or.inr rfl, Or.inl rfl, Or.inl rfl, Or.inl rfl, Or.inl rfl, Or.inl rfl, Or.inl rfl, Or.inl rfl, trivial⟩ ?_
          exact law_fg hc hno wa hs hl gd ht hop he K (by have h95 := h9; rw [nI_leI (by omega) (by omega)] at h95; omega)
      · skip
        refine pw_fg (ls' := [some (.ref (cxS X).1), some (.ref o), some (.ref p), some (.ref (p + 1)), some (.ref (p + 2)), some (.ref (p + 3)), some (.ref (p + 4)), some (.ref (p + 5)), some (.int (nI e)), some (.int hx0), none, none, none, none, none, none, none]) ⟨Or.inr rfl, Or.inr rfl, Or.inr rfl, Or.inr rfl, Or.inr rfl, Or.inr rfl, Or.inr rfl, Or.inr rfl, Or.inr rfl, Or.inr rfl, Or.inl rfl, Or.inl rfl, Or.inl rfl, Or.inl rfl, Or.inl rfl, Or.inl rfl, Or.inl rfl, trivial⟩ ?_
        exact law_wd hc hno wa hs hl gd ht hop he K (by have h95 := h9; rw [nI_leI (by omega) (by omega)] at h95; omega)
    · skip
      refine pw_aload_7 dL_law_113 ?_
      refine pw_bipush (v := nI 6) dL_law_115 (by decide) ?_
      refine pw_ialdN dL_law_117 hs.t (by omega) (by decide) ?_
      refine pw_top ((hl.t (by omega)).trans gd.g6) ?_
      refine pw_bipush (v := nI 8) dL_law_118 (by decide) ?_
      refine pw_icmp_ge 215 dL_law_120 (by decide) (fun h15 => ?_) (fun h15 => ?_)
      · skip
        refine pw_iload_10 dL_law_215 ?_
        refine pw_bipush (v := nI 8) dL_law_217 (by decide) ?_
        refine pw_icmp_ge 411 dL_law_219 (by decide) (fun h16 => ?_) (fun h16 => ?_)
        · skip
          refine pw_iload_10 dL_law_411 ?_
          refine pw_bipush (v := nI 8) dL_law_413 (by decide) ?_
          refine pw_icmp_ne 504 dL_law_415 (by decide) (fun h17 => ?_) (fun h17 => ?_)
          · skip
            refine pw_iload_10 dL_law_504 ?_
            refine pw_bipush (v := nI 9) dL_law_506 (by decide) ?_
            refine pw_icmp_ne 567 dL_law_508 (by decide) (fun h18 => ?_) (fun h18 => ?_)
            · skip
              refine pw_iload_10 dL_law_567 ?_
              refine pw_bipush (v := nI 10) dL_law_569 (by decide) ?_
              refine pw_icmp_ne 664 dL_law_571 (by decide) (fun h19 => ?_) (fun h19 => ?_)
              · skip
                refine pw_iload_10 dL_law_664 ?_
                refine pw_bipush (v := nI 11) dL_law_666 (by decide) ?_
                refine pw_icmp_ne 858 dL_law_668 (by decide) (fun h20 => ?_) (fun h20 => ?_)
                · skip
                  refine pw_fg (ls' := [some (.ref (cxS X).1), some (.ref o), some (.ref p), some (.ref (p + 1)), some (.ref (p + 2)), some (.ref (p + 3)), some (.ref (p + 4)), some (.ref (p + 5)), some (.int (nI e)), some (.int hx0), none, none, none, none, none, none, none]) ⟨Or.inr rfl, Or.inr rfl, Or.inr rfl, Or.inr rfl, Or.inr rfl, Or.inr rfl, Or.inr rfl, Or.inr rfl, Or.inr rfl, Or.inr rfl, Or.inl rfl, Or.inl rfl, Or.inl rfl, Or.inl rfl, Or.inl rfl, Or.inl rfl, Or.inl rfl, trivial⟩ ?_
                  exact law_ps hc hno wa hs hl gd ht hop he K (by have h95 := h15; rw [nI_leI (by omega) (by omega)] at h95; omega)
                · skip
                  refine pw_fg (ls' := [some (.ref (cxS X).1), some (.ref o), some (.ref p), some (.ref (p + 1)), some (.ref (p + 2)), some (.ref (p + 3)), some (.ref (p + 4)), some (.ref (p + 5)), some (.int (nI e)), some (.int hx0), none, none, none, none, none, none, none]) ⟨Or.inr rfl, Or.inr rfl, Or.inr rfl, Or.inr rfl, Or.inr rfl, Or.inr rfl, Or.inr rfl, Or.inr rfl, Or.inr rfl, Or.inr rfl, Or.inl rfl, Or.inl rfl, Or.inl rfl, Or.inl rfl, Or.inl rfl, Or.inl rfl, Or.inl rfl, trivial⟩ ?_
                  exact law_se hc hno wa hs hl gd ht hop he K (by have h95 := h15; rw [nI_leI (by omega) (by omega)] at h95; omega)
              · skip
                refine pw_fg (ls' := [some (.ref (cxS X).1), some (.ref o), some (.ref p), some (.ref (p + 1)), some (.ref (p + 2)), some (.ref (p + 3)), some (.ref (p + 4)), some (.ref (p + 5)), some (.int (nI e)), some (.int hx0), none, none, none, none, none, none, none]) ⟨Or.inr rfl, Or.inr rfl, Or.inr rfl, Or.inr rfl, Or.inr rfl, Or.inr rfl, Or.inr rfl, Or.inr rfl, Or.inr rfl, Or.inr rfl, Or.inl rfl, Or.inl rfl, Or.inl rfl, Or.inl rfl, Or.inl rfl, Or.inl rfl, Or.inl rfl, trivial⟩ ?_
                exact law_dz hc hno wa hs hl gd ht hop he K (by have h95 := h15; rw [nI_leI (by omega) (by omega)] at h95; omega)
            · skip
              refine pw_fg (ls' := [some (.ref (cxS X).1), some (.ref o), some (.ref p), some (.ref (p + 1)), some (.ref (p + 2)), some (.ref (p + 3)), some (.ref (p + 4)), some (.ref (p + 5)), some (.int (nI e)), some (.int hx0), none, none, none, none, none, none, none]) ⟨Or.inr rfl, Or.inr rfl, Or.inr rfl, Or.inr rfl, Or.inr rfl, Or.inr rfl, Or.inr rfl, Or.inr rfl, Or.inr rfl, Or.inr rfl, Or.inl rfl, Or.inl rfl, Or.inl rfl, Or.inl rfl, Or.inl rfl, Or.inl rfl, Or.inl rfl, trivial⟩ ?_
              exact law_sk hc hno wa hs hl gd ht hop he K (by have h95 := h15; rw [nI_leI (by omega) (by omega)] at h95; omega)
          · skip
            refine pw_fg (ls' := [some (.ref (cxS X).1), some (.ref o), some (.ref p), some (.ref (p + 1)), some (.ref (p + 2)), some (.ref (p + 3)), some (.ref (p + 4)), some (.ref (p + 5)), some (.int (nI e)), some (.int hx0), none, none, none, none, none, none, none]) ⟨Or.inr rfl, Or.inr rfl, Or.inr rfl, Or.inr rfl, Or.inr rfl, Or.inr rfl, Or.inr rfl, Or.inr rfl, Or.inr rfl, Or.inr rfl, Or.inl rfl, Or.inl rfl, Or.inl rfl, Or.inl rfl, Or.inl rfl, Or.inl rfl, Or.inl rfl, trivial⟩ ?_
            exact law_fg hc hno wa hs hl gd ht hop he K (by have h95 := h15; rw [nI_leI (by omega) (by omega)] at h95; omega)
        · skip
          refine pw_fg (ls' := [some (.ref (cxS X).1), some (.ref o), some (.ref p), some (.ref (p + 1)), some (.ref (p + 2)), some (.ref (p + 3)), some (.ref (p + 4)), some (.ref (p + 5)), some (.int (nI e)), some (.int hx0), none, none, none, none, none, none, none]) ⟨Or.inr rfl, Or.inr rfl, Or.inr rfl, Or.inr rfl, Or.inr rfl, Or.inr rfl, Or.inr rfl, Or.inr rfl, Or.inr rfl, Or.inr rfl, Or.inl rfl, Or.inl rfl, Or.inl rfl, Or.inl rfl, Or.inl rfl, Or.inl rfl, Or.inl rfl, trivial⟩ ?_
          exact law_wd hc hno wa hs hl gd ht hop he K (by have h95 := h15; rw [nI_leI (by omega) (by omega)] at h95; omega)
      · skip
        refine pw_fg (ls' := [some (.ref (cxS X).1), some (.ref o), some (.ref p), some (.ref (p + 1)), some (.ref (p + 2)), some (.ref (p + 3)), some (.ref (p + 4)), some (.ref (p + 5)), some (.int (nI e)), some (.int hx0), none, none, none, none, none, none, none]) ⟨Or.inr rfl, Or.inr rfl, Or.inr rfl, Or.inr rfl, Or.inr rfl, Or.inr rfl, Or.inr rfl, Or.inr rfl, Or.inr rfl, Or.inr rfl, Or.inl rfl, Or.inl rfl, Or.inl rfl, Or.inl rfl, Or.inl rfl, Or.inl rfl, Or.inl rfl, trivial⟩ ?_
        exact law_st hc hno wa hs hl gd ht hop he K (by have h95 := h15; rw [nI_leI (by omega) (by omega)] at h95; omega) hn0
