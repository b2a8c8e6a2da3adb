/-! The class: a beat -/
def plP (B : Bs) (k v : Nat) : Prop := ∃ s, s < k ∧ spB B s ∧ btB B s = nI 0 ∧ fwB B s = v
theorem pl_n {B : Bs} {k : Nat} (h : ¬ (spB B k ∧ btB B k = nI 0)) : msk (plP B k) 6 = msk (plP B (k + 1)) 6 := msk_cong fun v _ => by
  constructor
  · rintro ⟨s, h1, h2⟩
    exact ⟨s, by omega, h2⟩
  · rintro ⟨s, h1, h2, h3, h4⟩
    refine ⟨s, ?_, h2, h3, h4⟩
    rcases Nat.lt_or_ge s k with q | q
    · exact q
    · have : s = k := by omega
      subst this
      exact absurd ⟨h2, h3⟩ h
theorem pl_y {B : Bs} {k y : Nat} (h : spB B k) (h2 : btB B k = nI 0) (h3 : fwB B k = y) (hy : y < 6) : msk (plP B k) 6 ||| (nI 1 <<< (nI y &&& 31)) = msk (plP B (k + 1)) 6 := by
  rw [msk_or1 (by decide) hy]
  refine msk_cong fun v _ => ?_
  constructor
  · rintro (⟨s, h1, h4⟩ | e)
    · exact ⟨s, by omega, h4⟩
    · exact ⟨k, by omega, h, h2, h3.trans e⟩
  · rintro ⟨s, h1, h4, h5, h6⟩
    rcases Nat.lt_or_ge s k with q | q
    · exact Or.inl ⟨s, q, h4, h5, h6⟩
    · have : s = k := by omega
      subst this
      exact Or.inr (h3.symm.trans h6)
theorem pl_0 (B : Bs) : nI 0 = msk (plP B 0) 6 := (msk_0 fun v _ ⟨s, h1, _⟩ => absurd h1 (by omega)).symm
theorem fw_of {B : Bs} {i y : Nat} (h : bS B i 6 = nI y) (hy : y < 6) : fwB B i = y := by
  unfold fwB
  rw [h, nI_clamp (by omega)]
theorem bt_01 (B : Bs) (i : Nat) : btB B i = nI 0 ∨ btB B i = nI 1 := by
  unfold btB
  split <;> exact bi_01 _ _
theorem bt_n1 {B : Bs} {i : Nat} (h : btB B i ≠ nI 1) : btB B i = nI 0 := (bt_01 B i).resolve_right h
theorem bi_10x {B : Bs} {i : Nat} (h : btB B i = nI 1) (h2 : btB B i = nI 0) : False := absurd (h.symm.trans h2) (by decide)
set_option maxRecDepth 100000 in
set_option maxHeartbeats 4000000 in
theorem k_pulled {X : Cx} {σ : Sp} {μ : Mm} {Q : Int32 → Sp → Mm → Prop} {μ0 : Mm} {b n : Nat} {B : Bs} (h : ShBus σ b) (hb : BU μ0 b B μ) (wf : WF B) (hn : nS B = n) (q : Q (msk (plP B n) 6) σ μ) : CTi X mX0_pulledWires [.ref b] σ μ Q := by
  refine CT.of (by decide +kernel) (Nat.le_of_ble_eq_true rfl) ?_
  show PW X mX0_pulledWires 0 0 0 [some (.ref b), none, none] [] σ μ (LI Q)
  have h8 : n ≤ 8 := hn ▸ wf.n8
  refine pw_iconst (v := nI 0) dX0_pulledWires_0 (by decide) ?_
  refine pw_istore_1 dX0_pulledWires_1 (by decide) ?_
  refine pw_iconst (v := nI 0) dX0_pulledWires_2 (by decide) ?_
  refine pw_istore_2 dX0_pulledWires_3 (by decide) ?_
  refine Eq.mpr (congrArg (fun x => PW X mX0_pulledWires 0 0 4 [some (.ref b), some (.int x), some (.int (nI 0))] [] σ μ (LI Q)) (pl_0 B)) ?_
  refine pw_up (P := fun i => PW X mX0_pulledWires 0 0 4 [some (.ref b), some (.int (msk (plP B i) 6)), some (.int (nI i))] [] σ μ (LI Q)) n ?_ ?_ 0 (by omega)
  · skip
    refine pw_iload_2 dX0_pulledWires_4 ?_
    refine pw_aload_0 dX0_pulledWires_5 ?_
    refine pw_getI 0 5 dX0_pulledWires_6 fX0_49 rfl (by decide) rfl h.t ?_
    refine pw_top (hb.n wf hn) ?_
    refine pw_icmp_ge 54 dX0_pulledWires_9 (by decide) (fun _ => ?_) (fun hh => absurd (by rw [nI_leI (by omega) (by omega)]; omega) hh)
    refine pw_iload_1 dX0_pulledWires_54 ?_
    refine pw_ireturn dX0_pulledWires_55 rfl ?_
    exact q
  · intro i hi ih
    refine pw_iload_2 dX0_pulledWires_4 ?_
    refine pw_aload_0 dX0_pulledWires_5 ?_
    refine pw_getI 0 5 dX0_pulledWires_6 fX0_49 rfl (by decide) rfl h.t ?_
    refine pw_top (hb.n wf hn) ?_
    refine pw_icmp_ge 54 dX0_pulledWires_9 (by decide) (fun hh => absurd hh (by rw [nI_leI (by omega) (by omega)]; omega)) (fun _ => ?_)
    refine pw_aload_0 dX0_pulledWires_12 ?_
    refine pw_getr 0 4 dX0_pulledWires_13 fX0_34 rfl (by decide) rfl h.t h.r4 ?_
    refine pw_iload_2 dX0_pulledWires_16 ?_
    refine pw_aaldSr dX0_pulledWires_17 h.a5 (by omega) (by decide) (h.s (by omega)) ?_
    refine pw_cV0i 6 dX0_pulledWires_18 kX0_121 vX6_isSpeaking iX6_isSpeaking ⟨by decide, by decide⟩ ⟨rfl, rfl⟩ (by decide) rfl (Nat.le_of_ble_eq_true rfl) ((h.S (by omega))).t (k_isSpeaking h hb wf (by rw [hn]; omega) (fun h1 => ?_) (fun h2 => ?_))
    · skip
      refine pw_if_eq 48 dX0_pulledWires_21 (by decide) (fun hh => absurd hh (by decide)) (fun _ => ?_)
      refine pw_aload_0 dX0_pulledWires_24 ?_
      refine pw_getr 0 4 dX0_pulledWires_25 fX0_34 rfl (by decide) rfl h.t h.r4 ?_
      refine pw_iload_2 dX0_pulledWires_28 ?_
      refine pw_aaldSr dX0_pulledWires_29 h.a5 (by omega) (by decide) (h.s (by omega)) ?_
      refine pw_cV0i 6 dX0_pulledWires_30 kX0_166 vX6_letsGo iX6_letsGo ⟨by decide, by decide⟩ ⟨rfl, rfl⟩ (by decide) rfl (Nat.le_of_ble_eq_true rfl) ((h.S (by omega))).t (k_letsGo h hb wf (by rw [hn]; omega) h1 (fun h3 => ?_) (fun h4 => ?_))
      · skip
        refine pw_if_ne 48 dX0_pulledWires_33 (by decide) (fun _ => ?_) (fun hh => absurd hh (by decide))
        refine pw_iincN_2 dX0_pulledWires_48 (by decide) ?_
        refine pw_goto 4 dX0_pulledWires_51 (by decide) ?_
        rw [pl_n (fun hh => bi_10x h3 hh.2)]
        exact ih
      · skip
        refine pw_if_ne 48 dX0_pulledWires_33 (by decide) (fun hh => absurd hh (by decide)) (fun _ => ?_)
        obtain ⟨-, y, y6, hy⟩ := (wf.s (i := i) (by omega)).word ((wf.s (i := i) (by omega)).sp h1).1
        have hy : bS B i 6 = nI y := hy
        refine pw_iload_1 dX0_pulledWires_36 ?_
        refine pw_aload_0 dX0_pulledWires_37 ?_
        refine pw_getr 0 4 dX0_pulledWires_38 fX0_34 rfl (by decide) rfl h.t h.r4 ?_
        refine pw_iload_2 dX0_pulledWires_41 ?_
        refine pw_aaldSr dX0_pulledWires_42 h.a5 (by omega) (by decide) (h.s (by omega)) ?_
        refine pw_getI 6 8 dX0_pulledWires_43 fX0_169 rfl (by decide) rfl ((h.S (by omega))).t ?_
        refine pw_top (by obtain ⟨e7, e8, e9⟩ := hb.spk0 (i := i) (by omega) (by omega) h1; rw [e8, hy]) ?_
        refine pw_ior dX0_pulledWires_46 ?_
        refine pw_istore_1 dX0_pulledWires_47 (by decide) ?_
        refine pw_iincN_2 dX0_pulledWires_48 (by decide) ?_
        refine pw_goto 4 dX0_pulledWires_51 (by decide) ?_
        rw [pl_y h1 (bt_n1 h4) (fw_of hy y6) y6]
        exact ih
    · skip
      refine pw_if_eq 48 dX0_pulledWires_21 (by decide) (fun _ => ?_) (fun hh => absurd (by decide) hh)
      refine pw_iincN_2 dX0_pulledWires_48 (by decide) ?_
      refine pw_goto 4 dX0_pulledWires_51 (by decide) ?_
      rw [pl_n (fun hh => h2 hh.1)]
      exact ih
theorem go_wf {L A : Nat → Prop} {n k : Nat} {P : Bs × Nat} (wf : WF P.1) (hk : k ≤ nS P.1) : WF (itr (goP L A n) k P).1 ∧ Fr P.1 (itr (goP L A n) k P).1 := ⟨wf.goN hk, Fr_goN⟩
set_option maxRecDepth 100000 in
set_option maxHeartbeats 4000000 in
theorem k_goOn {X : Cx} {σ : Sp} {μ : Mm} {Q : Int32 → Sp → Mm → Prop} {μ0 : Mm} {b n : Nat} {B : Bs} {L A : Nat → Prop} (h : ShBus σ b) (hb : BU μ0 b B μ) (wf : WF B) (hn : nS B = n) (q : ∀ μ', BU μ0 b (itr (goP L A n) n (B, 0)).1 μ' → Q (nI (itr (goP L A n) n (B, 0)).2) σ μ') : CTi X mX0_goOnSpeaking [.ref b, .int (msk (fun v => ¬ L v) 6), .int (msk A n)] σ μ Q := by
  refine CT.of (by decide +kernel) (Nat.le_of_ble_eq_true rfl) ?_
  show PW X mX0_goOnSpeaking 0 0 0 [some (.ref b), some (.int (msk (fun v => ¬ L v) 6)), some (.int (msk A n)), none, none, none] [] σ μ (LI Q)
  have h8 : n ≤ 8 := hn ▸ wf.n8
  refine pw_iconst (v := nI 0) dX0_goOnSpeaking_0 (by decide) ?_
  refine pw_istore_3 dX0_goOnSpeaking_1 (by decide) ?_
  refine pw_iconst (v := nI 0) dX0_goOnSpeaking_2 (by decide) ?_
  refine pw_istore_4 dX0_goOnSpeaking_3 (by decide) ?_
  refine pw_fg (ls' := [some (.ref b), some (.int (msk (fun v => ¬ L v) 6)), some (.int (msk A n)), some (.int (nI ((itr (goP L A n) 0 (B, 0)).2))), some (.int (nI 0)), none]) ⟨Or.inr rfl, Or.inr rfl, Or.inr rfl, Or.inr rfl, Or.inr rfl, Or.inl rfl, trivial⟩ ?_
  refine pw_up (P := fun k => ∀ μ, BU μ0 b (itr (goP L A n) k (B, 0)).1 μ → PW X mX0_goOnSpeaking 0 0 5 [some (.ref b), some (.int (msk (fun v => ¬ L v) 6)), some (.int (msk A n)), some (.int (nI ((itr (goP L A n) k (B, 0)).2))), some (.int (nI k)), none] [] σ μ (LI Q)) n ?_ ?_ 0 (by omega) _ hb
  · intro μ1 hb1
    have wn := go_wf (L := L) (A := A) (n := n) (P := (B, 0)) wf (show n ≤ nS B by omega)
    have wf1 := wn.1
    have hn1 := wn.2.n.trans hn
    refine pw_iload_4 dX0_goOnSpeaking_5 ?_
    refine pw_aload_0 dX0_goOnSpeaking_7 ?_
    refine pw_getI 0 5 dX0_goOnSpeaking_8 fX0_49 rfl (by decide) rfl h.t ?_
    refine pw_top (hb1.n wf1 hn1) ?_
    refine pw_icmp_ge 121 dX0_goOnSpeaking_11 (by decide) (fun _ => ?_) (fun hh => absurd (by rw [nI_leI (by omega) (by omega)]; omega) hh)
    refine pw_iload_3 dX0_goOnSpeaking_121 ?_
    refine pw_ireturn dX0_goOnSpeaking_122 rfl ?_
    exact q _ hb1
  · intro k hk ih μ1 hb1
    have ih2 : ∀ μ, BU μ0 b (goP L A n k (itr (goP L A n) k (B, 0))).1 μ → PW X mX0_goOnSpeaking 0 0 5 [some (.ref b), some (.int (msk (fun v => ¬ L v) 6)), some (.int (msk A n)), some (.int (nI ((goP L A n k (itr (goP L A n) k (B, 0))).2))), some (.int (nI ((k + 1)))), none] [] σ μ (LI Q) := ih
    have wn := go_wf (L := L) (A := A) (n := n) (P := (B, 0)) wf (show k ≤ nS B by omega)
    have wf1 := wn.1
    have hn1 := wn.2.n.trans hn
    clear wn ih
    generalize itr (goP L A n) k (B, 0) = C at hb1 ih2 wf1 hn1
    refine pw_iload_4 dX0_goOnSpeaking_5 ?_
    refine pw_aload_0 dX0_goOnSpeaking_7 ?_
    refine pw_getI 0 5 dX0_goOnSpeaking_8 fX0_49 rfl (by decide) rfl h.t ?_
    refine pw_top (hb1.n wf1 hn1) ?_
    refine pw_icmp_ge 121 dX0_goOnSpeaking_11 (by decide) (fun hh => absurd hh (by rw [nI_leI (by omega) (by omega)]; omega)) (fun _ => ?_)
    refine pw_aload_0 dX0_goOnSpeaking_14 ?_
    refine pw_getr 0 4 dX0_goOnSpeaking_15 fX0_34 rfl (by decide) rfl h.t h.r4 ?_
    refine pw_iload_4 dX0_goOnSpeaking_18 ?_
    refine pw_aaldSr dX0_goOnSpeaking_20 h.a5 (by omega) (by decide) (h.s (by omega)) ?_
    refine pw_astore_5 dX0_goOnSpeaking_21 (by decide) ?_
    refine pw_aload_5 dX0_goOnSpeaking_23 ?_
    refine pw_cV0i 6 dX0_goOnSpeaking_25 kX0_121 vX6_isSpeaking iX6_isSpeaking ⟨by decide, by decide⟩ ⟨rfl, rfl⟩ (by decide) rfl (Nat.le_of_ble_eq_true rfl) ((h.S (by omega))).t (k_isSpeaking h hb1 wf1 (by rw [hn1]; omega) (fun h1 => ?_) (fun h2 => ?_))
    · skip
      refine pw_if_ne 34 dX0_goOnSpeaking_28 (by decide) (fun _ => ?_) (fun hh => absurd hh (by decide))
      have hs : spB C.1 k := h1
      obtain ⟨h0, kk, kk10, hkk⟩ := (wf1.s (i := k) (by omega)).sp hs
      obtain ⟨-, y, y6, hy⟩ := (wf1.s (i := k) (by omega)).word h0
      have hy : bS C.1 k 6 = nI y := hy
      refine pw_aload_5 dX0_goOnSpeaking_34 ?_
      refine pw_cV0i 6 dX0_goOnSpeaking_36 kX0_166 vX6_letsGo iX6_letsGo ⟨by decide, by decide⟩ ⟨rfl, rfl⟩ (by decide) rfl (Nat.le_of_ble_eq_true rfl) ((h.S (by omega))).t (k_letsGo h hb1 wf1 (by rw [hn1]; omega) h1 (fun h3 => ?_) (fun h4 => ?_))
      · skip
        refine pw_if_eq 61 dX0_goOnSpeaking_39 (by decide) (fun hh => absurd hh (by decide)) (fun _ => ?_)
        refine pw_aload_5 dX0_goOnSpeaking_42 ?_
        refine pw_getI 6 8 dX0_goOnSpeaking_44 fX0_169 rfl (by decide) rfl ((h.S (by omega))).t ?_
        refine pw_top (show _ = nI 1 <<< (nI y &&& 31) by rw [(hb1.spk0 (i := k) (by omega) (by omega) hs).2.1, hy]) ?_
        refine pw_iload_1 dX0_goOnSpeaking_47 ?_
        refine pw_iand dX0_goOnSpeaking_48 ?_
        refine pw_if_ne 61 dX0_goOnSpeaking_49 (by decide) (fun h5 => ?_) (fun h5 => ?_)
        · skip
          refine pw_aload_5 dX0_goOnSpeaking_61 ?_
          refine pw_getI 6 7 dX0_goOnSpeaking_63 fX0_172 rfl (by decide) rfl ((h.S (by omega))).t ?_
          refine pw_top ((hb1.spk0 (i := k) (by omega) (by omega) hs).1.trans hkk) ?_
          refine pw_bipush (v := nI 10) dX0_goOnSpeaking_66 (by decide) ?_
          refine pw_icmp_ge 85 dX0_goOnSpeaking_68 (by decide) (fun h6 => ?_) (fun h6 => ?_)
          · skip
            refine pw_aload_5 dX0_goOnSpeaking_85 ?_
            refine pw_getI 6 10 dX0_goOnSpeaking_87 fX0_175 rfl (by decide) rfl ((h.S (by omega))).t ?_
            refine pw_top (hb1.s10 (by omega)) ?_
            refine pw_iload_2 dX0_goOnSpeaking_90 ?_
            refine pw_iconst (v := -1) dX0_goOnSpeaking_91 (by decide) ?_
            refine pw_ixor dX0_goOnSpeaking_92 ?_
            refine pw_iand dX0_goOnSpeaking_93 ?_
            refine pw_if_ne 109 dX0_goOnSpeaking_94 (by decide) (fun h7 => ?_) (fun h7 => ?_)
            · skip
              refine pw_aload_0 dX0_goOnSpeaking_109 ?_
              refine pw_aload_5 dX0_goOnSpeaking_110 ?_
              refine pw_cV1v 0 dX0_goOnSpeaking_112 kX0_125 vX0_giveUp iX0_giveUp ⟨by decide, by decide⟩ ⟨rfl, rfl⟩ (by decide) rfl (Nat.le_of_ble_eq_true rfl) h.t (k_giveUp h hb1 wf1 hn1 (i := k) (by omega) h0 (fun μ1 hb1 => ?_))
              refine pw_iincN_4 dX0_goOnSpeaking_115 (by decide) ?_
              refine pw_goto 5 dX0_goOnSpeaking_118 (by decide) ?_
              have hng : ¬ (btB C.1 k = nI 1 ∧ L (fwB C.1 k)) := fun hh => h5 ((sh1_msk (p := fun v => ¬ L v) (by decide) y6).mpr (by rw [fw_of hy y6] at hh; exact Classical.not_not.mpr hh.2))
              have k9 : kk = 10 := by have := h6; rw [nI_leI (by omega) (by omega)] at this; omega
              have h17 : bS C.1 k 17 = nI 10 := by rw [hkk, k9]
              have hse := sub_msk (x := bS C.1 k 18) (q := A) (n := n) (by omega) (by rw [← hn1]; exact (wf1.s (i := k) (by omega)).2.2.2)
              have hg : gvP L A n C.1 k := Or.inr ⟨h17, fun hh => h7 (hse.mpr hh)⟩
              have eG : goP L A n k C = (guB C.1 k, C.2) := (cif_y hs).trans (cif_y hg)
              rw [eG] at ih2
              refine pw_fg (ls' := _) ?_ (ih2 _ ?_)
              rotate_left
              · show BU μ0 b _ _
                exact hb1
              exact ⟨Or.inr rfl, Or.inr rfl, Or.inr rfl, Or.inr rfl, Or.inr rfl, Or.inl rfl, trivial⟩
            · skip
              refine pw_aload_0 dX0_goOnSpeaking_97 ?_
              refine pw_aload_5 dX0_goOnSpeaking_98 ?_
              refine pw_cV1v 0 dX0_goOnSpeaking_100 kX0_178 vX0_beHeard iX0_beHeard ⟨by decide, by decide⟩ ⟨rfl, rfl⟩ (by decide) rfl (Nat.le_of_ble_eq_true rfl) h.t (k_beHeard h hb1 wf1 hn1 (i := k) (by omega) hs (fun μ2 hb2 => ?_))
              refine pw_iincN_3 dX0_goOnSpeaking_103 (by decide) ?_
              refine pw_goto 115 dX0_goOnSpeaking_106 (by decide) ?_
              refine pw_iincN_4 dX0_goOnSpeaking_115 (by decide) ?_
              refine pw_goto 5 dX0_goOnSpeaking_118 (by decide) ?_
              have hng : ¬ (btB C.1 k = nI 1 ∧ L (fwB C.1 k)) := fun hh => h5 ((sh1_msk (p := fun v => ¬ L v) (by decide) y6).mpr (by rw [fw_of hy y6] at hh; exact Classical.not_not.mpr hh.2))
              have k9 : kk = 10 := by have := h6; rw [nI_leI (by omega) (by omega)] at this; omega
              have h17 : bS C.1 k 17 = nI 10 := by rw [hkk, k9]
              have hse := sub_msk (x := bS C.1 k 18) (q := A) (n := n) (by omega) (by rw [← hn1]; exact (wf1.s (i := k) (by omega)).2.2.2)
              have hg : ¬ gvP L A n C.1 k := fun hh => hh.elim hng (fun q => q.2 (hse.mp h7))
              have eG : goP L A n k C = (hdB C.1 k, C.2 + 1) := (cif_y hs).trans ((cif_n hg).trans (cif_y h17))
              rw [eG] at ih2
              refine pw_fg (ls' := _) ?_ (ih2 _ ?_)
              rotate_left
              · show BU μ0 b _ _
                exact hb2
              exact ⟨Or.inr rfl, Or.inr rfl, Or.inr rfl, Or.inr rfl, Or.inr rfl, Or.inl rfl, trivial⟩
          · skip
            refine pw_aload_5 dX0_goOnSpeaking_71 ?_
            refine pw_dup dX0_goOnSpeaking_73 ?_
            refine pw_getI 6 7 dX0_goOnSpeaking_74 fX0_172 rfl (by decide) rfl ((h.S (by omega))).t ?_
            refine pw_top ((hb1.spk0 (i := k) (by omega) (by omega) hs).1.trans hkk) ?_
            refine pw_iconst (v := nI 1) dX0_goOnSpeaking_77 (by decide) ?_
            refine pw_iaddN dX0_goOnSpeaking_78 ?_
            refine pw_putI 6 7 dX0_goOnSpeaking_79 fX0_172 rfl (by decide) rfl (Or.inl rfl) rfl (by decide) ((h.S (by omega))).t ?_
            refine pw_goto 115 dX0_goOnSpeaking_82 (by decide) ?_
            refine pw_iincN_4 dX0_goOnSpeaking_115 (by decide) ?_
            refine pw_goto 5 dX0_goOnSpeaking_118 (by decide) ?_
            have hng : ¬ (btB C.1 k = nI 1 ∧ L (fwB C.1 k)) := fun hh => h5 ((sh1_msk (p := fun v => ¬ L v) (by decide) y6).mpr (by rw [fw_of hy y6] at hh; exact Classical.not_not.mpr hh.2))
            have k9 : ¬ 10 ≤ kk := by have := h6; rw [nI_leI (by omega) (by omega)] at this; exact this
            have h17 : bS C.1 k 17 ≠ nI 10 := by rw [hkk, Ne, nI_eq (by omega) (by omega)]; omega
            have hg : ¬ gvP L A n C.1 k := fun hh => hh.elim hng (fun q => h17 q.1)
            have eG : goP L A n k C = (setS C.1 k (upd (bS C.1 k) 17 (bS C.1 k 17 + nI 1)), C.2) := (cif_y hs).trans ((cif_n hg).trans (cif_n h17))
            rw [eG] at ih2
            refine pw_fg (ls' := _) ?_ (ih2 _ ?_)
            rotate_left
            · show BU μ0 b _ _
              have hx := hb1.next (i := k) (by omega) (by omega) hs (by rw [hkk, nI_add]; exact m6_ne (by omega))
              rw [hkk, nI_add] at hx
              show BU μ0 b (setS C.1 k (upd (bS C.1 k) 17 (bS C.1 k 17 + nI 1))) _
              rw [hkk, nI_add]
              exact hx
            exact ⟨Or.inr rfl, Or.inr rfl, Or.inr rfl, Or.inr rfl, Or.inr rfl, Or.inl rfl, trivial⟩
        · skip
          refine pw_aload_0 dX0_goOnSpeaking_52 ?_
          refine pw_aload_5 dX0_goOnSpeaking_53 ?_
          refine pw_cV1v 0 dX0_goOnSpeaking_55 kX0_125 vX0_giveUp iX0_giveUp ⟨by decide, by decide⟩ ⟨rfl, rfl⟩ (by decide) rfl (Nat.le_of_ble_eq_true rfl) h.t (k_giveUp h hb1 wf1 hn1 (i := k) (by omega) h0 (fun μ3 hb3 => ?_))
          refine pw_goto 115 dX0_goOnSpeaking_58 (by decide) ?_
          refine pw_iincN_4 dX0_goOnSpeaking_115 (by decide) ?_
          refine pw_goto 5 dX0_goOnSpeaking_118 (by decide) ?_
          have hg : gvP L A n C.1 k := Or.inl ⟨h3, by rw [fw_of hy y6]; exact Classical.not_not.mp ((sh1_msk (p := fun v => ¬ L v) (by decide) y6).mp h5)⟩
          have eG : goP L A n k C = (guB C.1 k, C.2) := (cif_y hs).trans (cif_y hg)
          rw [eG] at ih2
          refine pw_fg (ls' := _) ?_ (ih2 _ ?_)
          rotate_left
          · show BU μ0 b _ _
            exact hb3
          exact ⟨Or.inr rfl, Or.inr rfl, Or.inr rfl, Or.inr rfl, Or.inr rfl, Or.inl rfl, trivial⟩
      · skip
        refine pw_if_eq 61 dX0_goOnSpeaking_39 (by decide) (fun _ => ?_) (fun hh => absurd (by decide) hh)
        refine pw_aload_5 dX0_goOnSpeaking_61 ?_
        refine pw_getI 6 7 dX0_goOnSpeaking_63 fX0_172 rfl (by decide) rfl ((h.S (by omega))).t ?_
        refine pw_top ((hb1.spk0 (i := k) (by omega) (by omega) hs).1.trans hkk) ?_
        refine pw_bipush (v := nI 10) dX0_goOnSpeaking_66 (by decide) ?_
        refine pw_icmp_ge 85 dX0_goOnSpeaking_68 (by decide) (fun h8 => ?_) (fun h8 => ?_)
        · skip
          refine pw_aload_5 dX0_goOnSpeaking_85 ?_
          refine pw_getI 6 10 dX0_goOnSpeaking_87 fX0_175 rfl (by decide) rfl ((h.S (by omega))).t ?_
          refine pw_top (hb1.s10 (by omega)) ?_
          refine pw_iload_2 dX0_goOnSpeaking_90 ?_
          refine pw_iconst (v := -1) dX0_goOnSpeaking_91 (by decide) ?_
          refine pw_ixor dX0_goOnSpeaking_92 ?_
          refine pw_iand dX0_goOnSpeaking_93 ?_
          refine pw_if_ne 109 dX0_goOnSpeaking_94 (by decide) (fun h9 => ?_) (fun h9 => ?_)
          · skip
            refine pw_aload_0 dX0_goOnSpeaking_109 ?_
            refine pw_aload_5 dX0_goOnSpeaking_110 ?_
            refine pw_cV1v 0 dX0_goOnSpeaking_112 kX0_125 vX0_giveUp iX0_giveUp ⟨by decide, by decide⟩ ⟨rfl, rfl⟩ (by decide) rfl (Nat.le_of_ble_eq_true rfl) h.t (k_giveUp h hb1 wf1 hn1 (i := k) (by omega) h0 (fun μ4 hb4 => ?_))
            refine pw_iincN_4 dX0_goOnSpeaking_115 (by decide) ?_
            refine pw_goto 5 dX0_goOnSpeaking_118 (by decide) ?_
            have hng : ¬ (btB C.1 k = nI 1 ∧ L (fwB C.1 k)) := fun hh => h4 hh.1
            have k9 : kk = 10 := by have := h8; rw [nI_leI (by omega) (by omega)] at this; omega
            have h17 : bS C.1 k 17 = nI 10 := by rw [hkk, k9]
            have hse := sub_msk (x := bS C.1 k 18) (q := A) (n := n) (by omega) (by rw [← hn1]; exact (wf1.s (i := k) (by omega)).2.2.2)
            have hg : gvP L A n C.1 k := Or.inr ⟨h17, fun hh => h9 (hse.mpr hh)⟩
            have eG : goP L A n k C = (guB C.1 k, C.2) := (cif_y hs).trans (cif_y hg)
            rw [eG] at ih2
            refine pw_fg (ls' := _) ?_ (ih2 _ ?_)
            rotate_left
            · show BU μ0 b _ _
              exact hb4
            exact ⟨Or.inr rfl, Or.inr rfl, Or.inr rfl, Or.inr rfl, Or.inr rfl, Or.inl rfl, trivial⟩
          · skip
            refine pw_aload_0 dX0_goOnSpeaking_97 ?_
            refine pw_aload_5 dX0_goOnSpeaking_98 ?_
            refine pw_cV1v 0 dX0_goOnSpeaking_100 kX0_178 vX0_beHeard iX0_beHeard ⟨by decide, by decide⟩ ⟨rfl, rfl⟩ (by decide) rfl (Nat.le_of_ble_eq_true rfl) h.t (k_beHeard h hb1 wf1 hn1 (i := k) (by omega) hs (fun μ5 hb5 => ?_))
            refine pw_iincN_3 dX0_goOnSpeaking_103 (by decide) ?_
            refine pw_goto 115 dX0_goOnSpeaking_106 (by decide) ?_
            refine pw_iincN_4 dX0_goOnSpeaking_115 (by decide) ?_
            refine pw_goto 5 dX0_goOnSpeaking_118 (by decide) ?_
            have hng : ¬ (btB C.1 k = nI 1 ∧ L (fwB C.1 k)) := fun hh => h4 hh.1
            have k9 : kk = 10 := by have := h8; rw [nI_leI (by omega) (by omega)] at this; omega
            have h17 : bS C.1 k 17 = nI 10 := by rw [hkk, k9]
            have hse := sub_msk (x := bS C.1 k 18) (q := A) (n := n) (by omega) (by rw [← hn1]; exact (wf1.s (i := k) (by omega)).2.2.2)
            have hg : ¬ gvP L A n C.1 k := fun hh => hh.elim hng (fun q => q.2 (hse.mp h9))
            have eG : goP L A n k C = (hdB C.1 k, C.2 + 1) := (cif_y hs).trans ((cif_n hg).trans (cif_y h17))
            rw [eG] at ih2
            refine pw_fg (ls' := _) ?_ (ih2 _ ?_)
            rotate_left
            · show BU μ0 b _ _
              exact hb5
            exact ⟨Or.inr rfl, Or.inr rfl, Or.inr rfl, Or.inr rfl, Or.inr rfl, Or.inl rfl, trivial⟩
        · skip
          refine pw_aload_5 dX0_goOnSpeaking_71 ?_
          refine pw_dup dX0_goOnSpeaking_73 ?_
          refine pw_getI 6 7 dX0_goOnSpeaking_74 fX0_172 rfl (by decide) rfl ((h.S (by omega))).t ?_
          refine pw_top ((hb1.spk0 (i := k) (by omega) (by omega) hs).1.trans hkk) ?_
          refine pw_iconst (v := nI 1) dX0_goOnSpeaking_77 (by decide) ?_
          refine pw_iaddN dX0_goOnSpeaking_78 ?_
          refine pw_putI 6 7 dX0_goOnSpeaking_79 fX0_172 rfl (by decide) rfl (Or.inl rfl) rfl (by decide) ((h.S (by omega))).t ?_
          refine pw_goto 115 dX0_goOnSpeaking_82 (by decide) ?_
          refine pw_iincN_4 dX0_goOnSpeaking_115 (by decide) ?_
          refine pw_goto 5 dX0_goOnSpeaking_118 (by decide) ?_
          have hng : ¬ (btB C.1 k = nI 1 ∧ L (fwB C.1 k)) := fun hh => h4 hh.1
          have k9 : ¬ 10 ≤ kk := by have := h8; rw [nI_leI (by omega) (by omega)] at this; exact this
          have h17 : bS C.1 k 17 ≠ nI 10 := by rw [hkk, Ne, nI_eq (by omega) (by omega)]; omega
          have hg : ¬ gvP L A n C.1 k := fun hh => hh.elim hng (fun q => h17 q.1)
          have eG : goP L A n k C = (setS C.1 k (upd (bS C.1 k) 17 (bS C.1 k 17 + nI 1)), C.2) := (cif_y hs).trans ((cif_n hg).trans (cif_n h17))
          rw [eG] at ih2
          refine pw_fg (ls' := _) ?_ (ih2 _ ?_)
          rotate_left
          · show BU μ0 b _ _
            have hx := hb1.next (i := k) (by omega) (by omega) hs (by rw [hkk, nI_add]; exact m6_ne (by omega))
            rw [hkk, nI_add] at hx
            show BU μ0 b (setS C.1 k (upd (bS C.1 k) 17 (bS C.1 k 17 + nI 1))) _
            rw [hkk, nI_add]
            exact hx
          exact ⟨Or.inr rfl, Or.inr rfl, Or.inr rfl, Or.inr rfl, Or.inr rfl, Or.inl rfl, trivial⟩
    · skip
      refine pw_if_ne 34 dX0_goOnSpeaking_28 (by decide) (fun hh => absurd hh (by decide)) (fun _ => ?_)
      refine pw_goto 115 dX0_goOnSpeaking_31 (by decide) ?_
      refine pw_iincN_4 dX0_goOnSpeaking_115 (by decide) ?_
      refine pw_goto 5 dX0_goOnSpeaking_118 (by decide) ?_
      have eG : goP L A n k C = C := cif_n h2
      rw [eG] at ih2
      refine pw_fg (ls' := _) ?_ (ih2 _ ?_)
      rotate_left
      · show BU μ0 b _ _
        exact hb1
      exact ⟨Or.inr rfl, Or.inr rfl, Or.inr rfl, Or.inr rfl, Or.inr rfl, Or.inl rfl, trivial⟩
def ush (x y : Int32) : Int32 := (x.toUInt32 >>> (y.toUInt32 &&& Int32.toUInt32 31)).toInt32
def bcA (x : Int32) : Int32 := x - (ush x (nI 1) &&& 1431655765)
def bcB (x : Int32) : Int32 := (x &&& 858993459) + (ush x (nI 2) &&& 858993459)
def bcC (x : Int32) : Int32 := (x + ush x (nI 4)) &&& 252645135
def bcD (x : Int32) : Int32 := x + ush x (nI 8)
def bcE (x : Int32) : Int32 := x + ush x (nI 16)
def bcV (x : Int32) : Int32 := bcE (bcD (bcC (bcB (bcA x)))) &&& nI 63
def cB (b : Bool) (n : Nat) (x : Int32) : Int32 := if b = true then x ||| (nI 1 <<< (nI n &&& 31)) else x
def cN (b : Bool) (n : Nat) : Nat := if b = true then n + 1 else n
theorem bc_all : ∀ b0 b1 b2 b3 b4 b5 : Bool, bcV (cB b5 5 (cB b4 4 (cB b3 3 (cB b2 2 (cB b1 1 (cB b0 0 (nI 0))))))) = nI (cN b5 (cN b4 (cN b3 (cN b2 (cN b1 (cN b0 0)))))) := by decide +kernel
theorem msk_c (q : Nat → Prop) (n : Nat) : ∃ b, msk q (n + 1) = cB b n (msk q n) ∧ cntP q (n + 1) = cN b (cntP q n) := by
  by_cases h : q n
  · exact ⟨true, msk_y h, cntP_y h⟩
  · exact ⟨false, msk_n h, cntP_n h⟩
theorem bc_msk (q : Nat → Prop) : bcV (msk q 6) = nI (cntP q 6) := by
  obtain ⟨b5, e5, f5⟩ := msk_c q 5
  obtain ⟨b4, e4, f4⟩ := msk_c q 4
  obtain ⟨b3, e3, f3⟩ := msk_c q 3
  obtain ⟨b2, e2, f2⟩ := msk_c q 2
  obtain ⟨b1, e1, f1⟩ := msk_c q 1
  obtain ⟨b0, e0, f0⟩ := msk_c q 0
  rw [e5, e4, e3, e2, e1, e0, f5, f4, f3, f2, f1, f0]
  exact bc_all b0 b1 b2 b3 b4 b5
set_option maxRecDepth 100000 in
set_option maxHeartbeats 4000000 in
theorem k_bitC {X : Cx} {σ : Sp} {μ : Mm} {Q : Int32 → Sp → Mm → Prop} {x : Int32} (q : Q (bcV x) σ μ) : CTi X mJ6_bitCount_0f7a4 [.int x] σ μ Q := by
  refine CT.of (by decide +kernel) (Nat.le_of_ble_eq_true rfl) ?_
  show PW X mJ6_bitCount_0f7a4 0 0 0 [some (.int x)] [] σ μ (LI Q)
  refine pw_iload_0 dJ6_bitCount_0f7a4_0 ?_
  refine pw_iload_0 dJ6_bitCount_0f7a4_1 ?_
  refine pw_iconst (v := nI 1) dJ6_bitCount_0f7a4_2 (by decide) ?_
  refine pw_iushr dJ6_bitCount_0f7a4_3 ?_
  refine pw_ldcw dJ6_bitCount_0f7a4_4 qJ6_265 ?_
  refine pw_iand dJ6_bitCount_0f7a4_7 ?_
  refine pw_isub dJ6_bitCount_0f7a4_8 ?_
  refine pw_istore_0 dJ6_bitCount_0f7a4_9 (by decide) ?_
  refine pw_iload_0 dJ6_bitCount_0f7a4_10 ?_
  refine pw_ldcw dJ6_bitCount_0f7a4_11 qJ6_266 ?_
  refine pw_iand dJ6_bitCount_0f7a4_14 ?_
  refine pw_iload_0 dJ6_bitCount_0f7a4_15 ?_
  refine pw_iconst (v := nI 2) dJ6_bitCount_0f7a4_16 (by decide) ?_
  refine pw_iushr dJ6_bitCount_0f7a4_17 ?_
  refine pw_ldcw dJ6_bitCount_0f7a4_18 qJ6_266 ?_
  refine pw_iand dJ6_bitCount_0f7a4_21 ?_
  refine pw_iadd dJ6_bitCount_0f7a4_22 ?_
  refine pw_istore_0 dJ6_bitCount_0f7a4_23 (by decide) ?_
  refine pw_iload_0 dJ6_bitCount_0f7a4_24 ?_
  refine pw_iload_0 dJ6_bitCount_0f7a4_25 ?_
  refine pw_iconst (v := nI 4) dJ6_bitCount_0f7a4_26 (by decide) ?_
  refine pw_iushr dJ6_bitCount_0f7a4_27 ?_
  refine pw_iadd dJ6_bitCount_0f7a4_28 ?_
  refine pw_ldcw dJ6_bitCount_0f7a4_29 qJ6_267 ?_
  refine pw_iand dJ6_bitCount_0f7a4_32 ?_
  refine pw_istore_0 dJ6_bitCount_0f7a4_33 (by decide) ?_
  refine pw_iload_0 dJ6_bitCount_0f7a4_34 ?_
  refine pw_iload_0 dJ6_bitCount_0f7a4_35 ?_
  refine pw_bipush (v := nI 8) dJ6_bitCount_0f7a4_36 (by decide) ?_
  refine pw_iushr dJ6_bitCount_0f7a4_38 ?_
  refine pw_iadd dJ6_bitCount_0f7a4_39 ?_
  refine pw_istore_0 dJ6_bitCount_0f7a4_40 (by decide) ?_
  refine pw_iload_0 dJ6_bitCount_0f7a4_41 ?_
  refine pw_iload_0 dJ6_bitCount_0f7a4_42 ?_
  refine pw_bipush (v := nI 16) dJ6_bitCount_0f7a4_43 (by decide) ?_
  refine pw_iushr dJ6_bitCount_0f7a4_45 ?_
  refine pw_iadd dJ6_bitCount_0f7a4_46 ?_
  refine pw_istore_0 dJ6_bitCount_0f7a4_47 (by decide) ?_
  refine pw_iload_0 dJ6_bitCount_0f7a4_48 ?_
  refine pw_bipush (v := nI 63) dJ6_bitCount_0f7a4_49 (by decide) ?_
  refine pw_iand dJ6_bitCount_0f7a4_51 ?_
  refine pw_ireturn dJ6_bitCount_0f7a4_52 rfl ?_
  exact q
theorem k_bitCount {X : Cx} {σ : Sp} {μ : Mm} {Q : Int32 → Sp → Mm → Prop} {p : Nat → Prop} (q : Q (nI (cntP p 6)) σ μ) : CTi X mJ6_bitCount_0f7a4 [.int (msk p 6)] σ μ Q := k_bitC (by rw [bc_msk]; exact q)
theorem G_ch2 {B : Bs} {i : Nat} : bG (ch2 B i) = bG B := by
  unfold ch2
  by_cases hb : spB B i
  · rw [cif_y hb, Fr_gu.1]
    rfl
  · rw [cif_n hb]
    rfl
theorem G_ch3 {B : Bs} {i : Nat} : bG (ch3 B i) = bG B := by
  unfold ch3
  by_cases hb : wkP B i
  · rw [cif_y hb]
    rfl
  · rw [cif_n hb]
noncomputable def chD (L : Nat → Prop) (B : Bs) (i : Nat) : Bs := if chV L B i < 0 then ch2 (ch1 L B i) i else ch1 L B i
theorem G_chD {L : Nat → Prop} {B : Bs} {i : Nat} : bG (chD L B i) = bG B := by
  unfold chD
  split
  · rw [G_ch2]
    rfl
  · rfl
theorem n_chD {L : Nat → Prop} {B : Bs} {i : Nat} : nS (chD L B i) = nS B := by unfold nS; rw [G_chD]
theorem WF.kD {L : Nat → Prop} {B : Bs} {i : Nat} (h : WF B) (hi : i < nS B) : WF (chD L B i) := by
  unfold chD
  split
  · exact (h.k1 hi).k2 hi
  · exact h.k1 hi
theorem chS_D (L : Nat → Prop) (B : Bs) (i : Nat) : chS L i B = ch3 (chD L B i) i := rfl
theorem G_chS {L : Nat → Prop} {B : Bs} {i : Nat} : bG (chS L i B) = bG B := by rw [chS_D, G_ch3, G_chD]
theorem nS_G {B C : Bs} (h : bG C = bG B) : nS C = nS B := by unfold nS; rw [h]
theorem ch_wf {L : Nat → Prop} {B : Bs} {k : Nat} (wf : WF B) (hk : k ≤ nS B) : WF (itr (chS L) k B) ∧ bG (itr (chS L) k B) = bG B := itr_ind (P := fun _ x => WF x ∧ bG x = bG B) ⟨wf, rfl⟩ fun i x hi hx => ⟨hx.1.kch (by rw [nS_G hx.2]; omega), G_chS.trans hx.2⟩
theorem cl_eq {v F : Int32} (h : nI 0 ≤ F) : (if nI 0 < (if F < v then F else v) then (if F < v then F else v) else nI 0) = clV v F := by
  unfold clV
  by_cases h1 : F < v
  · rw [if_pos h1, if_pos h1]
    by_cases h2 : nI 0 < F
    · rw [if_pos h2]
    · rw [if_neg h2]
      exact Int32.le_antisymm h (Int32.not_lt.mp h2)
  · rw [if_neg h1, if_neg h1]
    by_cases h2 : v < 0
    · rw [if_pos h2, if_neg (show ¬ nI 0 < v from fun h3 => absurd (Int32.lt_trans h3 h2) (by decide))]
    · rw [if_neg h2]
      by_cases h3 : nI 0 < v
      · rw [if_pos h3]
      · rw [if_neg h3]
        exact Int32.le_antisymm (Int32.not_lt.mp h2) (Int32.not_lt.mp h3)
set_option maxRecDepth 100000 in
set_option maxHeartbeats 4000000 in
theorem k_charge {X : Cx} {σ : Sp} {μ : Mm} {Q : Sp → Mm → Prop} {μ0 : Mm} {b n : Nat} {B : Bs} {L : Nat → Prop} (h : ShBus σ b) (hb : BU μ0 b B μ) (wf : WF B) (hn : nS B = n) (q : ∀ μ', BU μ0 b (itr (chS L) n B) μ' → Q σ μ') : CTv X mX0_changeCharges [.ref b, .int (msk (fun v => ¬ L v) 6)] σ μ Q := by
  refine CT.of (by decide +kernel) (Nat.le_of_ble_eq_true rfl) ?_
  show PW X mX0_changeCharges 0 0 0 [some (.ref b), some (.int (msk (fun v => ¬ L v) 6)), none, none, none, none, none] [] σ μ (LV Q)
  have h8 : n ≤ 8 := hn ▸ wf.n8
  refine pw_aload_0 dX0_changeCharges_0 ?_
  refine pw_getr 0 0 dX0_changeCharges_1 fX0_18 rfl (by decide) rfl h.t h.r0 ?_
  refine pw_iconst (v := nI 1) dX0_changeCharges_4 (by decide) ?_
  refine pw_ialdN dX0_changeCharges_5 h.a1 (by omega) (by decide) ?_
  refine pw_top (hb.g (by decide)) ?_
  refine pw_istore_2 dX0_changeCharges_6 (by decide) ?_
  refine pw_iconst (v := nI 0) dX0_changeCharges_7 (by decide) ?_
  refine pw_istore_3 dX0_changeCharges_8 (by decide) ?_
  refine pw_fg (ls' := [some (.ref b), some (.int (msk (fun v => ¬ L v) 6)), some (.int (bG B 1)), some (.int (nI 0)), none, none, none]) ⟨Or.inr rfl, Or.inr rfl, Or.inr rfl, Or.inr rfl, Or.inl rfl, Or.inl rfl, Or.inl rfl, trivial⟩ ?_
  refine pw_up (P := fun k => ∀ μ, BU μ0 b (itr (chS L) k B) μ → PW X mX0_changeCharges 0 0 9 [some (.ref b), some (.int (msk (fun v => ¬ L v) 6)), some (.int (bG B 1)), some (.int (nI k)), none, none, none] [] σ μ (LV Q)) n ?_ ?_ 0 (by omega) _ hb
  · intro μ1 hb1
    have wn := ch_wf (L := L) wf (show n ≤ nS B by omega)
    have wf1 := wn.1
    have hn1 := (nS_G wn.2).trans hn
    refine pw_iload_3 dX0_changeCharges_9 ?_
    refine pw_aload_0 dX0_changeCharges_10 ?_
    refine pw_getI 0 5 dX0_changeCharges_11 fX0_49 rfl (by decide) rfl h.t ?_
    refine pw_top (hb1.n wf1 hn1) ?_
    refine pw_icmp_ge 152 dX0_changeCharges_14 (by decide) (fun _ => ?_) (fun hh => absurd (by rw [nI_leI (by omega) (by omega)]; omega) hh)
    refine pw_return dX0_changeCharges_152 rfl ?_
    exact q _ hb1
  · intro k hk ih μ1 hb1
    have ih2 : ∀ μ, BU μ0 b (chS L k (itr (chS L) k B)) μ → _ := ih
    have wn := ch_wf (L := L) wf (show k ≤ nS B by omega)
    have wf1 := wn.1
    have hn1 := (nS_G wn.2).trans hn
    have hG := wn.2
    clear wn
    generalize itr (chS L) k B = C at hb1 ih2 wf1 hn1 hG
    refine pw_iload_3 dX0_changeCharges_9 ?_
    refine pw_aload_0 dX0_changeCharges_10 ?_
    refine pw_getI 0 5 dX0_changeCharges_11 fX0_49 rfl (by decide) rfl h.t ?_
    refine pw_top (hb1.n wf1 hn1) ?_
    refine pw_icmp_ge 152 dX0_changeCharges_14 (by decide) (fun hh => absurd hh (by rw [nI_leI (by omega) (by omega)]; omega)) (fun _ => ?_)
    refine pw_aload_0 dX0_changeCharges_17 ?_
    refine pw_getr 0 4 dX0_changeCharges_18 fX0_34 rfl (by decide) rfl h.t h.r4 ?_
    refine pw_iload_3 dX0_changeCharges_21 ?_
    refine pw_aaldSr dX0_changeCharges_22 h.a5 (by omega) (by decide) (h.s (by omega)) ?_
    refine pw_astore_4 dX0_changeCharges_23 (by decide) ?_
    refine pw_aload_4 dX0_changeCharges_25 ?_
    refine pw_cV0i 6 dX0_changeCharges_27 kX0_151 vX6_isAwake iX6_isAwake ⟨by decide, by decide⟩ ⟨rfl, rfl⟩ (by decide) rfl (Nat.le_of_ble_eq_true rfl) ((h.S (by omega))).t (k_isAwake h hb1 (by omega) (fun h1 => ?_) (fun h2 => ?_))
    · skip
      refine pw_if_eq 42 dX0_changeCharges_30 (by decide) (fun hh => absurd hh (by decide)) (fun _ => ?_)
      refine pw_aload_0 dX0_changeCharges_33 ?_
      refine pw_getr 0 0 dX0_changeCharges_34 fX0_18 rfl (by decide) rfl h.t h.r0 ?_
      refine pw_iconst (v := nI 2) dX0_changeCharges_37 (by decide) ?_
      refine pw_ialdN dX0_changeCharges_38 h.a1 (by omega) (by decide) ?_
      refine pw_top (hb1.g (by decide)) ?_
      refine pw_goto 43 dX0_changeCharges_39 (by decide) ?_
      refine pw_istore_5 dX0_changeCharges_43 (by decide) ?_
      refine pw_aload_4 dX0_changeCharges_45 ?_
      refine pw_getI 6 4 dX0_changeCharges_47 fX0_68 rfl (by decide) rfl ((h.S (by omega))).t ?_
      refine pw_top (hb1.s4 (by omega)) ?_
      refine pw_aload_0 dX0_changeCharges_50 ?_
      refine pw_getr 0 0 dX0_changeCharges_51 fX0_18 rfl (by decide) rfl h.t h.r0 ?_
      refine pw_iconst (v := nI 3) dX0_changeCharges_54 (by decide) ?_
      refine pw_ialdN dX0_changeCharges_55 h.a1 (by omega) (by decide) ?_
      refine pw_top (hb1.g (by decide)) ?_
      refine pw_aload_4 dX0_changeCharges_56 ?_
      refine pw_getI 6 3 dX0_changeCharges_58 fX0_77 rfl (by decide) rfl ((h.S (by omega))).t ?_
      refine pw_top (hb1.s3 (by omega)) ?_
      refine pw_iload_1 dX0_changeCharges_61 ?_
      refine pw_iand dX0_changeCharges_62 ?_
      refine pw_top (and_msk (by decide)) ?_
      refine pw_cS1i dX0_changeCharges_63 kX0_208 vJ6_bitCount_0f7a4 sJ6_bitCount_0f7a4 ⟨by decide, by decide⟩ ⟨rfl, rfl⟩ (Nat.le_of_ble_eq_true rfl) (k_bitCount ?_)
      refine pw_imul dX0_changeCharges_66 ?_
      refine pw_iadd dX0_changeCharges_67 ?_
      refine pw_iload_5 dX0_changeCharges_68 ?_
      refine pw_isub dX0_changeCharges_70 ?_
      refine pw_top (show _ = chV L C k by unfold chV; rw [cif_y h1]; rfl) ?_
      refine pw_istore_6 dX0_changeCharges_71 (by decide) ?_
      refine pw_aload_4 dX0_changeCharges_73 ?_
      refine pw_iconst (v := nI 0) dX0_changeCharges_75 (by decide) ?_
      refine pw_iload_6 dX0_changeCharges_76 ?_
      refine pw_iload_2 dX0_changeCharges_78 ?_
      refine pw_min dX0_changeCharges_79 kX0_71 tm_mins tm_i tm_minc (by decide) (Nat.le_of_ble_eq_true rfl) ?_
      refine pw_max dX0_changeCharges_82 kX0_213 tm_maxs tm_i tm_maxc (by decide) (Nat.le_of_ble_eq_true rfl) ?_
      refine pw_top (cl_eq (by rw [← hG]; exact wf1.full)) ?_
      refine pw_putI 6 4 dX0_changeCharges_85 fX0_68 rfl (by decide) rfl (Or.inl rfl) rfl (by decide) ((h.S (by omega))).t ?_
      refine pw_gen (P := BU μ0 b (setS C k (upd (bS C k) 1 (clV (chV L C k) (bG B 1))))) (hb1.charge (by omega) _) (fun μ1 hb1 => ?_)
      have wf2 : WF (ch1 L C k) := wf1.k1 (by omega)
      refine pw_gen (P := BU μ0 b (ch1 L C k)) (by unfold ch1; rw [hG]; exact hb1) (fun μ5 hb5 => ?_)
      refine pw_iload_6 dX0_changeCharges_88 ?_
      refine pw_if_ge 113 dX0_changeCharges_90 (by decide) (fun h3 => ?_) (fun h3 => ?_)
      · skip
        have wf4 : WF (chD L C k) := wf1.kD (by omega)
        have hn4 : nS (chD L C k) = n := n_chD.trans hn1
        have z4 := (wf4.s (i := k) (by omega)).2.1
        refine pw_gen (P := BU μ0 b (chD L C k)) (by unfold chD; rw [if_neg (Int32.not_lt.mpr h3)]; exact hb5) (fun μ6 hb6 => ?_)
        refine pw_aload_4 dX0_changeCharges_113 ?_
        refine pw_getI 6 5 dX0_changeCharges_115 fX0_216 rfl (by decide) rfl ((h.S (by omega))).t ?_
        refine pw_top (hb6.s5 (by omega)) ?_
        refine pw_if_eq 146 dX0_changeCharges_118 (by decide) (fun h4 => ?_) (fun h4 => ?_)
        · skip
          refine pw_iincN_3 dX0_changeCharges_146 (by decide) ?_
          refine pw_goto 9 dX0_changeCharges_149 (by decide) ?_
          refine pw_fg (ls' := [some (.ref b), some (.int (msk (fun v => ¬ L v) 6)), some (.int (bG B 1)), some (.int (nI ((k + 1)))), none, none, none]) ⟨Or.inr rfl, Or.inr rfl, Or.inr rfl, Or.inr rfl, Or.inl rfl, Or.inl rfl, Or.inl rfl, trivial⟩ (ih2 _ ?_)
          have hG4 : bG (chD L C k) = bG B := G_chD.trans hG
          rw [chS_D]
          unfold ch3
          rw [cif_n (fun hh => absurd (hh.1.symm.trans h4) (by decide))]
          exact hb6
        · skip
          refine pw_aload_4 dX0_changeCharges_121 ?_
          refine pw_getI 6 6 dX0_changeCharges_123 fX0_117 rfl (by decide) rfl ((h.S (by omega))).t ?_
          refine pw_top (hb6.s6 (by omega)) ?_
          refine pw_if_ne 146 dX0_changeCharges_126 (by decide) (fun h5 => ?_) (fun h5 => ?_)
          · skip
            refine pw_iincN_3 dX0_changeCharges_146 (by decide) ?_
            refine pw_goto 9 dX0_changeCharges_149 (by decide) ?_
            refine pw_fg (ls' := [some (.ref b), some (.int (msk (fun v => ¬ L v) 6)), some (.int (bG B 1)), some (.int (nI ((k + 1)))), none, none, none]) ⟨Or.inr rfl, Or.inr rfl, Or.inr rfl, Or.inr rfl, Or.inl rfl, Or.inl rfl, Or.inl rfl, trivial⟩ (ih2 _ ?_)
            have hG4 : bG (chD L C k) = bG B := G_chD.trans hG
            rw [chS_D]
            unfold ch3
            rw [cif_n (fun hh => h5 hh.2.1)]
            exact hb6
          · skip
            refine pw_aload_4 dX0_changeCharges_129 ?_
            refine pw_getI 6 4 dX0_changeCharges_131 fX0_68 rfl (by decide) rfl ((h.S (by omega))).t ?_
            refine pw_top (hb6.s4 (by omega)) ?_
            refine pw_iload_2 dX0_changeCharges_134 ?_
            refine pw_iconst (v := nI 2) dX0_changeCharges_135 (by decide) ?_
            refine pw_idiv dX0_changeCharges_136 (by decide) ?_
            refine pw_icmp_lt 146 dX0_changeCharges_137 (by decide) (fun h6 => ?_) (fun h6 => ?_)
            · skip
              refine pw_iincN_3 dX0_changeCharges_146 (by decide) ?_
              refine pw_goto 9 dX0_changeCharges_149 (by decide) ?_
              refine pw_fg (ls' := [some (.ref b), some (.int (msk (fun v => ¬ L v) 6)), some (.int (bG B 1)), some (.int (nI ((k + 1)))), none, none, none]) ⟨Or.inr rfl, Or.inr rfl, Or.inr rfl, Or.inr rfl, Or.inl rfl, Or.inl rfl, Or.inl rfl, trivial⟩ (ih2 _ ?_)
              have hG4 : bG (chD L C k) = bG B := G_chD.trans hG
              rw [chS_D]
              unfold ch3
              rw [cif_n (fun hh => Int32.not_le.mpr h6 (by rw [← hG4]; exact hh.2.2))]
              exact hb6
            · skip
              refine pw_aload_4 dX0_changeCharges_140 ?_
              refine pw_iconst (v := nI 0) dX0_changeCharges_142 (by decide) ?_
              refine pw_putZ 6 5 dX0_changeCharges_143 fX0_216 rfl (by decide) rfl (Or.inl rfl) rfl (by decide) ((h.S (by omega))).t ?_
              refine pw_gen (P := BU μ0 b (setS (chD L C k) k (upd (bS (chD L C k) k) 2 (nI 0)))) (hb6.asleep (by omega) _) (fun μ2 hb2 => ?_)
              refine pw_iincN_3 dX0_changeCharges_146 (by decide) ?_
              refine pw_goto 9 dX0_changeCharges_149 (by decide) ?_
              refine pw_fg (ls' := [some (.ref b), some (.int (msk (fun v => ¬ L v) 6)), some (.int (bG B 1)), some (.int (nI ((k + 1)))), none, none, none]) ⟨Or.inr rfl, Or.inr rfl, Or.inr rfl, Or.inr rfl, Or.inl rfl, Or.inl rfl, Or.inl rfl, trivial⟩ (ih2 _ ?_)
              rw [chS_D]
              unfold ch3
              rw [cif_y ⟨z4.1.resolve_left h4, h5, by rw [G_chD, hG]; exact Int32.not_lt.mp h6⟩]
              exact hb2
      · skip
        refine pw_aload_4 dX0_changeCharges_93 ?_
        refine pw_iconst (v := nI 1) dX0_changeCharges_95 (by decide) ?_
        refine pw_putZ 6 5 dX0_changeCharges_96 fX0_216 rfl (by decide) rfl (Or.inl rfl) rfl (by decide) ((h.S (by omega))).t ?_
        refine pw_gen (P := BU μ0 b (setS (ch1 L C k) k (upd (bS (ch1 L C k) k) 2 (nI 1)))) (hb5.asleep (by omega) _) (fun μ3 hb3 => ?_)
        have wf3 : WF (setS (ch1 L C k) k (upd (bS (ch1 L C k) k) 2 (nI 1))) := wf2.pS (by show k < nS C; omega) ((wf2.s (by show k < nS C; omega)).z (Or.inl rfl) (Or.inr rfl)) (by rw [upd_n _ _ (by omega)]; exact wf2.c (by show k < nS C; omega))
        refine pw_aload_4 dX0_changeCharges_99 ?_
        refine pw_cV0i 6 dX0_changeCharges_101 kX0_121 vX6_isSpeaking iX6_isSpeaking ⟨by decide, by decide⟩ ⟨rfl, rfl⟩ (by decide) rfl (Nat.le_of_ble_eq_true rfl) ((h.S (by omega))).t (k_isSpeaking h hb3 wf3 (by show k < nS C; omega) (fun h7 => ?_) (fun h8 => ?_))
        · skip
          refine pw_if_eq 113 dX0_changeCharges_104 (by decide) (fun hh => absurd hh (by decide)) (fun _ => ?_)
          refine pw_aload_0 dX0_changeCharges_107 ?_
          refine pw_aload_4 dX0_changeCharges_108 ?_
          refine pw_cV1v 0 dX0_changeCharges_110 kX0_125 vX0_giveUp iX0_giveUp ⟨by decide, by decide⟩ ⟨rfl, rfl⟩ (by decide) rfl (Nat.le_of_ble_eq_true rfl) h.t (k_giveUp h hb3 wf3 hn1 (i := k) (by omega) (wf3.s (i := k) (by show k < nS C; omega) |>.sp h7).1 (fun μ4 hb4 => ?_))
          have wf4 : WF (chD L C k) := wf1.kD (by omega)
          have hn4 : nS (chD L C k) = n := n_chD.trans hn1
          have z4 := (wf4.s (i := k) (by omega)).2.1
          refine pw_gen (P := BU μ0 b (chD L C k)) (by unfold chD; rw [if_pos (Int32.not_le.mp h3)]; unfold ch2; rw [cif_y (show spB (ch1 L C k) k from fun e => h7 (by rw [bS_setS_s, upd_n _ _ (by omega)]; exact e))]; exact hb4) (fun μ6 hb6 => ?_)
          refine pw_aload_4 dX0_changeCharges_113 ?_
          refine pw_getI 6 5 dX0_changeCharges_115 fX0_216 rfl (by decide) rfl ((h.S (by omega))).t ?_
          refine pw_top (hb6.s5 (by omega)) ?_
          refine pw_if_eq 146 dX0_changeCharges_118 (by decide) (fun h9 => ?_) (fun h9 => ?_)
          · skip
            refine pw_iincN_3 dX0_changeCharges_146 (by decide) ?_
            refine pw_goto 9 dX0_changeCharges_149 (by decide) ?_
            refine pw_fg (ls' := [some (.ref b), some (.int (msk (fun v => ¬ L v) 6)), some (.int (bG B 1)), some (.int (nI ((k + 1)))), none, none, none]) ⟨Or.inr rfl, Or.inr rfl, Or.inr rfl, Or.inr rfl, Or.inl rfl, Or.inl rfl, Or.inl rfl, trivial⟩ (ih2 _ ?_)
            have hG4 : bG (chD L C k) = bG B := G_chD.trans hG
            rw [chS_D]
            unfold ch3
            rw [cif_n (fun hh => absurd (hh.1.symm.trans h9) (by decide))]
            exact hb6
          · skip
            refine pw_aload_4 dX0_changeCharges_121 ?_
            refine pw_getI 6 6 dX0_changeCharges_123 fX0_117 rfl (by decide) rfl ((h.S (by omega))).t ?_
            refine pw_top (hb6.s6 (by omega)) ?_
            refine pw_if_ne 146 dX0_changeCharges_126 (by decide) (fun h10 => ?_) (fun h10 => ?_)
            · skip
              refine pw_iincN_3 dX0_changeCharges_146 (by decide) ?_
              refine pw_goto 9 dX0_changeCharges_149 (by decide) ?_
              refine pw_fg (ls' := [some (.ref b), some (.int (msk (fun v => ¬ L v) 6)), some (.int (bG B 1)), some (.int (nI ((k + 1)))), none, none, none]) ⟨Or.inr rfl, Or.inr rfl, Or.inr rfl, Or.inr rfl, Or.inl rfl, Or.inl rfl, Or.inl rfl, trivial⟩ (ih2 _ ?_)
              have hG4 : bG (chD L C k) = bG B := G_chD.trans hG
              rw [chS_D]
              unfold ch3
              rw [cif_n (fun hh => h10 hh.2.1)]
              exact hb6
            · skip
              refine pw_aload_4 dX0_changeCharges_129 ?_
              refine pw_getI 6 4 dX0_changeCharges_131 fX0_68 rfl (by decide) rfl ((h.S (by omega))).t ?_
              refine pw_top (hb6.s4 (by omega)) ?_
              refine pw_iload_2 dX0_changeCharges_134 ?_
              refine pw_iconst (v := nI 2) dX0_changeCharges_135 (by decide) ?_
              refine pw_idiv dX0_changeCharges_136 (by decide) ?_
              refine pw_icmp_lt 146 dX0_changeCharges_137 (by decide) (fun h11 => ?_) (fun h11 => ?_)
              · skip
                refine pw_iincN_3 dX0_changeCharges_146 (by decide) ?_
                refine pw_goto 9 dX0_changeCharges_149 (by decide) ?_
                refine pw_fg (ls' := [some (.ref b), some (.int (msk (fun v => ¬ L v) 6)), some (.int (bG B 1)), some (.int (nI ((k + 1)))), none, none, none]) ⟨Or.inr rfl, Or.inr rfl, Or.inr rfl, Or.inr rfl, Or.inl rfl, Or.inl rfl, Or.inl rfl, trivial⟩ (ih2 _ ?_)
                have hG4 : bG (chD L C k) = bG B := G_chD.trans hG
                rw [chS_D]
                unfold ch3
                rw [cif_n (fun hh => Int32.not_le.mpr h11 (by rw [← hG4]; exact hh.2.2))]
                exact hb6
              · skip
                refine pw_aload_4 dX0_changeCharges_140 ?_
                refine pw_iconst (v := nI 0) dX0_changeCharges_142 (by decide) ?_
                refine pw_putZ 6 5 dX0_changeCharges_143 fX0_216 rfl (by decide) rfl (Or.inl rfl) rfl (by decide) ((h.S (by omega))).t ?_
                refine pw_gen (P := BU μ0 b (setS (chD L C k) k (upd (bS (chD L C k) k) 2 (nI 0)))) (hb6.asleep (by omega) _) (fun μ5 hb5 => ?_)
                refine pw_iincN_3 dX0_changeCharges_146 (by decide) ?_
                refine pw_goto 9 dX0_changeCharges_149 (by decide) ?_
                refine pw_fg (ls' := [some (.ref b), some (.int (msk (fun v => ¬ L v) 6)), some (.int (bG B 1)), some (.int (nI ((k + 1)))), none, none, none]) ⟨Or.inr rfl, Or.inr rfl, Or.inr rfl, Or.inr rfl, Or.inl rfl, Or.inl rfl, Or.inl rfl, trivial⟩ (ih2 _ ?_)
                rw [chS_D]
                unfold ch3
                rw [cif_y ⟨z4.1.resolve_left h9, h10, by rw [G_chD, hG]; exact Int32.not_lt.mp h11⟩]
                exact hb5
        · skip
          refine pw_if_eq 113 dX0_changeCharges_104 (by decide) (fun _ => ?_) (fun hh => absurd (by decide) hh)
          have wf4 : WF (chD L C k) := wf1.kD (by omega)
          have hn4 : nS (chD L C k) = n := n_chD.trans hn1
          have z4 := (wf4.s (i := k) (by omega)).2.1
          refine pw_gen (P := BU μ0 b (chD L C k)) (by unfold chD; rw [if_pos (Int32.not_le.mp h3)]; unfold ch2; rw [cif_n (fun hh => h8 (fun e => hh (by rw [bS_setS_s, upd_n _ _ (by omega)] at e; exact e)))]; exact hb3) (fun μ6 hb6 => ?_)
          refine pw_aload_4 dX0_changeCharges_113 ?_
          refine pw_getI 6 5 dX0_changeCharges_115 fX0_216 rfl (by decide) rfl ((h.S (by omega))).t ?_
          refine pw_top (hb6.s5 (by omega)) ?_
          refine pw_if_eq 146 dX0_changeCharges_118 (by decide) (fun h12 => ?_) (fun h12 => ?_)
          · skip
            refine pw_iincN_3 dX0_changeCharges_146 (by decide) ?_
            refine pw_goto 9 dX0_changeCharges_149 (by decide) ?_
            refine pw_fg (ls' := [some (.ref b), some (.int (msk (fun v => ¬ L v) 6)), some (.int (bG B 1)), some (.int (nI ((k + 1)))), none, none, none]) ⟨Or.inr rfl, Or.inr rfl, Or.inr rfl, Or.inr rfl, Or.inl rfl, Or.inl rfl, Or.inl rfl, trivial⟩ (ih2 _ ?_)
            have hG4 : bG (chD L C k) = bG B := G_chD.trans hG
            rw [chS_D]
            unfold ch3
            rw [cif_n (fun hh => absurd (hh.1.symm.trans h12) (by decide))]
            exact hb6
          · skip
            refine pw_aload_4 dX0_changeCharges_121 ?_
            refine pw_getI 6 6 dX0_changeCharges_123 fX0_117 rfl (by decide) rfl ((h.S (by omega))).t ?_
            refine pw_top (hb6.s6 (by omega)) ?_
            refine pw_if_ne 146 dX0_changeCharges_126 (by decide) (fun h13 => ?_) (fun h13 => ?_)
            · skip
              refine pw_iincN_3 dX0_changeCharges_146 (by decide) ?_
              refine pw_goto 9 dX0_changeCharges_149 (by decide) ?_
              refine pw_fg (ls' := [some (.ref b), some (.int (msk (fun v => ¬ L v) 6)), some (.int (bG B 1)), some (.int (nI ((k + 1)))), none, none, none]) ⟨Or.inr rfl, Or.inr rfl, Or.inr rfl, Or.inr rfl, Or.inl rfl, Or.inl rfl, Or.inl rfl, trivial⟩ (ih2 _ ?_)
              have hG4 : bG (chD L C k) = bG B := G_chD.trans hG
              rw [chS_D]
              unfold ch3
              rw [cif_n (fun hh => h13 hh.2.1)]
              exact hb6
            · skip
              refine pw_aload_4 dX0_changeCharges_129 ?_
              refine pw_getI 6 4 dX0_changeCharges_131 fX0_68 rfl (by decide) rfl ((h.S (by omega))).t ?_
              refine pw_top (hb6.s4 (by omega)) ?_
              refine pw_iload_2 dX0_changeCharges_134 ?_
              refine pw_iconst (v := nI 2) dX0_changeCharges_135 (by decide) ?_
              refine pw_idiv dX0_changeCharges_136 (by decide) ?_
              refine pw_icmp_lt 146 dX0_changeCharges_137 (by decide) (fun h14 => ?_) (fun h14 => ?_)
              · skip
                refine pw_iincN_3 dX0_changeCharges_146 (by decide) ?_
                refine pw_goto 9 dX0_changeCharges_149 (by decide) ?_
                refine pw_fg (ls' := [some (.ref b), some (.int (msk (fun v => ¬ L v) 6)), some (.int (bG B 1)), some (.int (nI ((k + 1)))), none, none, none]) ⟨Or.inr rfl, Or.inr rfl, Or.inr rfl, Or.inr rfl, Or.inl rfl, Or.inl rfl, Or.inl rfl, trivial⟩ (ih2 _ ?_)
                have hG4 : bG (chD L C k) = bG B := G_chD.trans hG
                rw [chS_D]
                unfold ch3
                rw [cif_n (fun hh => Int32.not_le.mpr h14 (by rw [← hG4]; exact hh.2.2))]
                exact hb6
              · skip
                refine pw_aload_4 dX0_changeCharges_140 ?_
                refine pw_iconst (v := nI 0) dX0_changeCharges_142 (by decide) ?_
                refine pw_putZ 6 5 dX0_changeCharges_143 fX0_216 rfl (by decide) rfl (Or.inl rfl) rfl (by decide) ((h.S (by omega))).t ?_
                refine pw_gen (P := BU μ0 b (setS (chD L C k) k (upd (bS (chD L C k) k) 2 (nI 0)))) (hb6.asleep (by omega) _) (fun μ6 hb6 => ?_)
                refine pw_iincN_3 dX0_changeCharges_146 (by decide) ?_
                refine pw_goto 9 dX0_changeCharges_149 (by decide) ?_
                refine pw_fg (ls' := [some (.ref b), some (.int (msk (fun v => ¬ L v) 6)), some (.int (bG B 1)), some (.int (nI ((k + 1)))), none, none, none]) ⟨Or.inr rfl, Or.inr rfl, Or.inr rfl, Or.inr rfl, Or.inl rfl, Or.inl rfl, Or.inl rfl, trivial⟩ (ih2 _ ?_)
                rw [chS_D]
                unfold ch3
                rw [cif_y ⟨z4.1.resolve_left h12, h13, by rw [G_chD, hG]; exact Int32.not_lt.mp h14⟩]
                exact hb6
    · skip
      refine pw_if_eq 42 dX0_changeCharges_30 (by decide) (fun _ => ?_) (fun hh => absurd (by decide) hh)
      refine pw_iconst (v := nI 0) dX0_changeCharges_42 (by decide) ?_
      refine pw_istore_5 dX0_changeCharges_43 (by decide) ?_
      refine pw_aload_4 dX0_changeCharges_45 ?_
      refine pw_getI 6 4 dX0_changeCharges_47 fX0_68 rfl (by decide) rfl ((h.S (by omega))).t ?_
      refine pw_top (hb1.s4 (by omega)) ?_
      refine pw_aload_0 dX0_changeCharges_50 ?_
      refine pw_getr 0 0 dX0_changeCharges_51 fX0_18 rfl (by decide) rfl h.t h.r0 ?_
      refine pw_iconst (v := nI 3) dX0_changeCharges_54 (by decide) ?_
      refine pw_ialdN dX0_changeCharges_55 h.a1 (by omega) (by decide) ?_
      refine pw_top (hb1.g (by decide)) ?_
      refine pw_aload_4 dX0_changeCharges_56 ?_
      refine pw_getI 6 3 dX0_changeCharges_58 fX0_77 rfl (by decide) rfl ((h.S (by omega))).t ?_
      refine pw_top (hb1.s3 (by omega)) ?_
      refine pw_iload_1 dX0_changeCharges_61 ?_
      refine pw_iand dX0_changeCharges_62 ?_
      refine pw_top (and_msk (by decide)) ?_
      refine pw_cS1i dX0_changeCharges_63 kX0_208 vJ6_bitCount_0f7a4 sJ6_bitCount_0f7a4 ⟨by decide, by decide⟩ ⟨rfl, rfl⟩ (Nat.le_of_ble_eq_true rfl) (k_bitCount ?_)
      refine pw_imul dX0_changeCharges_66 ?_
      refine pw_iadd dX0_changeCharges_67 ?_
      refine pw_iload_5 dX0_changeCharges_68 ?_
      refine pw_isub dX0_changeCharges_70 ?_
      refine pw_top (show _ = chV L C k by unfold chV; rw [cif_n h2]; rfl) ?_
      refine pw_istore_6 dX0_changeCharges_71 (by decide) ?_
      refine pw_aload_4 dX0_changeCharges_73 ?_
      refine pw_iconst (v := nI 0) dX0_changeCharges_75 (by decide) ?_
      refine pw_iload_6 dX0_changeCharges_76 ?_
      refine pw_iload_2 dX0_changeCharges_78 ?_
      refine pw_min dX0_changeCharges_79 kX0_71 tm_mins tm_i tm_minc (by decide) (Nat.le_of_ble_eq_true rfl) ?_
      refine pw_max dX0_changeCharges_82 kX0_213 tm_maxs tm_i tm_maxc (by decide) (Nat.le_of_ble_eq_true rfl) ?_
      refine pw_top (cl_eq (by rw [← hG]; exact wf1.full)) ?_
      refine pw_putI 6 4 dX0_changeCharges_85 fX0_68 rfl (by decide) rfl (Or.inl rfl) rfl (by decide) ((h.S (by omega))).t ?_
      refine pw_gen (P := BU μ0 b (setS C k (upd (bS C k) 1 (clV (chV L C k) (bG B 1))))) (hb1.charge (by omega) _) (fun μ7 hb7 => ?_)
      have wf2 : WF (ch1 L C k) := wf1.k1 (by omega)
      refine pw_gen (P := BU μ0 b (ch1 L C k)) (by unfold ch1; rw [hG]; exact hb7) (fun μ5 hb5 => ?_)
      refine pw_iload_6 dX0_changeCharges_88 ?_
      refine pw_if_ge 113 dX0_changeCharges_90 (by decide) (fun h15 => ?_) (fun h15 => ?_)
      · skip
        have wf4 : WF (chD L C k) := wf1.kD (by omega)
        have hn4 : nS (chD L C k) = n := n_chD.trans hn1
        have z4 := (wf4.s (i := k) (by omega)).2.1
        refine pw_gen (P := BU μ0 b (chD L C k)) (by unfold chD; rw [if_neg (Int32.not_lt.mpr h15)]; exact hb5) (fun μ6 hb6 => ?_)
        refine pw_aload_4 dX0_changeCharges_113 ?_
        refine pw_getI 6 5 dX0_changeCharges_115 fX0_216 rfl (by decide) rfl ((h.S (by omega))).t ?_
        refine pw_top (hb6.s5 (by omega)) ?_
        refine pw_if_eq 146 dX0_changeCharges_118 (by decide) (fun h16 => ?_) (fun h16 => ?_)
        · skip
          refine pw_iincN_3 dX0_changeCharges_146 (by decide) ?_
          refine pw_goto 9 dX0_changeCharges_149 (by decide) ?_
          refine pw_fg (ls' := [some (.ref b), some (.int (msk (fun v => ¬ L v) 6)), some (.int (bG B 1)), some (.int (nI ((k + 1)))), none, none, none]) ⟨Or.inr rfl, Or.inr rfl, Or.inr rfl, Or.inr rfl, Or.inl rfl, Or.inl rfl, Or.inl rfl, trivial⟩ (ih2 _ ?_)
          have hG4 : bG (chD L C k) = bG B := G_chD.trans hG
          rw [chS_D]
          unfold ch3
          rw [cif_n (fun hh => absurd (hh.1.symm.trans h16) (by decide))]
          exact hb6
        · skip
          refine pw_aload_4 dX0_changeCharges_121 ?_
          refine pw_getI 6 6 dX0_changeCharges_123 fX0_117 rfl (by decide) rfl ((h.S (by omega))).t ?_
          refine pw_top (hb6.s6 (by omega)) ?_
          refine pw_if_ne 146 dX0_changeCharges_126 (by decide) (fun h17 => ?_) (fun h17 => ?_)
          · skip
            refine pw_iincN_3 dX0_changeCharges_146 (by decide) ?_
            refine pw_goto 9 dX0_changeCharges_149 (by decide) ?_
            refine pw_fg (ls' := [some (.ref b), some (.int (msk (fun v => ¬ L v) 6)), some (.int (bG B 1)), some (.int (nI ((k + 1)))), none, none, none]) ⟨Or.inr rfl, Or.inr rfl, Or.inr rfl, Or.inr rfl, Or.inl rfl, Or.inl rfl, Or.inl rfl, trivial⟩ (ih2 _ ?_)
            have hG4 : bG (chD L C k) = bG B := G_chD.trans hG
            rw [chS_D]
            unfold ch3
            rw [cif_n (fun hh => h17 hh.2.1)]
            exact hb6
          · skip
            refine pw_aload_4 dX0_changeCharges_129 ?_
            refine pw_getI 6 4 dX0_changeCharges_131 fX0_68 rfl (by decide) rfl ((h.S (by omega))).t ?_
            refine pw_top (hb6.s4 (by omega)) ?_
            refine pw_iload_2 dX0_changeCharges_134 ?_
            refine pw_iconst (v := nI 2) dX0_changeCharges_135 (by decide) ?_
            refine pw_idiv dX0_changeCharges_136 (by decide) ?_
            refine pw_icmp_lt 146 dX0_changeCharges_137 (by decide) (fun h18 => ?_) (fun h18 => ?_)
            · skip
              refine pw_iincN_3 dX0_changeCharges_146 (by decide) ?_
              refine pw_goto 9 dX0_changeCharges_149 (by decide) ?_
              refine pw_fg (ls' := [some (.ref b), some (.int (msk (fun v => ¬ L v) 6)), some (.int (bG B 1)), some (.int (nI ((k + 1)))), none, none, none]) ⟨Or.inr rfl, Or.inr rfl, Or.inr rfl, Or.inr rfl, Or.inl rfl, Or.inl rfl, Or.inl rfl, trivial⟩ (ih2 _ ?_)
              have hG4 : bG (chD L C k) = bG B := G_chD.trans hG
              rw [chS_D]
              unfold ch3
              rw [cif_n (fun hh => Int32.not_le.mpr h18 (by rw [← hG4]; exact hh.2.2))]
              exact hb6
            · skip
              refine pw_aload_4 dX0_changeCharges_140 ?_
              refine pw_iconst (v := nI 0) dX0_changeCharges_142 (by decide) ?_
              refine pw_putZ 6 5 dX0_changeCharges_143 fX0_216 rfl (by decide) rfl (Or.inl rfl) rfl (by decide) ((h.S (by omega))).t ?_
              refine pw_gen (P := BU μ0 b (setS (chD L C k) k (upd (bS (chD L C k) k) 2 (nI 0)))) (hb6.asleep (by omega) _) (fun μ8 hb8 => ?_)
              refine pw_iincN_3 dX0_changeCharges_146 (by decide) ?_
              refine pw_goto 9 dX0_changeCharges_149 (by decide) ?_
              refine pw_fg (ls' := [some (.ref b), some (.int (msk (fun v => ¬ L v) 6)), some (.int (bG B 1)), some (.int (nI ((k + 1)))), none, none, none]) ⟨Or.inr rfl, Or.inr rfl, Or.inr rfl, Or.inr rfl, Or.inl rfl, Or.inl rfl, Or.inl rfl, trivial⟩ (ih2 _ ?_)
              rw [chS_D]
              unfold ch3
              rw [cif_y ⟨z4.1.resolve_left h16, h17, by rw [G_chD, hG]; exact Int32.not_lt.mp h18⟩]
              exact hb8
      · skip
        refine pw_aload_4 dX0_changeCharges_93 ?_
        refine pw_iconst (v := nI 1) dX0_changeCharges_95 (by decide) ?_
        refine pw_putZ 6 5 dX0_changeCharges_96 fX0_216 rfl (by decide) rfl (Or.inl rfl) rfl (by decide) ((h.S (by omega))).t ?_
        refine pw_gen (P := BU μ0 b (setS (ch1 L C k) k (upd (bS (ch1 L C k) k) 2 (nI 1)))) (hb5.asleep (by omega) _) (fun μ9 hb9 => ?_)
        have wf3 : WF (setS (ch1 L C k) k (upd (bS (ch1 L C k) k) 2 (nI 1))) := wf2.pS (by show k < nS C; omega) ((wf2.s (by show k < nS C; omega)).z (Or.inl rfl) (Or.inr rfl)) (by rw [upd_n _ _ (by omega)]; exact wf2.c (by show k < nS C; omega))
        refine pw_aload_4 dX0_changeCharges_99 ?_
        refine pw_cV0i 6 dX0_changeCharges_101 kX0_121 vX6_isSpeaking iX6_isSpeaking ⟨by decide, by decide⟩ ⟨rfl, rfl⟩ (by decide) rfl (Nat.le_of_ble_eq_true rfl) ((h.S (by omega))).t (k_isSpeaking h hb9 wf3 (by show k < nS C; omega) (fun h19 => ?_) (fun h20 => ?_))
        · skip
          refine pw_if_eq 113 dX0_changeCharges_104 (by decide) (fun hh => absurd hh (by decide)) (fun _ => ?_)
          refine pw_aload_0 dX0_changeCharges_107 ?_
          refine pw_aload_4 dX0_changeCharges_108 ?_
          refine pw_cV1v 0 dX0_changeCharges_110 kX0_125 vX0_giveUp iX0_giveUp ⟨by decide, by decide⟩ ⟨rfl, rfl⟩ (by decide) rfl (Nat.le_of_ble_eq_true rfl) h.t (k_giveUp h hb9 wf3 hn1 (i := k) (by omega) (wf3.s (i := k) (by show k < nS C; omega) |>.sp h19).1 (fun μ10 hb10 => ?_))
          have wf4 : WF (chD L C k) := wf1.kD (by omega)
          have hn4 : nS (chD L C k) = n := n_chD.trans hn1
          have z4 := (wf4.s (i := k) (by omega)).2.1
          refine pw_gen (P := BU μ0 b (chD L C k)) (by unfold chD; rw [if_pos (Int32.not_le.mp h15)]; unfold ch2; rw [cif_y (show spB (ch1 L C k) k from fun e => h19 (by rw [bS_setS_s, upd_n _ _ (by omega)]; exact e))]; exact hb10) (fun μ6 hb6 => ?_)
          refine pw_aload_4 dX0_changeCharges_113 ?_
          refine pw_getI 6 5 dX0_changeCharges_115 fX0_216 rfl (by decide) rfl ((h.S (by omega))).t ?_
          refine pw_top (hb6.s5 (by omega)) ?_
          refine pw_if_eq 146 dX0_changeCharges_118 (by decide) (fun h21 => ?_) (fun h21 => ?_)
          · skip
            refine pw_iincN_3 dX0_changeCharges_146 (by decide) ?_
            refine pw_goto 9 dX0_changeCharges_149 (by decide) ?_
            refine pw_fg (ls' := [some (.ref b), some (.int (msk (fun v => ¬ L v) 6)), some (.int (bG B 1)), some (.int (nI ((k + 1)))), none, none, none]) ⟨Or.inr rfl, Or.inr rfl, Or.inr rfl, Or.inr rfl, Or.inl rfl, Or.inl rfl, Or.inl rfl, trivial⟩ (ih2 _ ?_)
            have hG4 : bG (chD L C k) = bG B := G_chD.trans hG
            rw [chS_D]
            unfold ch3
            rw [cif_n (fun hh => absurd (hh.1.symm.trans h21) (by decide))]
            exact hb6
          · skip
            refine pw_aload_4 dX0_changeCharges_121 ?_
            refine pw_getI 6 6 dX0_changeCharges_123 fX0_117 rfl (by decide) rfl ((h.S (by omega))).t ?_
            refine pw_top (hb6.s6 (by omega)) ?_
            refine pw_if_ne 146 dX0_changeCharges_126 (by decide) (fun h22 => ?_) (fun h22 => ?_)
            · skip
              refine pw_iincN_3 dX0_changeCharges_146 (by decide) ?_
              refine pw_goto 9 dX0_changeCharges_149 (by decide) ?_
              refine pw_fg (ls' := [some (.ref b), some (.int (msk (fun v => ¬ L v) 6)), some (.int (bG B 1)), some (.int (nI ((k + 1)))), none, none, none]) ⟨Or.inr rfl, Or.inr rfl, Or.inr rfl, Or.inr rfl, Or.inl rfl, Or.inl rfl, Or.inl rfl, trivial⟩ (ih2 _ ?_)
              have hG4 : bG (chD L C k) = bG B := G_chD.trans hG
              rw [chS_D]
              unfold ch3
              rw [cif_n (fun hh => h22 hh.2.1)]
              exact hb6
            · skip
              refine pw_aload_4 dX0_changeCharges_129 ?_
              refine pw_getI 6 4 dX0_changeCharges_131 fX0_68 rfl (by decide) rfl ((h.S (by omega))).t ?_
              refine pw_top (hb6.s4 (by omega)) ?_
              refine pw_iload_2 dX0_changeCharges_134 ?_
              refine pw_iconst (v := nI 2) dX0_changeCharges_135 (by decide) ?_
              refine pw_idiv dX0_changeCharges_136 (by decide) ?_
              refine pw_icmp_lt 146 dX0_changeCharges_137 (by decide) (fun h23 => ?_) (fun h23 => ?_)
              · skip
                refine pw_iincN_3 dX0_changeCharges_146 (by decide) ?_
                refine pw_goto 9 dX0_changeCharges_149 (by decide) ?_
                refine pw_fg (ls' := [some (.ref b), some (.int (msk (fun v => ¬ L v) 6)), some (.int (bG B 1)), some (.int (nI ((k + 1)))), none, none, none]) ⟨Or.inr rfl, Or.inr rfl, Or.inr rfl, Or.inr rfl, Or.inl rfl, Or.inl rfl, Or.inl rfl, trivial⟩ (ih2 _ ?_)
                have hG4 : bG (chD L C k) = bG B := G_chD.trans hG
                rw [chS_D]
                unfold ch3
                rw [cif_n (fun hh => Int32.not_le.mpr h23 (by rw [← hG4]; exact hh.2.2))]
                exact hb6
              · skip
                refine pw_aload_4 dX0_changeCharges_140 ?_
                refine pw_iconst (v := nI 0) dX0_changeCharges_142 (by decide) ?_
                refine pw_putZ 6 5 dX0_changeCharges_143 fX0_216 rfl (by decide) rfl (Or.inl rfl) rfl (by decide) ((h.S (by omega))).t ?_
                refine pw_gen (P := BU μ0 b (setS (chD L C k) k (upd (bS (chD L C k) k) 2 (nI 0)))) (hb6.asleep (by omega) _) (fun μ11 hb11 => ?_)
                refine pw_iincN_3 dX0_changeCharges_146 (by decide) ?_
                refine pw_goto 9 dX0_changeCharges_149 (by decide) ?_
                refine pw_fg (ls' := [some (.ref b), some (.int (msk (fun v => ¬ L v) 6)), some (.int (bG B 1)), some (.int (nI ((k + 1)))), none, none, none]) ⟨Or.inr rfl, Or.inr rfl, Or.inr rfl, Or.inr rfl, Or.inl rfl, Or.inl rfl, Or.inl rfl, trivial⟩ (ih2 _ ?_)
                rw [chS_D]
                unfold ch3
                rw [cif_y ⟨z4.1.resolve_left h21, h22, by rw [G_chD, hG]; exact Int32.not_lt.mp h23⟩]
                exact hb11
        · skip
          refine pw_if_eq 113 dX0_changeCharges_104 (by decide) (fun _ => ?_) (fun hh => absurd (by decide) hh)
          have wf4 : WF (chD L C k) := wf1.kD (by omega)
          have hn4 : nS (chD L C k) = n := n_chD.trans hn1
          have z4 := (wf4.s (i := k) (by omega)).2.1
          refine pw_gen (P := BU μ0 b (chD L C k)) (by unfold chD; rw [if_pos (Int32.not_le.mp h15)]; unfold ch2; rw [cif_n (fun hh => h20 (fun e => hh (by rw [bS_setS_s, upd_n _ _ (by omega)] at e; exact e)))]; exact hb9) (fun μ6 hb6 => ?_)
          refine pw_aload_4 dX0_changeCharges_113 ?_
          refine pw_getI 6 5 dX0_changeCharges_115 fX0_216 rfl (by decide) rfl ((h.S (by omega))).t ?_
          refine pw_top (hb6.s5 (by omega)) ?_
          refine pw_if_eq 146 dX0_changeCharges_118 (by decide) (fun h24 => ?_) (fun h24 => ?_)
          · skip
            refine pw_iincN_3 dX0_changeCharges_146 (by decide) ?_
            refine pw_goto 9 dX0_changeCharges_149 (by decide) ?_
            refine pw_fg (ls' := [some (.ref b), some (.int (msk (fun v => ¬ L v) 6)), some (.int (bG B 1)), some (.int (nI ((k + 1)))), none, none, none]) ⟨Or.inr rfl, Or.inr rfl, Or.inr rfl, Or.inr rfl, Or.inl rfl, Or.inl rfl, Or.inl rfl, trivial⟩ (ih2 _ ?_)
            have hG4 : bG (chD L C k) = bG B := G_chD.trans hG
            rw [chS_D]
            unfold ch3
            rw [cif_n (fun hh => absurd (hh.1.symm.trans h24) (by decide))]
            exact hb6
          · skip
            refine pw_aload_4 dX0_changeCharges_121 ?_
            refine pw_getI 6 6 dX0_changeCharges_123 fX0_117 rfl (by decide) rfl ((h.S (by omega))).t ?_
            refine pw_top (hb6.s6 (by omega)) ?_
            refine pw_if_ne 146 dX0_changeCharges_126 (by decide) (fun h25 => ?_) (fun h25 => ?_)
            · skip
              refine pw_iincN_3 dX0_changeCharges_146 (by decide) ?_
              refine pw_goto 9 dX0_changeCharges_149 (by decide) ?_
              refine pw_fg (ls' := [some (.ref b), some (.int (msk (fun v => ¬ L v) 6)), some (.int (bG B 1)), some (.int (nI ((k + 1)))), none, none, none]) ⟨Or.inr rfl, Or.inr rfl, Or.inr rfl, Or.inr rfl, Or.inl rfl, Or.inl rfl, Or.inl rfl, trivial⟩ (ih2 _ ?_)
              have hG4 : bG (chD L C k) = bG B := G_chD.trans hG
              rw [chS_D]
              unfold ch3
              rw [cif_n (fun hh => h25 hh.2.1)]
              exact hb6
            · skip
              refine pw_aload_4 dX0_changeCharges_129 ?_
              refine pw_getI 6 4 dX0_changeCharges_131 fX0_68 rfl (by decide) rfl ((h.S (by omega))).t ?_
              refine pw_top (hb6.s4 (by omega)) ?_
              refine pw_iload_2 dX0_changeCharges_134 ?_
              refine pw_iconst (v := nI 2) dX0_changeCharges_135 (by decide) ?_
              refine pw_idiv dX0_changeCharges_136 (by decide) ?_
              refine pw_icmp_lt 146 dX0_changeCharges_137 (by decide) (fun h26 => ?_) (fun h26 => ?_)
              · skip
                refine pw_iincN_3 dX0_changeCharges_146 (by decide) ?_
                refine pw_goto 9 dX0_changeCharges_149 (by decide) ?_
                refine pw_fg (ls' := [some (.ref b), some (.int (msk (fun v => ¬ L v) 6)), some (.int (bG B 1)), some (.int (nI ((k + 1)))), none, none, none]) ⟨Or.inr rfl, Or.inr rfl, Or.inr rfl, Or.inr rfl, Or.inl rfl, Or.inl rfl, Or.inl rfl, trivial⟩ (ih2 _ ?_)
                have hG4 : bG (chD L C k) = bG B := G_chD.trans hG
                rw [chS_D]
                unfold ch3
                rw [cif_n (fun hh => Int32.not_le.mpr h26 (by rw [← hG4]; exact hh.2.2))]
                exact hb6
              · skip
                refine pw_aload_4 dX0_changeCharges_140 ?_
                refine pw_iconst (v := nI 0) dX0_changeCharges_142 (by decide) ?_
                refine pw_putZ 6 5 dX0_changeCharges_143 fX0_216 rfl (by decide) rfl (Or.inl rfl) rfl (by decide) ((h.S (by omega))).t ?_
                refine pw_gen (P := BU μ0 b (setS (chD L C k) k (upd (bS (chD L C k) k) 2 (nI 0)))) (hb6.asleep (by omega) _) (fun μ12 hb12 => ?_)
                refine pw_iincN_3 dX0_changeCharges_146 (by decide) ?_
                refine pw_goto 9 dX0_changeCharges_149 (by decide) ?_
                refine pw_fg (ls' := [some (.ref b), some (.int (msk (fun v => ¬ L v) 6)), some (.int (bG B 1)), some (.int (nI ((k + 1)))), none, none, none]) ⟨Or.inr rfl, Or.inr rfl, Or.inr rfl, Or.inr rfl, Or.inl rfl, Or.inl rfl, Or.inl rfl, trivial⟩ (ih2 _ ?_)
                rw [chS_D]
                unfold ch3
                rw [cif_y ⟨z4.1.resolve_left h24, h25, by rw [G_chD, hG]; exact Int32.not_lt.mp h26⟩]
                exact hb12

