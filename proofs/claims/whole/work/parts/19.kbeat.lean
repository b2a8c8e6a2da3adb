/-! The class: a beat -/
def plP (B : Bs) (k v : Nat) : Prop := ∃ s, s < k ∧ spB B s ∧ btB B s = nI 0 ∧ fwB B s = v
theorem pl_n {B : Bs} {k : Nat} (h : ¬ (spB B k ∧ btB B k = nI 0)) : msk (plP B k) 6 = msk (plP B (k + 1)) 6 := msk_cong fun v _ => by
  constructor
  · rintro ⟨s, h1, h2⟩
    exact ⟨s, by omega, h2⟩
  · rintro ⟨s, h1, h2, h3, h4⟩
    refine ⟨s, ?_, h2, h3, h4⟩
    rcases Nat.lt_or_ge s k with q | q
    · exact q
    · have : s = k := by omega
      subst this
      exact absurd ⟨h2, h3⟩ h
theorem pl_y {B : Bs} {k y : Nat} (h : spB B k) (h2 : btB B k = nI 0) (h3 : fwB B k = y) (hy : y < 6) : msk (plP B k) 6 ||| (nI 1 <<< (nI y &&& 31)) = msk (plP B (k + 1)) 6 := by
  rw [msk_or1 (by decide) hy]
  refine msk_cong fun v _ => ?_
  constructor
  · rintro (⟨s, h1, h4⟩ | e)
    · exact ⟨s, by omega, h4⟩
    · exact ⟨k, by omega, h, h2, h3.trans e⟩
  · rintro ⟨s, h1, h4, h5, h6⟩
    rcases Nat.lt_or_ge s k with q | q
    · exact Or.inl ⟨s, q, h4, h5, h6⟩
    · have : s = k := by omega
      subst this
      exact Or.inr (h3.symm.trans h6)
theorem pl_0 (B : Bs) : nI 0 = msk (plP B 0) 6 := (msk_0 fun v _ ⟨s, h1, _⟩ => absurd h1 (by omega)).symm
theorem fw_of {B : Bs} {i y : Nat} (h : bS B i 6 = nI y) (hy : y < 6) : fwB B i = y := by
  unfold fwB
  rw [h, nI_clamp (by omega)]
theorem bt_01 (B : Bs) (i : Nat) : btB B i = nI 0 ∨ btB B i = nI 1 := by
  unfold btB
  split <;> exact bi_01 _ _
theorem bt_n1 {B : Bs} {i : Nat} (h : btB B i ≠ nI 1) : btB B i = nI 0 := (bt_01 B i).resolve_right h
theorem bi_10x {B : Bs} {i : Nat} (h : btB B i = nI 1) (h2 : btB B i = nI 0) : False := absurd (h.symm.trans h2) (by decide)
set_option maxRecDepth 100000 in
set_option maxHeartbeats 4000000 in
theorem k_pulled {X : Cx} {σ : Sp} {μ : Mm} {Q : Int32 → Sp → Mm → Prop} {μ0 : Mm} {b n : Nat} {B : Bs} (h : ShBus σ b) (hb : BU μ0 b B μ) (wf : WF B) (hn : nS B = n) (q : Q (msk (plP B n) 6) σ μ) : CTi X mX0_pulledWires [.ref b] σ μ Q := by
  refine CT.of (by decide +kernel) (Nat.le_of_ble_eq_true rfl) ?_
  show PW X mX0_pulledWires 0 0 0 [some (.ref b), none, none] [] σ μ (LI Q)
  have h8 : n ≤ 8 := hn ▸ wf.n8
  refine pw_iconst (v := nI 0) dX0_pulledWires_0 (by decide) ?_
  refine pw_istore_1 dX0_pulledWires_1 (by decide) ?_
  refine pw_iconst (v := nI 0) dX0_pulledWires_2 (by decide) ?_
  refine pw_istore_2 dX0_pulledWires_3 (by decide) ?_
  refine Eq.mpr (congrArg (fun x => PW X mX0_pulledWires 0 0 4 [some (.ref b), some (.int x), some (.int (nI 0))] [] σ μ (LI Q)) (pl_0 B)) ?_
  refine pw_up (P := fun i => PW X mX0_pulledWires 0 0 4 [some (.ref b), some (.int (msk (plP B i) 6)), some (.int (nI i))] [] σ μ (LI Q)) n ?_ ?_ 0 (by omega)
  · skip
    refine pw_iload_2 dX0_pulledWires_4 ?_
    refine pw_aload_0 dX0_pulledWires_5 ?_
    refine pw_getI 0 5 dX0_pulledWires_6 fX0_49 rfl (by decide) rfl h.t ?_
    refine pw_top (hb.n wf hn) ?_
    refine pw_icmp_ge 54 dX0_pulledWires_9 (by decide) (fun _ => ?_) (fun hh => absurd (by rw [nI_leI (by omega) (by omega)]; omega) hh)
    refine pw_iload_1 dX0_pulledWires_54 ?_
    refine pw_ireturn dX0_pulledWires_55 rfl ?_
    exact q
  · intro i hi ih
    refine pw_iload_2 dX0_pulledWires_4 ?_
    refine pw_aload_0 dX0_pulledWires_5 ?_
    refine pw_getI 0 5 dX0_pulledWires_6 fX0_49 rfl (by decide) rfl h.t ?_
    refine pw_top (hb.n wf hn) ?_
    refine pw_icmp_ge 54 dX0_pulledWires_9 (by decide) (fun hh => absurd hh (by rw [nI_leI (by omega) (by omega)]; omega)) (fun _ => ?_)
    refine pw_aload_0 dX0_pulledWires_12 ?_
    refine pw_getr 0 4 dX0_pulledWires_13 fX0_34 rfl (by decide) rfl h.t h.r4 ?_
    refine pw_iload_2 dX0_pulledWires_16 ?_
    refine pw_aaldSr dX0_pulledWires_17 h.a5 (by omega) (by decide) (h.s (by omega)) ?_
    refine pw_cV0i 6 dX0_pulledWires_18 kX0_121 vX6_isSpeaking iX6_isSpeaking ⟨by decide, by decide⟩ ⟨rfl, rfl⟩ (by decide) rfl (Nat.le_of_ble_eq_true rfl) ((h.S (by omega))).t (k_isSpeaking h hb wf (by rw [hn]; omega) (fun h1 => ?_) (fun h2 => ?_))
    · skip
      refine pw_if_eq 48 dX0_pulledWires_21 (by decide) (fun hh => absurd hh (by decide)) (fun _ => ?_)
      refine pw_aload_0 dX0_pulledWires_24 ?_
      refine pw_getr 0 4 dX0_pulledWires_25 fX0_34 rfl (by decide) rfl h.t h.r4 ?_
      refine pw_iload_2 dX0_pulledWires_28 ?_
      refine pw_aaldSr dX0_pulledWires_29 h.a5 (by omega) (by decide) (h.s (by omega)) ?_
      refine pw_cV0i 6 dX0_pulledWires_30 kX0_166 vX6_letsGo iX6_letsGo ⟨by decide, by decide⟩ ⟨rfl, rfl⟩ (by decide) rfl (Nat.le_of_ble_eq_true rfl) ((h.S (by omega))).t (k_letsGo h hb wf (by rw [hn]; omega) h1 (fun h3 => ?_) (fun h4 => ?_))
      · skip
        refine pw_if_ne 48 dX0_pulledWires_33 (by decide) (fun _ => ?_) (fun hh => absurd hh (by decide))
        refine pw_iincN_2 dX0_pulledWires_48 (by decide) ?_
        refine pw_goto 4 dX0_pulledWires_51 (by decide) ?_
        rw [pl_n (fun hh => bi_10x h3 hh.2)]
        exact ih
      · skip
        refine pw_if_ne 48 dX0_pulledWires_33 (by decide) (fun hh => absurd hh (by decide)) (fun _ => ?_)
        obtain ⟨-, y, y6, hy⟩ := (wf.s (i := i) (by omega)).word ((wf.s (i := i) (by omega)).sp h1).1
        have hy : bS B i 6 = nI y := hy
        refine pw_iload_1 dX0_pulledWires_36 ?_
        refine pw_aload_0 dX0_pulledWires_37 ?_
        refine pw_getr 0 4 dX0_pulledWires_38 fX0_34 rfl (by decide) rfl h.t h.r4 ?_
        refine pw_iload_2 dX0_pulledWires_41 ?_
        refine pw_aaldSr dX0_pulledWires_42 h.a5 (by omega) (by decide) (h.s (by omega)) ?_
        refine pw_getI 6 8 dX0_pulledWires_43 fX0_169 rfl (by decide) rfl ((h.S (by omega))).t ?_
        refine pw_top (by obtain ⟨e7, e8, e9⟩ := hb.spk0 (i := i) (by omega) (by omega) h1; rw [e8, hy]) ?_
        refine pw_ior dX0_pulledWires_46 ?_
        refine pw_istore_1 dX0_pulledWires_47 (by decide) ?_
        refine pw_iincN_2 dX0_pulledWires_48 (by decide) ?_
        refine pw_goto 4 dX0_pulledWires_51 (by decide) ?_
        rw [pl_y h1 (bt_n1 h4) (fw_of hy y6) y6]
        exact ih
    · skip
      refine pw_if_eq 48 dX0_pulledWires_21 (by decide) (fun _ => ?_) (fun hh => absurd (by decide) hh)
      refine pw_iincN_2 dX0_pulledWires_48 (by decide) ?_
      refine pw_goto 4 dX0_pulledWires_51 (by decide) ?_
      rw [pl_n (fun hh => h2 hh.1)]
      exact ih
theorem go_wf {L A : Nat → Prop} {n k : Nat} {P : Bs × Nat} (wf : WF P.1) (hk : k ≤ nS P.1) : WF (itr (goP L A n) k P).1 ∧ Fr P.1 (itr (goP L A n) k P).1 := ⟨wf.goN hk, Fr_goN⟩
set_option maxRecDepth 100000 in
set_option maxHeartbeats 4000000 in
theorem k_goOn {X : Cx} {σ : Sp} {μ : Mm} {Q : Int32 → Sp → Mm → Prop} {μ0 : Mm} {b n : Nat} {B : Bs} {L A : Nat → Prop} (h : ShBus σ b) (hb : BU μ0 b B μ) (wf : WF B) (hn : nS B = n) (q : ∀ μ', BU μ0 b (itr (goP L A n) n (B, 0)).1 μ' → Q (nI (itr (goP L A n) n (B, 0)).2) σ μ') : CTi X mX0_goOnSpeaking [.ref b, .int (msk (fun v => ¬ L v) 6), .int (msk A n)] σ μ Q := by
  refine CT.of (by decide +kernel) (Nat.le_of_ble_eq_true rfl) ?_
  show PW X mX0_goOnSpeaking 0 0 0 [some (.ref b), some (.int (msk (fun v => ¬ L v) 6)), some (.int (msk A n)), none, none, none] [] σ μ (LI Q)
  have h8 : n ≤ 8 := hn ▸ wf.n8
  refine pw_iconst (v := nI 0) dX0_goOnSpeaking_0 (by decide) ?_
  refine pw_istore_3 dX0_goOnSpeaking_1 (by decide) ?_
  refine pw_iconst (v := nI 0) dX0_goOnSpeaking_2 (by decide) ?_
  refine pw_istore_4 dX0_goOnSpeaking_3 (by decide) ?_
  refine pw_fg (ls' := [some (.ref b), some (.int (msk (fun v => ¬ L v) 6)), some (.int (msk A n)), some (.int (nI ((itr (goP L A n) 0 (B, 0)).2))), some (.int (nI 0)), none]) ⟨Or.inr rfl, Or.inr rfl, Or.inr rfl, Or.inr rfl, Or.inr rfl, Or.inl rfl, trivial⟩ ?_
  refine pw_up (P := fun k => ∀ μ, BU μ0 b (itr (goP L A n) k (B, 0)).1 μ → PW X mX0_goOnSpeaking 0 0 5 [some (.ref b), some (.int (msk (fun v => ¬ L v) 6)), some (.int (msk A n)), some (.int (nI ((itr (goP L A n) k (B, 0)).2))), some (.int (nI k)), none] [] σ μ (LI Q)) n ?_ ?_ 0 (by omega) _ hb
  · intro μ1 hb1
    have wn := go_wf (L := L) (A := A) (n := n) (P := (B, 0)) wf (show n ≤ nS B by omega)
    have wf1 := wn.1
    have hn1 := wn.2.n.trans hn
    refine pw_iload_4 dX0_goOnSpeaking_5 ?_
    refine pw_aload_0 dX0_goOnSpeaking_7 ?_
    refine pw_getI 0 5 dX0_goOnSpeaking_8 fX0_49 rfl (by decide) rfl h.t ?_
    refine pw_top (hb1.n wf1 hn1) ?_
    refine pw_icmp_ge 121 dX0_goOnSpeaking_11 (by decide) (fun _ => ?_) (fun hh => absurd (by rw [nI_leI (by omega) (by omega)]; omega) hh)
    refine pw_iload_3 dX0_goOnSpeaking_121 ?_
    refine pw_ireturn dX0_goOnSpeaking_122 rfl ?_
    exact q _ hb1
  · intro k hk ih μ1 hb1
    have ih2 : ∀ μ, BU μ0 b (goP L A n k (itr (goP L A n) k (B, 0))).1 μ → PW X mX0_goOnSpeaking 0 0 5 [some (.ref b), some (.int (msk (fun v => ¬ L v) 6)), some (.int (msk A n)), some (.int (nI ((goP L A n k (itr (goP L A n) k (B, 0))).2))), some (.int (nI ((k + 1)))), none] [] σ μ (LI Q) := ih
    have wn := go_wf (L := L) (A := A) (n := n) (P := (B, 0)) wf (show k ≤ nS B by omega)
    have wf1 := wn.1
    have hn1 := wn.2.n.trans hn
    clear wn ih
    generalize itr (goP L A n) k (B, 0) = C at hb1 ih2 wf1 hn1
    refine pw_iload_4 dX0_goOnSpeaking_5 ?_
    refine pw_aload_0 dX0_goOnSpeaking_7 ?_
    refine pw_getI 0 5 dX0_goOnSpeaking_8 fX0_49 rfl (by decide) rfl h.t ?_
    refine pw_top (hb1.n wf1 hn1) ?_
    refine pw_icmp_ge 121 dX0_goOnSpeaking_11 (by decide) (fun hh => absurd hh (by rw [nI_leI (by omega) (by omega)]; omega)) (fun _ => ?_)
    refine pw_aload_0 dX0_goOnSpeaking_14 ?_
    refine pw_getr 0 4 dX0_goOnSpeaking_15 fX0_34 rfl (by decide) rfl h.t h.r4 ?_
    refine pw_iload_4 dX0_goOnSpeaking_18 ?_
    refine pw_aaldSr dX0_goOnSpeaking_20 h.a5 (by omega) (by decide) (h.s (by omega)) ?_
    refine pw_astore_5 dX0_goOnSpeaking_21 (by decide) ?_
    refine pw_aload_5 dX0_goOnSpeaking_23 ?_
    refine pw_cV0i 6 dX0_goOnSpeaking_25 kX0_121 vX6_isSpeaking iX6_isSpeaking ⟨by decide, by decide⟩ ⟨rfl, rfl⟩ (by decide) rfl (Nat.le_of_ble_eq_true rfl) ((h.S (by omega))).t (k_isSpeaking h hb1 wf1 (by rw [hn1]; omega) (fun h1 => ?_) (fun h2 => ?_))
    · skip
      refine pw_if_ne 34 dX0_goOnSpeaking_28 (by decide) (fun _ => ?_) (fun hh => absurd hh (by decide))
      have hs : spB C.1 k := h1
      obtain ⟨h0, kk, kk10, hkk⟩ := (wf1.s (i := k) (by omega)).sp hs
      obtain ⟨-, y, y6, hy⟩ := (wf1.s (i := k) (by omega)).word h0
      have hy : bS C.1 k 6 = nI y := hy
      refine pw_aload_5 dX0_goOnSpeaking_34 ?_
      refine pw_cV0i 6 dX0_goOnSpeaking_36 kX0_166 vX6_letsGo iX6_letsGo ⟨by decide, by decide⟩ ⟨rfl, rfl⟩ (by decide) rfl (Nat.le_of_ble_eq_true rfl) ((h.S (by omega))).t (k_letsGo h hb1 wf1 (by rw [hn1]; omega) h1 (fun h3 => ?_) (fun h4 => ?_))
      · skip
        refine pw_if_eq 61 dX0_goOnSpeaking_39 (by decide) (fun hh => absurd hh (by decide)) (fun _ => ?_)
        refine pw_aload_5 dX0_goOnSpeaking_42 ?_
        refine pw_getI 6 8 dX0_goOnSpeaking_44 fX0_169 rfl (by decide) rfl ((h.S (by omega))).t ?_
        refine pw_top (show _ = nI 1 <<< (nI y &&& 31) by rw [(hb1.spk0 (i := k) (by omega) (by omega) hs).2.1, hy]) ?_
        refine pw_iload_1 dX0_goOnSpeaking_47 ?_
        refine pw_iand dX0_goOnSpeaking_48 ?_
        refine pw_if_ne 61 dX0_goOnSpeaking_49 (by decide) (fun h5 => ?_) (fun h5 => ?_)
        · skip
          refine pw_aload_5 dX0_goOnSpeaking_61 ?_
          refine pw_getI 6 7 dX0_goOnSpeaking_63 fX0_172 rfl (by decide) rfl ((h.S (by omega))).t ?_
          refine pw_top ((hb1.spk0 (i := k) (by omega) (by omega) hs).1.trans hkk) ?_
          refine pw_bipush (v := nI 10) dX0_goOnSpeaking_66 (by decide) ?_
          refine pw_icmp_ge 85 dX0_goOnSpeaking_68 (by decide) (fun h6 => ?_) (fun h6 => ?_)
          · skip
            refine pw_aload_5 dX0_goOnSpeaking_85 ?_
            refine pw_getI 6 10 dX0_goOnSpeaking_87 fX0_175 rfl (by decide) rfl ((h.S (by omega))).t ?_
            refine pw_top (hb1.s10 (by omega)) ?_
            refine pw_iload_2 dX0_goOnSpeaking_90 ?_
            refine pw_iconst (v := -1) dX0_goOnSpeaking_91 (by decide) ?_
            refine pw_ixor dX0_goOnSpeaking_92 ?_
            refine pw_iand dX0_goOnSpeaking_93 ?_
            refine pw_if_ne 109 dX0_goOnSpeaking_94 (by decide) (fun h7 => ?_) (fun h7 => ?_)
            · skip
              refine pw_aload_0 dX0_goOnSpeaking_109 ?_
              refine pw_aload_5 dX0_goOnSpeaking_110 ?_
              refine pw_cV1v 0 dX0_goOnSpeaking_112 kX0_125 vX0_giveUp iX0_giveUp ⟨by decide, by decide⟩ ⟨rfl, rfl⟩ (by decide) rfl (Nat.le_of_ble_eq_true rfl) h.t (k_giveUp h hb1 wf1 hn1 (i := k) (by omega) h0 (fun μ1 hb1 => ?_))
              refine pw_iincN_4 dX0_goOnSpeaking_115 (by decide) ?_
              refine pw_goto 5 dX0_goOnSpeaking_118 (by decide) ?_
              have hng : ¬ (btB C.1 k = nI 1 ∧ L (fwB C.1 k)) := fun hh => h5 ((sh1_msk (p := fun v => ¬ L v) (by decide) y6).mpr (by rw [fw_of hy y6] at hh; exact Classical.not_not.mpr hh.2))
              have k9 : kk = 10 := by have := h6; rw [nI_leI (by omega) (by omega)] at this; omega
              have h17 : bS C.1 k 17 = nI 10 := by rw [hkk, k9]
              have hse := sub_msk (x := bS C.1 k 18) (q := A) (n := n) (by omega) (by rw [← hn1]; exact (wf1.s (i := k) (by omega)).2.2.2)
              have hg : gvP L A n C.1 k := Or.inr ⟨h17, fun hh => h7 (hse.mpr hh)⟩
              have eG : goP L A n k C = (guB C.1 k, C.2) := (cif_y hs).trans (cif_y hg)
              rw [eG] at ih2
              refine pw_fg (ls' := _) ?_ (ih2 _ ?_)
              rotate_left
              · show BU μ0 b _ _
                exact hb1
              exact ⟨Or.inr rfl, Or.inr rfl, Or.inr rfl, Or.inr rfl, Or.inr rfl, Or.inl rfl, trivial⟩
            · skip
              refine pw_aload_0 dX0_goOnSpeaking_97 ?_
              refine pw_aload_5 dX0_goOnSpeaking_98 ?_
              refine pw_cV1v 0 dX0_goOnSpeaking_100 kX0_178 vX0_beHeard iX0_beHeard ⟨by decide, by decide⟩ ⟨rfl, rfl⟩ (by decide) rfl (Nat.le_of_ble_eq_true rfl) h.t (k_beHeard h hb1 wf1 hn1 (i := k) (by omega) hs (fun μ2 hb2 => ?_))
              refine pw_iincN_3 dX0_goOnSpeaking_103 (by decide) ?_
              refine pw_goto 115 dX0_goOnSpeaking_106 (by decide) ?_
              refine pw_iincN_4 dX0_goOnSpeaking_115 (by decide) ?_
              refine pw_goto 5 dX0_goOnSpeaking_118 (by decide) ?_
              have hng : ¬ (btB C.1 k = nI 1 ∧ L (fwB C.1 k)) := fun hh => h5 ((sh1_msk (p := fun v => ¬ L v) (by decide) y6).mpr (by rw [fw_of hy y6] at hh; exact Classical.not_not.mpr hh.2))
              have k9 : kk = 10 := by have := h6; rw [nI_leI (by omega) (by omega)] at this; omega
              have h17 : bS C.1 k 17 = nI 10 := by rw [hkk, k9]
              have hse := sub_msk (x := bS C.1 k 18) (q := A) (n := n) (by omega) (by rw [← hn1]; exact (wf1.s (i := k) (by omega)).2.2.2)
              have hg : ¬ gvP L A n C.1 k := fun hh => hh.elim hng (fun q => q.2 (hse.mp h7))
              have eG : goP L A n k C = (hdB C.1 k, C.2 + 1) := (cif_y hs).trans ((cif_n hg).trans (cif_y h17))
              rw [eG] at ih2
              refine pw_fg (ls' := _) ?_ (ih2 _ ?_)
              rotate_left
              · show BU μ0 b _ _
                exact hb2
              exact ⟨Or.inr rfl, Or.inr rfl, Or.inr rfl, Or.inr rfl, Or.inr rfl, Or.inl rfl, trivial⟩
          · skip
            refine pw_aload_5 dX0_goOnSpeaking_71 ?_
            refine pw_dup dX0_goOnSpeaking_73 ?_
            refine pw_getI 6 7 dX0_goOnSpeaking_74 fX0_172 rfl (by decide) rfl ((h.S (by omega))).t ?_
            refine pw_top ((hb1.spk0 (i := k) (by omega) (by omega) hs).1.trans hkk) ?_
            refine pw_iconst (v := nI 1) dX0_goOnSpeaking_77 (by decide) ?_
            refine pw_iaddN dX0_goOnSpeaking_78 ?_
            refine pw_putI 6 7 dX0_goOnSpeaking_79 fX0_172 rfl (by decide) rfl (Or.inl rfl) rfl (by decide) ((h.S (by omega))).t ?_
            refine pw_goto 115 dX0_goOnSpeaking_82 (by decide) ?_
            refine pw_iincN_4 dX0_goOnSpeaking_115 (by decide) ?_
            refine pw_goto 5 dX0_goOnSpeaking_118 (by decide) ?_
            have hng : ¬ (btB C.1 k = nI 1 ∧ L (fwB C.1 k)) := fun hh => h5 ((sh1_msk (p := fun v => ¬ L v) (by decide) y6).mpr (by rw [fw_of hy y6] at hh; exact Classical.not_not.mpr hh.2))
            have k9 : ¬ 10 ≤ kk := by have := h6; rw [nI_leI (by omega) (by omega)] at this; exact this
            have h17 : bS C.1 k 17 ≠ nI 10 := by rw [hkk, Ne, nI_eq (by omega) (by omega)]; omega
            have hg : ¬ gvP L A n C.1 k := fun hh => hh.elim hng (fun q => h17 q.1)
            have eG : goP L A n k C = (setS C.1 k (upd (bS C.1 k) 17 (bS C.1 k 17 + nI 1)), C.2) := (cif_y hs).trans ((cif_n hg).trans (cif_n h17))
            rw [eG] at ih2
            refine pw_fg (ls' := _) ?_ (ih2 _ ?_)
            rotate_left
            · show BU μ0 b _ _
              have hx := hb1.next (i := k) (by omega) (by omega) hs (by rw [hkk, nI_add]; exact m6_ne (by omega))
              rw [hkk, nI_add] at hx
              show BU μ0 b (setS C.1 k (upd (bS C.1 k) 17 (bS C.1 k 17 + nI 1))) _
              rw [hkk, nI_add]
              exact hx
            exact ⟨Or.inr rfl, Or.inr rfl, Or.inr rfl, Or.inr rfl, Or.inr rfl, Or.inl rfl, trivial⟩
        · skip
          refine pw_aload_0 dX0_goOnSpeaking_52 ?_
          refine pw_aload_5 dX0_goOnSpeaking_53 ?_
          refine pw_cV1v 0 dX0_goOnSpeaking_55 kX0_125 vX0_giveUp iX0_giveUp ⟨by decide, by decide⟩ ⟨rfl, rfl⟩ (by decide) rfl (Nat.le_of_ble_eq_true rfl) h.t (k_giveUp h hb1 wf1 hn1 (i := k) (by omega) h0 (fun μ3 hb3 => ?_))
          refine pw_goto 115 dX0_goOnSpeaking_58 (by decide) ?_
          refine pw_iincN_4 dX0_goOnSpeaking_115 (by decide) ?_
          refine pw_goto 5 dX0_goOnSpeaking_118 (by decide) ?_
          have hg : gvP L A n C.1 k := Or.inl ⟨h3, by rw [fw_of hy y6]; exact Classical.not_not.mp ((sh1_msk (p := fun v => ¬ L v) (by decide) y6).mp h5)⟩
          have eG : goP L A n k C = (guB C.1 k, C.2) := (cif_y hs).trans (cif_y hg)
          rw [eG] at ih2
          refine pw_fg (ls' := _) ?_ (ih2 _ ?_)
          rotate_left
          · show BU μ0 b _ _
            exact hb3
          exact ⟨Or.inr rfl, Or.inr rfl, Or.inr rfl, Or.inr rfl, Or.inr rfl, Or.inl rfl, trivial⟩
      · skip
        refine pw_if_eq 61 dX0_goOnSpeaking_39 (by decide) (fun _ => ?_) (fun hh => absurd (by decide) hh)
        refine pw_aload_5 dX0_goOnSpeaking_61 ?_
        refine pw_getI 6 7 dX0_goOnSpeaking_63 fX0_172 rfl (by decide) rfl ((h.S (by omega))).t ?_
        refine pw_top ((hb1.spk0 (i := k) (by omega) (by omega) hs).1.trans hkk) ?_
        refine pw_bipush (v := nI 10) dX0_goOnSpeaking_66 (by decide) ?_
        refine pw_icmp_ge 85 dX0_goOnSpeaking_68 (by decide) (fun h8 => ?_) (fun h8 => ?_)
        · skip
          refine pw_aload_5 dX0_goOnSpeaking_85 ?_
          refine pw_getI 6 10 dX0_goOnSpeaking_87 fX0_175 rfl (by decide) rfl ((h.S (by omega))).t ?_
          refine pw_top (hb1.s10 (by omega)) ?_
          refine pw_iload_2 dX0_goOnSpeaking_90 ?_
          refine pw_iconst (v := -1) dX0_goOnSpeaking_91 (by decide) ?_
          refine pw_ixor dX0_goOnSpeaking_92 ?_
          refine pw_iand dX0_goOnSpeaking_93 ?_
          refine pw_if_ne 109 dX0_goOnSpeaking_94 (by decide) (fun h9 => ?_) (fun h9 => ?_)
          · skip
            refine pw_aload_0 dX0_goOnSpeaking_109 ?_
            refine pw_aload_5 dX0_goOnSpeaking_110 ?_
            refine pw_cV1v 0 dX0_goOnSpeaking_112 kX0_125 vX0_giveUp iX0_giveUp ⟨by decide, by decide⟩ ⟨rfl, rfl⟩ (by decide) rfl (Nat.le_of_ble_eq_true rfl) h.t (k_giveUp h hb1 wf1 hn1 (i := k) (by omega) h0 (fun μ4 hb4 => ?_))
            refine pw_iincN_4 dX0_goOnSpeaking_115 (by decide) ?_
            refine pw_goto 5 dX0_goOnSpeaking_118 (by decide) ?_
            have hng : ¬ (btB C.1 k = nI 1 ∧ L (fwB C.1 k)) := fun hh => h4 hh.1
            have k9 : kk = 10 := by have := h8; rw [nI_leI (by omega) (by omega)] at this; omega
            have h17 : bS C.1 k 17 = nI 10 := by rw [hkk, k9]
            have hse := sub_msk (x := bS C.1 k 18) (q := A) (n := n) (by omega) (by rw [← hn1]; exact (wf1.s (i := k) (by omega)).2.2.2)
            have hg : gvP L A n C.1 k := Or.inr ⟨h17, fun hh => h9 (hse.mpr hh)⟩
            have eG : goP L A n k C = (guB C.1 k, C.2) := (cif_y hs).trans (cif_y hg)
            rw [eG] at ih2
            refine pw_fg (ls' := _) ?_ (ih2 _ ?_)
            rotate_left
            · show BU μ0 b _ _
              exact hb4
            exact ⟨Or.inr rfl, Or.inr rfl, Or.inr rfl, Or.inr rfl, Or.inr rfl, Or.inl rfl, trivial⟩
          · skip
            refine pw_aload_0 dX0_goOnSpeaking_97 ?_
            refine pw_aload_5 dX0_goOnSpeaking_98 ?_
            refine pw_cV1v 0 dX0_goOnSpeaking_100 kX0_178 vX0_beHeard iX0_beHeard ⟨by decide, by decide⟩ ⟨rfl, rfl⟩ (by decide) rfl (Nat.le_of_ble_eq_true rfl) h.t (k_beHeard h hb1 wf1 hn1 (i := k) (by omega) hs (fun μ5 hb5 => ?_))
            refine pw_iincN_3 dX0_goOnSpeaking_103 (by decide) ?_
            refine pw_goto 115 dX0_goOnSpeaking_106 (by decide) ?_
            refine pw_iincN_4 dX0_goOnSpeaking_115 (by decide) ?_
            refine pw_goto 5 dX0_goOnSpeaking_118 (by decide) ?_
            have hng : ¬ (btB C.1 k = nI 1 ∧ L (fwB C.1 k)) := fun hh => h4 hh.1
            have k9 : kk = 10 := by have := h8; rw [nI_leI (by omega) (by omega)] at this; omega
            have h17 : bS C.1 k 17 = nI 10 := by rw [hkk, k9]
            have hse := sub_msk (x := bS C.1 k 18) (q := A) (n := n) (by omega) (by rw [← hn1]; exact (wf1.s (i := k) (by omega)).2.2.2)
            have hg : ¬ gvP L A n C.1 k := fun hh => hh.elim hng (fun q => q.2 (hse.mp h9))
            have eG : goP L A n k C = (hdB C.1 k, C.2 + 1) := (cif_y hs).trans ((cif_n hg).trans (cif_y h17))
            rw [eG] at ih2
            refine pw_fg (ls' := _) ?_ (ih2 _ ?_)
            rotate_left
            · show BU μ0 b _ _
              exact hb5
            exact ⟨Or.inr rfl, Or.inr rfl, Or.inr rfl, Or.inr rfl, Or.inr rfl, Or.inl rfl, trivial⟩
        · skip
          refine pw_aload_5 dX0_goOnSpeaking_71 ?_
          refine pw_dup dX0_goOnSpeaking_73 ?_
          refine pw_getI 6 7 dX0_goOnSpeaking_74 fX0_172 rfl (by decide) rfl ((h.S (by omega))).t ?_
          refine pw_top ((hb1.spk0 (i := k) (by omega) (by omega) hs).1.trans hkk) ?_
          refine pw_iconst (v := nI 1) dX0_goOnSpeaking_77 (by decide) ?_
          refine pw_iaddN dX0_goOnSpeaking_78 ?_
          refine pw_putI 6 7 dX0_goOnSpeaking_79 fX0_172 rfl (by decide) rfl (Or.inl rfl) rfl (by decide) ((h.S (by omega))).t ?_
          refine pw_goto 115 dX0_goOnSpeaking_82 (by decide) ?_
          refine pw_iincN_4 dX0_goOnSpeaking_115 (by decide) ?_
          refine pw_goto 5 dX0_goOnSpeaking_118 (by decide) ?_
          have hng : ¬ (btB C.1 k = nI 1 ∧ L (fwB C.1 k)) := fun hh => h4 hh.1
          have k9 : ¬ 10 ≤ kk := by have := h8; rw [nI_leI (by omega) (by omega)] at this; exact this
          have h17 : bS C.1 k 17 ≠ nI 10 := by rw [hkk, Ne, nI_eq (by omega) (by omega)]; omega
          have hg : ¬ gvP L A n C.1 k := fun hh => hh.elim hng (fun q => h17 q.1)
          have eG : goP L A n k C = (setS C.1 k (upd (bS C.1 k) 17 (bS C.1 k 17 + nI 1)), C.2) := (cif_y hs).trans ((cif_n hg).trans (cif_n h17))
          rw [eG] at ih2
          refine pw_fg (ls' := _) ?_ (ih2 _ ?_)
          rotate_left
          · show BU μ0 b _ _
            have hx := hb1.next (i := k) (by omega) (by omega) hs (by rw [hkk, nI_add]; exact m6_ne (by omega))
            rw [hkk, nI_add] at hx
            show BU μ0 b (setS C.1 k (upd (bS C.1 k) 17 (bS C.1 k 17 + nI 1))) _
            rw [hkk, nI_add]
            exact hx
          exact ⟨Or.inr rfl, Or.inr rfl, Or.inr rfl, Or.inr rfl, Or.inr rfl, Or.inl rfl, trivial⟩
    · skip
      refine pw_if_ne 34 dX0_goOnSpeaking_28 (by decide) (fun hh => absurd hh (by decide)) (fun _ => ?_)
      refine pw_goto 115 dX0_goOnSpeaking_31 (by decide) ?_
      refine pw_iincN_4 dX0_goOnSpeaking_115 (by decide) ?_
      refine pw_goto 5 dX0_goOnSpeaking_118 (by decide) ?_
      have eG : goP L A n k C = C := cif_n h2
      rw [eG] at ih2
      refine pw_fg (ls' := _) ?_ (ih2 _ ?_)
      rotate_left
      · show BU μ0 b _ _
        exact hb1
      exact ⟨Or.inr rfl, Or.inr rfl, Or.inr rfl, Or.inr rfl, Or.inr rfl, Or.inl rfl, trivial⟩
