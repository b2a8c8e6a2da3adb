/-! The class: the beat as a whole -/
theorem rs_wf {L : Nat → Prop} {B : Bs} {k : Nat} (wf : WF B) (hk : k ≤ 6) : WF (itr (rsS L) k B) ∧ bG (itr (rsS L) k B) = bG B := itr_ind (P := fun _ x => WF x ∧ bG x = bG B) ⟨wf, rfl⟩ fun i x hi hx => ⟨hx.1.krs (by omega), hx.2⟩
theorem rs_min {B : Bs} (wf : WF B) {k : Nat} (hk : k < 6) : (if nI 999 < bW B k 0 + nI 1 then nI 999 else bW B k 0 + nI 1) = if bW B k 0 < nI 999 then bW B k 0 + nI 1 else nI 999 := by
  obtain ⟨e, e9, he⟩ := (wf.2.2.1 k hk).1
  rw [he, nI_add]
  rcases Nat.lt_or_ge e 999 with q | q
  · rw [if_neg (by rw [nI_ltI (by omega) (by omega)]; omega), if_pos (nI_lt q (by omega))]
  · have : e = 999 := by omega
    subst this
    rfl
set_option maxRecDepth 100000 in
set_option maxHeartbeats 4000000 in
theorem k_rest {X : Cx} {σ : Sp} {μ : Mm} {Q : Sp → Mm → Prop} {μ0 : Mm} {b n : Nat} {B : Bs} {L : Nat → Prop} (h : ShBus σ b) (hb : BU μ0 b B μ) (wf : WF B) (hn : nS B = n) (q : ∀ μ', BU μ0 b (itr (rsS L) 6 B) μ' → Q σ μ') : CTv X mX0_restWires [.ref b, .int (msk (fun v => ¬ L v) 6)] σ μ Q := by
  refine CT.of (by decide +kernel) (Nat.le_of_ble_eq_true rfl) ?_
  show PW X mX0_restWires 0 0 0 [some (.ref b), some (.int (msk (fun v => ¬ L v) 6)), none] [] σ μ (LV Q)
  have h8 : n ≤ 8 := hn ▸ wf.n8
  refine pw_iconst (v := nI 0) dX0_restWires_0 (by decide) ?_
  refine pw_istore_2 dX0_restWires_1 (by decide) ?_
  refine pw_fg (ls' := [some (.ref b), some (.int (msk (fun v => ¬ L v) 6)), some (.int (nI 0))]) ⟨Or.inr rfl, Or.inr rfl, Or.inr rfl, trivial⟩ ?_
  refine pw_up (P := fun k => ∀ μ, BU μ0 b (itr (rsS L) k B) μ → PW X mX0_restWires 0 0 2 [some (.ref b), some (.int (msk (fun v => ¬ L v) 6)), some (.int (nI k))] [] σ μ (LV Q)) 6 ?_ ?_ 0 (by omega) _ hb
  · intro μ1 hb1
    have wf1 := (rs_wf (L := L) wf (show 6 ≤ 6 by omega)).1
    have hn1 := (nS_G (rs_wf (L := L) wf (show 6 ≤ 6 by omega)).2).trans hn
    refine pw_iload_2 dX0_restWires_2 ?_
    refine pw_bipush (v := nI 6) dX0_restWires_3 (by decide) ?_
    refine pw_icmp_ge 47 dX0_restWires_5 (by decide) (fun _ => ?_) (fun hh => absurd (by rw [nI_leI (by omega) (by omega)]; omega) hh)
    refine pw_return dX0_restWires_47 rfl ?_
    exact q _ hb1
  · intro k hk ih μ1 hb1
    have ih2 : ∀ μ, BU μ0 b (rsS L k (itr (rsS L) k B)) μ → _ := ih
    have wf1 := (rs_wf (L := L) wf (show k ≤ 6 by omega)).1
    have hn1 := (nS_G (rs_wf (L := L) wf (show k ≤ 6 by omega)).2).trans hn
    generalize itr (rsS L) k B = C at hb1 ih2 wf1 hn1
    refine pw_iload_2 dX0_restWires_2 ?_
    refine pw_bipush (v := nI 6) dX0_restWires_3 (by decide) ?_
    refine pw_icmp_ge 47 dX0_restWires_5 (by decide) (fun hh => absurd hh (by rw [nI_leI (by omega) (by omega)]; omega)) (fun _ => ?_)
    refine pw_aload_0 dX0_restWires_8 ?_
    refine pw_getr 0 1 dX0_restWires_9 fX0_23 rfl (by decide) rfl h.t h.r1 ?_
    refine pw_iload_2 dX0_restWires_12 ?_
    refine pw_iload_1 dX0_restWires_13 ?_
    refine pw_iload_2 dX0_restWires_14 ?_
    refine pw_ishr dX0_restWires_15 ?_
    refine pw_iconst (v := nI 1) dX0_restWires_16 (by decide) ?_
    refine pw_iand dX0_restWires_17 ?_
    refine pw_iconst (v := nI 1) dX0_restWires_18 (by decide) ?_
    refine pw_icmp_ne 39 dX0_restWires_19 (by decide) (fun h1 => ?_) (fun h1 => ?_)
    · skip
      refine pw_iconst (v := nI 0) dX0_restWires_39 (by decide) ?_
      refine pw_iastN dX0_restWires_40 h.a2 (by omega) (by decide) ?_
      refine pw_gen (P := BU μ0 b (setW C k 0 (nI 0))) (hb1.high _) (fun μ1 hb1 => ?_)
      refine pw_iincN_2 dX0_restWires_41 (by decide) ?_
      refine pw_goto 2 dX0_restWires_44 (by decide) ?_
      refine pw_fg (ls' := [some (.ref b), some (.int (msk (fun v => ¬ L v) 6)), some (.int (nI ((k + 1))))]) ⟨Or.inr rfl, Or.inr rfl, Or.inr rfl, trivial⟩ (ih2 _ ?_)
      unfold rsS
      rw [cif_y (Classical.not_not.mp (fun hh => h1 ((msk_bi (p := fun v => ¬ L v) (by decide) hk).mpr hh)))]
      exact hb1
    · skip
      refine pw_aload_0 dX0_restWires_22 ?_
      refine pw_getr 0 1 dX0_restWires_23 fX0_23 rfl (by decide) rfl h.t h.r1 ?_
      refine pw_iload_2 dX0_restWires_26 ?_
      refine pw_ialdN dX0_restWires_27 h.a2 (by omega) (by decide) ?_
      refine pw_top (hb1.w0 (by omega)) ?_
      refine pw_iconst (v := nI 1) dX0_restWires_28 (by decide) ?_
      refine pw_iadd dX0_restWires_29 ?_
      refine pw_sipush (v := nI 999) dX0_restWires_30 (by decide) ?_
      refine pw_min dX0_restWires_33 kX0_71 tm_mins tm_i tm_minc (by decide) (Nat.le_of_ble_eq_true rfl) ?_
      refine pw_top (rs_min wf1 hk) ?_
      refine pw_goto 40 dX0_restWires_36 (by decide) ?_
      refine pw_iastN dX0_restWires_40 h.a2 (by omega) (by decide) ?_
      refine pw_gen (P := BU μ0 b (setW C k 0 (if bW C k 0 < nI 999 then bW C k 0 + nI 1 else nI 999))) (hb1.high _) (fun μ2 hb2 => ?_)
      refine pw_iincN_2 dX0_restWires_41 (by decide) ?_
      refine pw_goto 2 dX0_restWires_44 (by decide) ?_
      refine pw_fg (ls' := [some (.ref b), some (.int (msk (fun v => ¬ L v) 6)), some (.int (nI ((k + 1))))]) ⟨Or.inr rfl, Or.inr rfl, Or.inr rfl, trivial⟩ (ih2 _ ?_)
      unfold rsS
      rw [cif_n ((msk_bi (p := fun v => ¬ L v) (by decide) hk).mp h1)]
      exact hb2
theorem G_go {B : Bs} : bG (goB B).1 = bG B := (Fr_goN (P := (bgB B, 0))).1.trans Fr_bg.1
theorem G_chB {B : Bs} : bG (chB B) = bG B := (itr_ind (P := fun _ x => bG x = bG B) G_go fun i x _ hx => G_chS.trans hx : bG (chB B) = bG B)
theorem G_rsB {B : Bs} : bG (rsB B) = bG B := (itr_ind (P := fun _ x => bG x = bG B) G_chB fun i x _ hx => hx : bG (rsB B) = bG B)
set_option maxRecDepth 100000 in
set_option maxHeartbeats 4000000 in
theorem k_passBeat {X : Cx} {σ : Sp} {μ : Mm} {Q : Int32 → Sp → Mm → Prop} {μ0 : Mm} {b : Nat} {B : Bs} (h : ShBus σ b) (hb : BU μ0 b B μ) (wf : WF B) (q : ∀ μ', BU μ0 b (btO B) μ' → Q (nI (btN B)) σ μ') : CTi X mX0_passBeat [.ref b] σ μ Q := by
  refine CT.of (by decide +kernel) (Nat.le_of_ble_eq_true rfl) ?_
  show PW X mX0_passBeat 0 0 0 [some (.ref b), none, none, none] [] σ μ (LI Q)
  have h8 := wf.n8
  have wf1 := wf.bg
  have wf2 := wf.kgo
  have wf3 := wf.kchB
  have wf4 := wf.krsB
  refine pw_aload_0 dX0_passBeat_0 ?_
  refine pw_cV0i 0 dX0_passBeat_1 kX0_133 vX0_awakeStations iX0_awakeStations ⟨by decide, by decide⟩ ⟨rfl, rfl⟩ (by decide) rfl (Nat.le_of_ble_eq_true rfl) h.t (k_awake h hb wf rfl ?_)
  refine pw_top (msk_cong fun s _ => (Fr_bg.aw s).symm) ?_
  refine pw_istore_1 dX0_passBeat_4 (by decide) ?_
  refine pw_aload_0 dX0_passBeat_5 ?_
  refine pw_iload_1 dX0_passBeat_6 ?_
  refine pw_cV1v 0 dX0_passBeat_7 kX0_136 vX0_beginWords iX0_beginWords ⟨by decide, by decide⟩ ⟨rfl, rfl⟩ (by decide) rfl (Nat.le_of_ble_eq_true rfl) h.t (k_beginWords (A := awB (bgB B)) h hb wf rfl Fr_bg.aw (fun μ1 hb1 => ?_))
  refine pw_bipush (v := nI 63) dX0_passBeat_10 (by decide) ?_
  refine pw_aload_0 dX0_passBeat_12 ?_
  refine pw_getI 0 6 dX0_passBeat_13 fX0_53 rfl (by decide) rfl h.t ?_
  refine pw_top hb1.f ?_
  refine pw_aload_0 dX0_passBeat_16 ?_
  refine pw_cV0i 0 dX0_passBeat_17 kX0_139 vX0_pulledWires iX0_pulledWires ⟨by decide, by decide⟩ ⟨rfl, rfl⟩ (by decide) rfl (Nat.le_of_ble_eq_true rfl) h.t (k_pulled h hb1 wf1 Fr_bg.n ?_)
  refine pw_ior dX0_passBeat_20 ?_
  refine pw_iconst (v := -1) dX0_passBeat_21 (by decide) ?_
  refine pw_ixor dX0_passBeat_22 ?_
  refine pw_iand dX0_passBeat_23 ?_
  refine pw_top (show _ = msk (fun v => ¬ lowB (bgB B) v) 6 from msk_hi.trans (by unfold lowB; rw [show nS (bgB B) = nS B from Fr_bg.n]; rfl)) ?_
  refine pw_istore_2 dX0_passBeat_24 (by decide) ?_
  refine pw_aload_0 dX0_passBeat_25 ?_
  refine pw_iload_2 dX0_passBeat_26 ?_
  refine pw_iload_1 dX0_passBeat_27 ?_
  refine pw_cV2i 0 dX0_passBeat_28 kX0_142 vX0_goOnSpeaking iX0_goOnSpeaking ⟨by decide, by decide⟩ ⟨rfl, rfl⟩ (by decide) rfl (Nat.le_of_ble_eq_true rfl) h.t (k_goOn (L := lowB (bgB B)) (A := awB (bgB B)) h hb1 wf1 Fr_bg.n (fun μ2 hb2 => ?_))
  refine pw_istore_3 dX0_passBeat_31 (by decide) ?_
  refine pw_aload_0 dX0_passBeat_32 ?_
  refine pw_iload_2 dX0_passBeat_33 ?_
  refine pw_cV1v 0 dX0_passBeat_34 kX0_145 vX0_changeCharges iX0_changeCharges ⟨by decide, by decide⟩ ⟨rfl, rfl⟩ (by decide) rfl (Nat.le_of_ble_eq_true rfl) h.t (k_charge (L := lowB (bgB B)) h hb2 wf2 (n_go B) (fun μ3 hb3 => ?_))
  refine pw_aload_0 dX0_passBeat_37 ?_
  refine pw_iload_2 dX0_passBeat_38 ?_
  refine pw_cV1v 0 dX0_passBeat_39 kX0_148 vX0_restWires iX0_restWires ⟨by decide, by decide⟩ ⟨rfl, rfl⟩ (by decide) rfl (Nat.le_of_ble_eq_true rfl) h.t (k_rest (L := lowB (bgB B)) h hb3 wf3 (n_ch B) (fun μ4 hb4 => ?_))
  refine pw_aload_0 dX0_passBeat_42 ?_
  refine pw_dup dX0_passBeat_43 ?_
  refine pw_getI 0 7 dX0_passBeat_44 fX0_56 rfl (by decide) rfl h.t ?_
  refine pw_top hb4.b ?_
  refine pw_iconst (v := nI 1) dX0_passBeat_47 (by decide) ?_
  refine pw_iadd dX0_passBeat_48 ?_
  refine pw_putI 0 7 dX0_passBeat_49 fX0_56 rfl (by decide) rfl (Or.inl rfl) rfl (by decide) h.t ?_
  refine pw_gen (P := BU μ0 b (setG (rsB B) 5 ((bG (rsB B) 5) + (nI 1)))) (hb4.beats _) (fun μ5 hb5 => ?_)
  refine pw_iload_3 dX0_passBeat_52 ?_
  refine pw_ireturn dX0_passBeat_53 rfl ?_
  refine q _ (Eq.mp (congrArg (fun b' => BU μ0 b b' _) ?_) hb5)
  unfold btO
  rw [G_rsB]
noncomputable def btS (_ : Nat) (P : Bs × Nat) : Bs × Nat := (btO P.1, P.2 + btN P.1)
noncomputable def btI (k : Nat) (B : Bs) : Bs × Nat := itr btS k (B, 0)
theorem bI_wf {B : Bs} (wf : WF B) : ∀ k, WF (btI k B).1
  | 0 => wf
  | k + 1 => (bI_wf wf k).bt
theorem bI_n {B : Bs} : ∀ k, nS (btI k B).1 = nS B
  | 0 => rfl
  | k + 1 => (n_bt _).trans (bI_n k)
theorem in_of {x : Int32} {lo hi : Nat} (h1 : lo < 2 ^ 30) (h2 : hi < 2 ^ 30) (a : ¬ x < nI lo) (b : x ≤ nI hi) : lo ≤ x.toNatClampNeg ∧ x.toNatClampNeg ≤ hi ∧ x = nI x.toNatClampNeg := by
  have h0 : ¬ x < 0 := fun hx => a (Int32.lt_of_lt_of_le hx (nI_pos' (by omega)))
  obtain ⟨j, hj, rfl⟩ := nI_of h0
  rw [nI_clamp hj]
  rw [nI_ltI hj (by omega)] at a
  rw [nI_leI hj (by omega)] at b
  exact ⟨by omega, b, rfl⟩
set_option maxRecDepth 100000 in
set_option maxHeartbeats 4000000 in
theorem k_passBeats {X : Cx} {σ : Sp} {μ : Mm} {Q : Int32 → Sp → Mm → Prop} {μ0 : Mm} {b n : Nat} {B : Bs} {x : Int32} (h : ShBus σ b) (hb : BU μ0 b B μ) (wf : WF B) (hn : nS B = n) (q0 : (∀ c, 1 ≤ c → c ≤ 999 → x ≠ nI c) → Q (-2) σ μ) (q1 : ∀ c, 1 ≤ c → c ≤ 999 → x = nI c → nI 99999 < bG B 5 + nI c → Q (-5) σ μ) (q2 : ∀ c, 1 ≤ c → c ≤ 999 → x = nI c → ¬ nI 99999 < bG B 5 + nI c → ∀ μ', BU μ0 b (btI c B).1 μ' → Q (nI (btI c B).2) σ μ') : CTi X mX0_passBeats [.ref b, .int x] σ μ Q := by
  refine CT.of (by decide +kernel) (Nat.le_of_ble_eq_true rfl) ?_
  show PW X mX0_passBeats 0 0 0 [some (.ref b), some (.int x), none, none] [] σ μ (LI Q)
  have h8 : n ≤ 8 := hn ▸ wf.n8
  refine pw_iload_1 dX0_passBeats_0 ?_
  refine pw_iconst (v := nI 1) dX0_passBeats_1 (by decide) ?_
  refine pw_icmp_lt 12 dX0_passBeats_2 (by decide) (fun h1 => ?_) (fun h1 => ?_)
  · skip
    refine pw_bipush (v := -2) dX0_passBeats_12 (by decide) ?_
    refine pw_ireturn dX0_passBeats_14 rfl ?_
    exact q0 (fun k h1 h9 e => by subst e; have h5 := h1; rw [show (nI k < nI 1) ↔ k < 1 from nI_ltI (by omega) (by omega)] at h5; omega)
  · skip
    refine pw_iload_1 dX0_passBeats_5 ?_
    refine pw_sipush (v := nI 999) dX0_passBeats_6 (by decide) ?_
    refine pw_icmp_le 15 dX0_passBeats_9 (by decide) (fun h2 => ?_) (fun h2 => ?_)
    · skip
      have hin : 1 ≤ x.toNatClampNeg ∧ x.toNatClampNeg ≤ 999 ∧ x = nI x.toNatClampNeg := in_of (by decide) (by decide) h1 h2
      obtain ⟨c1, c9, hxc⟩ := hin
      generalize x.toNatClampNeg = c at c1 c9 hxc
      subst hxc
      refine pw_aload_0 dX0_passBeats_15 ?_
      refine pw_getI 0 7 dX0_passBeats_16 fX0_56 rfl (by decide) rfl h.t ?_
      refine pw_top hb.b ?_
      refine pw_iload_1 dX0_passBeats_19 ?_
      refine pw_iadd dX0_passBeats_20 ?_
      refine pw_ldc dX0_passBeats_21 qX0_128 ?_
      refine pw_top (show _ = nI 99999 by rfl) ?_
      refine pw_icmp_le 29 dX0_passBeats_23 (by decide) (fun h3 => ?_) (fun h3 => ?_)
      · skip
        refine pw_iconst (v := nI 0) dX0_passBeats_29 (by decide) ?_
        refine pw_istore_2 dX0_passBeats_30 (by decide) ?_
        refine pw_iconst (v := nI 0) dX0_passBeats_31 (by decide) ?_
        refine pw_istore_3 dX0_passBeats_32 (by decide) ?_
        refine pw_fg (ls' := [some (.ref b), some (.int (nI c)), some (.int (nI ((btI 0 B).2))), some (.int (nI 0))]) ⟨Or.inr rfl, Or.inr rfl, Or.inr rfl, Or.inr rfl, trivial⟩ ?_
        refine pw_up (P := fun k => ∀ μ, BU μ0 b (btI k B).1 μ → PW X mX0_passBeats 0 0 33 [some (.ref b), some (.int (nI c)), some (.int (nI ((btI k B).2))), some (.int (nI k))] [] σ μ (LI Q)) c ?_ ?_ 0 (by omega) _ hb
        · intro μ1 hb1
          refine pw_iload_3 dX0_passBeats_33 ?_
          refine pw_iload_1 dX0_passBeats_34 ?_
          refine pw_icmp_ge 51 dX0_passBeats_35 (by decide) (fun _ => ?_) (fun hh => absurd (by rw [nI_leI (by omega) (by omega)]; omega) hh)
          refine pw_iload_2 dX0_passBeats_51 ?_
          refine pw_ireturn dX0_passBeats_52 rfl ?_
          exact q2 c c1 c9 rfl (Int32.not_lt.mpr h3) _ hb1
        · intro k hk ih μ1 hb1
          have ih2 : ∀ μ, BU μ0 b (btO (btI k B).1) μ → PW X mX0_passBeats 0 0 33 [some (.ref b), some (.int (nI c)), some (.int (nI ((btI k B).2 + btN (btI k B).1))), some (.int (nI ((k + 1))))] [] σ μ (LI Q) := ih
          refine pw_iload_3 dX0_passBeats_33 ?_
          refine pw_iload_1 dX0_passBeats_34 ?_
          refine pw_icmp_ge 51 dX0_passBeats_35 (by decide) (fun hh => absurd hh (by rw [nI_leI (by omega) (by omega)]; omega)) (fun _ => ?_)
          refine pw_iload_2 dX0_passBeats_38 ?_
          refine pw_aload_0 dX0_passBeats_39 ?_
          refine pw_cV0i 0 dX0_passBeats_40 kX0_129 vX0_passBeat iX0_passBeat ⟨by decide, by decide⟩ ⟨rfl, rfl⟩ (by decide) rfl (Nat.le_of_ble_eq_true rfl) h.t (k_passBeat h hb1 (bI_wf wf k) (fun μ1 hb1 => ?_))
          refine pw_iaddN dX0_passBeats_43 ?_
          refine pw_istore_2 dX0_passBeats_44 (by decide) ?_
          refine pw_iincN_3 dX0_passBeats_45 (by decide) ?_
          refine pw_goto 33 dX0_passBeats_48 (by decide) ?_
          exact ih2 _ hb1
      · skip
        refine pw_bipush (v := -5) dX0_passBeats_26 (by decide) ?_
        refine pw_ireturn dX0_passBeats_28 rfl ?_
        exact q1 c c1 c9 rfl (Int32.not_le.mp h3)
    · skip
      refine pw_bipush (v := -2) dX0_passBeats_12 (by decide) ?_
      refine pw_ireturn dX0_passBeats_14 rfl ?_
      exact q0 (fun k h1 h9 e => by subst e; have h5 := h2; rw [nI_leI (by omega) (by omega)] at h5; omega)

