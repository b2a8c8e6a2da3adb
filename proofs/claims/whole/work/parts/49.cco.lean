/-! Texts of the class: carryOut -/
theorem do_neg {B : Bs} {o : Od} (wf : WF B) (ok : okO o) (h : doR B o < 0) : doN B o = B := by
  obtain ⟨k, a, b, c⟩ := o
  rcases ok with e | e | e | e | e
  · have e8 : k = 33 := e
    subst e8
    rw [doR33] at h
    rw [doN33]
    exact sk_neg wf h
  · have e8 : k = 98 := e
    subst e8
    rw [doR98] at h
    rw [doN98]
    exact ps_neg wf h
  · have e8 : k = 115 := e
    subst e8
    rw [doR115] at h
    rw [doN115]
    exact cm_neg wf h
  · have e8 : k = 119 := e
    subst e8
    rw [doR119] at h
    rw [doN119]
    exact wd_neg wf h
  · have e8 : k = 122 := e
    subst e8
    rw [doR122] at h
    rw [doN122]
    exact dz_neg wf h
theorem CX.co {σ : Sp} {μ μ1 ν μ3 : Mm} {o x : Nat} {A : Aw} {B' : Bs} (h : CX σ μ o x A) (h1 : BU μ (hb (o + 125) x) (aB A) μ1) (f : ∀ a, (a < o + 1 ∨ o + 63 ≤ a) → a ≠ o + 564 → ν a = μ1 a) (h2 : BU ν (o + 1) B' ν)
    (e3 : ∀ a, a ≠ o + 125 → a ≠ o + 562 → μ3 a = ν a) (e1 : μ3 (o + 125) 1 = nI (if x < 6 then x + 1 else 0)) (e2 : μ3 (o + 125) 2 = nI (if (aH A).2 < 6 then (aH A).2 + 1 else 6)) (ep : μ3 (o + 562) 1 = nI 0) :
    CX σ μ3 o (if x < 6 then x + 1 else 0) (B', pushH (aH A) (aB A), aS A, ((aP A).1, 0)) ∧ FX μ o μ3 := by
  have hin := hb_in (hh := o + 125) h.2.2.2.1.2.1
  have hb2 : BU μ1 (o + 1) B' (fun a => if o + 562 ≤ a ∧ a < o + 565 then μ1 a else ν a) := by
    refine ⟨fun a ha => ?_, (h2.at (μ' := fun a => if o + 562 ≤ a ∧ a < o + 565 then μ1 a else ν a) (fun a a1 a2 => if_neg (by omega))).2⟩
    show (if o + 562 ≤ a ∧ a < o + 565 then μ1 a else ν a) = μ1 a
    rcases Classical.em (o + 562 ≤ a ∧ a < o + 565) with c | c
    · rw [if_pos c]
    · rw [if_neg c]
      exact f a (by omega) (by omega)
  obtain ⟨g1, -⟩ := h.opO (μ3 := fun a => if o + 562 ≤ a ∧ a < o + 565 then μ1 a else μ3 a) h1 hb2 (fun a ha => by
    show (if o + 562 ≤ a ∧ a < o + 565 then μ1 a else μ3 a) = (if o + 562 ≤ a ∧ a < o + 565 then μ1 a else ν a)
    rcases Classical.em (o + 562 ≤ a ∧ a < o + 565) with c | c
    · rw [if_pos c, if_pos c]
    · rw [if_neg c, if_neg c]
      exact e3 a ha (by omega)) (by
    show (if o + 562 ≤ o + 125 ∧ o + 125 < o + 565 then μ1 (o + 125) else μ3 (o + 125)) 1 = _
    rw [if_neg (by omega)]
    exact e1) (by
    show (if o + 562 ≤ o + 125 ∧ o + 125 < o + 565 then μ1 (o + 125) else μ3 (o + 125)) 2 = _
    rw [if_neg (by omega)]
    exact e2)
  have g2 := g1.pd (ν := fun a => if a = o + 564 then μ1 a else μ3 a) (P := ((aP A).1, 0)) (fun a a1 a2 => by
    show (if a = o + 564 then μ1 a else μ3 a) = (if o + 562 ≤ a ∧ a < o + 565 then μ1 a else μ3 a)
    rcases Classical.em (a = o + 564) with c | c
    · rw [if_pos c, if_pos (by omega)]
    · rw [if_neg c, if_neg (by omega)]) ⟨by
    show (if o + 562 = o + 564 then μ1 (o + 562) else μ3 (o + 562)) 1 = nI 0
    rw [if_neg (by omega)]
    exact ep, Nat.zero_le _, fun j hj => absurd hj (Nat.not_lt_zero j)⟩
  have g3 := g2.1.rd (ν := μ3) (fun a ha => by
    show μ3 a = (if a = o + 564 then μ1 a else μ3 a)
    rw [if_neg ha])
  exact ⟨g3.1, fun a a1 a2 => (e3 a (by omega) (by omega)).trans ((f a (by omega) (by omega)).trans (h1.1 a (by omega)))⟩
theorem ol_cons {P : Pd} {f i j : Nat} {o : Od} (e : orG P i = (some o, j)) : ∃ os, olG P (f + 1) i = o :: os := ⟨cif (j < P.2) (olG P f (j + 1)) [], by
  rw [ol_s, e]
  rfl⟩
set_option maxRecDepth 100000 in
set_option maxHeartbeats 4000000 in
theorem kf_carryOut {X : Cx} {σ : Sp} {μ : Mm} {Q : Int32 → Sp → Mm → Prop} {o x : Nat} {A : Aw} (hc : CX σ μ o x A) (wa : WA A) (q : ∀ μ' x', CX σ μ' o x' (coA A) → FX μ o μ' → Q (coR A) σ μ') : CTi X mX7_carryOut [.ref o] σ μ Q := by
  refine CT.of (by decide +kernel) (Nat.le_of_ble_eq_true rfl) ?_
  show PW X mX7_carryOut 0 0 0 [some (.ref o), none] [] σ μ (LI Q)
  have wf := wa.1.1
  refine pw_aload_0 dX7_carryOut_0 ?_
  refine pw_getr 7 5 dX7_carryOut_1 fX7_42 rfl (by decide) rfl hc.1.t hc.1.r5 ?_
  refine pw_cV0i 4 dX7_carryOut_4 kX7_209 vX4_findFault iX4_findFault ⟨by decide, by decide⟩ ⟨rfl, rfl⟩ (by decide) rfl (Nat.le_of_ble_eq_true rfl) hc.1.rd.t (k_findFault (p := o + 562) hc.1.rd hc.2.2.2.2.2 RX.rf (fun μ9 rx9 => ?_))
  refine pw_bipush (v := -6) dX7_carryOut_7 (by decide) ?_
  obtain ⟨hc9, fx9⟩ := hc.rd rx9
  have h80 : (aP A).2 ≤ 80 := hc.2.2.2.2.2.2.1
  have hx7 := hc9.2.2.2.1.2.1
  have hin := hb_in (hh := o + 125) hx7
  refine pw_icmp_eq 15 dX7_carryOut_9 (by decide) (fun h1 => ?_) (fun h1 => ?_)
  · skip
    refine pw_aload_0 dX7_carryOut_15 ?_
    refine pw_getr 7 2 dX7_carryOut_16 fX7_22 rfl (by decide) rfl hc.1.t hc.1.r2 ?_
    refine pw_aload_0 dX7_carryOut_19 ?_
    refine pw_getr 7 0 dX7_carryOut_20 fX7_10 rfl (by decide) rfl hc.1.t hc.1.r0 ?_
    refine pw_cV1v 1 dX7_carryOut_23 kX7_46 vX1_prepare iX1_prepare ⟨by decide, by decide⟩ ⟨rfl, rfl⟩ (by decide) rfl (Nat.le_of_ble_eq_true rfl) hc.1.hist.t (k_prepare hc.1.hist hc.1.now (by omega) hc9.2.1 wf hc9.2.2.2.1.1 hx7 (hc9.2.2.2.1.2.2.2.2.1 x hx7) (fun μ1 hb1 => ?_))
    have hbn : BU μ1 (o + 1) (aB A) μ1 := hb1.mv hc9.2.1 (by omega)
    have hp1 : PD μ1 (o + 562) (aP A) := CPd.at (o := o) hc9.2.2.2.2.2 (fun a a1 a2 => hb1.1 a (by omega))
    refine pw_iconst (v := nI 0) dX7_carryOut_26 (by decide) ?_
    refine pw_istore_1 dX7_carryOut_27 (by decide) ?_
    refine pw_aload_0 dX7_carryOut_28 ?_
    refine pw_getr 7 5 dX7_carryOut_29 fX7_42 rfl (by decide) rfl hc.1.t hc.1.r5 ?_
    refine pw_iconst (v := nI 0) dX7_carryOut_32 (by decide) ?_
    refine pw_putI 4 1 dX7_carryOut_33 fX7_212 rfl (by decide) rfl (Or.inl rfl) rfl (by decide) hc.1.rd.t ?_
    have ex9 : ∀ n ν B', n ≤ 100 → (∀ a, (a < o + 1 ∨ o + 63 ≤ a) → a ≠ o + 564 → ν a = μ1 a) → BU ν (o + 1) B' ν → ((B', n) = coG (olG (aP A) 80 0) (aB A)) → PW X mX7_carryOut 0 0 78 [some (.ref o), some (.int (nI n))] [] σ ν (LI Q) := by
      intro n ν B' hn9 fz hbv eb
      have e125 : wr ν (o + 562) 1 (nI 0) (o + 125) = μ9 (o + 125) := by rw [wr_n _ _ _ (by omega), fz (o + 125) (by omega) (by omega), hb1.1 (o + 125) (by omega)]
      refine pw_aload_0 dX7_carryOut_78 ?_
      refine pw_getr 7 4 dX7_carryOut_79 fX7_33 rfl (by decide) rfl hc.1.t hc.1.r4 ?_
      refine pw_cV0i 3 dX7_carryOut_82 kX7_206 vX3_clear iX3_clear ⟨by decide, by decide⟩ ⟨rfl, rfl⟩ (by decide) rfl (Nat.le_of_ble_eq_true rfl) hc.1.pad.t (k_clear (p := o + 562) hc.1.pad ?_)
      refine pw_pop dX7_carryOut_85 ?_
      refine pw_aload_0 dX7_carryOut_86 ?_
      refine pw_getr 7 2 dX7_carryOut_87 fX7_22 rfl (by decide) rfl hc.1.t hc.1.r2 ?_
      refine pw_iload_1 dX7_carryOut_90 ?_
      refine pw_cV1i 1 dX7_carryOut_91 kX7_54 vX1_keep iX1_keep ⟨by decide, by decide⟩ ⟨rfl, rfl⟩ (by decide) rfl (Nat.le_of_ble_eq_true rfl) hc.1.hist.t (k_keep hc.1.hist (x := x) (l := (aH A).2) (by rw [e125]; exact hc9.2.2.2.1.1) hx7 (by rw [e125]; exact hc9.2.2.2.1.2.2.1) hc9.2.2.2.1.2.2.2.1 (fun hneg => absurd hneg (nnI (by omega))) (fun hok => ?_))
      refine pw_ireturn dX7_carryOut_94 rfl ?_
      have e1 : coR A = nI n := (cif_y h1).trans (by rw [← eb])
      have e2 : coA A = (B', pushH (aH A) (aB A), aS A, ((aP A).1, 0)) := (cif_y h1).trans (by rw [← eb])
      rw [e1, e2] at q
      obtain ⟨g1, g2⟩ := hc9.co (μ3 := wr (wr (wr ν (o + 562) 1 (nI 0)) (o + 125) 1 (nI (if x < 6 then x + 1 else 0))) (o + 125) 2 (nI (if (aH A).2 < 6 then (aH A).2 + 1 else 6))) hb1 fz hbv (fun a a1 a2 => by rw [wr_n _ _ _ a1, wr_n _ _ _ a1, wr_n _ _ _ a2]) (rdN rdS (by decide)) rdS (by rw [wr_n _ _ _ (by omega), wr_n _ _ _ (by omega)]; exact rdS)
      exact q _ _ g1 (fun a a1 a2 => (g2 a a1 a2).trans (fx9 a a1 a2))
    have done : ∀ n i ν B', (aP A).2 ≤ i → i ≤ 81 → n ≤ 80 → (∀ a, (a < o + 1 ∨ o + 63 ≤ a) → a ≠ o + 564 → ν a = μ1 a) → BU ν (o + 1) B' ν → ν (o + 564) 1 = nI i → ((B', n) = coG (olG (aP A) 80 0) (aB A)) → PW X mX7_carryOut 0 0 36 [some (.ref o), some (.int (nI n))] [] σ ν (LI Q) := by
      intro n i ν B' hpi hi hn9 fz hbv ha9 eb
      have hpd : PD ν (o + 562) (aP A) := CPd.at (o := o) hp1 (fun a a1 a2 => fz a (by omega) (by omega))
      refine pw_iload_1 dX7_carryOut_36 ?_
      refine pw_bipush (v := nI 80) dX7_carryOut_37 (by decide) ?_
      refine pw_icmp_ge 78 dX7_carryOut_39 (by decide) (fun _ => ?_) (fun _ => ?_)
      · skip
        exact ex9 n ν _ (by omega) fz hbv eb
      · skip
        refine pw_aload_0 dX7_carryOut_42 ?_
        refine pw_getr 7 5 dX7_carryOut_43 fX7_42 rfl (by decide) rfl hc.1.t hc.1.r5 ?_
        refine pw_cV0i 4 dX7_carryOut_46 kX7_215 vX4_readOrder iX4_readOrder ⟨by decide, by decide⟩ ⟨rfl, rfl⟩ (by decide) rfl (Nat.le_of_ble_eq_true rfl) hc.1.rd.t (k_readOut (p := o + 562) hc.1.rd hpd RX.rf ha9 hi hpi (fun μo rxo => ?_))
        refine pw_if_eq 78 dX7_carryOut_49 (by decide) (fun _ => ?_) (fun hh => absurd (by decide) hh)
        exact ex9 n μo _ (by omega) (fun a a1 a2 => (rxo a a2).trans (fz a a1 a2)) (hbv.at (fun a a1 a2 => rxo a (by omega))) eb
    have loop : ∀ f i n B ν, (aP A).2 ≤ i + f → i ≤ 80 → n ≤ i → WF B → (∀ a, (a < o + 1 ∨ o + 63 ≤ a) → a ≠ o + 564 → ν a = μ1 a) → BU ν (o + 1) B ν → ν (o + 564) 1 = nI i → flG (aP A) f i = -6 → (∀ k, (((coG (olG (aP A) f i) B).1, n + (coG (olG (aP A) f i) B).2) : Bs × Nat) = k → k = coG (olG (aP A) 80 0) (aB A)) → PW X mX7_carryOut 0 0 36 [some (.ref o), some (.int (nI n))] [] σ ν (LI Q) := by
      intro f
      induction f with
      | zero =>
        intro i n B ν hf hi hn9 wf9 fz hbv ha9 hfl ek
        exact absurd hfl (n6_ne (by omega))
      | succ f ih =>
        intro i n B ν hf hi hn9 wf9 fz hbv ha9 hfl ek
        have hpd : PD ν (o + 562) (aP A) := CPd.at (o := o) hp1 (fun a a1 a2 => fz a (by omega) (by omega))
        have hi2 : i < (aP A).2 := by
          rcases Nat.lt_or_ge i (aP A).2 with g | g
          · exact g
          · exact absurd ((fl_out g).symm.trans hfl) (n6_ne (by omega))
        refine pw_iload_1 dX7_carryOut_36 ?_
        refine pw_bipush (v := nI 80) dX7_carryOut_37 (by decide) ?_
        refine pw_icmp_ge 78 dX7_carryOut_39 (by decide) (fun hh => absurd hh (by rw [nI_leI (by omega) (by omega)]; omega)) (fun _ => ?_)
        refine pw_aload_0 dX7_carryOut_42 ?_
        refine pw_getr 7 5 dX7_carryOut_43 fX7_42 rfl (by decide) rfl hc.1.t hc.1.r5 ?_
        refine pw_cV0i 4 dX7_carryOut_46 kX7_215 vX4_readOrder iX4_readOrder ⟨by decide, by decide⟩ ⟨rfl, rfl⟩ (by decide) rfl (Nat.le_of_ble_eq_true rfl) hc.1.rd.t (k_readOrder (p := o + 562) hc.1.rd hpd RX.rf ha9 hi (fun o9 j9 eo μo rxo ha8 ro8 => ?_) (fun j9 eo μo rxo ha8 => ?_))
        · skip
          have hbo := orG_b (P := aP A) (i := i) h80 hi
          rw [eo] at hbo
          have hj1 : j9 ≤ 80 := hbo.1
          have hj2 : i < j9 := hbo.2 so_ne
          have ok9 := orG_k eo
          obtain ⟨os9, eol⟩ := ol_cons (f := f) eo
          obtain ⟨k9, a9, b9, c9⟩ := o9
          have ok8 : k9 = 33 ∨ k9 = 98 ∨ k9 = 115 ∨ k9 = 119 ∨ k9 = 122 := ok9
          have hbo9 : BU μo (o + 1) B μo := hbv.at (fun a a1 a2 => rxo a (by omega))
          refine pw_if_eq 78 dX7_carryOut_49 (by decide) (fun hh => absurd hh (by decide)) (fun _ => ?_)
          refine pw_aload_0 dX7_carryOut_52 ?_
          refine pw_cV0i 7 dX7_carryOut_53 kX7_218 vX7_carryOrder iX7_carryOrder ⟨by decide, by decide⟩ ⟨rfl, rfl⟩ (by decide) rfl (Nat.le_of_ble_eq_true rfl) hc.1.t (k_carryOrder (μ0 := μo) hc.1 hbo9 wf9 (by omega) ro8 (fun μ9 hb9 => ?_))
          refine pw_if_lt 78 dX7_carryOut_56 (by decide) (fun h1 => ?_) (fun h1 => ?_)
          · skip
            have hneg := h1
            rw [do_neg wf9 ok9 hneg] at hb9
            exact ex9 n μ9 _ (by omega) (fun a a1 a2 => (hb9.1 a (by omega)).trans ((rxo a a2).trans (fz a a1 a2))) hb9.self (ek _ (by rw [eol, co_e hneg, Nat.add_zero]))
          · skip
            refine pw_iincN_1 dX7_carryOut_59 (by decide) ?_
            refine pw_aload_0 dX7_carryOut_62 ?_
            refine pw_getr 7 5 dX7_carryOut_63 fX7_42 rfl (by decide) rfl hc.1.t hc.1.r5 ?_
            refine pw_dup dX7_carryOut_66 ?_
            refine pw_getI 4 1 dX7_carryOut_67 fX7_212 rfl (by decide) rfl hc.1.rd.t ?_
            refine pw_top ((congrFun (hb9.1 (o + 564) (by omega)) 1).trans ha8) ?_
            refine pw_iconst (v := nI 1) dX7_carryOut_70 (by decide) ?_
            refine pw_iaddN dX7_carryOut_71 ?_
            refine pw_putI 4 1 dX7_carryOut_72 fX7_212 rfl (by decide) rfl (Or.inl rfl) rfl (by decide) hc.1.rd.t ?_
            refine pw_goto 36 dX7_carryOut_75 (by decide) ?_
            have hnn := h1
            have hbw : BU (wr μ9 (o + 564) 1 (nI (j9 + 1))) (o + 1) (doN B (k9, a9, b9, c9)) (wr μ9 (o + 564) 1 (nI (j9 + 1))) := hb9.at (fun a a1 a2 => wr_n _ _ _ (by omega))
            rcases Nat.lt_or_ge j9 (aP A).2 with g | g
            · rcases Classical.em (chT (aP A) j9 59) with t | t
              · refine ih (j9 + 1) (n + 1) _ _ (by omega) (by omega) (by omega) (do_wf wf9) (fun a a1 a2 => (wr_n _ _ _ a2).trans ((hb9.1 a (by omega)).trans ((rxo a a2).trans (fz a a1 a2)))) hbw rdS ((fl_go eo g t).symm.trans hfl) (fun k hk => ek k ?_)
                rw [← hk, ol_go eo g, co_g hnn]
                exact congrArg (Prod.mk _) (show n + ((coG (olG (aP A) f (j9 + 1)) (doN B (k9, a9, b9, c9))).2 + 1) = n + 1 + (coG (olG (aP A) f (j9 + 1)) (doN B (k9, a9, b9, c9))).2 by omega)
              · exact absurd ((fl_bad eo g t).symm.trans hfl) (n6_ne (by omega))
            · refine done (n + 1) (j9 + 1) _ _ (by omega) (by omega) (by omega) (fun a a1 a2 => (wr_n _ _ _ a2).trans ((hb9.1 a (by omega)).trans ((rxo a a2).trans (fz a a1 a2)))) hbw rdS (ek _ ?_)
              rw [ol_end eo g, co_g hnn]
              rfl
        · skip
          have hbo := orG_b (P := aP A) (i := i) h80 hi
          rw [eo] at hbo
          have hj1 : j9 ≤ 80 := hbo.1
          exact absurd ((fl_no eo).symm.trans hfl) (n6_ne (by omega))
    exact loop 80 0 0 (aB A) _ (by omega) (by omega) (Nat.le_refl _) wf (fun a a1 a2 => wr_n _ _ _ a2) (hbn.at (fun a a1 a2 => wr_n _ _ _ (by omega))) rdS h1 (fun k hk => by rw [← hk, Nat.zero_add])
  · skip
    refine pw_bipush (v := -3) dX7_carryOut_12 (by decide) ?_
    refine pw_ireturn dX7_carryOut_14 rfl ?_
    have e1 : coR A = -3 := cif_n h1
    have e2 : coA A = A := cif_n h1
    rw [e1, e2] at q
    exact q _ x hc9 fx9
