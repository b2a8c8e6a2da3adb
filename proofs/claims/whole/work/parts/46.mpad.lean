/-! Texts of the model: the pad read; its fault -/
noncomputable def olG (P : Pd) : Nat → Nat → List Od
  | 0, _ => []
  | f + 1, i => ((orG P i).1).elim [] (fun o => o :: cif ((orG P i).2 < P.2) (olG P f ((orG P i).2 + 1)) [])
theorem ol_end {P : Pd} {f i j : Nat} {o : Od} (e : orG P i = (some o, j)) (h : P.2 ≤ j) : olG P (f + 1) i = [o] := by
  unfold olG
  rw [e]
  show o :: cif (j < P.2) _ [] = [o]
  rw [cif_n (Nat.not_lt.mpr h)]
theorem ol_s {P : Pd} {f i : Nat} : olG P (f + 1) i = ((orG P i).1).elim [] (fun o => o :: cif ((orG P i).2 < P.2) (olG P f ((orG P i).2 + 1)) []) := rfl
theorem ol_go {P : Pd} {f i j : Nat} {o : Od} (e : orG P i = (some o, j)) (h : j < P.2) : olG P (f + 1) i = o :: olG P f (j + 1) := by
  rw [ol_s, e]
  show o :: cif (j < P.2) (olG P f (j + 1)) [] = _
  rw [cif_y h]
def MOL (f : Nat → Int32) : Nat → List Od → Prop
  | _, [] => True
  | k, o :: os => MO f k o ∧ MOL f (k + 1) os
theorem MO.cg {f g : Nat → Int32} {k : Nat} {o : Od} (h : MO f k o) (e : ∀ j, j < 4 * (k + 1) → g j = f j) : MO g k o := ⟨(e _ (by omega)).trans h.1, (e _ (by omega)).trans h.2.1, fun q => ⟨(e _ (by omega)).trans (h.2.2 q).1, (e _ (by omega)).trans (h.2.2 q).2⟩⟩
theorem n6_ne {j : Nat} (h : j ≤ 1000) : ¬ nI j = -6 := nI_ne6 h
set_option maxRecDepth 100000 in
set_option maxHeartbeats 4000000 in
theorem m_readPad {X : Cx} {σ : Sp} {μ : Mm} {Q : Int32 → Sp → Mm → Prop} {m : Nat} {P : Pd} (h : ShM σ m) (hq : QX μ m P) (q : ∀ ν, RS m 0 μ ν → (flG P 80 0 = -6 → ν m 10 = nI (olG P 80 0).length ∧ MOL (ν (m + 8)) 0 (olG P 80 0)) → Q (flG P 80 0) σ ν) : CTi X mX8_readPad [.ref m] σ μ Q := by
  refine CT.of (by decide +kernel) (Nat.le_of_ble_eq_true rfl) ?_
  show PW X mX8_readPad 0 0 0 [some (.ref m), none] [] σ μ (LI Q)
  have h80 := hq.2.1
  refine pw_aload_0 dX8_readPad_0 ?_
  refine pw_iconst (v := nI 0) dX8_readPad_1 (by decide) ?_
  refine pw_putI 8 10 dX8_readPad_2 fX8_211 rfl (by decide) rfl (Or.inl rfl) rfl (by decide) h.t ?_
  refine pw_gen (P := fun ν => RS m 0 μ ν ∧ ν m 7 = (nI P.2) ∧ ν m 10 = (nI 0)) ⟨(RS.rf : RS m 0 μ μ).f (by decide), rdN hq.1 (by decide), rdS⟩ (fun μ1 ⟨rl1, mh1c7, mh1c10⟩ => ?_)
  refine pw_aload_0 dX8_readPad_5 ?_
  refine pw_iconst (v := nI 0) dX8_readPad_6 (by decide) ?_
  refine pw_putI 8 11 dX8_readPad_7 fX8_192 rfl (by decide) rfl (Or.inl rfl) rfl (by decide) h.t ?_
  refine pw_gen (P := fun ν => RS m 0 μ ν ∧ ν m 7 = (nI P.2) ∧ ν m 10 = (nI 0) ∧ ν m 11 = (nI 0)) ⟨rl1.f (by decide), rdN mh1c7 (by decide), rdN mh1c10 (by decide), rdS⟩ (fun μ2 ⟨rl2, mh2c7, mh2c10, mh2c11⟩ => ?_)
  refine pw_aload_0 dX8_readPad_10 ?_
  refine pw_bipush (v := -6) dX8_readPad_11 (by decide) ?_
  refine pw_putI 8 12 dX8_readPad_13 fX8_195 rfl (by decide) rfl (Or.inl rfl) rfl (by decide) h.t ?_
  refine pw_gen (P := fun ν => RS m 0 μ ν ∧ ν m 7 = (nI P.2) ∧ ν m 10 = (nI 0) ∧ ν m 11 = (nI 0) ∧ ν m 12 = ((-6))) ⟨rl2.f (by decide), rdN mh2c7 (by decide), rdN mh2c10 (by decide), rdN mh2c11 (by decide), rdS⟩ (fun μ3 ⟨rl3, mh3c7, mh3c10, mh3c11, mh3c12⟩ => ?_)
  refine pw_iconst (v := nI 1) dX8_readPad_16 (by decide) ?_
  refine pw_istore_1 dX8_readPad_17 (by decide) ?_
  have loop : ∀ f i9 k9 ν, QX ν m P → P.2 ≤ i9 + f → i9 ≤ 80 → 2 * k9 ≤ i9 → ν m 10 = nI k9 → ν m 11 = nI i9 → ν m 12 = -6 → (∀ ν', RS m k9 ν ν' → (flG P f i9 = -6 → ν' m 10 = nI (k9 + (olG P f i9).length) ∧ MOL (ν' (m + 8)) k9 (olG P f i9)) → Q (flG P f i9) σ ν') → PW X mX8_readPad 0 0 18 [some (.ref m), some (.int (nI 1))] [] σ ν (LI Q) := by
    intro f
    induction f with
    | zero =>
      intro i9 k9 ν hq9 hf hi9 hk9 k8 a8 w8 q9
      refine pw_iload_1 dX8_readPad_18 ?_
      refine pw_if_eq 92 dX8_readPad_19 (by decide) (fun hh => absurd hh (by decide)) (fun _ => ?_)
      refine pw_aload_0 dX8_readPad_22 ?_
      refine pw_cV0v 8 dX8_readPad_23 kX8_220 vX8_readOrder iX8_readOrder ⟨by decide, by decide⟩ ⟨rfl, rfl⟩ (by decide) rfl (Nat.le_of_ble_eq_true rfl) h.t (m_readOrder h hq9 k8 a8 w8 hi9 (by omega) (fun o9 j9 eo ν4 rs4 k4 a4 w4 mo4 => ?_) (fun j9 eo ν4 rs4 k4 w4 => ?_))
      · skip
        have hbo := orG_b (P := P) (i := i9) h80 hi9
        rw [eo] at hbo
        have hb1 : j9 ≤ 80 := hbo.1
        have hb8 : i9 < j9 := hbo.2 so_ne
        refine pw_aload_0 dX8_readPad_26 ?_
        refine pw_getI 8 12 dX8_readPad_27 fX8_195 rfl (by decide) rfl h.t ?_
        refine pw_top w4 ?_
        refine pw_bipush (v := -6) dX8_readPad_30 (by decide) ?_
        refine pw_icmp_ne 50 dX8_readPad_32 (by decide) (fun hh => absurd rfl hh) (fun _ => ?_)
        have e5 := (orG_out (P := P) (i := i9) (by omega)).symm.trans eo
        exact absurd (congrArg Prod.fst e5) (fun h95 => by cases h95)
      · skip
        have hbo := orG_b (P := P) (i := i9) h80 hi9
        rw [eo] at hbo
        have hb1 : j9 ≤ 80 := hbo.1
        refine pw_aload_0 dX8_readPad_26 ?_
        refine pw_getI 8 12 dX8_readPad_27 fX8_195 rfl (by decide) rfl h.t ?_
        refine pw_top w4 ?_
        refine pw_bipush (v := -6) dX8_readPad_30 (by decide) ?_
        refine pw_icmp_ne 50 dX8_readPad_32 (by decide) (fun _ => ?_) (fun hh => absurd hh (nI_ne6 (by omega)))
        refine pw_iconst (v := nI 0) dX8_readPad_50 (by decide) ?_
        refine pw_istore_1 dX8_readPad_51 (by decide) ?_
        refine pw_iload_1 dX8_readPad_52 ?_
        refine pw_if_eq 18 dX8_readPad_53 (by decide) (fun _ => ?_) (fun hh => absurd (by decide) hh)
        refine pw_iload_1 dX8_readPad_18 ?_
        refine pw_if_eq 92 dX8_readPad_19 (by decide) (fun _ => ?_) (fun hh => absurd (by decide) hh)
        refine pw_aload_0 dX8_readPad_92 ?_
        refine pw_getI 8 12 dX8_readPad_93 fX8_195 rfl (by decide) rfl h.t ?_
        refine pw_top w4 ?_
        refine pw_ireturn dX8_readPad_96 rfl ?_
        have e5 : (none, i9) = ((none : Option Od), j9) := (orG_out (by omega)).symm.trans eo
        have e6 : i9 = j9 := congrArg Prod.snd e5
        rw [show flG P 0 i9 = nI j9 from by rw [← e6]; rfl] at q9
        exact q9 _ rs4 (fun h95 => absurd h95 (n6_ne (by omega)))
    | succ f ih =>
      intro i9 k9 ν hq9 hf hi9 hk9 k8 a8 w8 q9
      refine pw_iload_1 dX8_readPad_18 ?_
      refine pw_if_eq 92 dX8_readPad_19 (by decide) (fun hh => absurd hh (by decide)) (fun _ => ?_)
      refine pw_aload_0 dX8_readPad_22 ?_
      refine pw_cV0v 8 dX8_readPad_23 kX8_220 vX8_readOrder iX8_readOrder ⟨by decide, by decide⟩ ⟨rfl, rfl⟩ (by decide) rfl (Nat.le_of_ble_eq_true rfl) h.t (m_readOrder h hq9 k8 a8 w8 hi9 (by omega) (fun o9 j9 eo ν5 rs5 k5 a5 w5 mo5 => ?_) (fun j9 eo ν5 rs5 k5 w5 => ?_))
      · skip
        have hbo := orG_b (P := P) (i := i9) h80 hi9
        rw [eo] at hbo
        have hb1 : j9 ≤ 80 := hbo.1
        have hb8 : i9 < j9 := hbo.2 so_ne
        refine pw_aload_0 dX8_readPad_26 ?_
        refine pw_getI 8 12 dX8_readPad_27 fX8_195 rfl (by decide) rfl h.t ?_
        refine pw_top w5 ?_
        refine pw_bipush (v := -6) dX8_readPad_30 (by decide) ?_
        refine pw_icmp_ne 50 dX8_readPad_32 (by decide) (fun hh => absurd rfl hh) (fun _ => ?_)
        refine pw_aload_0 dX8_readPad_35 ?_
        refine pw_getI 8 11 dX8_readPad_36 fX8_192 rfl (by decide) rfl h.t ?_
        refine pw_top a5 ?_
        refine pw_aload_0 dX8_readPad_39 ?_
        refine pw_getI 8 7 dX8_readPad_40 fX8_183 rfl (by decide) rfl h.t ?_
        refine pw_top ((hq9.rs rs5).1) ?_
        refine pw_icmp_ge 50 dX8_readPad_43 (by decide) (fun g43 => ?_) (fun g43 => ?_)
        · skip
          have j43 : P.2 ≤ j9 := by rw [nI_leI (by omega) (by omega)] at g43; exact g43
          refine pw_iconst (v := nI 0) dX8_readPad_50 (by decide) ?_
          refine pw_istore_1 dX8_readPad_51 (by decide) ?_
          refine pw_iload_1 dX8_readPad_52 ?_
          refine pw_if_eq 18 dX8_readPad_53 (by decide) (fun _ => ?_) (fun hh => absurd (by decide) hh)
          refine pw_iload_1 dX8_readPad_18 ?_
          refine pw_if_eq 92 dX8_readPad_19 (by decide) (fun _ => ?_) (fun hh => absurd (by decide) hh)
          refine pw_aload_0 dX8_readPad_92 ?_
          refine pw_getI 8 12 dX8_readPad_93 fX8_195 rfl (by decide) rfl h.t ?_
          refine pw_top w5 ?_
          refine pw_ireturn dX8_readPad_96 rfl ?_
          have e9 : flG P (f + 1) i9 = -6 := fl_end eo j43
          rw [e9, ol_end eo j43] at q9
          exact q9 _ rs5 (fun _ => ⟨k5, mo5, trivial⟩)
        · skip
          have j43 : j9 < P.2 := by rw [nI_leI (by omega) (by omega)] at g43; omega
          refine pw_iconst (v := nI 1) dX8_readPad_46 (by decide) ?_
          refine pw_goto 51 dX8_readPad_47 (by decide) ?_
          refine pw_istore_1 dX8_readPad_51 (by decide) ?_
          refine pw_iload_1 dX8_readPad_52 ?_
          refine pw_if_eq 18 dX8_readPad_53 (by decide) (fun hh => absurd hh (by decide)) (fun _ => ?_)
          refine pw_aload_0 dX8_readPad_56 ?_
          refine pw_aload_0 dX8_readPad_57 ?_
          refine pw_cV0i 8 dX8_readPad_58 kX8_198 vX8_letter iX8_letter ⟨by decide, by decide⟩ ⟨rfl, rfl⟩ (by decide) rfl (Nat.le_of_ble_eq_true rfl) h.t (m_letter h (hq9.rs rs5) a5 (by omega) ?_)
          refine pw_bipush (v := nI 59) dX8_readPad_61 (by decide) ?_
          refine pw_icmp_ne 70 dX8_readPad_63 (by decide) (fun c63 => ?_) (fun c63 => ?_)
          · skip
            refine pw_iconst (v := nI 0) dX8_readPad_70 (by decide) ?_
            refine pw_cV1v 8 dX8_readPad_71 kX8_201 vX8_wants iX8_wants ⟨by decide, by decide⟩ ⟨rfl, rfl⟩ (by decide) rfl (Nat.le_of_ble_eq_true rfl) h.t (m_wantsF h a5 w5 (fun ν6 tw6 a6 w6 => ?_))
            refine pw_aload_0 dX8_readPad_74 ?_
            refine pw_getI 8 12 dX8_readPad_75 fX8_195 rfl (by decide) rfl h.t ?_
            refine pw_top w6 ?_
            refine pw_bipush (v := -6) dX8_readPad_78 (by decide) ?_
            refine pw_icmp_ne 87 dX8_readPad_80 (by decide) (fun _ => ?_) (fun hh => absurd hh (nI_ne6 (by omega)))
            refine pw_iconst (v := nI 0) dX8_readPad_87 (by decide) ?_
            refine pw_istore_1 dX8_readPad_88 (by decide) ?_
            refine pw_goto 18 dX8_readPad_89 (by decide) ?_
            refine pw_iload_1 dX8_readPad_18 ?_
            refine pw_if_eq 92 dX8_readPad_19 (by decide) (fun _ => ?_) (fun hh => absurd (by decide) hh)
            refine pw_aload_0 dX8_readPad_92 ?_
            refine pw_getI 8 12 dX8_readPad_93 fX8_195 rfl (by decide) rfl h.t ?_
            refine pw_top w6 ?_
            refine pw_ireturn dX8_readPad_96 rfl ?_
            have e9 : flG P (f + 1) i9 = nI j9 := fl_bad eo j43 (fun h95 => c63 (ml_i h95))
            rw [e9] at q9
            exact q9 _ (rs5.tw tw6) (fun h95 => absurd h95 (n6_ne (by omega)))
          · skip
            have t63 := ml_y (by omega) c63
            refine pw_iconst (v := nI 1) dX8_readPad_66 (by decide) ?_
            refine pw_goto 71 dX8_readPad_67 (by decide) ?_
            refine pw_cV1v 8 dX8_readPad_71 kX8_201 vX8_wants iX8_wants ⟨by decide, by decide⟩ ⟨rfl, rfl⟩ (by decide) rfl (Nat.le_of_ble_eq_true rfl) h.t (m_wantsT h a5 w5 (by decide) (fun ν7 tw7 a7 w7 => ?_))
            refine pw_aload_0 dX8_readPad_74 ?_
            refine pw_getI 8 12 dX8_readPad_75 fX8_195 rfl (by decide) rfl h.t ?_
            refine pw_top w7 ?_
            refine pw_bipush (v := -6) dX8_readPad_78 (by decide) ?_
            refine pw_icmp_ne 87 dX8_readPad_80 (by decide) (fun hh => absurd rfl hh) (fun _ => ?_)
            refine pw_iconst (v := nI 1) dX8_readPad_83 (by decide) ?_
            refine pw_goto 88 dX8_readPad_84 (by decide) ?_
            refine pw_istore_1 dX8_readPad_88 (by decide) ?_
            refine pw_goto 18 dX8_readPad_89 (by decide) ?_
            have e9 : flG P (f + 1) i9 = flG P f (j9 + 1) := fl_go eo j43 t63
            rw [e9, ol_go eo j43] at q9
            refine ih (j9 + 1) (k9 + 1) _ (hq9.rs (rs5.tw tw7)) (by omega) (by omega) (by omega) ((tw7.2 10 (by decide) (by decide)).trans k5) a7 w7 (fun ν' rs' ok' => q9 ν' ((rs5.tw tw7).tr rs' (by omega)) (fun h95 => ?_))
            obtain ⟨o1, o2⟩ := ok' h95
            refine ⟨o1.trans (by rw [List.length_cons, show k9 + 1 + (olG P f (j9 + 1)).length = k9 + ((olG P f (j9 + 1)).length + 1) by omega]), mo5.cg (fun j hj => ?_), o2⟩
            exact (rs'.2.2 j hj).trans (congrFun (tw7.1 (m + 8) (by omega)) j)
      · skip
        have hbo := orG_b (P := P) (i := i9) h80 hi9
        rw [eo] at hbo
        have hb1 : j9 ≤ 80 := hbo.1
        refine pw_aload_0 dX8_readPad_26 ?_
        refine pw_getI 8 12 dX8_readPad_27 fX8_195 rfl (by decide) rfl h.t ?_
        refine pw_top w5 ?_
        refine pw_bipush (v := -6) dX8_readPad_30 (by decide) ?_
        refine pw_icmp_ne 50 dX8_readPad_32 (by decide) (fun _ => ?_) (fun hh => absurd hh (nI_ne6 (by omega)))
        refine pw_iconst (v := nI 0) dX8_readPad_50 (by decide) ?_
        refine pw_istore_1 dX8_readPad_51 (by decide) ?_
        refine pw_iload_1 dX8_readPad_52 ?_
        refine pw_if_eq 18 dX8_readPad_53 (by decide) (fun _ => ?_) (fun hh => absurd (by decide) hh)
        refine pw_iload_1 dX8_readPad_18 ?_
        refine pw_if_eq 92 dX8_readPad_19 (by decide) (fun _ => ?_) (fun hh => absurd (by decide) hh)
        refine pw_aload_0 dX8_readPad_92 ?_
        refine pw_getI 8 12 dX8_readPad_93 fX8_195 rfl (by decide) rfl h.t ?_
        refine pw_top w5 ?_
        refine pw_ireturn dX8_readPad_96 rfl ?_
        have e9 : flG P (f + 1) i9 = nI j9 := fl_no eo
        rw [e9] at q9
        exact q9 _ rs5 (fun h95 => absurd h95 (n6_ne (by omega)))
  exact loop 80 0 0 _ (hq.rs rl3) (by omega) (by omega) (by omega) mh3c10 mh3c11 mh3c12 (fun ν' rs' ok' => q ν' (rl3.tr rs' (by omega)) (fun h95 => by have g := ok' h95; rw [Nat.zero_add] at g; exact g))
theorem MX.rs {μ ν : Mm} {m k : Nat} {A : Aw} (h : MX μ m A) (g : RS m k μ ν) : MX ν m A ∧ FMm μ m ν := ⟨h.at (fun a a1 a2 a3 a4 a5 a6 => g.1 a a6 a5) (g.2.1 2 (by decide) (by decide) (by decide)) (g.2.1 7 (by decide) (by decide) (by decide)), fun a ha => g.1 a (by omega) (by omega)⟩
set_option maxRecDepth 100000 in
set_option maxHeartbeats 4000000 in
theorem ms_fault {X : Cx} {σ : Sp} {μ : Mm} {Q : Int32 → Sp → Mm → Prop} {m : Nat} {A : Aw} (h : ShM σ m) (hx : MX μ m A) (q : ∀ μ', FMm μ m μ' → MX μ' m A → Q (flG (aP A) 80 0) σ μ') : CTi X mX8_fault [.ref m] σ μ Q := by
  refine CT.of (by decide +kernel) (Nat.le_of_ble_eq_true rfl) ?_
  show PW X mX8_fault 0 0 0 [some (.ref m)] [] σ μ (LI Q)
  refine pw_aload_0 dX8_fault_0 ?_
  refine pw_cV0i 8 dX8_fault_1 kX8_223 vX8_readPad iX8_readPad ⟨by decide, by decide⟩ ⟨rfl, rfl⟩ (by decide) rfl (Nat.le_of_ble_eq_true rfl) h.t (m_readPad h hx.2.2.2 (fun ν9 rs9 ok9 => ?_))
  refine pw_ireturn dX8_fault_4 rfl ?_
  exact q _ (hx.rs rs9).2 (hx.rs rs9).1
