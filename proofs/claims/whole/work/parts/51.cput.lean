/-! Texts: put -/
theorem pt_lo {P : Pd} {x : Int64} {j : Nat} (h : j < P.2) : (ptP P x).1 j = P.1 j := if_pos h
theorem pt_hi {P : Pd} {x : Int64} {k : Nat} : (ptP P x).1 (P.2 + k) = nI (u64 x / 256 ^ (ptn x - 1 - k) % 256) := by
  unfold ptP
  show (if P.2 + k < P.2 then _ else _) = _
  rw [if_neg (by omega), show P.2 + k - P.2 = k by omega]
set_option maxRecDepth 100000 in
set_option maxHeartbeats 4000000 in
theorem k_append {X : Cx} {σ : Sp} {μ : Mm} {Q : Int32 → Sp → Mm → Prop} {p : Nat} {P : Pd} {x : Int64} (hp : ShPad σ p) (hd : PD μ p P) (q0 : ptn x = 0 → Q (-2) σ μ) (q1 : ptn x ≠ 0 → 80 < P.2 + ptn x → Q (-4) σ μ) (q2 : ptn x ≠ 0 → ¬ 80 < P.2 + ptn x → ∀ ν, (∀ a, a ≠ p → a ≠ p + 1 → ν a = μ a) → PD ν p (ptP P x) → Q (nI (P.2 + ptn x)) σ ν) : CTi X mX3_append [.ref p, .long x] σ μ Q := by
  refine CT.of (by decide +kernel) (Nat.le_of_ble_eq_true rfl) ?_
  show PW X mX3_append 0 0 0 [some (.ref p), some (.long x), none, none, none, none, none] [] σ μ (LI Q)
  have h80 := hd.2.1
  have hn8 := ptn_le x
  refine pw_lload_1 dX3_append_0 ?_
  refine pw_cS1i dX3_append_1 kX3_15 vX3_charactersIn sX3_charactersIn ⟨by decide, by decide⟩ ⟨rfl, rfl⟩ (Nat.le_of_ble_eq_true rfl) (k_chars ?_)
  refine pw_istore_3 dX3_append_4 (by decide) ?_
  refine pw_iload_3 dX3_append_5 ?_
  refine pw_if_ne 12 dX3_append_6 (by decide) (fun h1 => ?_) (fun h1 => ?_)
  · skip
    refine pw_aload_0 dX3_append_12 ?_
    refine pw_getI 3 1 dX3_append_13 fX3_19 rfl (by decide) rfl hp.t ?_
    refine pw_top hd.1 ?_
    refine pw_iload_3 dX3_append_16 ?_
    refine pw_iaddN dX3_append_17 ?_
    refine pw_bipush (v := nI 80) dX3_append_18 (by decide) ?_
    refine pw_icmp_le 26 dX3_append_20 (by decide) (fun h2 => ?_) (fun h2 => ?_)
    · skip
      refine pw_lload_1 dX3_append_26 ?_
      refine pw_lstore_4 dX3_append_27 (by decide) ?_
      refine pw_aload_0 dX3_append_29 ?_
      refine pw_getI 3 1 dX3_append_30 fX3_19 rfl (by decide) rfl hp.t ?_
      refine pw_top hd.1 ?_
      refine pw_iload_3 dX3_append_33 ?_
      refine pw_iaddN dX3_append_34 ?_
      refine pw_iconst (v := nI 1) dX3_append_35 (by decide) ?_
      refine pw_isub dX3_append_36 ?_
      refine pw_istore_6 dX3_append_37 (by decide) ?_
      have hn0 : ptn x ≠ 0 := fun e => h1 (by rw [e]; rfl)
      have hle : ¬ 80 < P.2 + ptn x := by rw [nI_leI (by omega) (by omega)] at h2; omega
      have loop : ∀ r ν y, r ≤ ptn x → u64 y = u64 x / 256 ^ (ptn x - r) → (∀ a, a ≠ p + 1 → ν a = μ a) → (∀ j, j < P.2 → ν (p + 1) j = P.1 j) → (∀ k, r ≤ k → k < ptn x → ν (p + 1) (P.2 + k) = (ptP P x).1 (P.2 + k)) → PW X mX3_append 0 0 39 [some (.ref p), some (.long x), none, some (.int (nI (ptn x))), some (.long y), none, some (.int (nI (P.2 + r) - nI 1))] [] σ ν (LI Q) := by
        intro r
        induction r with
        | zero =>
          intro ν y hr hy fz lo hi
          have len9 : ν p 1 = nI P.2 := (congrFun (fz p (by omega)) 1).trans hd.1
          rw [Nat.add_zero]
          refine pw_iload_6 dX3_append_39 ?_
          refine pw_aload_0 dX3_append_41 ?_
          refine pw_getI 3 1 dX3_append_42 fX3_19 rfl (by decide) rfl hp.t ?_
          refine pw_top len9 ?_
          refine pw_icmp_lt 76 dX3_append_45 (by decide) (fun _ => ?_) (fun hh => absurd (m1_lt hd.2.1) hh)
          refine pw_aload_0 dX3_append_76 ?_
          refine pw_dup dX3_append_77 ?_
          refine pw_getI 3 1 dX3_append_78 fX3_19 rfl (by decide) rfl hp.t ?_
          refine pw_top len9 ?_
          refine pw_iload_3 dX3_append_81 ?_
          refine pw_iaddN dX3_append_82 ?_
          refine pw_putI 3 1 dX3_append_83 fX3_19 rfl (by decide) rfl (Or.inl rfl) rfl (by decide) hp.t ?_
          refine pw_aload_0 dX3_append_86 ?_
          refine pw_getI 3 1 dX3_append_87 fX3_19 rfl (by decide) rfl hp.t ?_
          refine pw_top rdS ?_
          refine pw_ireturn dX3_append_90 rfl ?_
          refine q2 hn0 hle _ (fun a a1 a2 => (wr_n _ _ _ a1).trans (fz a a2)) ⟨rdS, by show P.2 + ptn x ≤ 80; omega, fun j hj => ?_⟩
          rw [wr_n _ _ _ (by omega)]
          rcases Nat.lt_or_ge j P.2 with g | g
          · rw [pt_lo g]
            exact lo j g
          · have e : j = P.2 + (j - P.2) := by omega
            have hj2 : j < P.2 + ptn x := hj
            rw [e]
            exact hi (j - P.2) (Nat.zero_le _) (by omega)
        | succ r ih =>
          intro ν y hr hy fz lo hi
          have len9 : ν p 1 = nI P.2 := (congrFun (fz p (by omega)) 1).trans hd.1
          rw [show nI (P.2 + (r + 1)) - nI 1 = nI (P.2 + r) from m1_n]
          refine pw_iload_6 dX3_append_39 ?_
          refine pw_aload_0 dX3_append_41 ?_
          refine pw_getI 3 1 dX3_append_42 fX3_19 rfl (by decide) rfl hp.t ?_
          refine pw_top len9 ?_
          refine pw_icmp_lt 76 dX3_append_45 (by decide) (fun hh => absurd hh (by rw [nI_ltI (by omega) (by omega)]; omega)) (fun _ => ?_)
          refine pw_aload_0 dX3_append_48 ?_
          refine pw_getr 3 0 dX3_append_49 fX3_9 rfl (by decide) rfl hp.t hp.r0 ?_
          refine pw_iload_6 dX3_append_52 ?_
          refine pw_lload_4 dX3_append_54 ?_
          refine pw_ldc2 dX3_append_56 qX3_23 ?_
          refine pw_land dX3_append_59 ?_
          refine pw_topL land255 ?_
          refine pw_l2i dX3_append_60 ?_
          refine pw_top (nL_i _ (by omega)) ?_
          refine pw_i2c dX3_append_61 ?_
          refine pw_top (nI_c _ (by omega)) ?_
          refine pw_castN dX3_append_62 hp.a (by omega) (by decide) ?_
          refine pw_lload_4 dX3_append_63 ?_
          refine pw_bipush (v := nI 8) dX3_append_65 (by decide) ?_
          refine pw_lushr dX3_append_67 ?_
          refine pw_topL (show _ = shr y 8 from rfl) ?_
          refine pw_lstore_4 dX3_append_68 (by decide) ?_
          refine pw_iinc_6 (y := -1) dX3_append_70 (by decide) (by decide) ?_
          refine pw_goto 39 dX3_append_73 (by decide) ?_
          rw [nI_m1, nI_nar _ (by omega)]
          refine ih _ (shr y 8) (by omega) ?_ (fun a ha => (wr_n _ _ _ ha).trans (fz a ha)) (fun j hj => ?_) (fun k hk1 hk2 => ?_)
          · rw [u64_shr (by omega), hy, show (2 : Nat) ^ 8 = 256 from rfl, Nat.div_div_eq_div_mul, ← Nat.pow_succ, show (ptn x - (r + 1)).succ = ptn x - r by omega]
          · rw [wr_s, upd_n _ _ (by omega)]
            exact lo j hj
          · rw [wr_s]
            rcases Classical.em (k = r) with c | c
            · rw [c, upd_s, pt_hi, hy, show ptn x - 1 - r = ptn x - (r + 1) by omega]
            · rw [upd_n _ _ (by omega)]
              exact hi k (by omega) hk2
      exact loop (ptn x) _ x (Nat.le_refl _) (by rw [Nat.sub_self, Nat.pow_zero, Nat.div_one]) (fun _ _ => rfl) hd.2.2 (fun k hk1 hk2 => absurd hk2 (by omega))
    · skip
      refine pw_bipush (v := -4) dX3_append_23 (by decide) ?_
      refine pw_ireturn dX3_append_25 rfl ?_
      exact q1 (fun e => h1 (by rw [e]; rfl)) (by have h95 := h2; rw [nI_leI (by omega) (by omega)] at h95; omega)
  · skip
    refine pw_bipush (v := -2) dX3_append_9 (by decide) ?_
    refine pw_ireturn dX3_append_11 rfl ?_
    exact q0 ((nI_eq (by omega) (by omega)).mp (show nI (ptn x) = nI 0 from h1))
set_option maxRecDepth 100000 in
set_option maxHeartbeats 4000000 in
theorem kf_put {X : Cx} {σ : Sp} {μ : Mm} {Q : Int32 → Sp → Mm → Prop} {o y : Nat} {A : Aw} {x : Int64} (hc : CX σ μ o y A) (q : ∀ μ', CX σ μ' o y (ptA A x) → FX μ o μ' → Q (ptR A x) σ μ') : CTi X mX7_put [.ref o, .long x] σ μ Q := by
  refine CT.of (by decide +kernel) (Nat.le_of_ble_eq_true rfl) ?_
  show PW X mX7_put 0 0 0 [some (.ref o), some (.long x), none] [] σ μ (LI Q)
  refine pw_aload_0 dX7_put_0 ?_
  refine pw_getr 7 4 dX7_put_1 fX7_33 rfl (by decide) rfl hc.1.t hc.1.r4 ?_
  refine pw_lload_1 dX7_put_4 ?_
  refine pw_cV1i 3 dX7_put_5 kX7_202 vX3_append iX3_append ⟨by decide, by decide⟩ ⟨rfl, rfl⟩ (by decide) rfl (Nat.le_of_ble_eq_true rfl) hc.1.pad.t (k_append (p := o + 562) (P := aP A) hc.1.pad hc.2.2.2.2.2 (fun h9 => ?_) (fun h9 h8 => ?_) (fun h9 h8 ν9 fz9 pd9 => ?_))
  · skip
    refine pw_ireturn dX7_put_8 rfl ?_
    have e1 : ptR A x = -2 := if_pos h9
    have e2 : ptA A x = A := if_pos (Or.inl h9)
    rw [e1, e2] at q
    exact q _ hc (fun _ _ _ => rfl)
  · skip
    refine pw_ireturn dX7_put_8 rfl ?_
    have e1 : ptR A x = -4 := (if_neg h9).trans (if_pos h8)
    have e2 : ptA A x = A := if_pos (Or.inr h8)
    rw [e1, e2] at q
    exact q _ hc (fun _ _ _ => rfl)
  · skip
    refine pw_ireturn dX7_put_8 rfl ?_
    have e1 : ptR A x = nI ((aP A).2 + ptn x) := (if_neg h9).trans (if_neg h8)
    have e2 : ptA A x = (aB A, aH A, aS A, ptP (aP A) x) := if_neg (fun h95 => h95.elim h9 h8)
    rw [e1, e2] at q
    have k9 := hc.pd fz9 pd9
    exact q _ k9.1 k9.2
