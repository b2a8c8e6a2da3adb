/-! Texts: put of the model -/
set_option maxRecDepth 100000 in
set_option maxHeartbeats 4000000 in
theorem m_put {X : Cx} {σ : Sp} {μ : Mm} {Q : Int32 → Sp → Mm → Prop} {m : Nat} {P : Pd} {x : Int64} (h : ShM σ m) (hq : QX μ m P) (q0 : ptn x = 0 → Q (-2) σ μ) (q1 : ptn x ≠ 0 → 80 < P.2 + ptn x → Q (-4) σ μ) (q2 : ptn x ≠ 0 → ¬ 80 < P.2 + ptn x → ∀ ν, (∀ a, a ≠ m → a ≠ m + 6 → ν a = μ a) → (∀ j, j ≠ 7 → ν m j = μ m j) → QX ν m (ptP P x) → Q (nI (P.2 + ptn x)) σ ν) : CTi X mX8_put [.ref m, .long x] σ μ Q := by
  refine CT.of (by decide +kernel) (Nat.le_of_ble_eq_true rfl) ?_
  show PW X mX8_put 0 0 0 [some (.ref m), some (.long x), none, none, none, none, none, none] [] σ μ (LI Q)
  have h80 := hq.2.1
  have hn8 := ptn_le x
  refine pw_iconst (v := nI 0) dX8_put_0 (by decide) ?_
  refine pw_istore_3 dX8_put_1 (by decide) ?_
  refine pw_lload_1 dX8_put_2 ?_
  refine pw_lstore_4 dX8_put_3 (by decide) ?_
  refine pw_iconst (v := nI 1) dX8_put_5 (by decide) ?_
  refine pw_istore_6 dX8_put_6 (by decide) ?_
  have ex0 : ∀ n r9 c9, 0 < n → n ≤ 8 → ptn x = 0 → PW X mX8_put 0 0 49 [some (.ref m), some (.long x), none, some (.int (nI n)), some (.long r9), none, some (.int (nI 0)), c9] [] σ μ (LI Q) := by
    intro n r9 c9 hn0 hn8 e0
    refine pw_iload_3 dX8_put_49 ?_
    refine pw_if_eq 58 dX8_put_50 (by decide) (fun hh => absurd hh (fun e => absurd ((nI_eq (by omega) (by omega)).mp (show nI n = nI 0 from e)) (by omega))) (fun _ => ?_)
    refine pw_iload_6 dX8_put_53 ?_
    refine pw_if_ne 61 dX8_put_55 (by decide) (fun hh => absurd hh (by decide)) (fun _ => ?_)
    refine pw_bipush (v := -2) dX8_put_58 (by decide) ?_
    refine pw_ireturn dX8_put_60 rfl ?_
    exact q0 e0
  have ex1 : ∀ r9 c9, PW X mX8_put 0 0 49 [some (.ref m), some (.long x), none, some (.int (nI (ptn x))), some (.long r9), none, some (.int (nI 1)), c9] [] σ μ (LI Q) := by
    intro r9 c9
    refine pw_iload_3 dX8_put_49 ?_
    refine pw_if_eq 58 dX8_put_50 (by decide) (fun h1 => ?_) (fun h1 => ?_)
    · skip
      refine pw_bipush (v := -2) dX8_put_58 (by decide) ?_
      refine pw_ireturn dX8_put_60 rfl ?_
      exact q0 ((nI_eq (by omega) (by omega)).mp (show nI (ptn x) = nI 0 from h1))
    · skip
      refine pw_iload_6 dX8_put_53 ?_
      refine pw_if_ne 61 dX8_put_55 (by decide) (fun _ => ?_) (fun hh => absurd hh (by decide))
      refine pw_aload_0 dX8_put_61 ?_
      refine pw_getI 8 7 dX8_put_62 fX8_183 rfl (by decide) rfl h.t ?_
      refine pw_top hq.1 ?_
      refine pw_iload_3 dX8_put_65 ?_
      refine pw_iaddN dX8_put_66 ?_
      refine pw_bipush (v := nI 80) dX8_put_67 (by decide) ?_
      refine pw_icmp_le 75 dX8_put_69 (by decide) (fun h2 => ?_) (fun h2 => ?_)
      · skip
        refine pw_iload_3 dX8_put_75 ?_
        refine pw_iconst (v := nI 1) dX8_put_76 (by decide) ?_
        refine pw_isub dX8_put_77 ?_
        refine pw_istore_7 dX8_put_78 (by decide) ?_
        have hn0 : ptn x ≠ 0 := fun e => h1 (by rw [e]; rfl)
        have hle : ¬ 80 < P.2 + ptn x := by rw [nI_leI (by omega) (by omega)] at h2; omega
        have loop : ∀ r ν, r ≤ ptn x → (∀ a, a ≠ m → a ≠ m + 6 → ν a = μ a) → (∀ j, j ≠ 7 → ν m j = μ m j) → ν m 7 = nI (P.2 + (ptn x - r)) → (∀ j, j < P.2 → ν (m + 6) j = P.1 j) → (∀ k, k < ptn x - r → ν (m + 6) (P.2 + k) = (ptP P x).1 (P.2 + k)) → PW X mX8_put 0 0 80 [some (.ref m), some (.long x), none, some (.int (nI (ptn x))), some (.long r9), none, some (.int (nI 1)), some (.int (nI r - nI 1))] [] σ ν (LI Q) := by
          intro r
          induction r with
          | zero =>
            intro ν hr fz fm len9 lo hi
            refine pw_iload_7 dX8_put_80 ?_
            refine pw_if_lt 123 dX8_put_82 (by decide) (fun _ => ?_) (fun hh => absurd (by decide) hh)
            refine pw_aload_0 dX8_put_123 ?_
            refine pw_getI 8 7 dX8_put_124 fX8_183 rfl (by decide) rfl h.t ?_
            refine pw_top len9 ?_
            refine pw_ireturn dX8_put_127 rfl ?_
            rw [Nat.sub_zero] at len9 hi ⊢
            refine q2 hn0 hle _ fz fm ⟨len9, by show P.2 + ptn x ≤ 80; omega, fun j hj => ?_⟩
            rcases Nat.lt_or_ge j P.2 with g | g
            · rw [pt_lo g]
              exact lo j g
            · have e : j = P.2 + (j - P.2) := by omega
              have hj2 : j < P.2 + ptn x := hj
              rw [e]
              exact hi (j - P.2) (by omega)
          | succ r ih =>
            intro ν hr fz fm len9 lo hi
            rw [show nI (r + 1) - nI 1 = nI r from m1_n]
            refine pw_iload_7 dX8_put_80 ?_
            refine pw_if_lt 123 dX8_put_82 (by decide) (fun hh => absurd hh (nI_pos (by omega))) (fun _ => ?_)
            refine pw_aload_0 dX8_put_85 ?_
            refine pw_getr 8 6 dX8_put_86 fX8_26 rfl (by decide) rfl h.t h.r6 ?_
            refine pw_aload_0 dX8_put_89 ?_
            refine pw_getI 8 7 dX8_put_90 fX8_183 rfl (by decide) rfl h.t ?_
            refine pw_top len9 ?_
            refine pw_lload_1 dX8_put_93 ?_
            refine pw_bipush (v := nI 8) dX8_put_94 (by decide) ?_
            refine pw_iload_7 dX8_put_96 ?_
            refine pw_imulN dX8_put_98 ?_
            refine pw_lushr dX8_put_99 ?_
            refine pw_topL (show _ = shr x (8 * r) from rfl) ?_
            refine pw_ldc2 dX8_put_100 qX8_232 ?_
            refine pw_land dX8_put_103 ?_
            refine pw_topL land255 ?_
            refine pw_l2i dX8_put_104 ?_
            refine pw_top (nL_i _ (by omega)) ?_
            refine pw_i2c dX8_put_105 ?_
            refine pw_top (nI_c _ (by omega)) ?_
            refine pw_castN dX8_put_106 h.a6 (by omega) (by decide) ?_
            refine pw_aload_0 dX8_put_107 ?_
            refine pw_dup dX8_put_108 ?_
            refine pw_getI 8 7 dX8_put_109 fX8_183 rfl (by decide) rfl h.t ?_
            refine pw_top (rdO len9 (by omega)) ?_
            refine pw_iconst (v := nI 1) dX8_put_112 (by decide) ?_
            refine pw_iaddN dX8_put_113 ?_
            refine pw_putI 8 7 dX8_put_114 fX8_183 rfl (by decide) rfl (Or.inl rfl) rfl (by decide) h.t ?_
            refine pw_iinc_7 (y := -1) dX8_put_117 (by decide) (by decide) ?_
            refine pw_goto 80 dX8_put_120 (by decide) ?_
            rw [nI_m1, nI_nar _ (by omega)]
            refine ih _ (by omega) (fun a a1 a2 => (wr_n _ _ _ a1).trans ((wr_n _ _ _ a2).trans (fz a a1 a2))) (fun j hj => ?_) (rdS.trans (congrArg nI (by omega))) (fun j hj => ?_) (fun k hk => ?_)
            · rw [wr_s, upd_n _ _ hj, wr_n _ _ _ (by omega)]
              exact fm j hj
            · rw [wr_n _ _ _ (by omega), wr_s, upd_n _ _ (by omega)]
              exact lo j hj
            · rw [wr_n _ _ _ (by omega), wr_s]
              rcases Classical.em (k = ptn x - (r + 1)) with c | c
              · rw [c, upd_s, pt_hi, u64_shr (by omega), Nat.pow_mul, show ptn x - 1 - (ptn x - (r + 1)) = r by omega]
              · rw [upd_n _ _ (by omega)]
                exact hi k (by omega)
        exact loop (ptn x) _ (Nat.le_refl _) (fun _ _ _ => rfl) (fun _ _ => rfl) (by rw [Nat.sub_self]; exact hq.1) hq.2.2 (fun k hk => absurd hk (by omega))
      · skip
        refine pw_bipush (v := -4) dX8_put_72 (by decide) ?_
        refine pw_ireturn dX8_put_74 rfl ?_
        exact q1 (fun e => h1 (by rw [e]; rfl)) (by have h95 := h2; rw [nI_leI (by omega) (by omega)] at h95; omega)
  have loop : ∀ f j r c9, u64 r < 256 ^ f → j + f = 8 → (∀ t, cnG f (u64 r) = some t → ptn x = j + t) → (cnG f (u64 r) = none → ptn x = 0) → PW X mX8_put 0 0 8 [some (.ref m), some (.long x), none, some (.int (nI j)), some (.long r), none, some (.int (nI 1)), c9] [] σ μ (LI Q) := by
    intro f
    induction f with
    | zero =>
      intro j r c9 hu hj qy qn
      refine pw_lload_4 dX8_put_8 ?_
      refine pw_lconst (v := 0) dX8_put_10 (by decide) ?_
      refine pw_lcmp dX8_put_11 ?_
      refine pw_if_eq 49 dX8_put_12 (by decide) (fun h3 => ?_) (fun h3 => ?_)
      · skip
        have e9 : ptn x = j + 0 := qy 0 (cn_0 (u64_0.mp h3))
        have e8 : ptn x = j := e9
        subst e8
        exact ex1 _ _
      · skip
        exact absurd (u64_0.mpr (by rw [Nat.pow_zero] at hu; omega)) h3
    | succ f ih =>
      intro j r c9 hu hj qy qn
      refine pw_lload_4 dX8_put_8 ?_
      refine pw_lconst (v := 0) dX8_put_10 (by decide) ?_
      refine pw_lcmp dX8_put_11 ?_
      refine pw_if_eq 49 dX8_put_12 (by decide) (fun h4 => ?_) (fun h4 => ?_)
      · skip
        have e9 : ptn x = j + 0 := qy 0 (cn_0 (u64_0.mp h4))
        have e8 : ptn x = j := e9
        subst e8
        exact ex1 _ _
      · skip
        refine pw_iload_6 dX8_put_15 ?_
        refine pw_if_eq 49 dX8_put_17 (by decide) (fun hh => absurd hh (by decide)) (fun _ => ?_)
        refine pw_lload_4 dX8_put_20 ?_
        refine pw_ldc2 dX8_put_22 qX8_232 ?_
        refine pw_land dX8_put_25 ?_
        refine pw_topL land255 ?_
        refine pw_l2i dX8_put_26 ?_
        refine pw_top (nL_i _ (by omega)) ?_
        refine pw_bipush (v := nI 33) dX8_put_27 (by decide) ?_
        refine pw_bipush (v := nI 126) dX8_put_29 (by decide) ?_
        refine pw_cS3i dX8_put_31 kX8_36 vX8_in sX8_in ⟨by decide, by decide⟩ ⟨rfl, rfl⟩ (Nat.le_of_ble_eq_true rfl) (c_X8_in (fun p9 r9 => ?_) (fun p9 => ?_))
        · skip
          refine pw_istore_6 dX8_put_34 (by decide) ?_
          refine pw_lload_4 dX8_put_36 ?_
          refine pw_bipush (v := nI 8) dX8_put_38 (by decide) ?_
          refine pw_lushr dX8_put_40 ?_
          refine pw_topL (show _ = shr r 8 from rfl) ?_
          refine pw_lstore_4 dX8_put_41 (by decide) ?_
          refine pw_iincN_3 dX8_put_43 (by decide) ?_
          refine pw_goto 8 dX8_put_46 (by decide) ?_
          have gd9 : gdC (u64 r % 256) := ⟨by have h95 := p9; rw [nI_ltI (by omega) (by omega)] at h95; omega, by have h95 := r9; rw [nI_ltI (by omega) (by omega)] at h95; omega⟩
          have e9 := cn_go (f := f) (fun h95 => h4 (u64_0.mpr h95)) gd9
          have e8 : u64 (shr r 8) = u64 r / 256 := u64_shr (by omega)
          rw [← e8] at e9
          refine ih (j + 1) (shr r 8) _ (by rw [e8]; rw [Nat.pow_succ] at hu; omega) (by omega) (fun t ht => ?_) (fun hn => qn (by rw [e9, hn]; rfl))
          rw [show j + 1 + t = j + (t + 1) by omega]
          exact qy (t + 1) (by rw [e9, ht]; rfl)
        · skip
          refine pw_istore_6 dX8_put_34 (by decide) ?_
          refine pw_lload_4 dX8_put_36 ?_
          refine pw_bipush (v := nI 8) dX8_put_38 (by decide) ?_
          refine pw_lushr dX8_put_40 ?_
          refine pw_topL (show _ = shr r 8 from rfl) ?_
          refine pw_lstore_4 dX8_put_41 (by decide) ?_
          refine pw_iincN_3 dX8_put_43 (by decide) ?_
          refine pw_goto 8 dX8_put_46 (by decide) ?_
          refine pw_lload_4 dX8_put_8 ?_
          refine pw_lconst (v := 0) dX8_put_10 (by decide) ?_
          refine pw_lcmp dX8_put_11 ?_
          refine pw_if_eq 49 dX8_put_12 (by decide) (fun h5 => ?_) (fun h5 => ?_)
          · skip
            exact ex0 _ _ _ (by omega) (by omega) (qn (cn_no (fun h95 => h4 (u64_0.mpr h95)) (fun g => p9.elim (fun h95 => by rw [nI_ltI (by omega) (by omega)] at h95; have h96 : 33 ≤ u64 r % 256 := g.1; omega) (fun h95 => by rw [nI_ltI (by omega) (by omega)] at h95; have h96 : u64 r % 256 ≤ 126 := g.2; omega))))
          · skip
            refine pw_iload_6 dX8_put_15 ?_
            refine pw_if_eq 49 dX8_put_17 (by decide) (fun _ => ?_) (fun hh => absurd (by decide) hh)
            exact ex0 _ _ _ (by omega) (by omega) (qn (cn_no (fun h95 => h4 (u64_0.mpr h95)) (fun g => p9.elim (fun h95 => by rw [nI_ltI (by omega) (by omega)] at h95; have h96 : 33 ≤ u64 r % 256 := g.1; omega) (fun h95 => by rw [nI_ltI (by omega) (by omega)] at h95; have h96 : u64 r % 256 ≤ 126 := g.2; omega))))
  exact loop 8 0 x _ (u64_lt x) rfl (fun t ht => by unfold ptn; rw [ht, Nat.zero_add]; rfl) (fun hn => by unfold ptn; rw [hn]; rfl)
theorem ms_put {X : Cx} {σ : Sp} {μ : Mm} {Q : Int32 → Sp → Mm → Prop} {m : Nat} {A : Aw} {x : Int64} (h : ShM σ m) (hx : MX μ m A) (q : ∀ μ', FMm μ m μ' → MX μ' m (ptA A x) → Q (ptR A x) σ μ') : CTi X mX8_put [.ref m, .long x] σ μ Q := by
  refine m_put h hx.2.2.2 (fun h9 => ?_) (fun h9 h8 => ?_) (fun h9 h8 ν9 fz9 fm9 qx9 => ?_)
  · have e1 : ptR A x = -2 := if_pos h9
    have e2 : ptA A x = A := if_pos (Or.inl h9)
    rw [e1, e2] at q
    exact q _ (fun _ _ => rfl) hx
  · have e1 : ptR A x = -4 := (if_neg h9).trans (if_pos h8)
    have e2 : ptA A x = A := if_pos (Or.inr h8)
    rw [e1, e2] at q
    exact q _ (fun _ _ => rfl) hx
  · have e1 : ptR A x = nI ((aP A).2 + ptn x) := (if_neg h9).trans (if_neg h8)
    have e2 : ptA A x = (aB A, aH A, aS A, ptP (aP A) x) := if_neg (fun h95 => h95.elim h9 h8)
    rw [e1, e2] at q
    exact q _ (fun a ha => fz9 a (by omega) (by omega)) (hx.pd (fun a a1 a2 a3 a4 a5 a6 a7 => fz9 a a7 a4) (fm9 2 (by decide)) qx9)
