/-! The law: its loop, its body -/
theorem pw_cS7k {X : Cx} {M M' : Mt} {b1 b2 pc i b1' b2' : Nat} {ls : List (Option Value)} {σ : Sp} {μ : Mm} {Q : Option Value → Sp → Mm → Prop} {a1 a2 a3 a4 a5 a6 a7 : Value} {rest : List Value} (d : decode (mB M) pc = .ok (.invokestatic i, 3)) (hl : Cond.methodLink (mY M).cls i (mY M') ∈ pw_Tb) (hv : MV M' 7) (hi : Cond.static (mY M') ∈ pw_Tb) (hR : MR M M') (hb1 : b1' + mCe M' ≤ b1) (hb2 : b2' + mSl M' ≤ b2) (hrest : (rest.map fun v => v.category).sum ≤ 8) (h : CTi X M' [a1, a2, a3, a4, a5, a6, a7] σ μ (fun x σ' μ' => PW X M b1' b2' (pc + 3) ls (.int x :: rest) σ' μ' Q)) : PW X M b1 b2 pc ls (a7 :: a6 :: a5 :: a4 :: a3 :: a2 :: a1 :: rest) σ μ Q :=
  pw_callS (As := [a1, a2, a3, a4, a5, a6, a7]) (b1' := b1') (b2' := b2') d hl hv hi hR rfl hrest hb1 hb2 h (fun r σ' μ' ⟨x, hr, hq⟩ => by subst hr; exact hq)
theorem pw_cS8k {X : Cx} {M M' : Mt} {b1 b2 pc i b1' b2' : Nat} {ls : List (Option Value)} {σ : Sp} {μ : Mm} {Q : Option Value → Sp → Mm → Prop} {a1 a2 a3 a4 a5 a6 a7 a8 : Value} {rest : List Value} (d : decode (mB M) pc = .ok (.invokestatic i, 3)) (hl : Cond.methodLink (mY M).cls i (mY M') ∈ pw_Tb) (hv : MV M' 8) (hi : Cond.static (mY M') ∈ pw_Tb) (hR : MR M M') (hb1 : b1' + mCe M' ≤ b1) (hb2 : b2' + mSl M' ≤ b2) (hrest : (rest.map fun v => v.category).sum ≤ 8) (h : CTi X M' [a1, a2, a3, a4, a5, a6, a7, a8] σ μ (fun x σ' μ' => PW X M b1' b2' (pc + 3) ls (.int x :: rest) σ' μ' Q)) : PW X M b1 b2 pc ls (a8 :: a7 :: a6 :: a5 :: a4 :: a3 :: a2 :: a1 :: rest) σ μ Q :=
  pw_callS (As := [a1, a2, a3, a4, a5, a6, a7, a8]) (b1' := b1') (b2' := b2') d hl hv hi hR rfl hrest hb1 hb2 h (fun r σ' μ' ⟨x, hr, hq⟩ => by subst hr; exact hq)
def QL9 : Int32 → Sp → Mm → Prop := fun x _ _ => x = nI 1
set_option maxRecDepth 100000 in
set_option maxHeartbeats 4000000 in
theorem law_loop {X : Cx} {o p : Nat} (hL : (cxS X).2.1 ≤ 260) (hop : p = o + 565) : ∀ r e σ μ x9 A n, e + r = 60 → CX σ μ o x9 A → (∀ k, aS A k = none) → WA A → ShL σ p → LU True μ p (aB A) μ → GDn n (aB A) → WT (60 * e) (aB A) → (2 ≤ n ∨ e ≤ n) → p + 6 ≤ cxB X + nn σ → PW X mL_law (7 * r) (201 * r) 71 [some (.ref (cxS X).1), some (.ref o), some (.ref p), some (.ref (p + 1)), some (.ref (p + 2)), some (.ref (p + 3)), some (.ref (p + 4)), some (.ref (p + 5)), some (.int (nI e)), none, none, none, none, none, none, none, none] [] σ μ (LI QL9) := by
  intro r
  induction r with
  | zero =>
    intro e σ μ x9 A n he hc hno wa hs hl gd ht hn0 hN
    obtain rfl : e = 60 := by omega
    refine pw_iload_8 dL_law_71 ?_
    refine pw_bipush (v := nI 60) dL_law_73 (by decide) ?_
    refine pw_icmp_ge 1009 dL_law_75 (by decide) (fun _ => ?_) (fun hh => absurd (by decide) hh)
    refine pw_iconst (v := nI 1) dL_law_1009 (by decide) ?_
    refine pw_zreturn dL_law_1010 rfl (by decide) ?_
    exact rfl
  | succ r ih =>
    intro e σ μ x9 A n he hc hno wa hs hl gd ht hn0 hN
    refine pw_iload_8 dL_law_71 ?_
    refine pw_bipush (v := nI 60) dL_law_73 (by decide) ?_
    refine pw_icmp_ge 1009 dL_law_75 (by decide) (fun hh => absurd hh (by rw [nI_leI (by omega) (by omega)]; omega)) (fun _ => ?_)
    refine pw_aload_0 dL_law_78 ?_
    refine pw_iload_8 dL_law_79 ?_
    refine pw_cS2i dL_law_81 kL_83 vL_cell sL_cell ⟨by decide, by decide⟩ ⟨rfl, rfl⟩ (Nat.le_of_ble_eq_true rfl) (c_cell hL (by omega) (fun hx0 => ?_))
    refine pw_istore_9 dL_law_84 (by decide) ?_
    refine law_wh hc hno wa hs hl gd ht hop (by omega) (fun μ1 x1 A1 n1 hc1 hno1 wa1 hl1 gd1 ht1 hn1 => ?_) hn0
    refine pw_iload_11 dL_law_943 ?_
    refine pw_if_eq 1001 dL_law_945 (by decide) (fun hh => absurd hh (by decide)) (fun _ => ?_)
    refine pw_aload_1 dL_law_948 ?_
    refine pw_aload_2 dL_law_949 ?_
    refine pw_aload_3 dL_law_950 ?_
    refine pw_aload_4 dL_law_951 ?_
    refine pw_aload_5 dL_law_953 ?_
    refine pw_aload_6 dL_law_955 ?_
    refine pw_aload_7 dL_law_957 ?_
    refine pw_cS7k dL_law_959 kL_107 vL_tells sL_tells ⟨by decide, by decide⟩ (b1' := 7 * r + 6) (b2' := 201 * r + 191) (show 7 * r + 6 + 1 ≤ 7 * (r + 1) by omega) (show 201 * r + 191 + 10 ≤ 201 * (r + 1) by omega) (Nat.le_of_ble_eq_true rfl) (k_tells hc1 hno1 wa1 hs hl1 trivial gd1 (by omega) hN (fun σ2 μ2 old2 nn2 => ?_))
    have hc2 := hc1.o hno1 old2 (show o + 565 ≤ cxB X + nn σ by omega)
    have hs2 := hs.o old2 hN
    have hl2 := hl1.o old2 hN
    have hn3 : 0 < n1 := by omega
    refine pw_if_eq 1001 dL_law_962 (by decide) (fun hh => absurd hh (by decide)) (fun _ => ?_)
    refine pw_iload_8 dL_law_965 ?_
    refine pw_bipush (v := nI 10) dL_law_967 (by decide) ?_
    refine pw_irem dL_law_969 (by decide) ?_
    refine pw_top (pk_rem (a := e) (d := 10) (by omega) (by decide) (by decide)) ?_
    refine pw_bipush (v := nI 9) dL_law_970 (by decide) ?_
    refine pw_icmp_ne 1003 dL_law_972 (by decide) (fun h1 => ?_) (fun h1 => ?_)
    · skip
      refine pw_iincN_8 dL_law_1003 (by decide) ?_
      refine pw_goto 71 dL_law_1006 (by decide) ?_
      refine pw_fg (ls' := [some (.ref (cxS X).1), some (.ref o), some (.ref p), some (.ref (p + 1)), some (.ref (p + 2)), some (.ref (p + 3)), some (.ref (p + 4)), some (.ref (p + 5)), some (.int (nI (e + 1))), none, none, none, none, none, none, none, none]) ⟨Or.inr rfl, Or.inr rfl, Or.inr rfl, Or.inr rfl, Or.inr rfl, Or.inr rfl, Or.inr rfl, Or.inr rfl, Or.inr rfl, Or.inl rfl, Or.inl rfl, Or.inl rfl, Or.inl rfl, Or.inl rfl, Or.inl rfl, Or.inl rfl, Or.inl rfl, trivial⟩ ?_
      exact pw_bud (by omega) (by omega) (ih (e + 1) σ2 μ2 x1 A1 n1 (by omega) hc2 hno1 wa1 hs2 hl2 gd1 ht1 hn1 (by omega))
    · skip
      refine pw_aload_1 dL_law_975 ?_
      refine pw_aload_2 dL_law_976 ?_
      refine pw_aload_3 dL_law_977 ?_
      refine pw_aload_4 dL_law_978 ?_
      refine pw_aload_5 dL_law_980 ?_
      refine pw_aload_6 dL_law_982 ?_
      refine pw_aload_7 dL_law_984 ?_
      refine pw_aload_0 dL_law_986 ?_
      refine pw_bipush (v := nI 60) dL_law_987 (by decide) ?_
      refine pw_iload_8 dL_law_989 ?_
      refine pw_iaddN dL_law_991 ?_
      refine pw_cS2i dL_law_992 kL_83 vL_cell sL_cell ⟨by decide, by decide⟩ ⟨rfl, rfl⟩ (Nat.le_of_ble_eq_true rfl) (c_cell hL (by omega) (fun hx0 => ?_))
      refine pw_cS8k dL_law_995 kL_110 vL_ahead sL_ahead ⟨by decide, by decide⟩ (b1' := 7 * r) (b2' := 201 * r) (show 7 * r + 6 ≤ 7 * r + 6 by omega) (show 201 * r + 191 ≤ 201 * r + 191 by omega) (Nat.le_of_ble_eq_true rfl) (k_ahead hc2 hno1 wa1 hs2 hl2 gd1 ht1 (by omega) hn3 hop (by omega) (fun σ3 μ3 hc3 hl3 hs3 nn3 => ?_))
      refine pw_if_ne 1003 dL_law_998 (by decide) (fun _ => ?_) (fun hh => absurd hh (by decide))
      refine pw_iincN_8 dL_law_1003 (by decide) ?_
      refine pw_goto 71 dL_law_1006 (by decide) ?_
      refine pw_fg (ls' := [some (.ref (cxS X).1), some (.ref o), some (.ref p), some (.ref (p + 1)), some (.ref (p + 2)), some (.ref (p + 3)), some (.ref (p + 4)), some (.ref (p + 5)), some (.int (nI (e + 1))), none, none, none, none, none, none, none, none]) ⟨Or.inr rfl, Or.inr rfl, Or.inr rfl, Or.inr rfl, Or.inr rfl, Or.inr rfl, Or.inr rfl, Or.inr rfl, Or.inr rfl, Or.inl rfl, Or.inl rfl, Or.inl rfl, Or.inl rfl, Or.inl rfl, Or.inl rfl, Or.inl rfl, Or.inl rfl, trivial⟩ ?_
      exact ih (e + 1) σ3 μ3 x1 A1 n1 (by omega) hc3 hno1 wa1 hs3 hl3 gd1 ht1 hn1 (by omega)
theorem gd_B0 : GDn 0 B0 := ⟨wf_B0, fun i hi => absurd (show i < 0 from hi) (Nat.not_lt_zero i), rfl⟩
theorem wt_B0 : WT 0 B0 := ⟨0, Nat.le_refl 0, by decide⟩
theorem lu_B0 {ν : Mm} {p : Nat} (ha : ∀ j, j < 64 → ν p j = 0) (hb : ∀ j, j < 32 → ν (p + 1) j = 0) (hw : ∀ j, j < 24 → ν (p + 4) j = 0) (ht : ∀ k, k < 7 → ν (p + 5) k = pw_AF k) : LU True ν p B0 ν := by
  refine ⟨fun _ _ => rfl, fun i hi c hc => ?_, fun i hi c hc => hb _ (by omega), fun i hi r _ hr => absurd hr (Nat.not_lt_zero r), fun _ i hi r _ hr => absurd hr (Nat.not_lt_zero r), fun v hv k hk => hw _ (by omega), ht⟩
  rw [ha _ (by omega)]
  unfold aV
  split
  · show (0 : Int32) = spV (nI 0)
    decide
  · rfl
set_option maxRecDepth 100000 in
set_option maxHeartbeats 4000000 in
theorem law_body {X : Cx} {σ : Sp} {μ : Mm} (hL : (cxS X).2.1 ≤ 260) (hn : nn σ = 0) : PW X mL_law 600000 7302250 0 [some (.ref (cxS X).1), none, none, none, none, none, none, none, none, none, none, none, none, none, none, none, none] [] σ μ (LI QL9) := by
  refine pw_new 7 dL_law_0 lL_29 tX7 uX7 (by decide) (a := cxB X) (b1' := 599999) (b2' := 7302244) (by rw [hn, Nat.add_zero]) (show 599999 + 1 ≤ 600000 from by omega) (show 7302244 + 6 ≤ 7302250 from by omega) ?_
  refine pw_dup dL_law_3 ?_
  refine pw_cI0 dL_law_4 kL_82 vX7_init nX7_init rfl rfl ⟨by decide, by decide⟩ (Nat.le_of_ble_eq_true rfl) (b1' := 599435) (b2' := 7298264) (show 599435 + 564 ≤ 599999 from by omega) (show 7298264 + 3980 ≤ 7302244 from by omega) (i_X (by rw [wN_nn, hn]) (wN_tg (by rw [hn, Nat.add_zero])) (wC_self _ _ _) (fun σ8 μ8 o8 n8 c8 => ?_))
  refine pw_astore_1 dL_law_7 (by decide) ?_
  obtain ⟨o, ho⟩ : ∃ o, o = cxB X := ⟨_, rfl⟩
  rw [← ho] at n8 c8 ⊢
  obtain ⟨p, hp⟩ : ∃ p, p = o + 565 := ⟨_, rfl⟩
  refine pw_bipush (v := nI 64) dL_law_8 (by decide) ?_
  refine pw_newaI (N := 64) dL_law_10 ta_int (nI_pos (by omega)) (nI_clamp (by omega)) (by omega) (a := p + 0) (b1' := 599434) (b2' := 7298200) (by show p + 0 = cxB X + (nn σ8); omega) (show 599434 + 1 ≤ 599435 from by omega) (show 7298200 + 64 ≤ 7298264 from by omega) ?_
  refine pw_astore_2 dL_law_12 (by decide) ?_
  refine pw_bipush (v := nI 32) dL_law_13 (by decide) ?_
  refine pw_newaI (N := 32) dL_law_15 ta_int (nI_pos (by omega)) (nI_clamp (by omega)) (by omega) (a := p + 1) (b1' := 599433) (b2' := 7298168) (by show p + 1 = cxB X + (nn σ8 + 1); omega) (show 599433 + 1 ≤ 599434 from by omega) (show 7298168 + 32 ≤ 7298200 from by omega) ?_
  refine pw_astore_3 dL_law_17 (by decide) ?_
  refine pw_bipush (v := nI 32) dL_law_18 (by decide) ?_
  refine pw_newaI (N := 32) dL_law_20 ta_int (nI_pos (by omega)) (nI_clamp (by omega)) (by omega) (a := p + 2) (b1' := 599432) (b2' := 7298136) (by show p + 2 = cxB X + (nn σ8 + 1 + 1); omega) (show 599432 + 1 ≤ 599433 from by omega) (show 7298136 + 32 ≤ 7298168 from by omega) ?_
  refine pw_astore_4 dL_law_22 (by decide) ?_
  refine pw_bipush (v := nI 32) dL_law_24 (by decide) ?_
  refine pw_newaI (N := 32) dL_law_26 ta_int (nI_pos (by omega)) (nI_clamp (by omega)) (by omega) (a := p + 3) (b1' := 599431) (b2' := 7298104) (by show p + 3 = cxB X + (nn σ8 + 1 + 1 + 1); omega) (show 599431 + 1 ≤ 599432 from by omega) (show 7298104 + 32 ≤ 7298136 from by omega) ?_
  refine pw_astore_5 dL_law_28 (by decide) ?_
  refine pw_bipush (v := nI 24) dL_law_30 (by decide) ?_
  refine pw_newaI (N := 24) dL_law_32 ta_int (nI_pos (by omega)) (nI_clamp (by omega)) (by omega) (a := p + 4) (b1' := 599430) (b2' := 7298080) (by show p + 4 = cxB X + (nn σ8 + 1 + 1 + 1 + 1); omega) (show 599430 + 1 ≤ 599431 from by omega) (show 7298080 + 24 ≤ 7298104 from by omega) ?_
  refine pw_astore_6 dL_law_34 (by decide) ?_
  refine pw_bipush (v := nI 7) dL_law_36 (by decide) ?_
  refine pw_newaI (N := 7) dL_law_38 ta_int (nI_pos (by omega)) (nI_clamp (by omega)) (by omega) (a := p + 5) (b1' := 599429) (b2' := 7298073) (by show p + 5 = cxB X + (nn σ8 + 1 + 1 + 1 + 1 + 1); omega) (show 599429 + 1 ≤ 599430 from by omega) (show 7298073 + 7 ≤ 7298080 from by omega) ?_
  refine pw_astore_7 dL_law_40 (by decide) ?_
  have old0 : OLD (o + 565) σ8 μ8 σ8 μ8 := OLD.rf
  have old1 := old0.n (B := cxB X) (b := p + 0) (t := 11) (l := 64) (f := fun _ => 0) (show p + 0 = cxB X + (nn σ8) by omega) (by omega)
  have old2 := old1.n (B := cxB X) (b := p + 1) (t := 11) (l := 32) (f := fun _ => 0) (show p + 1 = cxB X + (nn σ8 + 1) by omega) (by omega)
  have old3 := old2.n (B := cxB X) (b := p + 2) (t := 11) (l := 32) (f := fun _ => 0) (show p + 2 = cxB X + (nn σ8 + 1 + 1) by omega) (by omega)
  have old4 := old3.n (B := cxB X) (b := p + 3) (t := 11) (l := 32) (f := fun _ => 0) (show p + 3 = cxB X + (nn σ8 + 1 + 1 + 1) by omega) (by omega)
  have old5 := old4.n (B := cxB X) (b := p + 4) (t := 11) (l := 24) (f := fun _ => 0) (show p + 4 = cxB X + (nn σ8 + 1 + 1 + 1 + 1) by omega) (by omega)
  have old6 := old5.n (B := cxB X) (b := p + 5) (t := 11) (l := 7) (f := fun _ => 0) (show p + 5 = cxB X + (nn σ8 + 1 + 1 + 1 + 1 + 1) by omega) (by omega)
  have sh0 := (ShA.n (B := cxB X) (t' := 11) (l' := 7) (ShA.n (B := cxB X) (t' := 11) (l' := 24) (ShA.n (B := cxB X) (t' := 11) (l' := 32) (ShA.n (B := cxB X) (t' := 11) (l' := 32) (ShA.n (B := cxB X) (t' := 11) (l' := 32) (⟨wN_tg (show p + 0 = cxB X + (nn σ8) by omega), wN_ln (show p + 0 = cxB X + (nn σ8) by omega)⟩ : ShA (wN σ8 (cxB X) 11 64) (p + 0) 11 64) (show p + 0 ≠ cxB X + (nn σ8 + 1) by omega)) (show p + 0 ≠ cxB X + (nn σ8 + 1 + 1) by omega)) (show p + 0 ≠ cxB X + (nn σ8 + 1 + 1 + 1) by omega)) (show p + 0 ≠ cxB X + (nn σ8 + 1 + 1 + 1 + 1) by omega)) (show p + 0 ≠ cxB X + (nn σ8 + 1 + 1 + 1 + 1 + 1) by omega))
  have sh1 := (ShA.n (B := cxB X) (t' := 11) (l' := 7) (ShA.n (B := cxB X) (t' := 11) (l' := 24) (ShA.n (B := cxB X) (t' := 11) (l' := 32) (ShA.n (B := cxB X) (t' := 11) (l' := 32) (⟨wN_tg (show p + 1 = cxB X + (nn σ8 + 1) by omega), wN_ln (show p + 1 = cxB X + (nn σ8 + 1) by omega)⟩ : ShA (wN (wN σ8 (cxB X) 11 64) (cxB X) 11 32) (p + 1) 11 32) (show p + 1 ≠ cxB X + (nn σ8 + 1 + 1) by omega)) (show p + 1 ≠ cxB X + (nn σ8 + 1 + 1 + 1) by omega)) (show p + 1 ≠ cxB X + (nn σ8 + 1 + 1 + 1 + 1) by omega)) (show p + 1 ≠ cxB X + (nn σ8 + 1 + 1 + 1 + 1 + 1) by omega))
  have sh2 := (ShA.n (B := cxB X) (t' := 11) (l' := 7) (ShA.n (B := cxB X) (t' := 11) (l' := 24) (ShA.n (B := cxB X) (t' := 11) (l' := 32) (⟨wN_tg (show p + 2 = cxB X + (nn σ8 + 1 + 1) by omega), wN_ln (show p + 2 = cxB X + (nn σ8 + 1 + 1) by omega)⟩ : ShA (wN (wN (wN σ8 (cxB X) 11 64) (cxB X) 11 32) (cxB X) 11 32) (p + 2) 11 32) (show p + 2 ≠ cxB X + (nn σ8 + 1 + 1 + 1) by omega)) (show p + 2 ≠ cxB X + (nn σ8 + 1 + 1 + 1 + 1) by omega)) (show p + 2 ≠ cxB X + (nn σ8 + 1 + 1 + 1 + 1 + 1) by omega))
  have sh3 := (ShA.n (B := cxB X) (t' := 11) (l' := 7) (ShA.n (B := cxB X) (t' := 11) (l' := 24) (⟨wN_tg (show p + 3 = cxB X + (nn σ8 + 1 + 1 + 1) by omega), wN_ln (show p + 3 = cxB X + (nn σ8 + 1 + 1 + 1) by omega)⟩ : ShA (wN (wN (wN (wN σ8 (cxB X) 11 64) (cxB X) 11 32) (cxB X) 11 32) (cxB X) 11 32) (p + 3) 11 32) (show p + 3 ≠ cxB X + (nn σ8 + 1 + 1 + 1 + 1) by omega)) (show p + 3 ≠ cxB X + (nn σ8 + 1 + 1 + 1 + 1 + 1) by omega))
  have sh4 := (ShA.n (B := cxB X) (t' := 11) (l' := 7) (⟨wN_tg (show p + 4 = cxB X + (nn σ8 + 1 + 1 + 1 + 1) by omega), wN_ln (show p + 4 = cxB X + (nn σ8 + 1 + 1 + 1 + 1) by omega)⟩ : ShA (wN (wN (wN (wN (wN σ8 (cxB X) 11 64) (cxB X) 11 32) (cxB X) 11 32) (cxB X) 11 32) (cxB X) 11 24) (p + 4) 11 24) (show p + 4 ≠ cxB X + (nn σ8 + 1 + 1 + 1 + 1 + 1) by omega))
  have sh5 := (⟨wN_tg (show p + 5 = cxB X + (nn σ8 + 1 + 1 + 1 + 1 + 1) by omega), wN_ln (show p + 5 = cxB X + (nn σ8 + 1 + 1 + 1 + 1 + 1) by omega)⟩ : ShA (wN (wN (wN (wN (wN (wN σ8 (cxB X) 11 64) (cxB X) 11 32) (cxB X) 11 32) (cxB X) 11 32) (cxB X) 11 24) (cxB X) 11 7) (p + 5) 11 7)
  have hs : ShL (wN (wN (wN (wN (wN (wN σ8 (cxB X) 11 64) (cxB X) 11 32) (cxB X) 11 32) (cxB X) 11 32) (cxB X) 11 24) (cxB X) 11 7) p := ⟨sh0, sh1, sh2, sh3, sh4, sh5⟩
  have nn6 : nn (wN (wN (wN (wN (wN (wN σ8 (cxB X) 11 64) (cxB X) 11 32) (cxB X) 11 32) (cxB X) 11 32) (cxB X) 11 24) (cxB X) 11 7) = nn σ8 + 6 := rfl
  have hc := c8.o (fun _ => rfl) old6 (Nat.le_refl _)
  clear sh0 sh1 sh2 sh3 sh4 sh5 old0 old1 old2 old3 old4 old5 old6
  have z0 : ∀ j, (wC (wC (wC (wC (wC (wC μ8 (p + 0) (fun _ => 0)) (p + 1) (fun _ => 0)) (p + 2) (fun _ => 0)) (p + 3) (fun _ => 0)) (p + 4) (fun _ => 0)) (p + 5) (fun _ => 0)) (p + 0) j = 0 := fun j => by simp (disch := omega) only [wC_self, wC_ne]
  have z1 : ∀ j, (wC (wC (wC (wC (wC (wC μ8 (p + 0) (fun _ => 0)) (p + 1) (fun _ => 0)) (p + 2) (fun _ => 0)) (p + 3) (fun _ => 0)) (p + 4) (fun _ => 0)) (p + 5) (fun _ => 0)) (p + 1) j = 0 := fun j => by simp (disch := omega) only [wC_self, wC_ne]
  have z2 : ∀ j, (wC (wC (wC (wC (wC (wC μ8 (p + 0) (fun _ => 0)) (p + 1) (fun _ => 0)) (p + 2) (fun _ => 0)) (p + 3) (fun _ => 0)) (p + 4) (fun _ => 0)) (p + 5) (fun _ => 0)) (p + 2) j = 0 := fun j => by simp (disch := omega) only [wC_self, wC_ne]
  have z3 : ∀ j, (wC (wC (wC (wC (wC (wC μ8 (p + 0) (fun _ => 0)) (p + 1) (fun _ => 0)) (p + 2) (fun _ => 0)) (p + 3) (fun _ => 0)) (p + 4) (fun _ => 0)) (p + 5) (fun _ => 0)) (p + 3) j = 0 := fun j => by simp (disch := omega) only [wC_self, wC_ne]
  have z4 : ∀ j, (wC (wC (wC (wC (wC (wC μ8 (p + 0) (fun _ => 0)) (p + 1) (fun _ => 0)) (p + 2) (fun _ => 0)) (p + 3) (fun _ => 0)) (p + 4) (fun _ => 0)) (p + 5) (fun _ => 0)) (p + 4) j = 0 := fun j => by simp (disch := omega) only [wC_self, wC_ne]
  have z5 : ∀ j, (wC (wC (wC (wC (wC (wC μ8 (p + 0) (fun _ => 0)) (p + 1) (fun _ => 0)) (p + 2) (fun _ => 0)) (p + 3) (fun _ => 0)) (p + 4) (fun _ => 0)) (p + 5) (fun _ => 0)) (p + 5) j = 0 := fun j => by simp (disch := omega) only [wC_self, wC_ne]
  revert hs nn6 hc z0 z1 z2 z3 z4 z5
  generalize (wN (wN (wN (wN (wN (wN σ8 (cxB X) 11 64) (cxB X) 11 32) (cxB X) 11 32) (cxB X) 11 32) (cxB X) 11 24) (cxB X) 11 7) = σ1
  generalize (wC (wC (wC (wC (wC (wC μ8 (p + 0) (fun _ => 0)) (p + 1) (fun _ => 0)) (p + 2) (fun _ => 0)) (p + 3) (fun _ => 0)) (p + 4) (fun _ => 0)) (p + 5) (fun _ => 0)) = μ1
  intro hs nn6 hc z0 z1 z2 z3 z4 z5
  refine pw_fg (ls' := [some (.ref (cxS X).1), some (.ref o), some (.ref p), some (.ref (p + 1)), some (.ref (p + 2)), some (.ref (p + 3)), some (.ref (p + 4)), some (.ref (p + 5)), none, none, none, none, none, none, none, none, none]) ⟨Or.inr rfl, Or.inr rfl, Or.inr rfl, Or.inr rfl, Or.inr rfl, Or.inr rfl, Or.inr rfl, Or.inr rfl, Or.inr rfl, Or.inl rfl, Or.inl rfl, Or.inl rfl, Or.inl rfl, Or.inl rfl, Or.inl rfl, Or.inl rfl, Or.inl rfl, trivial⟩ ?_
  refine pw_aload_7 dL_law_42 ?_
  refine pw_iconst (v := nI 0) dL_law_44 (by decide) ?_
  refine pw_iconst (v := nI 3) dL_law_45 (by decide) ?_
  refine pw_iastN dL_law_46 hs.t (by omega) (by decide) ?_
  refine pw_aload_7 dL_law_47 ?_
  refine pw_iconst (v := nI 1) dL_law_49 (by decide) ?_
  refine pw_bipush (v := nI 40) dL_law_50 (by decide) ?_
  refine pw_iastN dL_law_52 hs.t (by omega) (by decide) ?_
  refine pw_aload_7 dL_law_53 ?_
  refine pw_iconst (v := nI 2) dL_law_55 (by decide) ?_
  refine pw_iconst (v := nI 1) dL_law_56 (by decide) ?_
  refine pw_iastN dL_law_57 hs.t (by omega) (by decide) ?_
  refine pw_aload_7 dL_law_58 ?_
  refine pw_iconst (v := nI 3) dL_law_60 (by decide) ?_
  refine pw_iconst (v := nI 1) dL_law_61 (by decide) ?_
  refine pw_iastN dL_law_62 hs.t (by omega) (by decide) ?_
  refine pw_aload_7 dL_law_63 ?_
  refine pw_iconst (v := nI 4) dL_law_65 (by decide) ?_
  refine pw_iconst (v := nI 4) dL_law_66 (by decide) ?_
  refine pw_iastN dL_law_67 hs.t (by omega) (by decide) ?_
  refine pw_iconst (v := nI 0) dL_law_68 (by decide) ?_
  refine pw_istore_8 dL_law_69 (by decide) ?_
  have hl : LU True (wr (wr (wr (wr (wr μ1 (p + 5) 0 (nI 3)) (p + 5) 1 (nI 40)) (p + 5) 2 (nI 1)) (p + 5) 3 (nI 1)) (p + 5) 4 (nI 4)) p (aB A0) (wr (wr (wr (wr (wr μ1 (p + 5) 0 (nI 3)) (p + 5) 1 (nI 40)) (p + 5) 2 (nI 1)) (p + 5) 3 (nI 1)) (p + 5) 4 (nI 4)) := by
    refine lu_B0 (fun j hj => ?_) (fun j hj => ?_) (fun j hj => ?_) (fun k hk => ?_)
    · simp (disch := omega) only [lx_o]
      exact z0 j
    · simp (disch := omega) only [lx_o]
      exact z1 j
    · simp (disch := omega) only [lx_o]
      exact z4 j
    · rcases (by omega : k = 0 ∨ k = 1 ∨ k = 2 ∨ k = 3 ∨ k = 4 ∨ k = 5 ∨ k = 6) with g | g | g | g | g | g | g
      · subst g
        simp (disch := omega) only [wr_it, wr_at]
        rfl
      · subst g
        simp (disch := omega) only [wr_it, wr_at]
        rfl
      · subst g
        simp (disch := omega) only [wr_it, wr_at]
        rfl
      · subst g
        simp (disch := omega) only [wr_it, wr_at]
        rfl
      · subst g
        simp (disch := omega) only [wr_it, wr_at]
        rfl
      · subst g
        simp (disch := omega) only [wr_it, wr_at]
        exact z5 5
      · subst g
        simp (disch := omega) only [wr_it, wr_at]
        exact z5 6
  have hc2 : CX σ1 (wr (wr (wr (wr (wr μ1 (p + 5) 0 (nI 3)) (p + 5) 1 (nI 40)) (p + 5) 2 (nI 1)) (p + 5) 3 (nI 1)) (p + 5) 4 (nI 4)) o 0 A0 := hc.mv (fun _ => rfl) (fun a ha => by rw [wr_n _ _ _ (by omega), wr_n _ _ _ (by omega), wr_n _ _ _ (by omega), wr_n _ _ _ (by omega), wr_n _ _ _ (by omega)])
  refine pw_fg (ls' := [some (.ref (cxS X).1), some (.ref o), some (.ref p), some (.ref (p + 1)), some (.ref (p + 2)), some (.ref (p + 3)), some (.ref (p + 4)), some (.ref (p + 5)), some (.int (nI 0)), none, none, none, none, none, none, none, none]) ⟨Or.inr rfl, Or.inr rfl, Or.inr rfl, Or.inr rfl, Or.inr rfl, Or.inr rfl, Or.inr rfl, Or.inr rfl, Or.inr rfl, Or.inl rfl, Or.inl rfl, Or.inl rfl, Or.inl rfl, Or.inl rfl, Or.inl rfl, Or.inl rfl, Or.inl rfl, trivial⟩ ?_
  exact pw_bud (show 7 * 60 ≤ 599429 by omega) (show 201 * 60 ≤ 7298073 by omega) (law_loop hL hp 60 0 _ _ 0 A0 0 (by omega) hc2 (fun _ => rfl) wa_A0 hs hl gd_B0 wt_B0 (Or.inr (Nat.le_refl 0)) (by omega))
