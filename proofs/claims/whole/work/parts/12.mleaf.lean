/-! The model's small methods, over a row of 351 numbers that holds a bus -/
set_option maxRecDepth 100000 in
set_option maxHeartbeats 4000000 in
theorem c_X8_in {X : Cx} {σ : Sp} {μ : Mm} {Q : Int32 → Sp → Mm → Prop} {x lo hi : Int32} (q1 : ¬ x < lo → ¬ hi < x → Q (nI 1) σ μ) (q0 : x < lo ∨ hi < x → Q (nI 0) σ μ) : CTi X mX8_in [.int x, .int lo, .int hi] σ μ Q := by
  refine CT.of (by decide +kernel) (Nat.le_of_ble_eq_true rfl) ?_
  show PW X mX8_in 0 0 0 [some (.int x), some (.int lo), some (.int hi)] [] σ μ (LI Q)
  refine pw_iload_0 dX8_in_0 ?_
  refine pw_iload_1 dX8_in_1 ?_
  refine pw_icmp_lt 14 dX8_in_2 (by decide) (fun h1 => ?_) (fun h1 => ?_)
  · skip
    refine pw_iconst (v := nI 0) dX8_in_14 (by decide) ?_
    refine pw_zreturn dX8_in_15 rfl (by decide) ?_
    exact q0 (Or.inl h1)
  · skip
    refine pw_iload_0 dX8_in_5 ?_
    refine pw_iload_2 dX8_in_6 ?_
    refine pw_icmp_gt 14 dX8_in_7 (by decide) (fun h2 => ?_) (fun h2 => ?_)
    · skip
      refine pw_iconst (v := nI 0) dX8_in_14 (by decide) ?_
      refine pw_zreturn dX8_in_15 rfl (by decide) ?_
      exact q0 (Or.inr h2)
    · skip
      refine pw_iconst (v := nI 1) dX8_in_10 (by decide) ?_
      refine pw_goto 15 dX8_in_11 (by decide) ?_
      refine pw_zreturn dX8_in_15 rfl (by decide) ?_
      exact q1 h1 h2
theorem c_X8_inN {X : Cx} {σ : Sp} {μ : Mm} {Q : Int32 → Sp → Mm → Prop} {x : Int32} {lo hi : Nat} (h1 : lo ≤ hi) (h2 : hi < 2 ^ 30) (q1 : ∀ j, x = nI j → lo ≤ j → j ≤ hi → Q (nI 1) σ μ) (q0 : (∀ j, lo ≤ j → j ≤ hi → x ≠ nI j) → Q (nI 0) σ μ) : CTi X mX8_in [.int x, .int (nI lo), .int (nI hi)] σ μ Q := by
  refine c_X8_in (fun a b => ?_) (fun a => q0 ?_)
  · have h0 : ¬ x < 0 := fun hx => a (by have e1 := Int32.lt_iff_toInt_lt.mp hx; refine Int32.lt_iff_toInt_lt.mpr ?_; rw [nI_toInt (by omega)]; have e2 : (0 : Int32).toInt = 0 := (by decide); omega)
    obtain ⟨j, hj, rfl⟩ := nI_of h0
    rw [nI_ltI (by omega) (by omega)] at a b
    exact q1 j rfl (by omega) (by omega)
  · rintro j hj1 hj2 rfl
    rw [nI_ltI (by omega) (by omega), nI_ltI (by omega) (by omega)] at a
    omega
set_option maxRecDepth 100000 in
set_option maxHeartbeats 4000000 in
theorem c_X8_isWire {X : Cx} {σ : Sp} {μ : Mm} {Q : Int32 → Sp → Mm → Prop} {x : Int32} (q1 : ∀ j, x = nI j → j < 6 → Q (nI 1) σ μ) (q0 : (∀ j, j < 6 → x ≠ nI j) → Q (nI 0) σ μ) : CTi X mX8_isWire [.int x] σ μ Q := by
  refine CT.of (by decide +kernel) (Nat.le_of_ble_eq_true rfl) ?_
  show PW X mX8_isWire 0 0 0 [some (.int x)] [] σ μ (LI Q)
  refine pw_iload_0 dX8_isWire_0 ?_
  refine pw_iconst (v := nI 0) dX8_isWire_1 (by decide) ?_
  refine pw_iconst (v := nI 5) dX8_isWire_2 (by decide) ?_
  refine pw_cS3i dX8_isWire_3 kX8_36 vX8_in sX8_in ⟨by decide, by decide⟩ ⟨rfl, rfl⟩ (Nat.le_of_ble_eq_true rfl) (c_X8_inN (by decide) (by decide) (fun jh1 h1 h2 h3 => ?_) (fun h1 => ?_))
  · skip
    refine pw_zreturn dX8_isWire_6 rfl (by decide) ?_
    exact q1 jh1 h1 (by omega)
  · skip
    refine pw_zreturn dX8_isWire_6 rfl (by decide) ?_
    exact q0 (fun j hj => h1 j (by omega) (by omega))
set_option maxRecDepth 100000 in
set_option maxHeartbeats 4000000 in
theorem c_X8_isStation {X : Cx} {σ : Sp} {μ : Mm} {Q : Int32 → Sp → Mm → Prop} {m n : Nat} {z : Nat → Int32} {B : Bs} {x : Int32} (h : ShM σ m) (hz : ZR z B) (hn : bG B 6 = nI n) (h8 : n ≤ 8) (q1 : ∀ j, x = nI j → j < n → Q (nI 1) σ (wC μ (m + 1) z)) (q0 : (∀ j, j < n → x ≠ nI j) → Q (nI 0) σ (wC μ (m + 1) z)) : CTi X mX8_isStation [.ref m, .int x] σ ((wC μ (m + 1) z)) Q := by
  refine CT.of (by decide +kernel) (Nat.le_of_ble_eq_true rfl) ?_
  show PW X mX8_isStation 0 0 0 [some (.ref m), some (.int x)] [] σ ((wC μ (m + 1) z)) (LI Q)
  refine pw_iload_1 dX8_isStation_0 ?_
  refine pw_if_lt 19 dX8_isStation_1 (by decide) (fun h1 => ?_) (fun h1 => ?_)
  · skip
    refine pw_iconst (v := nI 0) dX8_isStation_19 (by decide) ?_
    refine pw_zreturn dX8_isStation_20 rfl (by decide) ?_
    exact q0 (ix_no (by omega) (Or.inl h1))
  · skip
    refine pw_iload_1 dX8_isStation_4 ?_
    refine pw_aload_0 dX8_isStation_5 ?_
    refine pw_getr 8 0 dX8_isStation_6 fX8_7 rfl (by decide) rfl h.t h.r0 ?_
    refine pw_bipush (v := nI 6) dX8_isStation_9 (by decide) ?_
    refine pw_ialdN dX8_isStation_11 h.a1 (by omega) (by decide) ?_
    refine pw_top (show _ = nI n from by rw [wC_self, hz.g (by decide)]; exact hn) ?_
    refine pw_icmp_ge 19 dX8_isStation_12 (by decide) (fun h2 => ?_) (fun h2 => ?_)
    · skip
      refine pw_iconst (v := nI 0) dX8_isStation_19 (by decide) ?_
      refine pw_zreturn dX8_isStation_20 rfl (by decide) ?_
      exact q0 (ix_no (by omega) (Or.inr h2))
    · skip
      refine pw_iconst (v := nI 1) dX8_isStation_15 (by decide) ?_
      refine pw_goto 20 dX8_isStation_16 (by decide) ?_
      refine pw_zreturn dX8_isStation_20 rfl (by decide) ?_
      obtain ⟨j, hj, rfl⟩ := ix_of (by omega) h1 h2
      exact q1 j rfl hj
set_option maxRecDepth 100000 in
set_option maxHeartbeats 4000000 in
theorem c_X8_at {X : Cx} {σ : Sp} {μ : Mm} {Q : Int32 → Sp → Mm → Prop} {m i k : Nat} {z : Nat → Int32} {B : Bs} (h : ShM σ m) (hz : ZR z B) (hi : i < 8) (hk : k < 40) (q : Q (bS B i k) σ (wC μ (m + 1) z)) : CTi X mX8_at [.ref m, .int (nI i), .int (nI k)] σ ((wC μ (m + 1) z)) Q := by
  refine CT.of (by decide +kernel) (Nat.le_of_ble_eq_true rfl) ?_
  show PW X mX8_at 0 0 0 [some (.ref m), some (.int (nI i)), some (.int (nI k))] [] σ ((wC μ (m + 1) z)) (LI Q)
  refine pw_aload_0 dX8_at_0 ?_
  refine pw_getr 8 0 dX8_at_1 fX8_7 rfl (by decide) rfl h.t h.r0 ?_
  refine pw_bipush (v := nI 31) dX8_at_4 (by decide) ?_
  refine pw_bipush (v := nI 40) dX8_at_6 (by decide) ?_
  refine pw_iload_1 dX8_at_8 ?_
  refine pw_imulN dX8_at_9 ?_
  refine pw_iaddN dX8_at_10 ?_
  refine pw_iload_2 dX8_at_11 ?_
  refine pw_iaddN dX8_at_12 ?_
  refine pw_ialdN dX8_at_13 h.a1 (by omega) (by decide) ?_
  refine pw_ireturn dX8_at_14 rfl ?_
  rw [wC_self, hz.s hi hk]
  exact q
set_option maxRecDepth 100000 in
set_option maxHeartbeats 4000000 in
theorem c_X8_lay {X : Cx} {σ : Sp} {μ : Mm} {Q : Sp → Mm → Prop} {m i k : Nat} {z : Nat → Int32} {B : Bs} {x : Int32} (h : ShM σ m) (hz : ZR z B) (hi : i < 8) (hk : k < 40) (q : ∀ z', ZR z' (setS B i (upd (bS B i) k x)) → Q σ (wC μ (m + 1) z')) : CTv X mX8_lay [.ref m, .int (nI i), .int (nI k), .int x] σ ((wC μ (m + 1) z)) Q := by
  refine CT.of (by decide +kernel) (Nat.le_of_ble_eq_true rfl) ?_
  show PW X mX8_lay 0 0 0 [some (.ref m), some (.int (nI i)), some (.int (nI k)), some (.int x)] [] σ ((wC μ (m + 1) z)) (LV Q)
  refine pw_aload_0 dX8_lay_0 ?_
  refine pw_getr 8 0 dX8_lay_1 fX8_7 rfl (by decide) rfl h.t h.r0 ?_
  refine pw_bipush (v := nI 31) dX8_lay_4 (by decide) ?_
  refine pw_bipush (v := nI 40) dX8_lay_6 (by decide) ?_
  refine pw_iload_1 dX8_lay_8 ?_
  refine pw_imulN dX8_lay_9 ?_
  refine pw_iaddN dX8_lay_10 ?_
  refine pw_iload_2 dX8_lay_11 ?_
  refine pw_iaddN dX8_lay_12 ?_
  refine pw_iload_3 dX8_lay_13 ?_
  refine pw_iastN dX8_lay_14 h.a1 (by omega) (by decide) ?_
  refine pw_return dX8_lay_15 rfl ?_
  rw [wr_wC_s]
  exact q _ (hz.updS hi hk x)
set_option maxRecDepth 100000 in
set_option maxHeartbeats 4000000 in
theorem c_X8_add {X : Cx} {σ : Sp} {μ : Mm} {Q : Sp → Mm → Prop} {m i k : Nat} {z : Nat → Int32} {B : Bs} {x : Int32} (h : ShM σ m) (hz : ZR z B) (hi : i < 8) (hk : k < 40) (q : ∀ z', ZR z' (setS B i (upd (bS B i) k (bS B i k + x))) → Q σ (wC μ (m + 1) z')) : CTv X mX8_add [.ref m, .int (nI i), .int (nI k), .int x] σ ((wC μ (m + 1) z)) Q := by
  refine CT.of (by decide +kernel) (Nat.le_of_ble_eq_true rfl) ?_
  show PW X mX8_add 0 0 0 [some (.ref m), some (.int (nI i)), some (.int (nI k)), some (.int x)] [] σ ((wC μ (m + 1) z)) (LV Q)
  refine pw_aload_0 dX8_add_0 ?_
  refine pw_getr 8 0 dX8_add_1 fX8_7 rfl (by decide) rfl h.t h.r0 ?_
  refine pw_bipush (v := nI 31) dX8_add_4 (by decide) ?_
  refine pw_bipush (v := nI 40) dX8_add_6 (by decide) ?_
  refine pw_iload_1 dX8_add_8 ?_
  refine pw_imulN dX8_add_9 ?_
  refine pw_iaddN dX8_add_10 ?_
  refine pw_iload_2 dX8_add_11 ?_
  refine pw_iaddN dX8_add_12 ?_
  refine pw_dup2_11 dX8_add_13 ?_
  refine pw_ialdN dX8_add_14 h.a1 (by omega) (by decide) ?_
  refine pw_iload_3 dX8_add_15 ?_
  refine pw_iadd dX8_add_16 ?_
  refine pw_iastN dX8_add_17 h.a1 (by omega) (by decide) ?_
  refine pw_return dX8_add_18 rfl ?_
  rw [wr_wC_s, wC_self, hz.s hi hk]
  exact q _ (hz.updS hi hk _)
set_option maxRecDepth 100000 in
set_option maxHeartbeats 4000000 in
theorem c_X8_wire {X : Cx} {σ : Sp} {μ : Mm} {Q : Int32 → Sp → Mm → Prop} {m i k : Nat} {z : Nat → Int32} {B : Bs} (h : ShM σ m) (hz : ZR z B) (hi : i < 6) (hk : k < 4) (q : Q (bW B i k) σ (wC μ (m + 1) z)) : CTi X mX8_wire [.ref m, .int (nI i), .int (nI k)] σ ((wC μ (m + 1) z)) Q := by
  refine CT.of (by decide +kernel) (Nat.le_of_ble_eq_true rfl) ?_
  show PW X mX8_wire 0 0 0 [some (.ref m), some (.int (nI i)), some (.int (nI k))] [] σ ((wC μ (m + 1) z)) (LI Q)
  refine pw_aload_0 dX8_wire_0 ?_
  refine pw_getr 8 0 dX8_wire_1 fX8_7 rfl (by decide) rfl h.t h.r0 ?_
  refine pw_bipush (v := nI 7) dX8_wire_4 (by decide) ?_
  refine pw_iconst (v := nI 4) dX8_wire_6 (by decide) ?_
  refine pw_iload_1 dX8_wire_7 ?_
  refine pw_imulN dX8_wire_8 ?_
  refine pw_iaddN dX8_wire_9 ?_
  refine pw_iload_2 dX8_wire_10 ?_
  refine pw_iaddN dX8_wire_11 ?_
  refine pw_ialdN dX8_wire_12 h.a1 (by omega) (by decide) ?_
  refine pw_ireturn dX8_wire_13 rfl ?_
  rw [wC_self, hz.w hi hk]
  exact q
set_option maxRecDepth 100000 in
set_option maxHeartbeats 4000000 in
theorem c_X8_tally {X : Cx} {σ : Sp} {μ : Mm} {Q : Sp → Mm → Prop} {m i k : Nat} {z : Nat → Int32} {B : Bs} (h : ShM σ m) (hz : ZR z B) (hi : i < 6) (hk : k < 4) (q : ∀ z', ZR z' (tyB B i k) → Q σ (wC μ (m + 1) z')) : CTv X mX8_tally [.ref m, .int (nI i), .int (nI k)] σ ((wC μ (m + 1) z)) Q := by
  refine CT.of (by decide +kernel) (Nat.le_of_ble_eq_true rfl) ?_
  show PW X mX8_tally 0 0 0 [some (.ref m), some (.int (nI i)), some (.int (nI k))] [] σ ((wC μ (m + 1) z)) (LV Q)
  refine pw_aload_0 dX8_tally_0 ?_
  refine pw_getr 8 0 dX8_tally_1 fX8_7 rfl (by decide) rfl h.t h.r0 ?_
  refine pw_bipush (v := nI 7) dX8_tally_4 (by decide) ?_
  refine pw_iconst (v := nI 4) dX8_tally_6 (by decide) ?_
  refine pw_iload_1 dX8_tally_7 ?_
  refine pw_imulN dX8_tally_8 ?_
  refine pw_iaddN dX8_tally_9 ?_
  refine pw_iload_2 dX8_tally_10 ?_
  refine pw_iaddN dX8_tally_11 ?_
  refine pw_dup2_11 dX8_tally_12 ?_
  refine pw_ialdN dX8_tally_13 h.a1 (by omega) (by decide) ?_
  refine pw_iconst (v := nI 1) dX8_tally_14 (by decide) ?_
  refine pw_iadd dX8_tally_15 ?_
  refine pw_iastN dX8_tally_16 h.a1 (by omega) (by decide) ?_
  refine pw_return dX8_tally_17 rfl ?_
  rw [wr_wC_s, wC_self, hz.w hi hk]
  exact q _ (hz.updW hi hk _)
set_option maxRecDepth 100000 in
set_option maxHeartbeats 4000000 in
theorem c_X8_isAwake {X : Cx} {σ : Sp} {μ : Mm} {Q : Int32 → Sp → Mm → Prop} {m i : Nat} {z : Nat → Int32} {B : Bs} (h : ShM σ m) (hz : ZR z B) (hi : i < 8) (q1 : awB B i → Q (nI 1) σ (wC μ (m + 1) z)) (q0 : ¬ awB B i → Q (nI 0) σ (wC μ (m + 1) z)) : CTi X mX8_isAwake [.ref m, .int (nI i)] σ ((wC μ (m + 1) z)) Q := by
  refine CT.of (by decide +kernel) (Nat.le_of_ble_eq_true rfl) ?_
  show PW X mX8_isAwake 0 0 0 [some (.ref m), some (.int (nI i))] [] σ ((wC μ (m + 1) z)) (LI Q)
  refine pw_aload_0 dX8_isAwake_0 ?_
  refine pw_iload_1 dX8_isAwake_1 ?_
  refine pw_iconst (v := nI 2) dX8_isAwake_2 (by decide) ?_
  refine pw_cV2i 8 dX8_isAwake_3 kX8_40 vX8_at iX8_at ⟨by decide, by decide⟩ ⟨rfl, rfl⟩ (by decide) rfl (Nat.le_of_ble_eq_true rfl) h.t (c_X8_at h hz (by omega) (by decide) ?_)
  refine pw_if_ne 22 dX8_isAwake_6 (by decide) (fun h1 => ?_) (fun h1 => ?_)
  · skip
    refine pw_iconst (v := nI 0) dX8_isAwake_22 (by decide) ?_
    refine pw_zreturn dX8_isAwake_23 rfl (by decide) ?_
    exact q0 (fun hh => h1 hh.1)
  · skip
    refine pw_aload_0 dX8_isAwake_9 ?_
    refine pw_iload_1 dX8_isAwake_10 ?_
    refine pw_iconst (v := nI 3) dX8_isAwake_11 (by decide) ?_
    refine pw_cV2i 8 dX8_isAwake_12 kX8_40 vX8_at iX8_at ⟨by decide, by decide⟩ ⟨rfl, rfl⟩ (by decide) rfl (Nat.le_of_ble_eq_true rfl) h.t (c_X8_at h hz (by omega) (by decide) ?_)
    refine pw_if_ne 22 dX8_isAwake_15 (by decide) (fun h2 => ?_) (fun h2 => ?_)
    · skip
      refine pw_iconst (v := nI 0) dX8_isAwake_22 (by decide) ?_
      refine pw_zreturn dX8_isAwake_23 rfl (by decide) ?_
      exact q0 (fun hh => h2 hh.2)
    · skip
      refine pw_iconst (v := nI 1) dX8_isAwake_18 (by decide) ?_
      refine pw_goto 23 dX8_isAwake_19 (by decide) ?_
      refine pw_zreturn dX8_isAwake_23 rfl (by decide) ?_
      exact q1 ⟨h1, h2⟩
set_option maxRecDepth 100000 in
set_option maxHeartbeats 4000000 in
theorem c_X8_speaks {X : Cx} {σ : Sp} {μ : Mm} {Q : Int32 → Sp → Mm → Prop} {m i : Nat} {z : Nat → Int32} {B : Bs} (h : ShM σ m) (hz : ZR z B) (hi : i < 8) (q1 : spB B i → Q (nI 1) σ (wC μ (m + 1) z)) (q0 : ¬ spB B i → Q (nI 0) σ (wC μ (m + 1) z)) : CTi X mX8_speaks [.ref m, .int (nI i)] σ ((wC μ (m + 1) z)) Q := by
  refine CT.of (by decide +kernel) (Nat.le_of_ble_eq_true rfl) ?_
  show PW X mX8_speaks 0 0 0 [some (.ref m), some (.int (nI i))] [] σ ((wC μ (m + 1) z)) (LI Q)
  refine pw_aload_0 dX8_speaks_0 ?_
  refine pw_iload_1 dX8_speaks_1 ?_
  refine pw_bipush (v := nI 17) dX8_speaks_2 (by decide) ?_
  refine pw_cV2i 8 dX8_speaks_4 kX8_40 vX8_at iX8_at ⟨by decide, by decide⟩ ⟨rfl, rfl⟩ (by decide) rfl (Nat.le_of_ble_eq_true rfl) h.t (c_X8_at h hz (by omega) (by decide) ?_)
  refine pw_bipush (v := -6) dX8_speaks_7 (by decide) ?_
  refine pw_icmp_eq 16 dX8_speaks_9 (by decide) (fun h1 => ?_) (fun h1 => ?_)
  · skip
    refine pw_iconst (v := nI 0) dX8_speaks_16 (by decide) ?_
    refine pw_zreturn dX8_speaks_17 rfl (by decide) ?_
    exact q0 (fun hh => hh h1)
  · skip
    refine pw_iconst (v := nI 1) dX8_speaks_12 (by decide) ?_
    refine pw_goto 17 dX8_speaks_13 (by decide) ?_
    refine pw_zreturn dX8_speaks_17 rfl (by decide) ?_
    exact q1 h1
set_option maxRecDepth 100000 in
set_option maxHeartbeats 4000000 in
theorem c_X8_firstWire {X : Cx} {σ : Sp} {μ : Mm} {Q : Int32 → Sp → Mm → Prop} {m i : Nat} {z : Nat → Int32} {B : Bs} (h : ShM σ m) (hz : ZR z B) (hi : i < 8) (q : Q (bS B i 6) σ (wC μ (m + 1) z)) : CTi X mX8_firstWire [.ref m, .int (nI i)] σ ((wC μ (m + 1) z)) Q := by
  refine CT.of (by decide +kernel) (Nat.le_of_ble_eq_true rfl) ?_
  show PW X mX8_firstWire 0 0 0 [some (.ref m), some (.int (nI i))] [] σ ((wC μ (m + 1) z)) (LI Q)
  refine pw_aload_0 dX8_firstWire_0 ?_
  refine pw_iload_1 dX8_firstWire_1 ?_
  refine pw_bipush (v := nI 6) dX8_firstWire_2 (by decide) ?_
  refine pw_cV2i 8 dX8_firstWire_4 kX8_40 vX8_at iX8_at ⟨by decide, by decide⟩ ⟨rfl, rfl⟩ (by decide) rfl (Nat.le_of_ble_eq_true rfl) h.t (c_X8_at h hz (by omega) (by decide) ?_)
  refine pw_ireturn dX8_firstWire_7 rfl ?_
  exact q
set_option maxRecDepth 100000 in
set_option maxHeartbeats 4000000 in
theorem c_X8_isAt {X : Cx} {σ : Sp} {μ : Mm} {Q : Int32 → Sp → Mm → Prop} {m i : Nat} {x : Int32} {z : Nat → Int32} {B : Bs} (h : ShM σ m) (hz : ZR z B) (hi : i < 8) (q1 : atB B i x → Q (nI 1) σ (wC μ (m + 1) z)) (q0 : ¬ atB B i x → Q (nI 0) σ (wC μ (m + 1) z)) : CTi X mX8_isAt [.ref m, .int (nI i), .int x] σ ((wC μ (m + 1) z)) Q := by
  refine CT.of (by decide +kernel) (Nat.le_of_ble_eq_true rfl) ?_
  show PW X mX8_isAt 0 0 0 [some (.ref m), some (.int (nI i)), some (.int x)] [] σ ((wC μ (m + 1) z)) (LI Q)
  refine pw_aload_0 dX8_isAt_0 ?_
  refine pw_iload_1 dX8_isAt_1 ?_
  refine pw_iconst (v := nI 0) dX8_isAt_2 (by decide) ?_
  refine pw_cV2i 8 dX8_isAt_3 kX8_40 vX8_at iX8_at ⟨by decide, by decide⟩ ⟨rfl, rfl⟩ (by decide) rfl (Nat.le_of_ble_eq_true rfl) h.t (c_X8_at h hz (by omega) (by decide) ?_)
  refine pw_iload_2 dX8_isAt_6 ?_
  refine pw_ishr dX8_isAt_7 ?_
  refine pw_iconst (v := nI 1) dX8_isAt_8 (by decide) ?_
  refine pw_iand dX8_isAt_9 ?_
  refine pw_iconst (v := nI 1) dX8_isAt_10 (by decide) ?_
  refine pw_icmp_ne 18 dX8_isAt_11 (by decide) (fun h1 => ?_) (fun h1 => ?_)
  · skip
    refine pw_iconst (v := nI 0) dX8_isAt_18 (by decide) ?_
    refine pw_zreturn dX8_isAt_19 rfl (by decide) ?_
    exact q0 h1
  · skip
    refine pw_iconst (v := nI 1) dX8_isAt_14 (by decide) ?_
    refine pw_goto 19 dX8_isAt_15 (by decide) ?_
    refine pw_zreturn dX8_isAt_19 rfl (by decide) ?_
    exact q1 h1
set_option maxRecDepth 100000 in
set_option maxHeartbeats 4000000 in
theorem c_X8_quiet {X : Cx} {σ : Sp} {μ : Mm} {Q : Sp → Mm → Prop} {m i : Nat} {z : Nat → Int32} {B : Bs} (h : ShM σ m) (hz : ZR z B) (hi : i < 8) (q : ∀ z', ZR z' (setS B i (qtF (bS B i))) → Q σ (wC μ (m + 1) z')) : CTv X mX8_quiet [.ref m, .int (nI i)] σ ((wC μ (m + 1) z)) Q := by
  refine CT.of (by decide +kernel) (Nat.le_of_ble_eq_true rfl) ?_
  show PW X mX8_quiet 0 0 0 [some (.ref m), some (.int (nI i))] [] σ ((wC μ (m + 1) z)) (LV Q)
  refine pw_aload_0 dX8_quiet_0 ?_
  refine pw_iload_1 dX8_quiet_1 ?_
  refine pw_bipush (v := nI 17) dX8_quiet_2 (by decide) ?_
  refine pw_bipush (v := -6) dX8_quiet_4 (by decide) ?_
  refine pw_cV3v 8 dX8_quiet_6 kX8_55 vX8_lay iX8_lay ⟨by decide, by decide⟩ ⟨rfl, rfl⟩ (by decide) rfl (Nat.le_of_ble_eq_true rfl) h.t (c_X8_lay h hz (by omega) (by decide) (fun z1 hz1 => ?_))
  refine pw_aload_0 dX8_quiet_9 ?_
  refine pw_iload_1 dX8_quiet_10 ?_
  refine pw_bipush (v := nI 18) dX8_quiet_11 (by decide) ?_
  refine pw_iconst (v := nI 0) dX8_quiet_13 (by decide) ?_
  refine pw_cV3v 8 dX8_quiet_14 kX8_55 vX8_lay iX8_lay ⟨by decide, by decide⟩ ⟨rfl, rfl⟩ (by decide) rfl (Nat.le_of_ble_eq_true rfl) h.t (c_X8_lay h hz1 (by omega) (by decide) (fun z2 hz2 => ?_))
  refine pw_return dX8_quiet_17 rfl ?_
  refine q _ (Eq.mp (congrArg (fun b => ZR z2 b) ?_) hz2)
  simp only [setS_setS, bS_setS_s]
  rfl
def lvJ (f : Nat → Int32) (w j : Nat) : Nat → Int32 := fun k => if 5 ≤ k ∧ k < 5 + j then f (k + 3) else upd (qtF f) 4 (nI (w - 1)) k
theorem lvJ_0 (f : Nat → Int32) (w : Nat) : lvJ f w 0 = upd (qtF f) 4 (nI (w - 1)) := by
  funext k
  unfold lvJ
  rw [if_neg (by omega)]
theorem qt_hi (f : Nat → Int32) {k : Nat} (h : k < 17) : qtF f k = f k := by
  unfold qtF
  rw [upd_n _ _ (by omega), upd_n _ _ (by omega)]
theorem lvJ_4 (f : Nat → Int32) (w j : Nat) : lvJ f w j 4 = nI (w - 1) := by
  unfold lvJ
  rw [if_neg (by omega), upd_s]
theorem lvJ_S (f : Nat → Int32) (w : Nat) {j : Nat} (h : j < 9) : upd (lvJ f w j) (5 + j) (lvJ f w j (5 + j + 3)) = lvJ f w (j + 1) := by
  funext k
  by_cases hk : k = 5 + j
  · subst hk
    rw [upd_s]
    unfold lvJ
    rw [if_neg (by omega), if_pos (by omega), upd_n _ _ (by omega), qt_hi _ (by omega)]
  · rw [upd_n _ _ hk]
    unfold lvJ
    by_cases h5 : 5 ≤ k ∧ k < 5 + j
    · rw [if_pos h5, if_pos (by omega)]
    · rw [if_neg h5, if_neg (by omega)]
theorem nw_of {f : Nat → Int32} {w : Nat} (h : f 4 = nI w) (h4 : w ≤ 4) : nwF f = w := by
  unfold nwF
  rw [h, nI_clamp (by omega)]
theorem lvJ_F {f : Nat → Int32} {w : Nat} (h : f 4 = nI w) (h4 : w ≤ 4) : lvJ f w (3 * (w - 1)) = lvF f := by
  funext k
  unfold lvJ lvF
  rw [nw_of h h4]
set_option maxRecDepth 100000 in
set_option maxHeartbeats 4000000 in
theorem c_X8_leaves {X : Cx} {σ : Sp} {μ : Mm} {Q : Sp → Mm → Prop} {m i w : Nat} {z : Nat → Int32} {B : Bs} (h : ShM σ m) (hz : ZR z B) (hi : i < 8) (hw : bS B i 4 = nI w) (h4 : w ≤ 4) (h0 : 0 < w) (q : ∀ z', ZR z' (lvB B i) → Q σ (wC μ (m + 1) z')) : CTv X mX8_leaves [.ref m, .int (nI i)] σ ((wC μ (m + 1) z)) Q := by
  refine CT.of (by decide +kernel) (Nat.le_of_ble_eq_true rfl) ?_
  show PW X mX8_leaves 0 0 0 [some (.ref m), some (.int (nI i)), none] [] σ ((wC μ (m + 1) z)) (LV Q)
  refine pw_aload_0 dX8_leaves_0 ?_
  refine pw_iload_1 dX8_leaves_1 ?_
  refine pw_cV1v 8 dX8_leaves_2 kX8_86 vX8_quiet iX8_quiet ⟨by decide, by decide⟩ ⟨rfl, rfl⟩ (by decide) rfl (Nat.le_of_ble_eq_true rfl) h.t (c_X8_quiet h hz (by omega) (fun z1 hz1 => ?_))
  refine pw_aload_0 dX8_leaves_5 ?_
  refine pw_iload_1 dX8_leaves_6 ?_
  refine pw_iconst (v := nI 4) dX8_leaves_7 (by decide) ?_
  refine pw_iconst (v := -1) dX8_leaves_8 (by decide) ?_
  refine pw_cV3v 8 dX8_leaves_9 kX8_76 vX8_add iX8_add ⟨by decide, by decide⟩ ⟨rfl, rfl⟩ (by decide) rfl (Nat.le_of_ble_eq_true rfl) h.t (c_X8_add h hz1 (by omega) (by decide) (fun z2 hz2 => ?_))
  refine pw_iconst (v := nI 5) dX8_leaves_12 (by decide) ?_
  refine pw_istore_2 dX8_leaves_13 (by decide) ?_
  have hB : setS (setS B i (qtF (bS B i))) i (upd (bS (setS B i (qtF (bS B i))) i) 4 (bS (setS B i (qtF (bS B i))) i 4 + ((-1)))) = setS B i (lvJ (bS B i) w 0) := by
    simp only [setS_setS, bS_setS_s, lvJ_0]
    rw [qt_hi _ (by decide), hw, show nI w + -1 = nI (w - 1) from sb_m1 h0]
  rw [hB] at hz2
  refine pw_up (P := fun j => ∀ z, ZR z (setS B i (lvJ (bS B i) w j)) → PW X mX8_leaves 0 0 14 [some (.ref m), some (.int (nI i)), some (.int (nI (5 + j)))] [] σ (wC μ (m + 1) z) (LV Q)) (3 * (w - 1)) ?_ ?_ 0 (by omega) _ hz2
  · intro z9 hz9
    refine pw_iload_2 dX8_leaves_14 ?_
    refine pw_iconst (v := nI 5) dX8_leaves_15 (by decide) ?_
    refine pw_iconst (v := nI 3) dX8_leaves_16 (by decide) ?_
    refine pw_aload_0 dX8_leaves_17 ?_
    refine pw_iload_1 dX8_leaves_18 ?_
    refine pw_iconst (v := nI 4) dX8_leaves_19 (by decide) ?_
    refine pw_cV2i 8 dX8_leaves_20 kX8_40 vX8_at iX8_at ⟨by decide, by decide⟩ ⟨rfl, rfl⟩ (by decide) rfl (Nat.le_of_ble_eq_true rfl) h.t (c_X8_at h hz9 (by omega) (by decide) ?_)
    refine pw_top (show _ = nI (w - 1) by rw [bS_setS_s, lvJ_4]) ?_
    refine pw_imulN dX8_leaves_23 ?_
    refine pw_iaddN dX8_leaves_24 ?_
    refine pw_icmp_ge 48 dX8_leaves_25 (by decide) (fun _ => ?_) (fun hh => absurd (by rw [nI_leI (by omega) (by omega)]; omega) hh)
    refine pw_return dX8_leaves_48 rfl ?_
    rw [lvJ_F hw h4] at hz9
    exact q _ hz9
  · intro j hj ih z9 hz9
    refine pw_iload_2 dX8_leaves_14 ?_
    refine pw_iconst (v := nI 5) dX8_leaves_15 (by decide) ?_
    refine pw_iconst (v := nI 3) dX8_leaves_16 (by decide) ?_
    refine pw_aload_0 dX8_leaves_17 ?_
    refine pw_iload_1 dX8_leaves_18 ?_
    refine pw_iconst (v := nI 4) dX8_leaves_19 (by decide) ?_
    refine pw_cV2i 8 dX8_leaves_20 kX8_40 vX8_at iX8_at ⟨by decide, by decide⟩ ⟨rfl, rfl⟩ (by decide) rfl (Nat.le_of_ble_eq_true rfl) h.t (c_X8_at h hz9 (by omega) (by decide) ?_)
    refine pw_top (show _ = nI (w - 1) by rw [bS_setS_s, lvJ_4]) ?_
    refine pw_imulN dX8_leaves_23 ?_
    refine pw_iaddN dX8_leaves_24 ?_
    refine pw_icmp_ge 48 dX8_leaves_25 (by decide) (fun hh => absurd hh (by rw [nI_leI (by omega) (by omega)]; omega)) (fun _ => ?_)
    refine pw_aload_0 dX8_leaves_28 ?_
    refine pw_iload_1 dX8_leaves_29 ?_
    refine pw_iload_2 dX8_leaves_30 ?_
    refine pw_aload_0 dX8_leaves_31 ?_
    refine pw_iload_1 dX8_leaves_32 ?_
    refine pw_iload_2 dX8_leaves_33 ?_
    refine pw_iconst (v := nI 3) dX8_leaves_34 (by decide) ?_
    refine pw_iaddN dX8_leaves_35 ?_
    refine pw_cV2i 8 dX8_leaves_36 kX8_40 vX8_at iX8_at ⟨by decide, by decide⟩ ⟨rfl, rfl⟩ (by decide) rfl (Nat.le_of_ble_eq_true rfl) h.t (c_X8_at h hz9 (by omega) (by omega) ?_)
    refine pw_cV3v 8 dX8_leaves_39 kX8_55 vX8_lay iX8_lay ⟨by decide, by decide⟩ ⟨rfl, rfl⟩ (by decide) rfl (Nat.le_of_ble_eq_true rfl) h.t (c_X8_lay h hz9 (by omega) (by omega) (fun z3 hz3 => ?_))
    refine pw_iincN_2 dX8_leaves_42 (by decide) ?_
    refine pw_goto 14 dX8_leaves_45 (by decide) ?_
    refine ih _ (Eq.mp (congrArg (fun b => ZR z3 b) ?_) hz3)
    simp only [setS_setS, bS_setS_s]
    rw [lvJ_S _ _ (by omega)]
set_option maxRecDepth 100000 in
set_option maxHeartbeats 4000000 in
theorem c_X8_giveUp {X : Cx} {σ : Sp} {μ : Mm} {Q : Sp → Mm → Prop} {m i w x : Nat} {z : Nat → Int32} {B : Bs} (h : ShM σ m) (hz : ZR z B) (hi : i < 8) (hw : bS B i 4 = nI w) (h4 : w ≤ 4) (h0 : 0 < w) (hf : bS B i 6 = nI x) (hx : x < 6) (q : ∀ z', ZR z' (guB B i) → Q σ (wC μ (m + 1) z')) : CTv X mX8_giveUp [.ref m, .int (nI i)] σ ((wC μ (m + 1) z)) Q := by
  refine CT.of (by decide +kernel) (Nat.le_of_ble_eq_true rfl) ?_
  show PW X mX8_giveUp 0 0 0 [some (.ref m), some (.int (nI i))] [] σ ((wC μ (m + 1) z)) (LV Q)
  refine pw_aload_0 dX8_giveUp_0 ?_
  refine pw_iload_1 dX8_giveUp_1 ?_
  refine pw_bipush (v := nI 7) dX8_giveUp_2 (by decide) ?_
  refine pw_iconst (v := nI 1) dX8_giveUp_4 (by decide) ?_
  refine pw_cV3v 8 dX8_giveUp_5 kX8_76 vX8_add iX8_add ⟨by decide, by decide⟩ ⟨rfl, rfl⟩ (by decide) rfl (Nat.le_of_ble_eq_true rfl) h.t (c_X8_add h hz (by omega) (by decide) (fun z1 hz1 => ?_))
  refine pw_aload_0 dX8_giveUp_8 ?_
  refine pw_iload_1 dX8_giveUp_9 ?_
  refine pw_bipush (v := nI 22) dX8_giveUp_10 (by decide) ?_
  refine pw_iconst (v := nI 1) dX8_giveUp_12 (by decide) ?_
  refine pw_cV3v 8 dX8_giveUp_13 kX8_76 vX8_add iX8_add ⟨by decide, by decide⟩ ⟨rfl, rfl⟩ (by decide) rfl (Nat.le_of_ble_eq_true rfl) h.t (c_X8_add h hz1 (by omega) (by decide) (fun z2 hz2 => ?_))
  refine pw_aload_0 dX8_giveUp_16 ?_
  refine pw_iload_1 dX8_giveUp_17 ?_
  refine pw_cV1v 8 dX8_giveUp_18 kX8_86 vX8_quiet iX8_quiet ⟨by decide, by decide⟩ ⟨rfl, rfl⟩ (by decide) rfl (Nat.le_of_ble_eq_true rfl) h.t (c_X8_quiet h hz2 (by omega) (fun z3 hz3 => ?_))
  refine pw_aload_0 dX8_giveUp_21 ?_
  refine pw_iload_1 dX8_giveUp_22 ?_
  refine pw_bipush (v := nI 7) dX8_giveUp_23 (by decide) ?_
  refine pw_cV2i 8 dX8_giveUp_25 kX8_40 vX8_at iX8_at ⟨by decide, by decide⟩ ⟨rfl, rfl⟩ (by decide) rfl (Nat.le_of_ble_eq_true rfl) h.t (c_X8_at h hz3 (by omega) (by decide) ?_)
  refine pw_aload_0 dX8_giveUp_28 ?_
  refine pw_getr 8 0 dX8_giveUp_29 fX8_7 rfl (by decide) rfl h.t h.r0 ?_
  refine pw_iconst (v := nI 4) dX8_giveUp_32 (by decide) ?_
  refine pw_ialdN dX8_giveUp_33 h.a1 (by omega) (by decide) ?_
  refine pw_top (show _ = bG (setS (setS (setS B i (upd (bS B i) 7 (bS B i 7 + (nI 1)))) i (upd (bS (setS B i (upd (bS B i) 7 (bS B i 7 + (nI 1)))) i) 22 (bS (setS B i (upd (bS B i) 7 (bS B i 7 + (nI 1)))) i 22 + (nI 1)))) i (qtF (bS (setS (setS B i (upd (bS B i) 7 (bS B i 7 + (nI 1)))) i (upd (bS (setS B i (upd (bS B i) 7 (bS B i 7 + (nI 1)))) i) 22 (bS (setS B i (upd (bS B i) 7 (bS B i 7 + (nI 1)))) i 22 + (nI 1)))) i))) 4 from by rw [wC_self, hz3.g (by decide)]) ?_
  refine pw_icmp_lt 60 dX8_giveUp_34 (by decide) (fun h1 => ?_) (fun h1 => ?_)
  · skip
    refine pw_return dX8_giveUp_60 rfl ?_
    refine q _ (Eq.mp (congrArg (fun b => ZR z3 b) ?_) hz3)
    have e7 : guF (bS B i) 7 = bS B i 7 + nI 1 := by unfold guF; rw [qt_hi _ (by decide)]; rfl
    unfold guB
    rw [if_neg (fun hh => Int32.not_le.mpr h1 (by simpa [setS_setS, bS_setS_s, bG_setS, qtF, upd] using hh))]
    simp only [setS_setS, bS_setS_s]
    rfl
  · skip
    refine pw_aload_0 dX8_giveUp_37 ?_
    refine pw_iload_1 dX8_giveUp_38 ?_
    refine pw_bipush (v := nI 20) dX8_giveUp_39 (by decide) ?_
    refine pw_iconst (v := nI 1) dX8_giveUp_41 (by decide) ?_
    refine pw_cV3v 8 dX8_giveUp_42 kX8_76 vX8_add iX8_add ⟨by decide, by decide⟩ ⟨rfl, rfl⟩ (by decide) rfl (Nat.le_of_ble_eq_true rfl) h.t (c_X8_add h hz3 (by omega) (by decide) (fun z4 hz4 => ?_))
    refine pw_aload_0 dX8_giveUp_45 ?_
    refine pw_aload_0 dX8_giveUp_46 ?_
    refine pw_iload_1 dX8_giveUp_47 ?_
    refine pw_cV1i 8 dX8_giveUp_48 kX8_90 vX8_firstWire iX8_firstWire ⟨by decide, by decide⟩ ⟨rfl, rfl⟩ (by decide) rfl (Nat.le_of_ble_eq_true rfl) h.t (c_X8_firstWire h hz4 (by omega) ?_)
    refine pw_top (show _ = nI x by simp only [setS_setS, bS_setS_s]; simpa [qtF, upd] using hf) ?_
    refine pw_iconst (v := nI 3) dX8_giveUp_51 (by decide) ?_
    refine pw_cV2v 8 dX8_giveUp_52 kX8_93 vX8_tally iX8_tally ⟨by decide, by decide⟩ ⟨rfl, rfl⟩ (by decide) rfl (Nat.le_of_ble_eq_true rfl) h.t (c_X8_tally h hz4 (by omega) (by decide) (fun z5 hz5 => ?_))
    refine pw_aload_0 dX8_giveUp_55 ?_
    refine pw_iload_1 dX8_giveUp_56 ?_
    refine pw_cV1v 8 dX8_giveUp_57 kX8_97 vX8_leaves iX8_leaves ⟨by decide, by decide⟩ ⟨rfl, rfl⟩ (by decide) rfl (Nat.le_of_ble_eq_true rfl) h.t (c_X8_leaves h hz5 (by omega) (w := w) (by simp only [tyB, bS_setW, setS_setS, bS_setS_s]; simpa [qtF, upd] using hw) h4 h0 (fun z6 hz6 => ?_))
    refine pw_return dX8_giveUp_60 rfl ?_
    refine q _ (Eq.mp (congrArg (fun b => ZR z6 b) ?_) hz6)
    have e7 : guF (bS B i) 7 = bS B i 7 + nI 1 := by unfold guF; rw [qt_hi _ (by decide)]; rfl
    unfold guB
    rw [if_pos (by have := Int32.not_lt.mp h1; simpa [setS_setS, bS_setS_s, bG_setS, qtF, upd] using this)]
    simp only [lvB, tyB, bS_setW, bW_setS, setS_setW, setS_setS, bS_setS_s]
    unfold fwB
    rw [hf, nI_clamp (by omega)]
    rfl
