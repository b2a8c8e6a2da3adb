/-! The class: a bus and what happens to it -/
set_option maxRecDepth 100000 in
set_option maxHeartbeats 4000000 in
theorem c_X7_isWire {X : Cx} {σ : Sp} {μ : Mm} {Q : Int32 → Sp → Mm → Prop} {x : Int32} (q1 : ∀ j, x = nI j → j < 6 → Q (nI 1) σ μ) (q0 : (∀ j, j < 6 → x ≠ nI j) → Q (nI 0) σ μ) : CTi X mX7_isWire [.int x] σ μ Q := by
  refine CT.of (by decide +kernel) (Nat.le_of_ble_eq_true rfl) ?_
  show PW X mX7_isWire 0 0 0 [some (.int x)] [] σ μ (LI Q)
  refine pw_iload_0 dX7_isWire_0 ?_
  refine pw_if_lt 14 dX7_isWire_1 (by decide) (fun h1 => ?_) (fun h1 => ?_)
  · skip
    refine pw_iconst (v := nI 0) dX7_isWire_14 (by decide) ?_
    refine pw_zreturn dX7_isWire_15 rfl (by decide) ?_
    exact q0 (ix_no (by omega) (Or.inl h1))
  · skip
    refine pw_iload_0 dX7_isWire_4 ?_
    refine pw_bipush (v := nI 6) dX7_isWire_5 (by decide) ?_
    refine pw_icmp_ge 14 dX7_isWire_7 (by decide) (fun h2 => ?_) (fun h2 => ?_)
    · skip
      refine pw_iconst (v := nI 0) dX7_isWire_14 (by decide) ?_
      refine pw_zreturn dX7_isWire_15 rfl (by decide) ?_
      exact q0 (ix_no (by omega) (Or.inr h2))
    · skip
      refine pw_iconst (v := nI 1) dX7_isWire_10 (by decide) ?_
      refine pw_goto 15 dX7_isWire_11 (by decide) ?_
      refine pw_zreturn dX7_isWire_15 rfl (by decide) ?_
      obtain ⟨j, hj, rfl⟩ := ix_of (by omega) h1 h2
      exact q1 j rfl hj
theorem c_X7_isWireT {X : Cx} {σ : Sp} {μ : Mm} {Q : Int32 → Sp → Mm → Prop} {e : Nat} (he : e < 6) (q : Q (nI 1) σ μ) : CTi X mX7_isWire [.int (nI e)] σ μ Q := c_X7_isWire (fun _ _ _ => q) (fun hno => absurd rfl (hno e he))
set_option maxRecDepth 100000 in
set_option maxHeartbeats 4000000 in
theorem k_find {X : Cx} {σ : Sp} {μ : Mm} {Q : Option Nat → Sp → Mm → Prop} {μ0 : Mm} {b n : Nat} {B : Bs} {x : Int32} (h : ShBus σ b) (hb : BU μ0 b B μ) (wf : WF B) (hn : nS B = n) (q1 : ∀ j, x = nI j → j < n → Q (some (st b j)) σ μ) (q0 : (∀ j, j < n → x ≠ nI j) → Q none σ μ) : CTr X mX0_find [.ref b, .int x] σ μ Q := by
  refine CT.of (by decide +kernel) (Nat.le_of_ble_eq_true rfl) ?_
  show PW X mX0_find 0 0 0 [some (.ref b), some (.int x)] [] σ μ (LR Q)
  have h8 : n ≤ 8 := hn ▸ wf.n8
  refine pw_iload_1 dX0_find_0 ?_
  refine pw_if_lt 27 dX0_find_1 (by decide) (fun h1 => ?_) (fun h1 => ?_)
  · skip
    refine pw_null dX0_find_27 ?_
    refine pw_areturnN dX0_find_28 rfl ?_
    exact q0 (ix_no (by omega) (Or.inl h1))
  · skip
    refine pw_iload_1 dX0_find_4 ?_
    refine pw_aload_0 dX0_find_5 ?_
    refine pw_getI 0 5 dX0_find_6 fX0_49 rfl (by decide) rfl h.t ?_
    refine pw_top (hb.n wf hn) ?_
    refine pw_icmp_ge 27 dX0_find_9 (by decide) (fun h2 => ?_) (fun h2 => ?_)
    · skip
      refine pw_null dX0_find_27 ?_
      refine pw_areturnN dX0_find_28 rfl ?_
      exact q0 (ix_no (by omega) (Or.inr h2))
    · skip
      obtain ⟨j, hj, rfl⟩ := ix_of (by omega) h1 h2
      refine pw_iload_1 dX0_find_12 ?_
      refine pw_bipush (v := nI 8) dX0_find_13 (by decide) ?_
      refine pw_icmp_ge 27 dX0_find_15 (by decide) (fun hh => absurd hh (by rw [nI_leI (by omega) (by omega)]; omega)) (fun _ => ?_)
      refine pw_aload_0 dX0_find_18 ?_
      refine pw_getr 0 4 dX0_find_19 fX0_34 rfl (by decide) rfl h.t h.r4 ?_
      refine pw_iload_1 dX0_find_22 ?_
      refine pw_aaldSr dX0_find_23 h.a5 (by omega) (by decide) (h.s (by omega)) ?_
      refine pw_goto 28 dX0_find_24 (by decide) ?_
      refine pw_areturn dX0_find_28 rfl ?_
      exact q1 j rfl hj
set_option maxRecDepth 100000 in
set_option maxHeartbeats 4000000 in
theorem k_isRested {X : Cx} {σ : Sp} {μ : Mm} {Q : Int32 → Sp → Mm → Prop} {μ0 : Mm} {b n : Nat} {B : Bs} {v : Nat} (h : ShBus σ b) (hb : BU μ0 b B μ) (wf : WF B) (hn : nS B = n) (hv : v < 6) (q1 : bG B 0 ≤ bW B v 0 → Q (nI 1) σ μ) (q0 : ¬ bG B 0 ≤ bW B v 0 → Q (nI 0) σ μ) : CTi X mX0_isRested [.ref b, .int (nI v)] σ μ Q := by
  refine CT.of (by decide +kernel) (Nat.le_of_ble_eq_true rfl) ?_
  show PW X mX0_isRested 0 0 0 [some (.ref b), some (.int (nI v))] [] σ μ (LI Q)
  have h8 : n ≤ 8 := hn ▸ wf.n8
  refine pw_iload_1 dX0_isRested_0 ?_
  refine pw_cSN1i dX0_isRested_1 kX0_84 vX7_isWire sX7_isWire ⟨by decide, by decide⟩ ⟨rfl, rfl⟩ (Nat.le_of_ble_eq_true rfl) (c_X7_isWireT (by omega) ?_)
  refine pw_if_eq 26 dX0_isRested_4 (by decide) (fun hh => absurd hh (by decide)) (fun _ => ?_)
  refine pw_aload_0 dX0_isRested_7 ?_
  refine pw_getr 0 1 dX0_isRested_8 fX0_23 rfl (by decide) rfl h.t h.r1 ?_
  refine pw_iload_1 dX0_isRested_11 ?_
  refine pw_ialdN dX0_isRested_12 h.a2 (by omega) (by decide) ?_
  refine pw_top (hb.w0 (by omega)) ?_
  refine pw_aload_0 dX0_isRested_13 ?_
  refine pw_getr 0 0 dX0_isRested_14 fX0_18 rfl (by decide) rfl h.t h.r0 ?_
  refine pw_iconst (v := nI 0) dX0_isRested_17 (by decide) ?_
  refine pw_ialdN dX0_isRested_18 h.a1 (by omega) (by decide) ?_
  refine pw_top (hb.g (by decide)) ?_
  refine pw_icmp_lt 26 dX0_isRested_19 (by decide) (fun h1 => ?_) (fun h1 => ?_)
  · skip
    refine pw_iconst (v := nI 0) dX0_isRested_26 (by decide) ?_
    refine pw_zreturn dX0_isRested_27 rfl (by decide) ?_
    exact q0 (Int32.not_le.mpr h1)
  · skip
    refine pw_iconst (v := nI 1) dX0_isRested_22 (by decide) ?_
    refine pw_goto 27 dX0_isRested_23 (by decide) ?_
    refine pw_zreturn dX0_isRested_27 rfl (by decide) ?_
    exact q1 (Int32.not_lt.mp h1)
set_option maxRecDepth 100000 in
set_option maxHeartbeats 4000000 in
theorem k_isRestedN {X : Cx} {σ : Sp} {μ : Mm} {Q : Int32 → Sp → Mm → Prop} {b : Nat} (h : ShBus σ b) (q : Q (nI 0) σ μ) : CTi X mX0_isRested [.ref b, .int ((-6))] σ μ Q := by
  refine CT.of (by decide +kernel) (Nat.le_of_ble_eq_true rfl) ?_
  show PW X mX0_isRested 0 0 0 [some (.ref b), some (.int ((-6)))] [] σ μ (LI Q)
  refine pw_iload_1 dX0_isRested_0 ?_
  refine pw_cSN1i dX0_isRested_1 kX0_84 vX7_isWire sX7_isWire ⟨by decide, by decide⟩ ⟨rfl, rfl⟩ (Nat.le_of_ble_eq_true rfl) (c_X7_isWire (fun j hj h6 => absurd hj (Ne.symm (m6_ne (by omega)))) (fun _ => ?_))
  refine pw_if_eq 26 dX0_isRested_4 (by decide) (fun _ => ?_) (fun hh => absurd (by decide) hh)
  refine pw_iconst (v := nI 0) dX0_isRested_26 (by decide) ?_
  refine pw_zreturn dX0_isRested_27 rfl (by decide) ?_
  exact q
set_option maxRecDepth 100000 in
set_option maxHeartbeats 4000000 in
theorem k_hasFault {X : Cx} {σ : Sp} {μ : Mm} {Q : Int32 → Sp → Mm → Prop} {μ0 : Mm} {b n : Nat} {B : Bs} {v : Nat} (h : ShBus σ b) (hb : BU μ0 b B μ) (wf : WF B) (hn : nS B = n) (hv : v < 6) (q1 : bW B v 1 = nI 1 → Q (nI 1) σ μ) (q0 : bW B v 1 ≠ nI 1 → Q (nI 0) σ μ) : CTi X mX0_hasFault [.ref b, .int (nI v)] σ μ Q := by
  refine CT.of (by decide +kernel) (Nat.le_of_ble_eq_true rfl) ?_
  show PW X mX0_hasFault 0 0 0 [some (.ref b), some (.int (nI v))] [] σ μ (LI Q)
  have h8 : n ≤ 8 := hn ▸ wf.n8
  refine pw_iload_1 dX0_hasFault_0 ?_
  refine pw_cSN1i dX0_hasFault_1 kX0_84 vX7_isWire sX7_isWire ⟨by decide, by decide⟩ ⟨rfl, rfl⟩ (Nat.le_of_ble_eq_true rfl) (c_X7_isWireT (by omega) ?_)
  refine pw_if_eq 23 dX0_hasFault_4 (by decide) (fun hh => absurd hh (by decide)) (fun _ => ?_)
  refine pw_aload_0 dX0_hasFault_7 ?_
  refine pw_getI 0 6 dX0_hasFault_8 fX0_53 rfl (by decide) rfl h.t ?_
  refine pw_top hb.f ?_
  refine pw_iload_1 dX0_hasFault_11 ?_
  refine pw_ishr dX0_hasFault_12 ?_
  refine pw_iconst (v := nI 1) dX0_hasFault_13 (by decide) ?_
  refine pw_iand dX0_hasFault_14 ?_
  refine pw_iconst (v := nI 1) dX0_hasFault_15 (by decide) ?_
  refine pw_icmp_ne 23 dX0_hasFault_16 (by decide) (fun h1 => ?_) (fun h1 => ?_)
  · skip
    refine pw_iconst (v := nI 0) dX0_hasFault_23 (by decide) ?_
    refine pw_zreturn dX0_hasFault_24 rfl (by decide) ?_
    exact q0 (fun e => h1 ((msk_bi (p := fun v => bW B v 1 = nI 1) (by decide) hv).mpr e))
  · skip
    refine pw_iconst (v := nI 1) dX0_hasFault_19 (by decide) ?_
    refine pw_goto 24 dX0_hasFault_20 (by decide) ?_
    refine pw_zreturn dX0_hasFault_24 rfl (by decide) ?_
    exact q1 ((msk_bi (by decide) hv).mp h1)
set_option maxRecDepth 100000 in
set_option maxHeartbeats 4000000 in
theorem k_awake {X : Cx} {σ : Sp} {μ : Mm} {Q : Int32 → Sp → Mm → Prop} {μ0 : Mm} {b n : Nat} {B : Bs} (h : ShBus σ b) (hb : BU μ0 b B μ) (wf : WF B) (hn : nS B = n) (q : Q (msk (awB B) n) σ μ) : CTi X mX0_awakeStations [.ref b] σ μ Q := by
  refine CT.of (by decide +kernel) (Nat.le_of_ble_eq_true rfl) ?_
  show PW X mX0_awakeStations 0 0 0 [some (.ref b), none, none] [] σ μ (LI Q)
  have h8 : n ≤ 8 := hn ▸ wf.n8
  refine pw_iconst (v := nI 0) dX0_awakeStations_0 (by decide) ?_
  refine pw_istore_1 dX0_awakeStations_1 (by decide) ?_
  refine pw_iconst (v := nI 0) dX0_awakeStations_2 (by decide) ?_
  refine pw_istore_2 dX0_awakeStations_3 (by decide) ?_
  refine pw_up (P := fun i => PW X mX0_awakeStations 0 0 4 [some (.ref b), some (.int (msk (awB B) i)), some (.int (nI i))] [] σ μ (LI Q)) n ?_ ?_ 0 (by omega)
  · skip
    refine pw_iload_2 dX0_awakeStations_4 ?_
    refine pw_aload_0 dX0_awakeStations_5 ?_
    refine pw_getI 0 5 dX0_awakeStations_6 fX0_49 rfl (by decide) rfl h.t ?_
    refine pw_top (hb.n wf hn) ?_
    refine pw_icmp_ge 36 dX0_awakeStations_9 (by decide) (fun _ => ?_) (fun hh => absurd (by rw [nI_leI (by omega) (by omega)]; omega) hh)
    refine pw_iload_1 dX0_awakeStations_36 ?_
    refine pw_ireturn dX0_awakeStations_37 rfl ?_
    exact q
  · intro i hi ih
    refine pw_iload_2 dX0_awakeStations_4 ?_
    refine pw_aload_0 dX0_awakeStations_5 ?_
    refine pw_getI 0 5 dX0_awakeStations_6 fX0_49 rfl (by decide) rfl h.t ?_
    refine pw_top (hb.n wf hn) ?_
    refine pw_icmp_ge 36 dX0_awakeStations_9 (by decide) (fun hh => absurd hh (by rw [nI_leI (by omega) (by omega)]; omega)) (fun _ => ?_)
    refine pw_aload_0 dX0_awakeStations_12 ?_
    refine pw_getr 0 4 dX0_awakeStations_13 fX0_34 rfl (by decide) rfl h.t h.r4 ?_
    refine pw_iload_2 dX0_awakeStations_16 ?_
    refine pw_aaldSr dX0_awakeStations_17 h.a5 (by omega) (by decide) (h.s (by omega)) ?_
    refine pw_cV0i 6 dX0_awakeStations_18 kX0_151 vX6_isAwake iX6_isAwake ⟨by decide, by decide⟩ ⟨rfl, rfl⟩ (by decide) rfl (Nat.le_of_ble_eq_true rfl) ((h.S (by omega))).t (k_isAwake h hb (by omega) (fun h1 => ?_) (fun h2 => ?_))
    · skip
      refine pw_if_eq 30 dX0_awakeStations_21 (by decide) (fun hh => absurd hh (by decide)) (fun _ => ?_)
      refine pw_iload_1 dX0_awakeStations_24 ?_
      refine pw_iconst (v := nI 1) dX0_awakeStations_25 (by decide) ?_
      refine pw_iload_2 dX0_awakeStations_26 ?_
      refine pw_ishl dX0_awakeStations_27 ?_
      refine pw_ior dX0_awakeStations_28 ?_
      refine pw_istore_1 dX0_awakeStations_29 (by decide) ?_
      refine pw_iincN_2 dX0_awakeStations_30 (by decide) ?_
      refine pw_goto 4 dX0_awakeStations_33 (by decide) ?_
      rw [msk_y h1] at ih
      exact ih
    · skip
      refine pw_if_eq 30 dX0_awakeStations_21 (by decide) (fun _ => ?_) (fun hh => absurd (by decide) hh)
      refine pw_iincN_2 dX0_awakeStations_30 (by decide) ?_
      refine pw_goto 4 dX0_awakeStations_33 (by decide) ?_
      rw [msk_n h2] at ih
      exact ih
set_option maxRecDepth 100000 in
set_option maxHeartbeats 4000000 in
theorem k_stationsAt {X : Cx} {σ : Sp} {μ : Mm} {Q : Int32 → Sp → Mm → Prop} {μ0 : Mm} {b n : Nat} {B : Bs} {x : Int32} (h : ShBus σ b) (hb : BU μ0 b B μ) (wf : WF B) (hn : nS B = n) (q : Q (msk (fun s => atB B s x) n) σ μ) : CTi X mX0_stationsAt [.ref b, .int x] σ μ Q := by
  refine CT.of (by decide +kernel) (Nat.le_of_ble_eq_true rfl) ?_
  show PW X mX0_stationsAt 0 0 0 [some (.ref b), some (.int x), none, none] [] σ μ (LI Q)
  have h8 : n ≤ 8 := hn ▸ wf.n8
  refine pw_iconst (v := nI 0) dX0_stationsAt_0 (by decide) ?_
  refine pw_istore_2 dX0_stationsAt_1 (by decide) ?_
  refine pw_iconst (v := nI 0) dX0_stationsAt_2 (by decide) ?_
  refine pw_istore_3 dX0_stationsAt_3 (by decide) ?_
  refine pw_up (P := fun i => PW X mX0_stationsAt 0 0 4 [some (.ref b), some (.int x), some (.int (msk (fun s => atB B s x) i)), some (.int (nI i))] [] σ μ (LI Q)) n ?_ ?_ 0 (by omega)
  · skip
    refine pw_iload_3 dX0_stationsAt_4 ?_
    refine pw_aload_0 dX0_stationsAt_5 ?_
    refine pw_getI 0 5 dX0_stationsAt_6 fX0_49 rfl (by decide) rfl h.t ?_
    refine pw_top (hb.n wf hn) ?_
    refine pw_icmp_ge 37 dX0_stationsAt_9 (by decide) (fun _ => ?_) (fun hh => absurd (by rw [nI_leI (by omega) (by omega)]; omega) hh)
    refine pw_iload_2 dX0_stationsAt_37 ?_
    refine pw_ireturn dX0_stationsAt_38 rfl ?_
    exact q
  · intro i hi ih
    refine pw_iload_3 dX0_stationsAt_4 ?_
    refine pw_aload_0 dX0_stationsAt_5 ?_
    refine pw_getI 0 5 dX0_stationsAt_6 fX0_49 rfl (by decide) rfl h.t ?_
    refine pw_top (hb.n wf hn) ?_
    refine pw_icmp_ge 37 dX0_stationsAt_9 (by decide) (fun hh => absurd hh (by rw [nI_leI (by omega) (by omega)]; omega)) (fun _ => ?_)
    refine pw_aload_0 dX0_stationsAt_12 ?_
    refine pw_getr 0 4 dX0_stationsAt_13 fX0_34 rfl (by decide) rfl h.t h.r4 ?_
    refine pw_iload_3 dX0_stationsAt_16 ?_
    refine pw_aaldSr dX0_stationsAt_17 h.a5 (by omega) (by decide) (h.s (by omega)) ?_
    refine pw_iload_1 dX0_stationsAt_18 ?_
    refine pw_cV1i 6 dX0_stationsAt_19 kX0_88 vX6_isAt iX6_isAt ⟨by decide, by decide⟩ ⟨rfl, rfl⟩ (by decide) rfl (Nat.le_of_ble_eq_true rfl) ((h.S (by omega))).t (k_isAt h hb (by omega) (fun h1 => ?_) (fun h2 => ?_))
    · skip
      refine pw_if_eq 31 dX0_stationsAt_22 (by decide) (fun hh => absurd hh (by decide)) (fun _ => ?_)
      refine pw_iload_2 dX0_stationsAt_25 ?_
      refine pw_iconst (v := nI 1) dX0_stationsAt_26 (by decide) ?_
      refine pw_iload_3 dX0_stationsAt_27 ?_
      refine pw_ishl dX0_stationsAt_28 ?_
      refine pw_ior dX0_stationsAt_29 ?_
      refine pw_istore_2 dX0_stationsAt_30 (by decide) ?_
      refine pw_iincN_3 dX0_stationsAt_31 (by decide) ?_
      refine pw_goto 4 dX0_stationsAt_34 (by decide) ?_
      rw [msk_y (p := fun s => atB B s x) h1] at ih
      exact ih
    · skip
      refine pw_if_eq 31 dX0_stationsAt_22 (by decide) (fun _ => ?_) (fun hh => absurd (by decide) hh)
      refine pw_iincN_3 dX0_stationsAt_31 (by decide) ?_
      refine pw_goto 4 dX0_stationsAt_34 (by decide) ?_
      rw [msk_n (p := fun s => atB B s x) h2] at ih
      exact ih
set_option maxRecDepth 100000 in
set_option maxHeartbeats 4000000 in
theorem k_speakersP {X : Cx} {σ : Sp} {μ : Mm} {Q : Int32 → Sp → Mm → Prop} {μ0 : Mm} {b n : Nat} {B : Bs} {y : Int32} {p : Nat → Prop} (h : ShBus σ b) (hb : BU μ0 b B μ) (wf : WF B) (hn : nS B = n) (hp2 : ∀ s, s < n → (¬ μ (st b s) 8 &&& y = 0 ↔ p s)) (q : Q (msk p n) σ μ) : CTi X mX0_speakersOn [.ref b, .int y] σ μ Q := by
  refine CT.of (by decide +kernel) (Nat.le_of_ble_eq_true rfl) ?_
  show PW X mX0_speakersOn 0 0 0 [some (.ref b), some (.int y), none, none] [] σ μ (LI Q)
  have h8 : n ≤ 8 := hn ▸ wf.n8
  refine pw_iconst (v := nI 0) dX0_speakersOn_0 (by decide) ?_
  refine pw_istore_2 dX0_speakersOn_1 (by decide) ?_
  refine pw_iconst (v := nI 0) dX0_speakersOn_2 (by decide) ?_
  refine pw_istore_3 dX0_speakersOn_3 (by decide) ?_
  refine pw_up (P := fun i => PW X mX0_speakersOn 0 0 4 [some (.ref b), some (.int y), some (.int (msk p i)), some (.int (nI i))] [] σ μ (LI Q)) n ?_ ?_ 0 (by omega)
  · skip
    refine pw_iload_3 dX0_speakersOn_4 ?_
    refine pw_aload_0 dX0_speakersOn_5 ?_
    refine pw_getI 0 5 dX0_speakersOn_6 fX0_49 rfl (by decide) rfl h.t ?_
    refine pw_top (hb.n wf hn) ?_
    refine pw_icmp_ge 38 dX0_speakersOn_9 (by decide) (fun _ => ?_) (fun hh => absurd (by rw [nI_leI (by omega) (by omega)]; omega) hh)
    refine pw_iload_2 dX0_speakersOn_38 ?_
    refine pw_ireturn dX0_speakersOn_39 rfl ?_
    exact q
  · intro i hi ih
    refine pw_iload_3 dX0_speakersOn_4 ?_
    refine pw_aload_0 dX0_speakersOn_5 ?_
    refine pw_getI 0 5 dX0_speakersOn_6 fX0_49 rfl (by decide) rfl h.t ?_
    refine pw_top (hb.n wf hn) ?_
    refine pw_icmp_ge 38 dX0_speakersOn_9 (by decide) (fun hh => absurd hh (by rw [nI_leI (by omega) (by omega)]; omega)) (fun _ => ?_)
    refine pw_aload_0 dX0_speakersOn_12 ?_
    refine pw_getr 0 4 dX0_speakersOn_13 fX0_34 rfl (by decide) rfl h.t h.r4 ?_
    refine pw_iload_3 dX0_speakersOn_16 ?_
    refine pw_aaldSr dX0_speakersOn_17 h.a5 (by omega) (by decide) (h.s (by omega)) ?_
    refine pw_getI 6 8 dX0_speakersOn_18 fX0_169 rfl (by decide) rfl ((h.S (by omega))).t ?_
    refine pw_iload_1 dX0_speakersOn_21 ?_
    refine pw_iand dX0_speakersOn_22 ?_
    refine pw_if_eq 32 dX0_speakersOn_23 (by decide) (fun h1 => ?_) (fun h1 => ?_)
    · skip
      refine pw_iincN_3 dX0_speakersOn_32 (by decide) ?_
      refine pw_goto 4 dX0_speakersOn_35 (by decide) ?_
      rw [msk_n (fun hp => (hp2 i hi).mpr hp h1)] at ih
      exact ih
    · skip
      refine pw_iload_2 dX0_speakersOn_26 ?_
      refine pw_iconst (v := nI 1) dX0_speakersOn_27 (by decide) ?_
      refine pw_iload_3 dX0_speakersOn_28 ?_
      refine pw_ishl dX0_speakersOn_29 ?_
      refine pw_ior dX0_speakersOn_30 ?_
      refine pw_istore_2 dX0_speakersOn_31 (by decide) ?_
      refine pw_iincN_3 dX0_speakersOn_32 (by decide) ?_
      refine pw_goto 4 dX0_speakersOn_35 (by decide) ?_
      rw [msk_y ((hp2 i hi).mp h1)] at ih
      exact ih
theorem BU.on {μ0 μ : Mm} {b i : Nat} {B : Bs} (h : BU μ0 b B μ) (wf : WF B) (hi : i < nS B) {p : Nat → Prop} : ¬ μ (st b i) 8 &&& msk p 6 = 0 ↔ spB B i ∧ p (fwB B i) := by
  have h8 := wf.n8
  by_cases hs : spB B i
  · obtain ⟨h0, -⟩ := (wf.s hi).sp hs
    obtain ⟨-, y, y6, hy⟩ := (wf.s hi).word h0
    have hy2 : bS B i 6 = nI y := hy
    have e : fwB B i = y := by unfold fwB; rw [hy2, nI_clamp (by omega)]
    rw [(h.spk0 (by omega) hi hs).2.1, hy2, sh1_msk (by decide) y6, e, Classical.not_not]
    exact ⟨fun k => ⟨hs, k⟩, fun k => k.2⟩
  · rw [(h.sil0 (by omega) (Or.inr (Classical.not_not.mp hs))).2.1]
    have e : nI 0 &&& msk p 6 = 0 := i0_bits.mpr fun j hj => by rw [b_and, show bt (nI 0) j = false from b_0 j, Bool.false_and]
    exact ⟨fun k => absurd e k, fun k => absurd k.1 hs⟩
theorem sh1_is {v : Nat} (hv : v < 6) : nI 1 <<< (nI v &&& 31) = msk (fun i => i = v) 6 := msk_of (by decide) fun i hi => by
  rw [b_sh1 (by omega) hi, decide_eq_true_iff]
  exact ⟨fun k => ⟨by omega, k⟩, fun k => k.2⟩
theorem is63 : nI 63 = msk (fun _ => True) 6 := msk_of (by decide) fun i hi => by
  have h63 : ∀ i, i < 32 → bt (nI 63) i = decide (i < 6) := by decide +kernel
  rw [h63 i hi, decide_eq_true_iff]
  exact ⟨fun k => ⟨k, trivial⟩, fun k => k.1⟩
theorem k_speakersAll {X : Cx} {σ : Sp} {μ : Mm} {Q : Int32 → Sp → Mm → Prop} {μ0 : Mm} {b n : Nat} {B : Bs} (h : ShBus σ b) (hb : BU μ0 b B μ) (wf : WF B) (hn : nS B = n) (q : Q (msk (spB B) n) σ μ) : CTi X mX0_speakersOn [.ref b, .int (nI 63)] σ μ Q :=
  k_speakersP (p := spB B) h hb wf hn (fun s hs => by rw [is63, hb.on wf (by omega)]; exact ⟨fun k => k.1, fun k => ⟨k, trivial⟩⟩) q
theorem k_speakersOn {X : Cx} {σ : Sp} {μ : Mm} {Q : Int32 → Sp → Mm → Prop} {μ0 : Mm} {b n v : Nat} {B : Bs} (h : ShBus σ b) (hb : BU μ0 b B μ) (wf : WF B) (hn : nS B = n) (hv : v < 6) (q : Q (msk (fun s => spB B s ∧ fwB B s = v) n) σ μ) : CTi X mX0_speakersOn [.ref b, .int (nI 1 <<< (nI v &&& 31))] σ μ Q :=
  k_speakersP (p := fun s => spB B s ∧ fwB B s = v) h hb wf hn (fun s hs => by rw [sh1_is hv, hb.on wf (by omega)]) q
def smN (f : Nat → Nat) : Nat → Nat
  | 0 => 0
  | n + 1 => smN f n + f n
def smI (f : Nat → Int32) : Nat → Int32
  | 0 => nI 0
  | n + 1 => smI f n + f n
set_option maxRecDepth 100000 in
set_option maxHeartbeats 4000000 in
theorem k_waitingFor {X : Cx} {σ : Sp} {μ : Mm} {Q : Int32 → Sp → Mm → Prop} {μ0 : Mm} {b n : Nat} {B : Bs} {x : Int32} (h : ShBus σ b) (hb : BU μ0 b B μ) (wf : WF B) (hn : nS B = n) (q : Q (nI (smN (fun s => wcB B s x) n)) σ μ) : CTi X mX0_waitingFor [.ref b, .int x] σ μ Q := by
  refine CT.of (by decide +kernel) (Nat.le_of_ble_eq_true rfl) ?_
  show PW X mX0_waitingFor 0 0 0 [some (.ref b), some (.int x), none, none] [] σ μ (LI Q)
  have h8 : n ≤ 8 := hn ▸ wf.n8
  refine pw_iconst (v := nI 0) dX0_waitingFor_0 (by decide) ?_
  refine pw_istore_2 dX0_waitingFor_1 (by decide) ?_
  refine pw_iconst (v := nI 0) dX0_waitingFor_2 (by decide) ?_
  refine pw_istore_3 dX0_waitingFor_3 (by decide) ?_
  refine pw_up (P := fun i => PW X mX0_waitingFor 0 0 4 [some (.ref b), some (.int x), some (.int (nI (smN (fun s => wcB B s x) i))), some (.int (nI i))] [] σ μ (LI Q)) n ?_ ?_ 0 (by omega)
  · skip
    refine pw_iload_3 dX0_waitingFor_4 ?_
    refine pw_aload_0 dX0_waitingFor_5 ?_
    refine pw_getI 0 5 dX0_waitingFor_6 fX0_49 rfl (by decide) rfl h.t ?_
    refine pw_top (hb.n wf hn) ?_
    refine pw_icmp_ge 34 dX0_waitingFor_9 (by decide) (fun _ => ?_) (fun hh => absurd (by rw [nI_leI (by omega) (by omega)]; omega) hh)
    refine pw_iload_2 dX0_waitingFor_34 ?_
    refine pw_ireturn dX0_waitingFor_35 rfl ?_
    exact q
  · intro i hi ih
    refine pw_iload_3 dX0_waitingFor_4 ?_
    refine pw_aload_0 dX0_waitingFor_5 ?_
    refine pw_getI 0 5 dX0_waitingFor_6 fX0_49 rfl (by decide) rfl h.t ?_
    refine pw_top (hb.n wf hn) ?_
    refine pw_icmp_ge 34 dX0_waitingFor_9 (by decide) (fun hh => absurd hh (by rw [nI_leI (by omega) (by omega)]; omega)) (fun _ => ?_)
    refine pw_iload_2 dX0_waitingFor_12 ?_
    refine pw_aload_0 dX0_waitingFor_13 ?_
    refine pw_getr 0 4 dX0_waitingFor_14 fX0_34 rfl (by decide) rfl h.t h.r4 ?_
    refine pw_iload_3 dX0_waitingFor_17 ?_
    refine pw_aaldSr dX0_waitingFor_18 h.a5 (by omega) (by decide) (h.s (by omega)) ?_
    refine pw_getr 6 1 dX0_waitingFor_19 fX0_91 rfl (by decide) rfl ((h.S (by omega))).t ((h.S (by omega))).r1 ?_
    refine pw_iload_1 dX0_waitingFor_22 ?_
    refine pw_cV1i 5 dX0_waitingFor_23 kX0_219 vX5_countFor iX5_countFor ⟨by decide, by decide⟩ ⟨rfl, rfl⟩ (by decide) rfl (Nat.le_of_ble_eq_true rfl) (((h.S (by omega)))).w (k_countFor h hb wf (by omega) ?_)
    refine pw_iaddN dX0_waitingFor_26 ?_
    refine pw_istore_2 dX0_waitingFor_27 (by decide) ?_
    refine pw_iincN_3 dX0_waitingFor_28 (by decide) ?_
    refine pw_goto 4 dX0_waitingFor_31 (by decide) ?_
    exact ih
set_option maxRecDepth 100000 in
set_option maxHeartbeats 4000000 in
theorem k_hasWords {X : Cx} {σ : Sp} {μ : Mm} {Q : Int32 → Sp → Mm → Prop} {μ0 : Mm} {b n : Nat} {B : Bs} (h : ShBus σ b) (hb : BU μ0 b B μ) (wf : WF B) (hn : nS B = n) (q1 : (∃ s, s < n ∧ 0 < nwF (bS B s)) → Q (nI 1) σ μ) (q0 : (∀ s, s < n → nwF (bS B s) = 0) → Q (nI 0) σ μ) : CTi X mX0_hasWords [.ref b] σ μ Q := by
  refine CT.of (by decide +kernel) (Nat.le_of_ble_eq_true rfl) ?_
  show PW X mX0_hasWords 0 0 0 [some (.ref b), none] [] σ μ (LI Q)
  have h8 : n ≤ 8 := hn ▸ wf.n8
  refine pw_iconst (v := nI 0) dX0_hasWords_0 (by decide) ?_
  refine pw_istore_1 dX0_hasWords_1 (by decide) ?_
  refine pw_up (P := fun i => (∀ j, j < i → nwF (bS B j) = 0) → PW X mX0_hasWords 0 0 2 [some (.ref b), some (.int (nI i))] [] σ μ (LI Q)) n ?_ ?_ 0 (by omega) (fun j hj => absurd hj (by omega))
  · intro hno
    refine pw_iload_1 dX0_hasWords_2 ?_
    refine pw_aload_0 dX0_hasWords_3 ?_
    refine pw_getI 0 5 dX0_hasWords_4 fX0_49 rfl (by decide) rfl h.t ?_
    refine pw_top (hb.n wf hn) ?_
    refine pw_icmp_ge 33 dX0_hasWords_7 (by decide) (fun _ => ?_) (fun hh => absurd (by rw [nI_leI (by omega) (by omega)]; omega) hh)
    refine pw_iconst (v := nI 0) dX0_hasWords_33 (by decide) ?_
    refine pw_zreturn dX0_hasWords_34 rfl (by decide) ?_
    exact q0 hno
  · intro i hi ih hno
    have hw4 := (wf.w (i := i) (by omega)).2
    refine pw_iload_1 dX0_hasWords_2 ?_
    refine pw_aload_0 dX0_hasWords_3 ?_
    refine pw_getI 0 5 dX0_hasWords_4 fX0_49 rfl (by decide) rfl h.t ?_
    refine pw_top (hb.n wf hn) ?_
    refine pw_icmp_ge 33 dX0_hasWords_7 (by decide) (fun hh => absurd hh (by rw [nI_leI (by omega) (by omega)]; omega)) (fun _ => ?_)
    refine pw_aload_0 dX0_hasWords_10 ?_
    refine pw_getr 0 4 dX0_hasWords_11 fX0_34 rfl (by decide) rfl h.t h.r4 ?_
    refine pw_iload_1 dX0_hasWords_14 ?_
    refine pw_aaldSr dX0_hasWords_15 h.a5 (by omega) (by decide) (h.s (by omega)) ?_
    refine pw_getr 6 1 dX0_hasWords_16 fX0_91 rfl (by decide) rfl ((h.S (by omega))).t ((h.S (by omega))).r1 ?_
    refine pw_getI 5 3 dX0_hasWords_19 fX0_95 rfl (by decide) rfl (((h.S (by omega)))).w ?_
    refine pw_top ((hb.sl (by omega)).trans (wf.w (by omega)).1) ?_
    refine pw_if_le 27 dX0_hasWords_22 (by decide) (fun h1 => ?_) (fun h1 => ?_)
    · skip
      refine pw_iincN_1 dX0_hasWords_27 (by decide) ?_
      refine pw_goto 2 dX0_hasWords_30 (by decide) ?_
      refine ih (fun j hj => ?_)
      rcases Nat.lt_or_ge j i with h9 | h9
      · exact hno j h9
      · have e : j = i := by omega
        subst e
        have h7 := h1
        rw [show (0 : Int32) = nI 0 from rfl, nI_leI (by omega) (by omega)] at h7
        omega
    · skip
      refine pw_iconst (v := nI 1) dX0_hasWords_25 (by decide) ?_
      refine pw_zreturn dX0_hasWords_26 rfl (by decide) ?_
      exact q1 ⟨i, hi, Nat.pos_of_ne_zero (fun e => h1 (by rw [e]; exact Int32.le_refl _))⟩
theorem gu_f (f : Nat → Int32) : upd (upd (qtF f) 22 (qtF f 22 + nI 1)) 7 (upd (qtF f) 22 (qtF f 22 + nI 1) 7 + nI 1) = guF f := by
  funext k
  unfold guF qtF
  by_cases h7 : k = 7
  · subst h7
    simp (disch := omega) only [upd_s, upd_n]
  · by_cases h22 : k = 22
    · subst h22
      simp (disch := omega) only [upd_s, upd_n]
    · by_cases h17 : k = 17
      · subst h17
        simp (disch := omega) only [upd_s, upd_n]
      · by_cases h18 : k = 18
        · subst h18
          simp (disch := omega) only [upd_s, upd_n]
        · simp (disch := omega) only [upd_n]
theorem gu_v (f : Nat → Int32) (x : Int32) : upd (qtF f) 22 x 7 = f 7 := by
  unfold qtF
  simp (disch := omega) only [upd_n]
theorem gu_o (f : Nat → Int32) {k : Nat} (h : k ≠ 7 ∧ k ≠ 22 ∧ k ≠ 17 ∧ k ≠ 18) : guF f k = f k := by
  unfold guF qtF
  simp (disch := omega) only [upd_n]
theorem gu_17 (f : Nat → Int32) : guF f 17 = -6 := by
  unfold guF qtF
  simp (disch := omega) only [upd_s, upd_n]
theorem gu_18 (f : Nat → Int32) : guF f 18 = nI 0 := by
  unfold guF qtF
  simp (disch := omega) only [upd_s, upd_n]
theorem lv_20 (g : Nat → Int32) (x : Int32) (h : nwF g ≤ 4) : upd (lvF g) 20 x = lvF (upd g 20 x) := by
  have e : nwF (upd g 20 x) = nwF g := by
    unfold nwF
    rw [upd_n _ _ (by omega)]
  funext k
  by_cases hk : k = 20
  · subst hk
    rw [upd_s, lv_hi (by omega) (by rw [e]; exact h), upd_s]
  · rw [upd_n _ _ hk]
    unfold lvF
    rw [e]
    by_cases h5 : 5 ≤ k ∧ k < 5 + 3 * (nwF g - 1)
    · rw [if_pos h5, if_pos h5, upd_n _ _ (by omega)]
    · rw [if_neg h5, if_neg h5]
      unfold qtF
      by_cases h4 : k = 4
      · subst h4
        rw [upd_s, upd_s]
      · by_cases h18 : k = 18
        · subst h18
          simp (disch := omega) only [upd_s, upd_n]
        · by_cases h17 : k = 17
          · subst h17
            simp (disch := omega) only [upd_s, upd_n]
          · simp (disch := omega) only [upd_n]
theorem gu_nw (f : Nat → Int32) : nwF (guF f) = nwF f := by
  unfold nwF
  rw [gu_o f (by omega)]
set_option maxRecDepth 100000 in
set_option maxHeartbeats 4000000 in
theorem k_giveUp {X : Cx} {σ : Sp} {μ : Mm} {Q : Sp → Mm → Prop} {μ0 : Mm} {b n : Nat} {B : Bs} {i : Nat} (h : ShBus σ b) (hb : BU μ0 b B μ) (wf : WF B) (hn : nS B = n) (hi : i < n) (h0 : 0 < nwF (bS B i)) (q : ∀ μ', BU μ0 b (guB B i) μ' → Q σ μ') : CTv X mX0_giveUp [.ref b, .ref (st b i)] σ μ Q := by
  refine CT.of (by decide +kernel) (Nat.le_of_ble_eq_true rfl) ?_
  show PW X mX0_giveUp 0 0 0 [some (.ref b), some (.ref (st b i)), none] [] σ μ (LV Q)
  have h8 : n ≤ 8 := hn ▸ wf.n8
  have hw := wf.w (i := i) (by omega)
  obtain ⟨-, y, y6, hy⟩ := (wf.s (i := i) (by omega)).word h0
  have hy : bS B i 6 = nI y := hy
  refine pw_aload_1 dX0_giveUp_0 ?_
  refine pw_getr 6 1 dX0_giveUp_1 fX0_91 rfl (by decide) rfl ((h.S (by omega))).t ((h.S (by omega))).r1 ?_
  refine pw_iconst (v := nI 0) dX0_giveUp_4 (by decide) ?_
  refine pw_cV1i 5 dX0_giveUp_5 kX0_154 vX5_wireAt iX5_wireAt ⟨by decide, by decide⟩ ⟨rfl, rfl⟩ (by decide) rfl (Nat.le_of_ble_eq_true rfl) (((h.S (by omega)))).w (k_wire0 h hb wf (by omega) h0 ?_)
  refine pw_top hy ?_
  refine pw_istore_2 dX0_giveUp_8 (by decide) ?_
  refine pw_aload_1 dX0_giveUp_9 ?_
  refine pw_cV0v 6 dX0_giveUp_10 kX0_111 vX6_fallSilent iX6_fallSilent ⟨by decide, by decide⟩ ⟨rfl, rfl⟩ (by decide) rfl (Nat.le_of_ble_eq_true rfl) ((h.S (by omega))).t (k_fallSilent h hb (by omega) (fun μ1 hb1 => ?_))
  refine pw_aload_1 dX0_giveUp_13 ?_
  refine pw_dup dX0_giveUp_14 ?_
  refine pw_getI 6 14 dX0_giveUp_15 fX0_199 rfl (by decide) rfl ((h.S (by omega))).t ?_
  refine pw_top (hb1.s14 (by omega)) ?_
  refine pw_iconst (v := nI 1) dX0_giveUp_18 (by decide) ?_
  refine pw_iadd dX0_giveUp_19 ?_
  refine pw_putI 6 14 dX0_giveUp_20 fX0_199 rfl (by decide) rfl (Or.inl rfl) rfl (by decide) ((h.S (by omega))).t ?_
  refine pw_gen (P := BU μ0 b (setS (setS B i (qtF (bS B i))) i (upd (bS (setS B i (qtF (bS B i))) i) 22 ((bS (setS B i (qtF (bS B i))) i 22) + (nI 1))))) (hb1.gave (by omega) _) (fun μ2 hb2 => ?_)
  refine pw_aload_1 dX0_giveUp_23 ?_
  refine pw_getr 6 1 dX0_giveUp_24 fX0_91 rfl (by decide) rfl ((h.S (by omega))).t ((h.S (by omega))).r1 ?_
  refine pw_cV0i 5 dX0_giveUp_27 kX0_202 vX5_tryFirst iX5_tryFirst ⟨by decide, by decide⟩ ⟨rfl, rfl⟩ (by decide) rfl (Nat.le_of_ble_eq_true rfl) (((h.S (by omega)))).w (k_tryFirst (w := nwF (bS B i)) h hb2 (by omega) (by simp only [setS_setS, bS_setS_s]; simpa (disch := omega) only [qtF, upd_n] using hw.1) hw.2 h0 (fun μ3 hb3 => ?_))
  refine pw_aload_0 dX0_giveUp_30 ?_
  refine pw_getr 0 0 dX0_giveUp_31 fX0_18 rfl (by decide) rfl h.t h.r0 ?_
  refine pw_iconst (v := nI 4) dX0_giveUp_34 (by decide) ?_
  refine pw_ialdN dX0_giveUp_35 h.a1 (by omega) (by decide) ?_
  refine pw_top (hb3.g (by decide)) ?_
  refine pw_icmp_ge 40 dX0_giveUp_36 (by decide) (fun h1 => ?_) (fun h1 => ?_)
  · skip
    refine pw_aload_1 dX0_giveUp_40 ?_
    refine pw_getr 6 1 dX0_giveUp_41 fX0_91 rfl (by decide) rfl ((h.S (by omega))).t ((h.S (by omega))).r1 ?_
    refine pw_cV0v 5 dX0_giveUp_44 kX0_108 vX5_dropFirst iX5_dropFirst ⟨by decide, by decide⟩ ⟨rfl, rfl⟩ (by decide) rfl (Nat.le_of_ble_eq_true rfl) (((h.S (by omega)))).w (k_dropFirst (w := nwF (bS B i)) h hb3 (by omega) (by simp only [setS_setS, bS_setS_s, gu_f]; rw [gu_o _ (by omega)]; exact hw.1) hw.2 h0 (by simp only [setS_setS, bS_setS_s, gu_f]; exact gu_17 _) (by simp only [setS_setS, bS_setS_s, gu_f]; exact gu_18 _) (fun μ4 hb4 => ?_))
    refine pw_aload_1 dX0_giveUp_47 ?_
    refine pw_dup dX0_giveUp_48 ?_
    refine pw_getI 6 12 dX0_giveUp_49 fX0_205 rfl (by decide) rfl ((h.S (by omega))).t ?_
    refine pw_top (hb4.s12 (by omega)) ?_
    refine pw_iconst (v := nI 1) dX0_giveUp_52 (by decide) ?_
    refine pw_iadd dX0_giveUp_53 ?_
    refine pw_putI 6 12 dX0_giveUp_54 fX0_205 rfl (by decide) rfl (Or.inl rfl) rfl (by decide) ((h.S (by omega))).t ?_
    refine pw_gen (P := BU μ0 b (setS (setS (setS (setS (setS B i (qtF (bS B i))) i (upd (bS (setS B i (qtF (bS B i))) i) 22 ((bS (setS B i (qtF (bS B i))) i 22) + (nI 1)))) i (upd (bS (setS (setS B i (qtF (bS B i))) i (upd (bS (setS B i (qtF (bS B i))) i) 22 ((bS (setS B i (qtF (bS B i))) i 22) + (nI 1)))) i) 7 (bS (setS (setS B i (qtF (bS B i))) i (upd (bS (setS B i (qtF (bS B i))) i) 22 ((bS (setS B i (qtF (bS B i))) i 22) + (nI 1)))) i 7 + nI 1))) i (lvF (bS (setS (setS (setS B i (qtF (bS B i))) i (upd (bS (setS B i (qtF (bS B i))) i) 22 ((bS (setS B i (qtF (bS B i))) i 22) + (nI 1)))) i (upd (bS (setS (setS B i (qtF (bS B i))) i (upd (bS (setS B i (qtF (bS B i))) i) 22 ((bS (setS B i (qtF (bS B i))) i 22) + (nI 1)))) i) 7 (bS (setS (setS B i (qtF (bS B i))) i (upd (bS (setS B i (qtF (bS B i))) i) 22 ((bS (setS B i (qtF (bS B i))) i 22) + (nI 1)))) i 7 + nI 1))) i))) i (upd (bS (setS (setS (setS (setS B i (qtF (bS B i))) i (upd (bS (setS B i (qtF (bS B i))) i) 22 ((bS (setS B i (qtF (bS B i))) i 22) + (nI 1)))) i (upd (bS (setS (setS B i (qtF (bS B i))) i (upd (bS (setS B i (qtF (bS B i))) i) 22 ((bS (setS B i (qtF (bS B i))) i 22) + (nI 1)))) i) 7 (bS (setS (setS B i (qtF (bS B i))) i (upd (bS (setS B i (qtF (bS B i))) i) 22 ((bS (setS B i (qtF (bS B i))) i 22) + (nI 1)))) i 7 + nI 1))) i (lvF (bS (setS (setS (setS B i (qtF (bS B i))) i (upd (bS (setS B i (qtF (bS B i))) i) 22 ((bS (setS B i (qtF (bS B i))) i 22) + (nI 1)))) i (upd (bS (setS (setS B i (qtF (bS B i))) i (upd (bS (setS B i (qtF (bS B i))) i) 22 ((bS (setS B i (qtF (bS B i))) i 22) + (nI 1)))) i) 7 (bS (setS (setS B i (qtF (bS B i))) i (upd (bS (setS B i (qtF (bS B i))) i) 22 ((bS (setS B i (qtF (bS B i))) i 22) + (nI 1)))) i 7 + nI 1))) i))) i) 20 ((bS (setS (setS (setS (setS B i (qtF (bS B i))) i (upd (bS (setS B i (qtF (bS B i))) i) 22 ((bS (setS B i (qtF (bS B i))) i 22) + (nI 1)))) i (upd (bS (setS (setS B i (qtF (bS B i))) i (upd (bS (setS B i (qtF (bS B i))) i) 22 ((bS (setS B i (qtF (bS B i))) i 22) + (nI 1)))) i) 7 (bS (setS (setS B i (qtF (bS B i))) i (upd (bS (setS B i (qtF (bS B i))) i) 22 ((bS (setS B i (qtF (bS B i))) i 22) + (nI 1)))) i 7 + nI 1))) i (lvF (bS (setS (setS (setS B i (qtF (bS B i))) i (upd (bS (setS B i (qtF (bS B i))) i) 22 ((bS (setS B i (qtF (bS B i))) i 22) + (nI 1)))) i (upd (bS (setS (setS B i (qtF (bS B i))) i (upd (bS (setS B i (qtF (bS B i))) i) 22 ((bS (setS B i (qtF (bS B i))) i 22) + (nI 1)))) i) 7 (bS (setS (setS B i (qtF (bS B i))) i (upd (bS (setS B i (qtF (bS B i))) i) 22 ((bS (setS B i (qtF (bS B i))) i 22) + (nI 1)))) i 7 + nI 1))) i))) i 20) + (nI 1))))) (hb4.lost (by omega) _) (fun μ5 hb5 => ?_)
    refine pw_iload_2 dX0_giveUp_57 ?_
    refine pw_cSN1i dX0_giveUp_58 kX0_84 vX7_isWire sX7_isWire ⟨by decide, by decide⟩ ⟨rfl, rfl⟩ (Nat.le_of_ble_eq_true rfl) (c_X7_isWireT (by omega) ?_)
    refine pw_if_eq 74 dX0_giveUp_61 (by decide) (fun hh => absurd hh (by decide)) (fun _ => ?_)
    refine pw_aload_0 dX0_giveUp_64 ?_
    refine pw_getr 0 3 dX0_giveUp_65 fX0_29 rfl (by decide) rfl h.t h.r3 ?_
    refine pw_iload_2 dX0_giveUp_68 ?_
    refine pw_dup2_11 dX0_giveUp_69 ?_
    refine pw_ialdN dX0_giveUp_70 h.a4 (by omega) (by decide) ?_
    refine pw_top (hb5.w3 (by omega)) ?_
    refine pw_iconst (v := nI 1) dX0_giveUp_71 (by decide) ?_
    refine pw_iadd dX0_giveUp_72 ?_
    refine pw_iastN dX0_giveUp_73 h.a4 (by omega) (by decide) ?_
    refine pw_gen (P := BU μ0 b (setW (setS (setS (setS (setS (setS B i (qtF (bS B i))) i (upd (bS (setS B i (qtF (bS B i))) i) 22 ((bS (setS B i (qtF (bS B i))) i 22) + (nI 1)))) i (upd (bS (setS (setS B i (qtF (bS B i))) i (upd (bS (setS B i (qtF (bS B i))) i) 22 ((bS (setS B i (qtF (bS B i))) i 22) + (nI 1)))) i) 7 (bS (setS (setS B i (qtF (bS B i))) i (upd (bS (setS B i (qtF (bS B i))) i) 22 ((bS (setS B i (qtF (bS B i))) i 22) + (nI 1)))) i 7 + nI 1))) i (lvF (bS (setS (setS (setS B i (qtF (bS B i))) i (upd (bS (setS B i (qtF (bS B i))) i) 22 ((bS (setS B i (qtF (bS B i))) i 22) + (nI 1)))) i (upd (bS (setS (setS B i (qtF (bS B i))) i (upd (bS (setS B i (qtF (bS B i))) i) 22 ((bS (setS B i (qtF (bS B i))) i 22) + (nI 1)))) i) 7 (bS (setS (setS B i (qtF (bS B i))) i (upd (bS (setS B i (qtF (bS B i))) i) 22 ((bS (setS B i (qtF (bS B i))) i 22) + (nI 1)))) i 7 + nI 1))) i))) i (upd (bS (setS (setS (setS (setS B i (qtF (bS B i))) i (upd (bS (setS B i (qtF (bS B i))) i) 22 ((bS (setS B i (qtF (bS B i))) i 22) + (nI 1)))) i (upd (bS (setS (setS B i (qtF (bS B i))) i (upd (bS (setS B i (qtF (bS B i))) i) 22 ((bS (setS B i (qtF (bS B i))) i 22) + (nI 1)))) i) 7 (bS (setS (setS B i (qtF (bS B i))) i (upd (bS (setS B i (qtF (bS B i))) i) 22 ((bS (setS B i (qtF (bS B i))) i 22) + (nI 1)))) i 7 + nI 1))) i (lvF (bS (setS (setS (setS B i (qtF (bS B i))) i (upd (bS (setS B i (qtF (bS B i))) i) 22 ((bS (setS B i (qtF (bS B i))) i 22) + (nI 1)))) i (upd (bS (setS (setS B i (qtF (bS B i))) i (upd (bS (setS B i (qtF (bS B i))) i) 22 ((bS (setS B i (qtF (bS B i))) i 22) + (nI 1)))) i) 7 (bS (setS (setS B i (qtF (bS B i))) i (upd (bS (setS B i (qtF (bS B i))) i) 22 ((bS (setS B i (qtF (bS B i))) i 22) + (nI 1)))) i 7 + nI 1))) i))) i) 20 ((bS (setS (setS (setS (setS B i (qtF (bS B i))) i (upd (bS (setS B i (qtF (bS B i))) i) 22 ((bS (setS B i (qtF (bS B i))) i 22) + (nI 1)))) i (upd (bS (setS (setS B i (qtF (bS B i))) i (upd (bS (setS B i (qtF (bS B i))) i) 22 ((bS (setS B i (qtF (bS B i))) i 22) + (nI 1)))) i) 7 (bS (setS (setS B i (qtF (bS B i))) i (upd (bS (setS B i (qtF (bS B i))) i) 22 ((bS (setS B i (qtF (bS B i))) i 22) + (nI 1)))) i 7 + nI 1))) i (lvF (bS (setS (setS (setS B i (qtF (bS B i))) i (upd (bS (setS B i (qtF (bS B i))) i) 22 ((bS (setS B i (qtF (bS B i))) i 22) + (nI 1)))) i (upd (bS (setS (setS B i (qtF (bS B i))) i (upd (bS (setS B i (qtF (bS B i))) i) 22 ((bS (setS B i (qtF (bS B i))) i 22) + (nI 1)))) i) 7 (bS (setS (setS B i (qtF (bS B i))) i (upd (bS (setS B i (qtF (bS B i))) i) 22 ((bS (setS B i (qtF (bS B i))) i 22) + (nI 1)))) i 7 + nI 1))) i))) i 20) + (nI 1)))) y 3 ((bW (setS (setS (setS (setS (setS B i (qtF (bS B i))) i (upd (bS (setS B i (qtF (bS B i))) i) 22 ((bS (setS B i (qtF (bS B i))) i 22) + (nI 1)))) i (upd (bS (setS (setS B i (qtF (bS B i))) i (upd (bS (setS B i (qtF (bS B i))) i) 22 ((bS (setS B i (qtF (bS B i))) i 22) + (nI 1)))) i) 7 (bS (setS (setS B i (qtF (bS B i))) i (upd (bS (setS B i (qtF (bS B i))) i) 22 ((bS (setS B i (qtF (bS B i))) i 22) + (nI 1)))) i 7 + nI 1))) i (lvF (bS (setS (setS (setS B i (qtF (bS B i))) i (upd (bS (setS B i (qtF (bS B i))) i) 22 ((bS (setS B i (qtF (bS B i))) i 22) + (nI 1)))) i (upd (bS (setS (setS B i (qtF (bS B i))) i (upd (bS (setS B i (qtF (bS B i))) i) 22 ((bS (setS B i (qtF (bS B i))) i 22) + (nI 1)))) i) 7 (bS (setS (setS B i (qtF (bS B i))) i (upd (bS (setS B i (qtF (bS B i))) i) 22 ((bS (setS B i (qtF (bS B i))) i 22) + (nI 1)))) i 7 + nI 1))) i))) i (upd (bS (setS (setS (setS (setS B i (qtF (bS B i))) i (upd (bS (setS B i (qtF (bS B i))) i) 22 ((bS (setS B i (qtF (bS B i))) i 22) + (nI 1)))) i (upd (bS (setS (setS B i (qtF (bS B i))) i (upd (bS (setS B i (qtF (bS B i))) i) 22 ((bS (setS B i (qtF (bS B i))) i 22) + (nI 1)))) i) 7 (bS (setS (setS B i (qtF (bS B i))) i (upd (bS (setS B i (qtF (bS B i))) i) 22 ((bS (setS B i (qtF (bS B i))) i 22) + (nI 1)))) i 7 + nI 1))) i (lvF (bS (setS (setS (setS B i (qtF (bS B i))) i (upd (bS (setS B i (qtF (bS B i))) i) 22 ((bS (setS B i (qtF (bS B i))) i 22) + (nI 1)))) i (upd (bS (setS (setS B i (qtF (bS B i))) i (upd (bS (setS B i (qtF (bS B i))) i) 22 ((bS (setS B i (qtF (bS B i))) i 22) + (nI 1)))) i) 7 (bS (setS (setS B i (qtF (bS B i))) i (upd (bS (setS B i (qtF (bS B i))) i) 22 ((bS (setS B i (qtF (bS B i))) i 22) + (nI 1)))) i 7 + nI 1))) i))) i) 20 ((bS (setS (setS (setS (setS B i (qtF (bS B i))) i (upd (bS (setS B i (qtF (bS B i))) i) 22 ((bS (setS B i (qtF (bS B i))) i 22) + (nI 1)))) i (upd (bS (setS (setS B i (qtF (bS B i))) i (upd (bS (setS B i (qtF (bS B i))) i) 22 ((bS (setS B i (qtF (bS B i))) i 22) + (nI 1)))) i) 7 (bS (setS (setS B i (qtF (bS B i))) i (upd (bS (setS B i (qtF (bS B i))) i) 22 ((bS (setS B i (qtF (bS B i))) i 22) + (nI 1)))) i 7 + nI 1))) i (lvF (bS (setS (setS (setS B i (qtF (bS B i))) i (upd (bS (setS B i (qtF (bS B i))) i) 22 ((bS (setS B i (qtF (bS B i))) i 22) + (nI 1)))) i (upd (bS (setS (setS B i (qtF (bS B i))) i (upd (bS (setS B i (qtF (bS B i))) i) 22 ((bS (setS B i (qtF (bS B i))) i 22) + (nI 1)))) i) 7 (bS (setS (setS B i (qtF (bS B i))) i (upd (bS (setS B i (qtF (bS B i))) i) 22 ((bS (setS B i (qtF (bS B i))) i 22) + (nI 1)))) i 7 + nI 1))) i))) i 20) + (nI 1)))) y 3) + (nI 1)))) (hb5.lostOn _) (fun μ6 hb6 => ?_)
    refine pw_return dX0_giveUp_74 rfl ?_
    refine q _ (Eq.mp (congrArg (fun b' => BU μ0 b b' _) ?_) hb6)
    have c9 := h1
    simp only [setS_setS, bS_setS_s, bG_setS, gu_v] at c9
    unfold guB
    rw [if_pos c9]
    simp only [setS_setS, bS_setS_s, gu_f, bW_setS, tyB]
    rw [lv_20 _ _ (by rw [gu_nw]; exact hw.2), lv_hi (by omega) (by rw [gu_nw]; exact hw.2), gu_o _ (by omega), show fwB B i = y by unfold fwB; rw [hy, nI_clamp (by omega)]]
    rfl
  · skip
    refine pw_return dX0_giveUp_39 rfl ?_
    refine q _ (Eq.mp (congrArg (fun b' => BU μ0 b b' _) ?_) hb3)
    have c9 := h1
    simp only [setS_setS, bS_setS_s, bG_setS, gu_v] at c9
    simp only [setS_setS, bS_setS_s, gu_f]
    unfold guB
    rw [if_neg c9]
/-- forget locals -/
def fgl : List (Option Value) → List (Option Value) → Prop
  | [], [] => True
  | a :: as, c :: cs => (a = none ∨ a = c) ∧ fgl as cs
  | _, _ => False
theorem fgl_get : ∀ {ls' ls : List (Option Value)}, fgl ls' ls → ∀ (i : Nat) (v : Value), ls'[i]? = some (some v) → ls[i]? = some (some v)
  | [], [], _, i, v, h => by simp at h
  | a :: as, c :: cs, hf, 0, v, h => by
    have e : a = some v := Option.some.inj h
    rcases hf.1 with h1 | h1
    · rw [h1] at e
      cases e
    · show some c = _
      rw [← h1, e]
  | a :: as, c :: cs, hf, i + 1, v, h => fgl_get hf.2 i v h
theorem pw_fg {X : Cx} {M : Mt} {b1 b2 pc : Nat} {ls ls' : List (Option Value)} {st0 : List Value} {σ : Sp} {μ : Mm} {Q : Option Value → Sp → Mm → Prop} (hl : fgl ls' ls) (k : PW X M b1 b2 pc ls' st0 σ μ Q) : PW X M b1 b2 pc ls st0 σ μ Q :=
  fun p e R s m args below meth c H locs cells slots ar Z B S P F L c1 c2 K => k p e R s m args below meth c H locs cells slots ar Z B S P F ⟨L.1, L.2.1, fun i v h => L.2.2 i v (fgl_get hl i v h)⟩ c1 c2 K
theorem hr_wf {B : Bs} {i k : Nat} (wf : WF B) (hk : k ≤ nS B) : WF (itr (heS B i) k B) ∧ nS (itr (heS B i) k B) = nS B := itr_ind (P := fun _ x => WF x ∧ nS x = nS B) ⟨wf, rfl⟩ fun _ x hi hx => ⟨hx.1.khe (by omega), Fr_heS.n.trans hx.2⟩
theorem hr_G {B : Bs} {i k : Nat} : bG (itr (heS B i) k B) = bG B := (Fr_itr (p := id) (fun _ _ => Fr_heS) k B).1
set_option maxRecDepth 100000 in
set_option maxHeartbeats 4000000 in
theorem k_beHeard {X : Cx} {σ : Sp} {μ : Mm} {Q : Sp → Mm → Prop} {μ0 : Mm} {b n : Nat} {B : Bs} {i : Nat} (h : ShBus σ b) (hb : BU μ0 b B μ) (wf : WF B) (hn : nS B = n) (hi : i < n) (hs : spB B i) (q : ∀ μ', BU μ0 b (hdB B i) μ' → Q σ μ') : CTv X mX0_beHeard [.ref b, .ref (st b i)] σ μ Q := by
  refine CT.of (by decide +kernel) (Nat.le_of_ble_eq_true rfl) ?_
  show PW X mX0_beHeard 0 0 0 [some (.ref b), some (.ref (st b i)), none, none, none, none] [] σ μ (LV Q)
  have h8 : n ≤ 8 := hn ▸ wf.n8
  have hw := wf.w (i := i) (by omega)
  have h0 := ((wf.s (i := i) (by omega)).sp hs).1
  obtain ⟨-, y, y6, hy⟩ := (wf.s (i := i) (by omega)).word h0
  have hy : bS B i 6 = nI y := hy
  refine pw_aload_1 dX0_beHeard_0 ?_
  refine pw_getr 6 1 dX0_beHeard_1 fX0_91 rfl (by decide) rfl ((h.S (by omega))).t ((h.S (by omega))).r1 ?_
  refine pw_iconst (v := nI 0) dX0_beHeard_4 (by decide) ?_
  refine pw_cV1i 5 dX0_beHeard_5 kX0_104 vX5_numberAt iX5_numberAt ⟨by decide, by decide⟩ ⟨rfl, rfl⟩ (by decide) rfl (Nat.le_of_ble_eq_true rfl) (((h.S (by omega)))).w (k_number0 h hb wf (by omega) h0 ?_)
  refine pw_istore_2 dX0_beHeard_8 (by decide) ?_
  refine pw_aload_1 dX0_beHeard_9 ?_
  refine pw_getr 6 1 dX0_beHeard_10 fX0_91 rfl (by decide) rfl ((h.S (by omega))).t ((h.S (by omega))).r1 ?_
  refine pw_iconst (v := nI 0) dX0_beHeard_13 (by decide) ?_
  refine pw_cV1i 5 dX0_beHeard_14 kX0_154 vX5_wireAt iX5_wireAt ⟨by decide, by decide⟩ ⟨rfl, rfl⟩ (by decide) rfl (Nat.le_of_ble_eq_true rfl) (((h.S (by omega)))).w (k_wire0 h hb wf (by omega) h0 ?_)
  refine pw_top hy ?_
  refine pw_istore_3 dX0_beHeard_17 (by decide) ?_
  refine pw_aload_1 dX0_beHeard_18 ?_
  refine pw_getI 6 10 dX0_beHeard_19 fX0_175 rfl (by decide) rfl ((h.S (by omega))).t ?_
  refine pw_top (hb.s10 (by omega)) ?_
  refine pw_iconst (v := nI 1) dX0_beHeard_22 (by decide) ?_
  refine pw_aload_1 dX0_beHeard_23 ?_
  refine pw_getI 6 0 dX0_beHeard_24 fX0_181 rfl (by decide) rfl ((h.S (by omega))).t ?_
  refine pw_top (hb.s0 (by omega)) ?_
  refine pw_ishl dX0_beHeard_27 ?_
  refine pw_iconst (v := -1) dX0_beHeard_28 (by decide) ?_
  refine pw_ixor dX0_beHeard_29 ?_
  refine pw_iand dX0_beHeard_30 ?_
  refine pw_istore_4 dX0_beHeard_31 (by decide) ?_
  refine pw_iconst (v := nI 0) dX0_beHeard_33 (by decide) ?_
  refine pw_istore_5 dX0_beHeard_34 (by decide) ?_
  refine pw_fg (ls' := [some (.ref b), some (.ref (st b i)), some (.int (bS B i 5)), some (.int (nI y)), some (.int (bS B i 18 &&& ((nI 1 <<< (nI i &&& 31)) ^^^ (-1)))), some (.int (nI 0))]) ⟨Or.inr rfl, Or.inr rfl, Or.inr rfl, Or.inr rfl, Or.inr rfl, Or.inr rfl, trivial⟩ ?_
  refine pw_up (P := fun k => ∀ μ, BU μ0 b (itr (heS B i) k B) μ → PW X mX0_beHeard 0 0 36 [some (.ref b), some (.ref (st b i)), some (.int (bS B i 5)), some (.int (nI y)), some (.int (bS B i 18 &&& ((nI 1 <<< (nI i &&& 31)) ^^^ (-1)))), some (.int (nI k))] [] σ μ (LV Q)) n ?_ ?_ 0 (by omega) _ hb
  · intro μ1 hb1
    have e1 : bS (hrB B i) i = bS B i := hr_st _
    have wf1 : WF (hrB B i) := wf.hr
    have hn1 : nS (hrB B i) = n := Fr_hr.n.trans hn
    rw [show itr (heS B i) n B = hrB B i by rw [← hn]; rfl] at hb1
    refine pw_iload_5 dX0_beHeard_36 ?_
    refine pw_aload_0 dX0_beHeard_38 ?_
    refine pw_getI 0 5 dX0_beHeard_39 fX0_49 rfl (by decide) rfl h.t ?_
    refine pw_top (hb1.n wf1 hn1) ?_
    refine pw_icmp_ge 103 dX0_beHeard_42 (by decide) (fun _ => ?_) (fun hh => absurd (by rw [nI_leI (by omega) (by omega)]; omega) hh)
    refine pw_aload_1 dX0_beHeard_103 ?_
    refine pw_dup dX0_beHeard_104 ?_
    refine pw_getI 6 11 dX0_beHeard_105 fX0_196 rfl (by decide) rfl ((h.S (by omega))).t ?_
    refine pw_top (hb1.s11 (by omega)) ?_
    refine pw_iconst (v := nI 1) dX0_beHeard_108 (by decide) ?_
    refine pw_iadd dX0_beHeard_109 ?_
    refine pw_putI 6 11 dX0_beHeard_110 fX0_196 rfl (by decide) rfl (Or.inl rfl) rfl (by decide) ((h.S (by omega))).t ?_
    refine pw_gen (P := BU μ0 b (setS (hrB B i) i (upd (bS (hrB B i) i) 19 ((bS (hrB B i) i 19) + (nI 1))))) (hb1.good (by omega) _) (fun μ1 hb1 => ?_)
    refine pw_iload_3 dX0_beHeard_113 ?_
    refine pw_cSN1i dX0_beHeard_114 kX0_84 vX7_isWire sX7_isWire ⟨by decide, by decide⟩ ⟨rfl, rfl⟩ (Nat.le_of_ble_eq_true rfl) (c_X7_isWireT (by omega) ?_)
    refine pw_if_eq 130 dX0_beHeard_117 (by decide) (fun hh => absurd hh (by decide)) (fun _ => ?_)
    refine pw_aload_0 dX0_beHeard_120 ?_
    refine pw_getr 0 2 dX0_beHeard_121 fX0_26 rfl (by decide) rfl h.t h.r2 ?_
    refine pw_iload_3 dX0_beHeard_124 ?_
    refine pw_dup2_11 dX0_beHeard_125 ?_
    refine pw_ialdN dX0_beHeard_126 h.a3 (by omega) (by decide) ?_
    refine pw_top (hb1.w2 (by omega)) ?_
    refine pw_iconst (v := nI 1) dX0_beHeard_127 (by decide) ?_
    refine pw_iadd dX0_beHeard_128 ?_
    refine pw_iastN dX0_beHeard_129 h.a3 (by omega) (by decide) ?_
    refine pw_gen (P := BU μ0 b (setW (setS (hrB B i) i (upd (bS (hrB B i) i) 19 ((bS (hrB B i) i 19) + (nI 1)))) y 2 ((bW (setS (hrB B i) i (upd (bS (hrB B i) i) 19 ((bS (hrB B i) i 19) + (nI 1)))) y 2) + (nI 1)))) (hb1.heardOn _) (fun μ2 hb2 => ?_)
    refine pw_aload_1 dX0_beHeard_130 ?_
    refine pw_getr 6 1 dX0_beHeard_131 fX0_91 rfl (by decide) rfl ((h.S (by omega))).t ((h.S (by omega))).r1 ?_
    refine pw_cV0v 5 dX0_beHeard_134 kX0_108 vX5_dropFirst iX5_dropFirst ⟨by decide, by decide⟩ ⟨rfl, rfl⟩ (by decide) rfl (Nat.le_of_ble_eq_true rfl) (((h.S (by omega)))).w (c_X5_dropFirst (n := nwF (bS B i)) (h.S (by omega)) ((hb2.sl (by omega)).trans (by simp only [bS_setW, bS_setS_s]; rw [upd_n _ _ (by omega), e1]; exact hw.1)) hw.2 h0 ?_)
    refine pw_aload_1 dX0_beHeard_137 ?_
    refine pw_cV0v 6 dX0_beHeard_138 kX0_111 vX6_fallSilent iX6_fallSilent ⟨by decide, by decide⟩ ⟨rfl, rfl⟩ (by decide) rfl (Nat.le_of_ble_eq_true rfl) ((h.S (by omega))).t (c_X6_fallSilent (h.S (by omega)) ?_)
    refine pw_return dX0_beHeard_141 rfl ?_
    refine q _ (Eq.mp (congrArg (fun b' => BU μ0 b b' _) ?_) (hb2.dropSil (i := i) (by omega) (w := nwF (bS B i)) (by simp only [bS_setW, bS_setS_s]; rw [upd_n _ _ (by omega), e1]; exact hw.1) hw.2 h0))
    unfold hdB lvB tyB
    rw [show fwB B i = y by unfold fwB; rw [hy, nI_clamp (by omega)], e1]
  · intro k hk ih μ1 hb1
    have ih2 : ∀ μ, BU μ0 b (heS B i k (itr (heS B i) k B)) μ → _ := ih
    have wf1 := (hr_wf (i := i) wf (show k ≤ nS B by omega)).1
    have hn1 := (hr_wf (i := i) wf (show k ≤ nS B by omega)).2.trans hn
    have hG : bG (itr (heS B i) k B) = bG B := hr_G
    generalize itr (heS B i) k B = C at hb1 ih2 wf1 hn1 hG
    refine pw_iload_5 dX0_beHeard_36 ?_
    refine pw_aload_0 dX0_beHeard_38 ?_
    refine pw_getI 0 5 dX0_beHeard_39 fX0_49 rfl (by decide) rfl h.t ?_
    refine pw_top (hb1.n wf1 hn1) ?_
    refine pw_icmp_ge 103 dX0_beHeard_42 (by decide) (fun hh => absurd hh (by rw [nI_leI (by omega) (by omega)]; omega)) (fun _ => ?_)
    refine pw_iload_4 dX0_beHeard_45 ?_
    refine pw_iload_5 dX0_beHeard_47 ?_
    refine pw_ishr dX0_beHeard_49 ?_
    refine pw_iconst (v := nI 1) dX0_beHeard_50 (by decide) ?_
    refine pw_iand dX0_beHeard_51 ?_
    refine pw_if_ne 58 dX0_beHeard_52 (by decide) (fun h1 => ?_) (fun h1 => ?_)
    · skip
      refine pw_aload_0 dX0_beHeard_58 ?_
      refine pw_getr 0 4 dX0_beHeard_59 fX0_34 rfl (by decide) rfl h.t h.r4 ?_
      refine pw_iload_5 dX0_beHeard_62 ?_
      refine pw_aaldSr dX0_beHeard_64 h.a5 (by omega) (by decide) (h.s (by omega)) ?_
      refine pw_getr 6 2 dX0_beHeard_65 fX0_184 rfl (by decide) rfl ((h.S (by omega))).t ((h.S (by omega))).r2 ?_
      refine pw_iload_2 dX0_beHeard_68 ?_
      refine pw_aload_1 dX0_beHeard_69 ?_
      refine pw_getI 6 0 dX0_beHeard_70 fX0_181 rfl (by decide) rfl ((h.S (by omega))).t ?_
      refine pw_top (hb1.s0 (by omega)) ?_
      refine pw_iload_3 dX0_beHeard_73 ?_
      refine pw_aload_0 dX0_beHeard_74 ?_
      refine pw_getI 0 7 dX0_beHeard_75 fX0_56 rfl (by decide) rfl h.t ?_
      refine pw_top hb1.b ?_
      refine pw_cV4v 2 dX0_beHeard_78 kX0_188 vX2_add iX2_add ⟨by decide, by decide⟩ ⟨rfl, rfl⟩ (by decide) rfl (Nat.le_of_ble_eq_true rfl) (((h.S (by omega)))).l (c_X2_add (n := nkF (bS C k)) (h.S (by omega)) ((hb1.sk (by omega)).trans (wf1.k (by omega)).1) (wf1.k (by omega)).2.1 ?_)
      refine pw_aload_0 dX0_beHeard_81 ?_
      refine pw_getr 0 4 dX0_beHeard_82 fX0_34 rfl (by decide) rfl h.t h.r4 ?_
      refine pw_iload_5 dX0_beHeard_85 ?_
      refine pw_aaldSr dX0_beHeard_87 h.a5 (by omega) (by decide) (h.s (by omega)) ?_
      refine pw_dup dX0_beHeard_88 ?_
      refine pw_getI 6 13 dX0_beHeard_89 fX0_193 rfl (by decide) rfl ((h.S (by omega))).t ?_
      refine pw_top (show _ = bS C k 21 by simp (disch := omega) only [ladF, wr_n, wC_ne]; exact hb1.s13 (by omega)) ?_
      refine pw_iconst (v := nI 1) dX0_beHeard_92 (by decide) ?_
      refine pw_iadd dX0_beHeard_93 ?_
      refine pw_putI 6 13 dX0_beHeard_94 fX0_193 rfl (by decide) rfl (Or.inl rfl) rfl (by decide) ((h.S (by omega))).t ?_
      refine pw_iincN_5 dX0_beHeard_97 (by decide) ?_
      refine pw_goto 36 dX0_beHeard_100 (by decide) ?_
      refine pw_fg (ls' := [some (.ref b), some (.ref (st b i)), some (.int (bS B i 5)), some (.int (nI y)), some (.int (bS B i 18 &&& ((nI 1 <<< (nI i &&& 31)) ^^^ (-1)))), some (.int (nI ((k + 1))))]) ⟨Or.inr rfl, Or.inr rfl, Or.inr rfl, Or.inr rfl, Or.inr rfl, Or.inr rfl, trivial⟩ (ih2 _ ?_)
      unfold heS
      rw [cif_y ((bi_but (by omega) (by omega)).mp (bi_n0 h1)), hy, ← hG]
      exact hb1.he (by omega) (wf1.k (by omega)).1 (wf1.k (by omega)).2.1 (wf1.k (by omega)).2.2 _ _ _ _
    · skip
      refine pw_goto 97 dX0_beHeard_55 (by decide) ?_
      refine pw_iincN_5 dX0_beHeard_97 (by decide) ?_
      refine pw_goto 36 dX0_beHeard_100 (by decide) ?_
      refine pw_fg (ls' := [some (.ref b), some (.ref (st b i)), some (.int (bS B i 5)), some (.int (nI y)), some (.int (bS B i 18 &&& ((nI 1 <<< (nI i &&& 31)) ^^^ (-1)))), some (.int (nI ((k + 1))))]) ⟨Or.inr rfl, Or.inr rfl, Or.inr rfl, Or.inr rfl, Or.inr rfl, Or.inr rfl, trivial⟩ (ih2 _ ?_)
      unfold heS
      rw [cif_n (fun hh => bi_10 ((bi_but (by omega) (by omega)).mpr hh) h1)]
      exact hb1
theorem bg_wf {B : Bs} {k : Nat} (wf : WF B) (hk : k ≤ nS B) : WF (itr bgS k B) ∧ Fr B (itr bgS k B) := itr_ind (P := fun _ x => WF x ∧ Fr B x) ⟨wf, Fr.rf B⟩ fun i x hi hx => ⟨hx.1.kbg (by rw [hx.2.n]; omega), hx.2.tr Fr_bgS⟩
set_option maxRecDepth 100000 in
set_option maxHeartbeats 4000000 in
theorem k_beginWords {X : Cx} {σ : Sp} {μ : Mm} {Q : Sp → Mm → Prop} {μ0 : Mm} {b n : Nat} {B : Bs} {A : Nat → Prop} (h : ShBus σ b) (hb : BU μ0 b B μ) (wf : WF B) (hn : nS B = n) (hA : ∀ s, A s ↔ awB B s) (q : ∀ μ', BU μ0 b (bgB B) μ' → Q σ μ') : CTv X mX0_beginWords [.ref b, .int (msk A n)] σ μ Q := by
  refine CT.of (by decide +kernel) (Nat.le_of_ble_eq_true rfl) ?_
  show PW X mX0_beginWords 0 0 0 [some (.ref b), some (.int (msk A n)), none, none, none] [] σ μ (LV Q)
  have h8 : n ≤ 8 := hn ▸ wf.n8
  refine pw_iconst (v := nI 0) dX0_beginWords_0 (by decide) ?_
  refine pw_istore_2 dX0_beginWords_1 (by decide) ?_
  refine pw_fg (ls' := [some (.ref b), some (.int (msk A n)), some (.int (nI 0)), none, none]) ⟨Or.inr rfl, Or.inr rfl, Or.inr rfl, Or.inl rfl, Or.inl rfl, trivial⟩ ?_
  refine pw_up (P := fun k => ∀ μ, BU μ0 b (itr bgS k B) μ → PW X mX0_beginWords 0 0 2 [some (.ref b), some (.int (msk A n)), some (.int (nI k)), none, none] [] σ μ (LV Q)) n ?_ ?_ 0 (by omega) _ hb
  · intro μ1 hb1
    rw [show itr bgS n B = bgB B by rw [← hn]; rfl] at hb1
    have wf1 : WF (bgB B) := wf.bg
    have hn1 : nS (bgB B) = n := Fr_bg.n.trans hn
    refine pw_iload_2 dX0_beginWords_2 ?_
    refine pw_aload_0 dX0_beginWords_3 ?_
    refine pw_getI 0 5 dX0_beginWords_4 fX0_49 rfl (by decide) rfl h.t ?_
    refine pw_top (hb1.n wf1 hn1) ?_
    refine pw_icmp_ge 73 dX0_beginWords_7 (by decide) (fun _ => ?_) (fun hh => absurd (by rw [nI_leI (by omega) (by omega)]; omega) hh)
    refine pw_return dX0_beginWords_73 rfl ?_
    exact q _ hb1
  · intro k hk ih μ1 hb1
    have ih2 : ∀ μ, BU μ0 b (bgS k (itr bgS k B)) μ → _ := ih
    have wn := bg_wf wf (show k ≤ nS B by omega)
    have wf1 := wn.1
    have hn1 := wn.2.n.trans hn
    have fr := wn.2
    clear wn
    generalize itr bgS k B = C at hb1 ih2 wf1 hn1 fr
    refine pw_iload_2 dX0_beginWords_2 ?_
    refine pw_aload_0 dX0_beginWords_3 ?_
    refine pw_getI 0 5 dX0_beginWords_4 fX0_49 rfl (by decide) rfl h.t ?_
    refine pw_top (hb1.n wf1 hn1) ?_
    refine pw_icmp_ge 73 dX0_beginWords_7 (by decide) (fun hh => absurd hh (by rw [nI_leI (by omega) (by omega)]; omega)) (fun _ => ?_)
    refine pw_aload_0 dX0_beginWords_10 ?_
    refine pw_getr 0 4 dX0_beginWords_11 fX0_34 rfl (by decide) rfl h.t h.r4 ?_
    refine pw_iload_2 dX0_beginWords_14 ?_
    refine pw_aaldSr dX0_beginWords_15 h.a5 (by omega) (by decide) (h.s (by omega)) ?_
    refine pw_astore_3 dX0_beginWords_16 (by decide) ?_
    refine pw_aload_3 dX0_beginWords_17 ?_
    refine pw_cV0i 6 dX0_beginWords_18 kX0_151 vX6_isAwake iX6_isAwake ⟨by decide, by decide⟩ ⟨rfl, rfl⟩ (by decide) rfl (Nat.le_of_ble_eq_true rfl) ((h.S (by omega))).t (k_isAwake h hb1 (by omega) (fun h1 => ?_) (fun h2 => ?_))
    · skip
      refine pw_if_eq 67 dX0_beginWords_21 (by decide) (fun hh => absurd hh (by decide)) (fun _ => ?_)
      refine pw_aload_3 dX0_beginWords_24 ?_
      refine pw_cV0i 6 dX0_beginWords_25 kX0_121 vX6_isSpeaking iX6_isSpeaking ⟨by decide, by decide⟩ ⟨rfl, rfl⟩ (by decide) rfl (Nat.le_of_ble_eq_true rfl) ((h.S (by omega))).t (k_isSpeaking h hb1 wf1 (by rw [hn1]; omega) (fun h3 => ?_) (fun h4 => ?_))
      · skip
        refine pw_if_eq 34 dX0_beginWords_28 (by decide) (fun hh => absurd hh (by decide)) (fun _ => ?_)
        refine pw_goto 67 dX0_beginWords_31 (by decide) ?_
        refine pw_iincN_2 dX0_beginWords_67 (by decide) ?_
        refine pw_goto 2 dX0_beginWords_70 (by decide) ?_
        refine pw_fg (ls' := [some (.ref b), some (.int (msk A n)), some (.int (nI ((k + 1)))), none, none]) ⟨Or.inr rfl, Or.inr rfl, Or.inr rfl, Or.inl rfl, Or.inl rfl, trivial⟩ (ih2 _ ?_)
        unfold bgS
        rw [cif_n (fun hh => hh.2.1 h3)]
        exact hb1
      · skip
        refine pw_if_eq 34 dX0_beginWords_28 (by decide) (fun _ => ?_) (fun hh => absurd (by decide) hh)
        refine pw_aload_3 dX0_beginWords_34 ?_
        refine pw_getr 6 1 dX0_beginWords_35 fX0_91 rfl (by decide) rfl ((h.S (by omega))).t ((h.S (by omega))).r1 ?_
        refine pw_iconst (v := nI 0) dX0_beginWords_38 (by decide) ?_
        refine pw_cV1i 5 dX0_beginWords_39 kX0_154 vX5_wireAt iX5_wireAt ⟨by decide, by decide⟩ ⟨rfl, rfl⟩ (by decide) rfl (Nat.le_of_ble_eq_true rfl) (((h.S (by omega)))).w (k_wireAt h hb1 wf1 (by omega) (by decide) (fun h5 => ?_) (fun h6 => ?_))
        · skip
          obtain ⟨-, y, y6, hy⟩ := (wf1.s (i := k) (by omega)).word h5
          have hy : bS C k 6 = nI y := hy
          refine pw_top hy ?_
          refine pw_istore_4 dX0_beginWords_42 (by decide) ?_
          refine pw_aload_0 dX0_beginWords_44 ?_
          refine pw_iload_4 dX0_beginWords_45 ?_
          refine pw_cV1i 0 dX0_beginWords_47 kX0_157 vX0_isRested iX0_isRested ⟨by decide, by decide⟩ ⟨rfl, rfl⟩ (by decide) rfl (Nat.le_of_ble_eq_true rfl) h.t (k_isRested h hb1 wf1 hn1 (by omega) (fun h7 => ?_) (fun h8 => ?_))
          · skip
            refine pw_if_eq 67 dX0_beginWords_50 (by decide) (fun hh => absurd hh (by decide)) (fun _ => ?_)
            refine pw_aload_3 dX0_beginWords_53 ?_
            refine pw_iload_4 dX0_beginWords_54 ?_
            refine pw_iload_1 dX0_beginWords_56 ?_
            refine pw_aload_0 dX0_beginWords_57 ?_
            refine pw_iload_4 dX0_beginWords_58 ?_
            refine pw_cV1i 0 dX0_beginWords_60 kX0_160 vX0_stationsAt iX0_stationsAt ⟨by decide, by decide⟩ ⟨rfl, rfl⟩ (by decide) rfl (Nat.le_of_ble_eq_true rfl) h.t (k_stationsAt h hb1 wf1 hn1 ?_)
            refine pw_iand dX0_beginWords_63 ?_
            refine pw_cV2v 6 dX0_beginWords_64 kX0_163 vX6_begin iX6_begin ⟨by decide, by decide⟩ ⟨rfl, rfl⟩ (by decide) rfl (Nat.le_of_ble_eq_true rfl) ((h.S (by omega))).t (k_begin h hb1 wf1 (by omega) h5 hy (fun μ1 hb1x => ?_))
            refine pw_iincN_2 dX0_beginWords_67 (by decide) ?_
            refine pw_goto 2 dX0_beginWords_70 (by decide) ?_
            refine pw_fg (ls' := [some (.ref b), some (.int (msk A n)), some (.int (nI ((k + 1)))), none, none]) ⟨Or.inr rfl, Or.inr rfl, Or.inr rfl, Or.inl rfl, Or.inl rfl, trivial⟩ (ih2 _ ?_)
            have ef : fwB C k = y := by unfold fwB; rw [hy, nI_clamp (by omega)]
            unfold bgS
            rw [cif_y ⟨h1, h4, h5, by rw [ef]; exact h7⟩]
            have ea : awM C (bS C k 6) = msk A n &&& msk (fun s => atB C s (nI y)) n := by
              unfold awM
              rw [hn1, hy, ← msk_and (by omega)]
              congr 1
              exact msk_cong fun s _ => (fr.aw s).trans (hA s).symm
            rw [ea]
            exact hb1x
          · skip
            refine pw_if_eq 67 dX0_beginWords_50 (by decide) (fun _ => ?_) (fun hh => absurd (by decide) hh)
            refine pw_iincN_2 dX0_beginWords_67 (by decide) ?_
            refine pw_goto 2 dX0_beginWords_70 (by decide) ?_
            refine pw_fg (ls' := [some (.ref b), some (.int (msk A n)), some (.int (nI ((k + 1)))), none, none]) ⟨Or.inr rfl, Or.inr rfl, Or.inr rfl, Or.inl rfl, Or.inl rfl, trivial⟩ (ih2 _ ?_)
            unfold bgS
            rw [cif_n (fun hh => h8 (by have h9 := hh.2.2.2; rw [show fwB C k = y by unfold fwB; rw [hy, nI_clamp (by omega)]] at h9; exact h9))]
            exact hb1
        · skip
          refine pw_istore_4 dX0_beginWords_42 (by decide) ?_
          refine pw_aload_0 dX0_beginWords_44 ?_
          refine pw_iload_4 dX0_beginWords_45 ?_
          refine pw_cV1i 0 dX0_beginWords_47 kX0_157 vX0_isRested iX0_isRested ⟨by decide, by decide⟩ ⟨rfl, rfl⟩ (by decide) rfl (Nat.le_of_ble_eq_true rfl) h.t (k_isRestedN h ?_)
          refine pw_if_eq 67 dX0_beginWords_50 (by decide) (fun _ => ?_) (fun hh => absurd (by decide) hh)
          refine pw_iincN_2 dX0_beginWords_67 (by decide) ?_
          refine pw_goto 2 dX0_beginWords_70 (by decide) ?_
          refine pw_fg (ls' := [some (.ref b), some (.int (msk A n)), some (.int (nI ((k + 1)))), none, none]) ⟨Or.inr rfl, Or.inr rfl, Or.inr rfl, Or.inl rfl, Or.inl rfl, trivial⟩ (ih2 _ ?_)
          unfold bgS
          rw [cif_n (fun hh => absurd hh.2.2.1 (by omega))]
          exact hb1
    · skip
      refine pw_if_eq 67 dX0_beginWords_21 (by decide) (fun _ => ?_) (fun hh => absurd (by decide) hh)
      refine pw_iincN_2 dX0_beginWords_67 (by decide) ?_
      refine pw_goto 2 dX0_beginWords_70 (by decide) ?_
      refine pw_fg (ls' := [some (.ref b), some (.int (msk A n)), some (.int (nI ((k + 1)))), none, none]) ⟨Or.inr rfl, Or.inr rfl, Or.inr rfl, Or.inl rfl, Or.inl rfl, trivial⟩ (ih2 _ ?_)
      unfold bgS
      rw [cif_n (fun hh => h2 hh.1)]
      exact hb1

