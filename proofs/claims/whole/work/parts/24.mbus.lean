/-! The model: a bus and what happens to it -/
theorem or_z (x : Int32) : x ||| nI 0 = x := b_ext fun i hi => by rw [b_or, show bt (nI 0) i = false from b_0 i, Bool.or_false]
theorem cif_1 {p : Prop} (h : ¬ cif p (nI 1) (nI 0) = 0) : p := Classical.not_not.mp fun hp => h (cif_n hp)
theorem cif_0 {p : Prop} (h : cif p (nI 1) (nI 0) = 0) : ¬ p := fun hp => by rw [cif_y hp] at h; exact absurd h (by decide)
theorem cif_01 (p : Prop) : cif p (nI 1) (nI 0) = 0 ∨ cif p (nI 1) (nI 0) = 1 := by
  by_cases h : p
  · exact Or.inr (cif_y h)
  · exact Or.inl (cif_n h)
set_option maxRecDepth 100000 in
set_option maxHeartbeats 4000000 in
theorem m_begins {X : Cx} {σ : Sp} {μ : Mm} {Q : Int32 → Sp → Mm → Prop} {m : Nat} {z : Nat → Int32} {B : Bs} {i : Nat} (h : ShM σ m) (hz : ZR z B) (wf : WF B) (hi : i < nS B) (q1 : bgP B i → Q (nI 1) σ (wC μ (m + 1) z)) (q0 : ¬ bgP B i → Q (nI 0) σ (wC μ (m + 1) z)) : CTi X mX8_begins [.ref m, .int (nI i)] σ ((wC μ (m + 1) z)) Q := by
  refine CT.of (by decide +kernel) (Nat.le_of_ble_eq_true rfl) ?_
  show PW X mX8_begins 0 0 0 [some (.ref m), some (.int (nI i))] [] σ ((wC μ (m + 1) z)) (LI Q)
  have hn := wf.hn
  have h8 := wf.n8
  have hw9 := (wf.w (i := i) (by omega)).2
  refine pw_aload_0 dX8_begins_0 ?_
  refine pw_iload_1 dX8_begins_1 ?_
  refine pw_cV1i 8 dX8_begins_2 kX8_121 vX8_isAwake iX8_isAwake ⟨by decide, by decide⟩ ⟨rfl, rfl⟩ (by decide) rfl (Nat.le_of_ble_eq_true rfl) h.t (c_X8_isAwake h hz (by omega) (fun h1 => ?_) (fun h2 => ?_))
  · skip
    refine pw_if_eq 48 dX8_begins_5 (by decide) (fun hh => absurd hh (by decide)) (fun _ => ?_)
    refine pw_aload_0 dX8_begins_8 ?_
    refine pw_iload_1 dX8_begins_9 ?_
    refine pw_cV1i 8 dX8_begins_10 kX8_109 vX8_speaks iX8_speaks ⟨by decide, by decide⟩ ⟨rfl, rfl⟩ (by decide) rfl (Nat.le_of_ble_eq_true rfl) h.t (c_X8_speaks h hz (by omega) (fun h3 => ?_) (fun h4 => ?_))
    · skip
      refine pw_if_ne 48 dX8_begins_13 (by decide) (fun _ => ?_) (fun hh => absurd hh (by decide))
      refine pw_iconst (v := nI 0) dX8_begins_48 (by decide) ?_
      refine pw_zreturn dX8_begins_49 rfl (by decide) ?_
      exact q0 (fun hh => hh.2.1 h3)
    · skip
      refine pw_if_ne 48 dX8_begins_13 (by decide) (fun hh => absurd hh (by decide)) (fun _ => ?_)
      refine pw_aload_0 dX8_begins_16 ?_
      refine pw_iload_1 dX8_begins_17 ?_
      refine pw_iconst (v := nI 4) dX8_begins_18 (by decide) ?_
      refine pw_cV2i 8 dX8_begins_19 kX8_40 vX8_at iX8_at ⟨by decide, by decide⟩ ⟨rfl, rfl⟩ (by decide) rfl (Nat.le_of_ble_eq_true rfl) h.t (c_X8_at h hz (by omega) (by decide) ?_)
      refine pw_top (wf.w (by omega)).1 ?_
      refine pw_if_le 48 dX8_begins_22 (by decide) (fun h5 => ?_) (fun h5 => ?_)
      · skip
        refine pw_iconst (v := nI 0) dX8_begins_48 (by decide) ?_
        refine pw_zreturn dX8_begins_49 rfl (by decide) ?_
        exact q0 (fun hh => by have h95 := h5; have h96 := hh.2.2.1; rw [show (0 : Int32) = nI 0 from rfl, nI_leI (by omega) (by omega)] at h95; omega)
      · skip
        have hw9 := (wf.w (i := i) (by omega)).2
        obtain ⟨-, y, y6, hy⟩ := (wf.s hi).word (r := 0) (by have h5 := h5; rw [show (0 : Int32) = nI 0 from rfl, nI_leI (by omega) (by omega)] at h5; omega)
        have hy : bS B i 6 = nI y := hy
        refine pw_aload_0 dX8_begins_25 ?_
        refine pw_aload_0 dX8_begins_26 ?_
        refine pw_iload_1 dX8_begins_27 ?_
        refine pw_cV1i 8 dX8_begins_28 kX8_90 vX8_firstWire iX8_firstWire ⟨by decide, by decide⟩ ⟨rfl, rfl⟩ (by decide) rfl (Nat.le_of_ble_eq_true rfl) h.t (c_X8_firstWire h hz (by omega) ?_)
        refine pw_top hy ?_
        refine pw_iconst (v := nI 0) dX8_begins_31 (by decide) ?_
        refine pw_cV2i 8 dX8_begins_32 kX8_100 vX8_wire iX8_wire ⟨by decide, by decide⟩ ⟨rfl, rfl⟩ (by decide) rfl (Nat.le_of_ble_eq_true rfl) h.t (c_X8_wire h hz (by omega) (by decide) ?_)
        refine pw_aload_0 dX8_begins_35 ?_
        refine pw_getr 8 0 dX8_begins_36 fX8_7 rfl (by decide) rfl h.t h.r0 ?_
        refine pw_iconst (v := nI 0) dX8_begins_39 (by decide) ?_
        refine pw_ialdN dX8_begins_40 h.a1 (by omega) (by decide) ?_
        refine pw_top (show _ = bG B 0 from by rw [wC_self, hz.g (by decide)]) ?_
        refine pw_icmp_lt 48 dX8_begins_41 (by decide) (fun h6 => ?_) (fun h6 => ?_)
        · skip
          refine pw_iconst (v := nI 0) dX8_begins_48 (by decide) ?_
          refine pw_zreturn dX8_begins_49 rfl (by decide) ?_
          exact q0 (fun hh => by have h96 := hh.2.2.2; rw [fw_of hy y6] at h96; exact Int32.not_le.mpr h6 h96)
        · skip
          refine pw_iconst (v := nI 1) dX8_begins_44 (by decide) ?_
          refine pw_goto 49 dX8_begins_45 (by decide) ?_
          refine pw_zreturn dX8_begins_49 rfl (by decide) ?_
          exact q1 ⟨h1, h4, by have h95 := h5; rw [show (0 : Int32) = nI 0 from rfl, nI_leI (by omega) (by omega)] at h95; omega, by rw [fw_of hy y6]; exact Int32.not_lt.mp h6⟩
  · skip
    refine pw_if_eq 48 dX8_begins_5 (by decide) (fun _ => ?_) (fun hh => absurd (by decide) hh)
    refine pw_iconst (v := nI 0) dX8_begins_48 (by decide) ?_
    refine pw_zreturn dX8_begins_49 rfl (by decide) ?_
    exact q0 (fun hh => h2 hh.1)
set_option maxRecDepth 100000 in
set_option maxHeartbeats 4000000 in
theorem m_awakeAt {X : Cx} {σ : Sp} {μ : Mm} {Q : Int32 → Sp → Mm → Prop} {m : Nat} {z : Nat → Int32} {B : Bs} {x : Int32} (h : ShM σ m) (hz : ZR z B) (wf : WF B) (q : Q (awM B x) σ (wC μ (m + 1) z)) : CTi X mX8_awakeAt [.ref m, .int x] σ ((wC μ (m + 1) z)) Q := by
  refine CT.of (by decide +kernel) (Nat.le_of_ble_eq_true rfl) ?_
  show PW X mX8_awakeAt 0 0 0 [some (.ref m), some (.int x), none, none] [] σ ((wC μ (m + 1) z)) (LI Q)
  have hn := wf.hn
  have h8 := wf.n8
  refine pw_iconst (v := nI 0) dX8_awakeAt_0 (by decide) ?_
  refine pw_istore_2 dX8_awakeAt_1 (by decide) ?_
  refine pw_iconst (v := nI 0) dX8_awakeAt_2 (by decide) ?_
  refine pw_istore_3 dX8_awakeAt_3 (by decide) ?_
  refine pw_fg (ls' := [some (.ref m), some (.int x), some (.int (msk (fun s => awB B s ∧ atB B s x) 0)), some (.int (nI 0))]) ⟨Or.inr rfl, Or.inr rfl, Or.inr rfl, Or.inr rfl, trivial⟩ ?_
  refine pw_up (P := fun k => PW X mX8_awakeAt 0 0 4 [some (.ref m), some (.int x), some (.int (msk (fun s => awB B s ∧ atB B s x) k)), some (.int (nI k))] [] σ (wC μ (m + 1) z) (LI Q)) (nS B) ?_ ?_ 0 (by omega)
  · skip
    refine pw_iload_3 dX8_awakeAt_4 ?_
    refine pw_aload_0 dX8_awakeAt_5 ?_
    refine pw_getr 8 0 dX8_awakeAt_6 fX8_7 rfl (by decide) rfl h.t h.r0 ?_
    refine pw_bipush (v := nI 6) dX8_awakeAt_9 (by decide) ?_
    refine pw_ialdN dX8_awakeAt_11 h.a1 (by omega) (by decide) ?_
    refine pw_top (show _ = nI (nS B) from by rw [wC_self, hz.g (by decide)]; exact hn) ?_
    refine pw_icmp_ge 48 dX8_awakeAt_12 (by decide) (fun _ => ?_) (fun hh => absurd (by rw [nI_leI (by omega) (by omega)]; omega) hh)
    refine pw_iload_2 dX8_awakeAt_48 ?_
    refine pw_ireturn dX8_awakeAt_49 rfl ?_
    exact q
  · intro k hk ih
    refine pw_iload_3 dX8_awakeAt_4 ?_
    refine pw_aload_0 dX8_awakeAt_5 ?_
    refine pw_getr 8 0 dX8_awakeAt_6 fX8_7 rfl (by decide) rfl h.t h.r0 ?_
    refine pw_bipush (v := nI 6) dX8_awakeAt_9 (by decide) ?_
    refine pw_ialdN dX8_awakeAt_11 h.a1 (by omega) (by decide) ?_
    refine pw_top (show _ = nI (nS B) from by rw [wC_self, hz.g (by decide)]; exact hn) ?_
    refine pw_icmp_ge 48 dX8_awakeAt_12 (by decide) (fun hh => absurd hh (by rw [nI_leI (by omega) (by omega)]; omega)) (fun _ => ?_)
    refine pw_iload_2 dX8_awakeAt_15 ?_
    refine pw_aload_0 dX8_awakeAt_16 ?_
    refine pw_iload_3 dX8_awakeAt_17 ?_
    refine pw_cV1i 8 dX8_awakeAt_18 kX8_121 vX8_isAwake iX8_isAwake ⟨by decide, by decide⟩ ⟨rfl, rfl⟩ (by decide) rfl (Nat.le_of_ble_eq_true rfl) h.t (c_X8_isAwake h hz (by omega) (fun h1 => ?_) (fun h2 => ?_))
    · skip
      refine pw_if_eq 39 dX8_awakeAt_21 (by decide) (fun hh => absurd hh (by decide)) (fun _ => ?_)
      refine pw_aload_0 dX8_awakeAt_24 ?_
      refine pw_iload_3 dX8_awakeAt_25 ?_
      refine pw_iload_1 dX8_awakeAt_26 ?_
      refine pw_cV2i 8 dX8_awakeAt_27 kX8_73 vX8_isAt iX8_isAt ⟨by decide, by decide⟩ ⟨rfl, rfl⟩ (by decide) rfl (Nat.le_of_ble_eq_true rfl) h.t (c_X8_isAt h hz (by omega) (fun h3 => ?_) (fun h4 => ?_))
      · skip
        refine pw_if_eq 39 dX8_awakeAt_30 (by decide) (fun hh => absurd hh (by decide)) (fun _ => ?_)
        refine pw_iconst (v := nI 1) dX8_awakeAt_33 (by decide) ?_
        refine pw_iload_3 dX8_awakeAt_34 ?_
        refine pw_ishl dX8_awakeAt_35 ?_
        refine pw_goto 40 dX8_awakeAt_36 (by decide) ?_
        refine pw_ior dX8_awakeAt_40 ?_
        refine pw_istore_2 dX8_awakeAt_41 (by decide) ?_
        refine pw_iincN_3 dX8_awakeAt_42 (by decide) ?_
        refine pw_goto 4 dX8_awakeAt_45 (by decide) ?_
        rw [msk_y (p := fun s => awB B s ∧ atB B s x) ⟨h1, h3⟩] at ih
        exact ih
      · skip
        refine pw_if_eq 39 dX8_awakeAt_30 (by decide) (fun _ => ?_) (fun hh => absurd (by decide) hh)
        refine pw_iconst (v := nI 0) dX8_awakeAt_39 (by decide) ?_
        refine pw_ior dX8_awakeAt_40 ?_
        refine pw_istore_2 dX8_awakeAt_41 (by decide) ?_
        refine pw_iincN_3 dX8_awakeAt_42 (by decide) ?_
        refine pw_goto 4 dX8_awakeAt_45 (by decide) ?_
        rw [msk_n (p := fun s => awB B s ∧ atB B s x) (fun hh => h4 hh.2)] at ih
        rw [or_z]
        exact ih
    · skip
      refine pw_if_eq 39 dX8_awakeAt_21 (by decide) (fun _ => ?_) (fun hh => absurd (by decide) hh)
      refine pw_iconst (v := nI 0) dX8_awakeAt_39 (by decide) ?_
      refine pw_ior dX8_awakeAt_40 ?_
      refine pw_istore_2 dX8_awakeAt_41 (by decide) ?_
      refine pw_iincN_3 dX8_awakeAt_42 (by decide) ?_
      refine pw_goto 4 dX8_awakeAt_45 (by decide) ?_
      rw [msk_n (p := fun s => awB B s ∧ atB B s x) (fun hh => h2 hh.1)] at ih
      rw [or_z]
      exact ih
set_option maxRecDepth 100000 in
set_option maxHeartbeats 4000000 in
theorem m_stationsAt {X : Cx} {σ : Sp} {μ : Mm} {Q : Int32 → Sp → Mm → Prop} {m : Nat} {z : Nat → Int32} {B : Bs} {x : Int32} (h : ShM σ m) (hz : ZR z B) (wf : WF B) (q : Q (msk (fun s => atB B s x) (nS B)) σ (wC μ (m + 1) z)) : CTi X mX8_stationsAt [.ref m, .int x] σ ((wC μ (m + 1) z)) Q := by
  refine CT.of (by decide +kernel) (Nat.le_of_ble_eq_true rfl) ?_
  show PW X mX8_stationsAt 0 0 0 [some (.ref m), some (.int x), none, none] [] σ ((wC μ (m + 1) z)) (LI Q)
  have hn := wf.hn
  have h8 := wf.n8
  refine pw_iconst (v := nI 0) dX8_stationsAt_0 (by decide) ?_
  refine pw_istore_2 dX8_stationsAt_1 (by decide) ?_
  refine pw_iconst (v := nI 0) dX8_stationsAt_2 (by decide) ?_
  refine pw_istore_3 dX8_stationsAt_3 (by decide) ?_
  refine pw_fg (ls' := [some (.ref m), some (.int x), some (.int (msk (fun s => atB B s x) 0)), some (.int (nI 0))]) ⟨Or.inr rfl, Or.inr rfl, Or.inr rfl, Or.inr rfl, trivial⟩ ?_
  refine pw_up (P := fun k => PW X mX8_stationsAt 0 0 4 [some (.ref m), some (.int x), some (.int (msk (fun s => atB B s x) k)), some (.int (nI k))] [] σ (wC μ (m + 1) z) (LI Q)) (nS B) ?_ ?_ 0 (by omega)
  · skip
    refine pw_iload_3 dX8_stationsAt_4 ?_
    refine pw_aload_0 dX8_stationsAt_5 ?_
    refine pw_getr 8 0 dX8_stationsAt_6 fX8_7 rfl (by decide) rfl h.t h.r0 ?_
    refine pw_bipush (v := nI 6) dX8_stationsAt_9 (by decide) ?_
    refine pw_ialdN dX8_stationsAt_11 h.a1 (by omega) (by decide) ?_
    refine pw_top (show _ = nI (nS B) from by rw [wC_self, hz.g (by decide)]; exact hn) ?_
    refine pw_icmp_ge 40 dX8_stationsAt_12 (by decide) (fun _ => ?_) (fun hh => absurd (by rw [nI_leI (by omega) (by omega)]; omega) hh)
    refine pw_iload_2 dX8_stationsAt_40 ?_
    refine pw_ireturn dX8_stationsAt_41 rfl ?_
    exact q
  · intro k hk ih
    refine pw_iload_3 dX8_stationsAt_4 ?_
    refine pw_aload_0 dX8_stationsAt_5 ?_
    refine pw_getr 8 0 dX8_stationsAt_6 fX8_7 rfl (by decide) rfl h.t h.r0 ?_
    refine pw_bipush (v := nI 6) dX8_stationsAt_9 (by decide) ?_
    refine pw_ialdN dX8_stationsAt_11 h.a1 (by omega) (by decide) ?_
    refine pw_top (show _ = nI (nS B) from by rw [wC_self, hz.g (by decide)]; exact hn) ?_
    refine pw_icmp_ge 40 dX8_stationsAt_12 (by decide) (fun hh => absurd hh (by rw [nI_leI (by omega) (by omega)]; omega)) (fun _ => ?_)
    refine pw_iload_2 dX8_stationsAt_15 ?_
    refine pw_aload_0 dX8_stationsAt_16 ?_
    refine pw_iload_3 dX8_stationsAt_17 ?_
    refine pw_iload_1 dX8_stationsAt_18 ?_
    refine pw_cV2i 8 dX8_stationsAt_19 kX8_73 vX8_isAt iX8_isAt ⟨by decide, by decide⟩ ⟨rfl, rfl⟩ (by decide) rfl (Nat.le_of_ble_eq_true rfl) h.t (c_X8_isAt h hz (by omega) (fun h1 => ?_) (fun h2 => ?_))
    · skip
      refine pw_if_eq 31 dX8_stationsAt_22 (by decide) (fun hh => absurd hh (by decide)) (fun _ => ?_)
      refine pw_iconst (v := nI 1) dX8_stationsAt_25 (by decide) ?_
      refine pw_iload_3 dX8_stationsAt_26 ?_
      refine pw_ishl dX8_stationsAt_27 ?_
      refine pw_goto 32 dX8_stationsAt_28 (by decide) ?_
      refine pw_ior dX8_stationsAt_32 ?_
      refine pw_istore_2 dX8_stationsAt_33 (by decide) ?_
      refine pw_iincN_3 dX8_stationsAt_34 (by decide) ?_
      refine pw_goto 4 dX8_stationsAt_37 (by decide) ?_
      rw [msk_y (p := fun s => atB B s x) h1] at ih
      exact ih
    · skip
      refine pw_if_eq 31 dX8_stationsAt_22 (by decide) (fun _ => ?_) (fun hh => absurd (by decide) hh)
      refine pw_iconst (v := nI 0) dX8_stationsAt_31 (by decide) ?_
      refine pw_ior dX8_stationsAt_32 ?_
      refine pw_istore_2 dX8_stationsAt_33 (by decide) ?_
      refine pw_iincN_3 dX8_stationsAt_34 (by decide) ?_
      refine pw_goto 4 dX8_stationsAt_37 (by decide) ?_
      rw [msk_n (p := fun s => atB B s x) h2] at ih
      rw [or_z]
      exact ih
set_option maxRecDepth 100000 in
set_option maxHeartbeats 4000000 in
theorem m_speakers {X : Cx} {σ : Sp} {μ : Mm} {Q : Int32 → Sp → Mm → Prop} {m : Nat} {z : Nat → Int32} {B : Bs} (h : ShM σ m) (hz : ZR z B) (wf : WF B) (q : Q (msk (spB B) (nS B)) σ (wC μ (m + 1) z)) : CTi X mX8_speakers [.ref m] σ ((wC μ (m + 1) z)) Q := by
  refine CT.of (by decide +kernel) (Nat.le_of_ble_eq_true rfl) ?_
  show PW X mX8_speakers 0 0 0 [some (.ref m), none, none] [] σ ((wC μ (m + 1) z)) (LI Q)
  have hn := wf.hn
  have h8 := wf.n8
  refine pw_iconst (v := nI 0) dX8_speakers_0 (by decide) ?_
  refine pw_istore_1 dX8_speakers_1 (by decide) ?_
  refine pw_iconst (v := nI 0) dX8_speakers_2 (by decide) ?_
  refine pw_istore_2 dX8_speakers_3 (by decide) ?_
  refine pw_fg (ls' := [some (.ref m), some (.int (msk (spB B) 0)), some (.int (nI 0))]) ⟨Or.inr rfl, Or.inr rfl, Or.inr rfl, trivial⟩ ?_
  refine pw_up (P := fun k => PW X mX8_speakers 0 0 4 [some (.ref m), some (.int (msk (spB B) k)), some (.int (nI k))] [] σ (wC μ (m + 1) z) (LI Q)) (nS B) ?_ ?_ 0 (by omega)
  · skip
    refine pw_iload_2 dX8_speakers_4 ?_
    refine pw_aload_0 dX8_speakers_5 ?_
    refine pw_getr 8 0 dX8_speakers_6 fX8_7 rfl (by decide) rfl h.t h.r0 ?_
    refine pw_bipush (v := nI 6) dX8_speakers_9 (by decide) ?_
    refine pw_ialdN dX8_speakers_11 h.a1 (by omega) (by decide) ?_
    refine pw_top (show _ = nI (nS B) from by rw [wC_self, hz.g (by decide)]; exact hn) ?_
    refine pw_icmp_ge 39 dX8_speakers_12 (by decide) (fun _ => ?_) (fun hh => absurd (by rw [nI_leI (by omega) (by omega)]; omega) hh)
    refine pw_iload_1 dX8_speakers_39 ?_
    refine pw_ireturn dX8_speakers_40 rfl ?_
    exact q
  · intro k hk ih
    refine pw_iload_2 dX8_speakers_4 ?_
    refine pw_aload_0 dX8_speakers_5 ?_
    refine pw_getr 8 0 dX8_speakers_6 fX8_7 rfl (by decide) rfl h.t h.r0 ?_
    refine pw_bipush (v := nI 6) dX8_speakers_9 (by decide) ?_
    refine pw_ialdN dX8_speakers_11 h.a1 (by omega) (by decide) ?_
    refine pw_top (show _ = nI (nS B) from by rw [wC_self, hz.g (by decide)]; exact hn) ?_
    refine pw_icmp_ge 39 dX8_speakers_12 (by decide) (fun hh => absurd hh (by rw [nI_leI (by omega) (by omega)]; omega)) (fun _ => ?_)
    refine pw_iload_1 dX8_speakers_15 ?_
    refine pw_aload_0 dX8_speakers_16 ?_
    refine pw_iload_2 dX8_speakers_17 ?_
    refine pw_cV1i 8 dX8_speakers_18 kX8_109 vX8_speaks iX8_speaks ⟨by decide, by decide⟩ ⟨rfl, rfl⟩ (by decide) rfl (Nat.le_of_ble_eq_true rfl) h.t (c_X8_speaks h hz (by omega) (fun h1 => ?_) (fun h2 => ?_))
    · skip
      refine pw_if_eq 30 dX8_speakers_21 (by decide) (fun hh => absurd hh (by decide)) (fun _ => ?_)
      refine pw_iconst (v := nI 1) dX8_speakers_24 (by decide) ?_
      refine pw_iload_2 dX8_speakers_25 ?_
      refine pw_ishl dX8_speakers_26 ?_
      refine pw_goto 31 dX8_speakers_27 (by decide) ?_
      refine pw_ior dX8_speakers_31 ?_
      refine pw_istore_1 dX8_speakers_32 (by decide) ?_
      refine pw_iincN_2 dX8_speakers_33 (by decide) ?_
      refine pw_goto 4 dX8_speakers_36 (by decide) ?_
      rw [msk_y (p := spB B) h1] at ih
      exact ih
    · skip
      refine pw_if_eq 30 dX8_speakers_21 (by decide) (fun _ => ?_) (fun hh => absurd (by decide) hh)
      refine pw_iconst (v := nI 0) dX8_speakers_30 (by decide) ?_
      refine pw_ior dX8_speakers_31 ?_
      refine pw_istore_1 dX8_speakers_32 (by decide) ?_
      refine pw_iincN_2 dX8_speakers_33 (by decide) ?_
      refine pw_goto 4 dX8_speakers_36 (by decide) ?_
      rw [msk_n (p := spB B) h2] at ih
      rw [or_z]
      exact ih
set_option maxRecDepth 100000 in
set_option maxHeartbeats 4000000 in
theorem m_awake {X : Cx} {σ : Sp} {μ : Mm} {Q : Int32 → Sp → Mm → Prop} {m : Nat} {z : Nat → Int32} {B : Bs} (h : ShM σ m) (hz : ZR z B) (wf : WF B) (q : Q (msk (awB B) (nS B)) σ (wC μ (m + 1) z)) : CTi X mX8_awake [.ref m] σ ((wC μ (m + 1) z)) Q := by
  refine CT.of (by decide +kernel) (Nat.le_of_ble_eq_true rfl) ?_
  show PW X mX8_awake 0 0 0 [some (.ref m), none, none] [] σ ((wC μ (m + 1) z)) (LI Q)
  have hn := wf.hn
  have h8 := wf.n8
  refine pw_iconst (v := nI 0) dX8_awake_0 (by decide) ?_
  refine pw_istore_1 dX8_awake_1 (by decide) ?_
  refine pw_iconst (v := nI 0) dX8_awake_2 (by decide) ?_
  refine pw_istore_2 dX8_awake_3 (by decide) ?_
  refine pw_fg (ls' := [some (.ref m), some (.int (msk (awB B) 0)), some (.int (nI 0))]) ⟨Or.inr rfl, Or.inr rfl, Or.inr rfl, trivial⟩ ?_
  refine pw_up (P := fun k => PW X mX8_awake 0 0 4 [some (.ref m), some (.int (msk (awB B) k)), some (.int (nI k))] [] σ (wC μ (m + 1) z) (LI Q)) (nS B) ?_ ?_ 0 (by omega)
  · skip
    refine pw_iload_2 dX8_awake_4 ?_
    refine pw_aload_0 dX8_awake_5 ?_
    refine pw_getr 8 0 dX8_awake_6 fX8_7 rfl (by decide) rfl h.t h.r0 ?_
    refine pw_bipush (v := nI 6) dX8_awake_9 (by decide) ?_
    refine pw_ialdN dX8_awake_11 h.a1 (by omega) (by decide) ?_
    refine pw_top (show _ = nI (nS B) from by rw [wC_self, hz.g (by decide)]; exact hn) ?_
    refine pw_icmp_ge 39 dX8_awake_12 (by decide) (fun _ => ?_) (fun hh => absurd (by rw [nI_leI (by omega) (by omega)]; omega) hh)
    refine pw_iload_1 dX8_awake_39 ?_
    refine pw_ireturn dX8_awake_40 rfl ?_
    exact q
  · intro k hk ih
    refine pw_iload_2 dX8_awake_4 ?_
    refine pw_aload_0 dX8_awake_5 ?_
    refine pw_getr 8 0 dX8_awake_6 fX8_7 rfl (by decide) rfl h.t h.r0 ?_
    refine pw_bipush (v := nI 6) dX8_awake_9 (by decide) ?_
    refine pw_ialdN dX8_awake_11 h.a1 (by omega) (by decide) ?_
    refine pw_top (show _ = nI (nS B) from by rw [wC_self, hz.g (by decide)]; exact hn) ?_
    refine pw_icmp_ge 39 dX8_awake_12 (by decide) (fun hh => absurd hh (by rw [nI_leI (by omega) (by omega)]; omega)) (fun _ => ?_)
    refine pw_iload_1 dX8_awake_15 ?_
    refine pw_aload_0 dX8_awake_16 ?_
    refine pw_iload_2 dX8_awake_17 ?_
    refine pw_cV1i 8 dX8_awake_18 kX8_121 vX8_isAwake iX8_isAwake ⟨by decide, by decide⟩ ⟨rfl, rfl⟩ (by decide) rfl (Nat.le_of_ble_eq_true rfl) h.t (c_X8_isAwake h hz (by omega) (fun h1 => ?_) (fun h2 => ?_))
    · skip
      refine pw_if_eq 30 dX8_awake_21 (by decide) (fun hh => absurd hh (by decide)) (fun _ => ?_)
      refine pw_iconst (v := nI 1) dX8_awake_24 (by decide) ?_
      refine pw_iload_2 dX8_awake_25 ?_
      refine pw_ishl dX8_awake_26 ?_
      refine pw_goto 31 dX8_awake_27 (by decide) ?_
      refine pw_ior dX8_awake_31 ?_
      refine pw_istore_1 dX8_awake_32 (by decide) ?_
      refine pw_iincN_2 dX8_awake_33 (by decide) ?_
      refine pw_goto 4 dX8_awake_36 (by decide) ?_
      rw [msk_y (p := awB B) h1] at ih
      exact ih
    · skip
      refine pw_if_eq 30 dX8_awake_21 (by decide) (fun _ => ?_) (fun hh => absurd (by decide) hh)
      refine pw_iconst (v := nI 0) dX8_awake_30 (by decide) ?_
      refine pw_ior dX8_awake_31 ?_
      refine pw_istore_1 dX8_awake_32 (by decide) ?_
      refine pw_iincN_2 dX8_awake_33 (by decide) ?_
      refine pw_goto 4 dX8_awake_36 (by decide) ?_
      rw [msk_n (p := awB B) h2] at ih
      rw [or_z]
      exact ih
set_option maxRecDepth 100000 in
set_option maxHeartbeats 4000000 in
theorem m_speakersOn {X : Cx} {σ : Sp} {μ : Mm} {Q : Int32 → Sp → Mm → Prop} {m : Nat} {z : Nat → Int32} {B : Bs} {v : Nat} (h : ShM σ m) (hz : ZR z B) (wf : WF B) (hv : v < 6) (q : Q (msk (fun s => spB B s ∧ fwB B s = v) (nS B)) σ (wC μ (m + 1) z)) : CTi X mX8_speakersOn [.ref m, .int (nI v)] σ ((wC μ (m + 1) z)) Q := by
  refine CT.of (by decide +kernel) (Nat.le_of_ble_eq_true rfl) ?_
  show PW X mX8_speakersOn 0 0 0 [some (.ref m), some (.int (nI v)), none, none] [] σ ((wC μ (m + 1) z)) (LI Q)
  have hn := wf.hn
  have h8 := wf.n8
  refine pw_iconst (v := nI 0) dX8_speakersOn_0 (by decide) ?_
  refine pw_istore_2 dX8_speakersOn_1 (by decide) ?_
  refine pw_iconst (v := nI 0) dX8_speakersOn_2 (by decide) ?_
  refine pw_istore_3 dX8_speakersOn_3 (by decide) ?_
  refine pw_fg (ls' := [some (.ref m), some (.int (nI v)), some (.int (msk (fun s => spB B s ∧ fwB B s = v) 0)), some (.int (nI 0))]) ⟨Or.inr rfl, Or.inr rfl, Or.inr rfl, Or.inr rfl, trivial⟩ ?_
  refine pw_up (P := fun k => PW X mX8_speakersOn 0 0 4 [some (.ref m), some (.int (nI v)), some (.int (msk (fun s => spB B s ∧ fwB B s = v) k)), some (.int (nI k))] [] σ (wC μ (m + 1) z) (LI Q)) (nS B) ?_ ?_ 0 (by omega)
  · skip
    refine pw_iload_3 dX8_speakersOn_4 ?_
    refine pw_aload_0 dX8_speakersOn_5 ?_
    refine pw_getr 8 0 dX8_speakersOn_6 fX8_7 rfl (by decide) rfl h.t h.r0 ?_
    refine pw_bipush (v := nI 6) dX8_speakersOn_9 (by decide) ?_
    refine pw_ialdN dX8_speakersOn_11 h.a1 (by omega) (by decide) ?_
    refine pw_top (show _ = nI (nS B) from by rw [wC_self, hz.g (by decide)]; exact hn) ?_
    refine pw_icmp_ge 48 dX8_speakersOn_12 (by decide) (fun _ => ?_) (fun hh => absurd (by rw [nI_leI (by omega) (by omega)]; omega) hh)
    refine pw_iload_2 dX8_speakersOn_48 ?_
    refine pw_ireturn dX8_speakersOn_49 rfl ?_
    exact q
  · intro k hk ih
    refine pw_iload_3 dX8_speakersOn_4 ?_
    refine pw_aload_0 dX8_speakersOn_5 ?_
    refine pw_getr 8 0 dX8_speakersOn_6 fX8_7 rfl (by decide) rfl h.t h.r0 ?_
    refine pw_bipush (v := nI 6) dX8_speakersOn_9 (by decide) ?_
    refine pw_ialdN dX8_speakersOn_11 h.a1 (by omega) (by decide) ?_
    refine pw_top (show _ = nI (nS B) from by rw [wC_self, hz.g (by decide)]; exact hn) ?_
    refine pw_icmp_ge 48 dX8_speakersOn_12 (by decide) (fun hh => absurd hh (by rw [nI_leI (by omega) (by omega)]; omega)) (fun _ => ?_)
    refine pw_iload_2 dX8_speakersOn_15 ?_
    refine pw_aload_0 dX8_speakersOn_16 ?_
    refine pw_iload_3 dX8_speakersOn_17 ?_
    refine pw_cV1i 8 dX8_speakersOn_18 kX8_109 vX8_speaks iX8_speaks ⟨by decide, by decide⟩ ⟨rfl, rfl⟩ (by decide) rfl (Nat.le_of_ble_eq_true rfl) h.t (c_X8_speaks h hz (by omega) (fun h1 => ?_) (fun h2 => ?_))
    · skip
      refine pw_if_eq 39 dX8_speakersOn_21 (by decide) (fun hh => absurd hh (by decide)) (fun _ => ?_)
      obtain ⟨-, y, y6, hy⟩ := (wf.s (i := k) hk).word ((wf.s (i := k) hk).sp h1).1
      have hy : bS B k 6 = nI y := hy
      refine pw_aload_0 dX8_speakersOn_24 ?_
      refine pw_iload_3 dX8_speakersOn_25 ?_
      refine pw_cV1i 8 dX8_speakersOn_26 kX8_90 vX8_firstWire iX8_firstWire ⟨by decide, by decide⟩ ⟨rfl, rfl⟩ (by decide) rfl (Nat.le_of_ble_eq_true rfl) h.t (c_X8_firstWire h hz (by omega) ?_)
      refine pw_top hy ?_
      refine pw_iload_1 dX8_speakersOn_29 ?_
      refine pw_icmp_ne 39 dX8_speakersOn_30 (by decide) (fun h3 => ?_) (fun h3 => ?_)
      · skip
        refine pw_iconst (v := nI 0) dX8_speakersOn_39 (by decide) ?_
        refine pw_ior dX8_speakersOn_40 ?_
        refine pw_istore_2 dX8_speakersOn_41 (by decide) ?_
        refine pw_iincN_3 dX8_speakersOn_42 (by decide) ?_
        refine pw_goto 4 dX8_speakersOn_45 (by decide) ?_
        rw [msk_n (p := fun s => spB B s ∧ fwB B s = v) (fun hh => h3 (by rw [← hh.2, fw_of hy y6]))] at ih
        rw [or_z]
        exact ih
      · skip
        refine pw_iconst (v := nI 1) dX8_speakersOn_33 (by decide) ?_
        refine pw_iload_3 dX8_speakersOn_34 ?_
        refine pw_ishl dX8_speakersOn_35 ?_
        refine pw_goto 40 dX8_speakersOn_36 (by decide) ?_
        refine pw_ior dX8_speakersOn_40 ?_
        refine pw_istore_2 dX8_speakersOn_41 (by decide) ?_
        refine pw_iincN_3 dX8_speakersOn_42 (by decide) ?_
        refine pw_goto 4 dX8_speakersOn_45 (by decide) ?_
        rw [msk_y (p := fun s => spB B s ∧ fwB B s = v) ⟨h1, (fw_of hy y6).trans ((nI_eq (by omega) (by omega)).mp h3)⟩] at ih
        exact ih
    · skip
      refine pw_if_eq 39 dX8_speakersOn_21 (by decide) (fun _ => ?_) (fun hh => absurd (by decide) hh)
      refine pw_iconst (v := nI 0) dX8_speakersOn_39 (by decide) ?_
      refine pw_ior dX8_speakersOn_40 ?_
      refine pw_istore_2 dX8_speakersOn_41 (by decide) ?_
      refine pw_iincN_3 dX8_speakersOn_42 (by decide) ?_
      refine pw_goto 4 dX8_speakersOn_45 (by decide) ?_
      rw [msk_n (p := fun s => spB B s ∧ fwB B s = v) (fun hh => h2 hh.1)] at ih
      rw [or_z]
      exact ih
set_option maxRecDepth 100000 in
set_option maxHeartbeats 4000000 in
theorem m_sum {X : Cx} {σ : Sp} {μ : Mm} {Q : Int32 → Sp → Mm → Prop} {m : Nat} {z : Nat → Int32} {B : Bs} {j : Nat} (h : ShM σ m) (hz : ZR z B) (wf : WF B) (hj : j < 40) (q : Q (smI (fun s => bS B s j) (nS B)) σ (wC μ (m + 1) z)) : CTi X mX8_sum [.ref m, .int (nI j)] σ ((wC μ (m + 1) z)) Q := by
  refine CT.of (by decide +kernel) (Nat.le_of_ble_eq_true rfl) ?_
  show PW X mX8_sum 0 0 0 [some (.ref m), some (.int (nI j)), none, none] [] σ ((wC μ (m + 1) z)) (LI Q)
  have hn := wf.hn
  have h8 := wf.n8
  refine pw_iconst (v := nI 0) dX8_sum_0 (by decide) ?_
  refine pw_istore_2 dX8_sum_1 (by decide) ?_
  refine pw_iconst (v := nI 0) dX8_sum_2 (by decide) ?_
  refine pw_istore_3 dX8_sum_3 (by decide) ?_
  refine pw_fg (ls' := [some (.ref m), some (.int (nI j)), some (.int (smI (fun s => bS B s j) 0)), some (.int (nI 0))]) ⟨Or.inr rfl, Or.inr rfl, Or.inr rfl, Or.inr rfl, trivial⟩ ?_
  refine pw_up (P := fun k => PW X mX8_sum 0 0 4 [some (.ref m), some (.int (nI j)), some (.int (smI (fun s => bS B s j) k)), some (.int (nI k))] [] σ (wC μ (m + 1) z) (LI Q)) (nS B) ?_ ?_ 0 (by omega)
  · skip
    refine pw_iload_3 dX8_sum_4 ?_
    refine pw_aload_0 dX8_sum_5 ?_
    refine pw_getr 8 0 dX8_sum_6 fX8_7 rfl (by decide) rfl h.t h.r0 ?_
    refine pw_bipush (v := nI 6) dX8_sum_9 (by decide) ?_
    refine pw_ialdN dX8_sum_11 h.a1 (by omega) (by decide) ?_
    refine pw_top (show _ = nI (nS B) from by rw [wC_self, hz.g (by decide)]; exact hn) ?_
    refine pw_icmp_ge 30 dX8_sum_12 (by decide) (fun _ => ?_) (fun hh => absurd (by rw [nI_leI (by omega) (by omega)]; omega) hh)
    refine pw_iload_2 dX8_sum_30 ?_
    refine pw_ireturn dX8_sum_31 rfl ?_
    exact q
  · intro k hk ih
    refine pw_iload_3 dX8_sum_4 ?_
    refine pw_aload_0 dX8_sum_5 ?_
    refine pw_getr 8 0 dX8_sum_6 fX8_7 rfl (by decide) rfl h.t h.r0 ?_
    refine pw_bipush (v := nI 6) dX8_sum_9 (by decide) ?_
    refine pw_ialdN dX8_sum_11 h.a1 (by omega) (by decide) ?_
    refine pw_top (show _ = nI (nS B) from by rw [wC_self, hz.g (by decide)]; exact hn) ?_
    refine pw_icmp_ge 30 dX8_sum_12 (by decide) (fun hh => absurd hh (by rw [nI_leI (by omega) (by omega)]; omega)) (fun _ => ?_)
    refine pw_iload_2 dX8_sum_15 ?_
    refine pw_aload_0 dX8_sum_16 ?_
    refine pw_iload_3 dX8_sum_17 ?_
    refine pw_iload_1 dX8_sum_18 ?_
    refine pw_cV2i 8 dX8_sum_19 kX8_40 vX8_at iX8_at ⟨by decide, by decide⟩ ⟨rfl, rfl⟩ (by decide) rfl (Nat.le_of_ble_eq_true rfl) h.t (c_X8_at h hz (by omega) (by omega) ?_)
    refine pw_iadd dX8_sum_22 ?_
    refine pw_istore_2 dX8_sum_23 (by decide) ?_
    refine pw_iincN_3 dX8_sum_24 (by decide) ?_
    refine pw_goto 4 dX8_sum_27 (by decide) ?_
    exact ih
set_option maxRecDepth 100000 in
set_option maxHeartbeats 4000000 in
theorem m_faults {X : Cx} {σ : Sp} {μ : Mm} {Q : Int32 → Sp → Mm → Prop} {m : Nat} {z : Nat → Int32} {B : Bs} (h : ShM σ m) (hz : ZR z B) (wf : WF B) (q : Q (msk (fun v => bW B v 1 = nI 1) 6) σ (wC μ (m + 1) z)) : CTi X mX8_faults [.ref m] σ ((wC μ (m + 1) z)) Q := by
  refine CT.of (by decide +kernel) (Nat.le_of_ble_eq_true rfl) ?_
  show PW X mX8_faults 0 0 0 [some (.ref m), none, none] [] σ ((wC μ (m + 1) z)) (LI Q)
  have hn := wf.hn
  have h8 := wf.n8
  refine pw_iconst (v := nI 0) dX8_faults_0 (by decide) ?_
  refine pw_istore_1 dX8_faults_1 (by decide) ?_
  refine pw_iconst (v := nI 0) dX8_faults_2 (by decide) ?_
  refine pw_istore_2 dX8_faults_3 (by decide) ?_
  refine pw_fg (ls' := [some (.ref m), some (.int (msk (fun v => bW B v 1 = nI 1) 0)), some (.int (nI 0))]) ⟨Or.inr rfl, Or.inr rfl, Or.inr rfl, trivial⟩ ?_
  refine pw_up (P := fun k => PW X mX8_faults 0 0 4 [some (.ref m), some (.int (msk (fun v => bW B v 1 = nI 1) k)), some (.int (nI k))] [] σ (wC μ (m + 1) z) (LI Q)) 6 ?_ ?_ 0 (by omega)
  · skip
    refine pw_iload_2 dX8_faults_4 ?_
    refine pw_bipush (v := nI 6) dX8_faults_5 (by decide) ?_
    refine pw_icmp_ge 27 dX8_faults_7 (by decide) (fun _ => ?_) (fun hh => absurd (by rw [nI_leI (by omega) (by omega)]; omega) hh)
    refine pw_iload_1 dX8_faults_27 ?_
    refine pw_ireturn dX8_faults_28 rfl ?_
    exact q
  · intro k hk ih
    refine pw_iload_2 dX8_faults_4 ?_
    refine pw_bipush (v := nI 6) dX8_faults_5 (by decide) ?_
    refine pw_icmp_ge 27 dX8_faults_7 (by decide) (fun hh => absurd hh (by rw [nI_leI (by omega) (by omega)]; omega)) (fun _ => ?_)
    refine pw_iload_1 dX8_faults_10 ?_
    refine pw_aload_0 dX8_faults_11 ?_
    refine pw_iload_2 dX8_faults_12 ?_
    refine pw_iconst (v := nI 1) dX8_faults_13 (by decide) ?_
    refine pw_cV2i 8 dX8_faults_14 kX8_100 vX8_wire iX8_wire ⟨by decide, by decide⟩ ⟨rfl, rfl⟩ (by decide) rfl (Nat.le_of_ble_eq_true rfl) h.t (c_X8_wire h hz (by omega) (by decide) ?_)
    refine pw_iload_2 dX8_faults_17 ?_
    refine pw_ishl dX8_faults_18 ?_
    refine pw_ior dX8_faults_19 ?_
    refine pw_istore_1 dX8_faults_20 (by decide) ?_
    refine pw_iincN_2 dX8_faults_21 (by decide) ?_
    refine pw_goto 4 dX8_faults_24 (by decide) ?_
    by_cases e : bW B k 1 = nI 1
    · rw [msk_y (p := fun v => bW B v 1 = nI 1) e] at ih
      rw [e]
      exact ih
    · rw [msk_n (p := fun v => bW B v 1 = nI 1) e] at ih
      rw [((wf.2.2.1 k hk).2).resolve_right e, show nI 0 <<< (nI k &&& 31) = nI 0 from b_ext fun i hi => by rw [b_shl k (by omega) _ hi, show bt (nI 0) (i - k) = false from b_0 _, show bt (nI 0) i = false from b_0 _, Bool.and_false], or_z]
      exact ih
set_option maxRecDepth 100000 in
set_option maxHeartbeats 4000000 in
theorem m_bitOf {X : Cx} {σ : Sp} {μ : Mm} {Q : Int32 → Sp → Mm → Prop} {m : Nat} {z : Nat → Int32} {B : Bs} {i : Nat} (h : ShM σ m) (hz : ZR z B) (hi : i < 8) (q : Q (btB B i) σ (wC μ (m + 1) z)) : CTi X mX8_bitOf [.ref m, .int (nI i)] σ ((wC μ (m + 1) z)) Q := by
  refine CT.of (by decide +kernel) (Nat.le_of_ble_eq_true rfl) ?_
  show PW X mX8_bitOf 0 0 0 [some (.ref m), some (.int (nI i)), none] [] σ ((wC μ (m + 1) z)) (LI Q)
  refine pw_aload_0 dX8_bitOf_0 ?_
  refine pw_iload_1 dX8_bitOf_1 ?_
  refine pw_bipush (v := nI 17) dX8_bitOf_2 (by decide) ?_
  refine pw_cV2i 8 dX8_bitOf_4 kX8_40 vX8_at iX8_at ⟨by decide, by decide⟩ ⟨rfl, rfl⟩ (by decide) rfl (Nat.le_of_ble_eq_true rfl) h.t (c_X8_at h hz (by omega) (by decide) ?_)
  refine pw_istore_2 dX8_bitOf_7 (by decide) ?_
  refine pw_iload_2 dX8_bitOf_8 ?_
  refine pw_iconst (v := nI 3) dX8_bitOf_9 (by decide) ?_
  refine pw_icmp_ge 23 dX8_bitOf_10 (by decide) (fun h1 => ?_) (fun h1 => ?_)
  · skip
    refine pw_aload_0 dX8_bitOf_23 ?_
    refine pw_iload_1 dX8_bitOf_24 ?_
    refine pw_iconst (v := nI 5) dX8_bitOf_25 (by decide) ?_
    refine pw_cV2i 8 dX8_bitOf_26 kX8_40 vX8_at iX8_at ⟨by decide, by decide⟩ ⟨rfl, rfl⟩ (by decide) rfl (Nat.le_of_ble_eq_true rfl) h.t (c_X8_at h hz (by omega) (by decide) ?_)
    refine pw_bipush (v := nI 10) dX8_bitOf_29 (by decide) ?_
    refine pw_iload_2 dX8_bitOf_31 ?_
    refine pw_isub dX8_bitOf_32 ?_
    refine pw_ishr dX8_bitOf_33 ?_
    refine pw_iconst (v := nI 1) dX8_bitOf_34 (by decide) ?_
    refine pw_iand dX8_bitOf_35 ?_
    refine pw_ireturn dX8_bitOf_36 rfl ?_
    unfold btB at q
    rw [if_neg (Int32.not_lt.mpr h1)] at q
    exact q
  · skip
    refine pw_iload_1 dX8_bitOf_13 ?_
    refine pw_iconst (v := nI 2) dX8_bitOf_14 (by decide) ?_
    refine pw_iload_2 dX8_bitOf_15 ?_
    refine pw_isub dX8_bitOf_16 ?_
    refine pw_ishr dX8_bitOf_17 ?_
    refine pw_iconst (v := nI 1) dX8_bitOf_18 (by decide) ?_
    refine pw_iand dX8_bitOf_19 ?_
    refine pw_goto 36 dX8_bitOf_20 (by decide) ?_
    refine pw_ireturn dX8_bitOf_36 rfl ?_
    unfold btB at q
    rw [if_pos (Int32.not_le.mp h1)] at q
    exact q
theorem awM_up {B : Bs} {i : Nat} {x y : Int32} : awM (setS B i (upd (bS B i) 17 x)) y = awM B y := Fr_awM (Fr_setS ⟨upd_n _ _ (by omega), upd_n _ _ (by omega), upd_n _ _ (by omega)⟩) y
theorem wf_up17 {B : Bs} {i k : Nat} (wf : WF B) (hi : i < nS B) (h0 : 0 < nwF (bS B i)) (hk : k ≤ 10) : WF (setS B i (upd (bS B i) 17 (nI k))) := wf.pS hi ((wf.s hi).spk hk h0) (by rw [upd_n _ _ (by omega)]; exact wf.c hi)
set_option maxRecDepth 100000 in
set_option maxHeartbeats 4000000 in
theorem m_begin {X : Cx} {σ : Sp} {μ : Mm} {Q : Sp → Mm → Prop} {m : Nat} {z : Nat → Int32} {B : Bs} (h : ShM σ m) (hz : ZR z B) (wf : WF B) (q : ∀ z', ZR z' (bgB B) → Q σ (wC μ (m + 1) z')) : CTv X mX8_begin [.ref m] σ ((wC μ (m + 1) z)) Q := by
  refine CT.of (by decide +kernel) (Nat.le_of_ble_eq_true rfl) ?_
  show PW X mX8_begin 0 0 0 [some (.ref m), none] [] σ ((wC μ (m + 1) z)) (LV Q)
  have hn := wf.hn
  have h8 := wf.n8
  refine pw_iconst (v := nI 0) dX8_begin_0 (by decide) ?_
  refine pw_istore_1 dX8_begin_1 (by decide) ?_
  refine pw_fg (ls' := [some (.ref m), some (.int (nI 0))]) ⟨Or.inr rfl, Or.inr rfl, trivial⟩ ?_
  refine pw_up (P := fun k => ∀ z, ZR z (itr bgS k B) → PW X mX8_begin 0 0 2 [some (.ref m), some (.int (nI k))] [] σ (wC μ (m + 1) z) (LV Q)) (nS B) ?_ ?_ 0 (by omega) _ hz
  · intro z1 hz1
    have hn1 : bG (itr bgS (nS B) B) 6 = nI (nS B) := by rw [(bg_wf wf (Nat.le_refl _)).2.1]; exact hn
    refine pw_iload_1 dX8_begin_2 ?_
    refine pw_aload_0 dX8_begin_3 ?_
    refine pw_getr 8 0 dX8_begin_4 fX8_7 rfl (by decide) rfl h.t h.r0 ?_
    refine pw_bipush (v := nI 6) dX8_begin_7 (by decide) ?_
    refine pw_ialdN dX8_begin_9 h.a1 (by omega) (by decide) ?_
    refine pw_top (show _ = nI (nS B) from by rw [wC_self, hz1.g (by decide)]; exact hn1) ?_
    refine pw_icmp_ge 51 dX8_begin_10 (by decide) (fun _ => ?_) (fun hh => absurd (by rw [nI_leI (by omega) (by omega)]; omega) hh)
    refine pw_return dX8_begin_51 rfl ?_
    exact q _ hz1
  · intro k hk ih z1 hz1
    have ih2 : ∀ z, ZR z (bgS k (itr bgS k B)) → _ := ih
    have wn := bg_wf wf (show k ≤ nS B by omega)
    have wf1 := wn.1
    have hn1 : bG (itr bgS k B) 6 = nI (nS B) := by rw [wn.2.1]; exact hn
    have en : nS (itr bgS k B) = nS B := wn.2.n
    clear wn
    generalize itr bgS k B = C at hz1 ih2 wf1 hn1 en
    refine pw_iload_1 dX8_begin_2 ?_
    refine pw_aload_0 dX8_begin_3 ?_
    refine pw_getr 8 0 dX8_begin_4 fX8_7 rfl (by decide) rfl h.t h.r0 ?_
    refine pw_bipush (v := nI 6) dX8_begin_7 (by decide) ?_
    refine pw_ialdN dX8_begin_9 h.a1 (by omega) (by decide) ?_
    refine pw_top (show _ = nI (nS B) from by rw [wC_self, hz1.g (by decide)]; exact hn1) ?_
    refine pw_icmp_ge 51 dX8_begin_10 (by decide) (fun hh => absurd hh (by rw [nI_leI (by omega) (by omega)]; omega)) (fun _ => ?_)
    refine pw_aload_0 dX8_begin_13 ?_
    refine pw_iload_1 dX8_begin_14 ?_
    refine pw_cV1i 8 dX8_begin_15 kX8_124 vX8_begins iX8_begins ⟨by decide, by decide⟩ ⟨rfl, rfl⟩ (by decide) rfl (Nat.le_of_ble_eq_true rfl) h.t (m_begins h hz1 wf1 (by omega) (fun h1 => ?_) (fun h2 => ?_))
    · skip
      refine pw_if_eq 45 dX8_begin_18 (by decide) (fun hh => absurd hh (by decide)) (fun _ => ?_)
      refine pw_aload_0 dX8_begin_21 ?_
      refine pw_iload_1 dX8_begin_22 ?_
      refine pw_bipush (v := nI 17) dX8_begin_23 (by decide) ?_
      refine pw_iconst (v := nI 0) dX8_begin_25 (by decide) ?_
      refine pw_cV3v 8 dX8_begin_26 kX8_55 vX8_lay iX8_lay ⟨by decide, by decide⟩ ⟨rfl, rfl⟩ (by decide) rfl (Nat.le_of_ble_eq_true rfl) h.t (c_X8_lay h hz1 (by omega) (by decide) (fun z1 hz1 => ?_))
      refine pw_aload_0 dX8_begin_29 ?_
      refine pw_iload_1 dX8_begin_30 ?_
      refine pw_bipush (v := nI 18) dX8_begin_31 (by decide) ?_
      refine pw_aload_0 dX8_begin_33 ?_
      refine pw_aload_0 dX8_begin_34 ?_
      refine pw_iload_1 dX8_begin_35 ?_
      refine pw_cV1i 8 dX8_begin_36 kX8_90 vX8_firstWire iX8_firstWire ⟨by decide, by decide⟩ ⟨rfl, rfl⟩ (by decide) rfl (Nat.le_of_ble_eq_true rfl) h.t (c_X8_firstWire h hz1 (by omega) ?_)
      refine pw_cV1i 8 dX8_begin_39 kX8_127 vX8_awakeAt iX8_awakeAt ⟨by decide, by decide⟩ ⟨rfl, rfl⟩ (by decide) rfl (Nat.le_of_ble_eq_true rfl) h.t (m_awakeAt h hz1 (wf_up17 wf1 (by omega) h1.2.2.1 (k := 0) (by omega)) ?_)
      refine pw_cV3v 8 dX8_begin_42 kX8_55 vX8_lay iX8_lay ⟨by decide, by decide⟩ ⟨rfl, rfl⟩ (by decide) rfl (Nat.le_of_ble_eq_true rfl) h.t (c_X8_lay h hz1 (by omega) (by decide) (fun z2 hz2 => ?_))
      refine pw_iincN_1 dX8_begin_45 (by decide) ?_
      refine pw_goto 2 dX8_begin_48 (by decide) ?_
      refine ih2 _ (Eq.mp (congrArg (fun b => ZR z2 b) ?_) hz2)
      unfold bgS
      rw [cif_y h1]
      simp only [setS_setS, bS_setS_s, awM_up]
      rw [upd_n _ _ (show 6 ≠ 17 by omega)]
    · skip
      refine pw_if_eq 45 dX8_begin_18 (by decide) (fun _ => ?_) (fun hh => absurd (by decide) hh)
      refine pw_iincN_1 dX8_begin_45 (by decide) ?_
      refine pw_goto 2 dX8_begin_48 (by decide) ?_
      refine ih2 _ ?_
      unfold bgS
      rw [cif_n h2]
      exact hz1
def LW (μ : Mm) (m : Nat) (p : Nat → Prop) (k : Nat) (ν : Mm) : Prop := (∀ a, a ≠ m + 7 → ν a = μ a) ∧ ∀ v, v < k → ν (m + 7) v = cif (p v) (nI 1) (nI 0)
theorem LW.step {μ ν : Mm} {m k : Nat} {p : Nat → Prop} {x : Int32} (h : LW μ m p k ν) (hx : x = cif (p k) (nI 1) (nI 0)) : LW μ m p (k + 1) (wr ν (m + 7) k x) := by
  refine ⟨fun a ha => (wr_n _ _ _ ha).trans (h.1 a ha), fun v hv => ?_⟩
  rw [wr_s]
  by_cases e : v = k
  · subst e
    rw [upd_s, hx]
  · rw [upd_n _ _ e]
    exact h.2 v (by omega)
theorem LW.set {μ ν : Mm} {m y : Nat} {p q : Nat → Prop} (h : LW μ m p 6 ν) (hq : ∀ v, q v ↔ (p v ∨ v = y)) : LW μ m q 6 (wr ν (m + 7) y (nI 1)) := by
  refine ⟨fun a ha => (wr_n _ _ _ ha).trans (h.1 a ha), fun v hv => ?_⟩
  rw [wr_s]
  by_cases e : v = y
  · subst e
    rw [upd_s, cif_y ((hq v).mpr (Or.inr rfl))]
  · rw [upd_n _ _ e, h.2 v hv]
    exact cif_cong ⟨fun k => (hq v).mpr (Or.inl k), fun k => ((hq v).mp k).resolve_right e⟩
theorem LW.cong {μ ν : Mm} {m k : Nat} {p q : Nat → Prop} (h : LW μ m p k ν) (e : ∀ v, p v ↔ q v) : LW μ m q k ν := ⟨h.1, fun v hv => (h.2 v hv).trans (cif_cong (e v))⟩
def lwP (B : Bs) (k v : Nat) : Prop := bW B v 1 = nI 1 ∨ plP B k v
theorem lw_n {B : Bs} {k : Nat} (h : ¬ (spB B k ∧ btB B k = nI 0)) (v : Nat) : lwP B k v ↔ lwP B (k + 1) v := by
  refine or_congr Iff.rfl ⟨?_, ?_⟩
  · rintro ⟨s, h1, h2⟩
    exact ⟨s, by omega, h2⟩
  · rintro ⟨s, h1, h2, h3, h4⟩
    refine ⟨s, ?_, h2, h3, h4⟩
    rcases Nat.lt_or_ge s k with q | q
    · exact q
    · have : s = k := by omega
      subst this
      exact absurd ⟨h2, h3⟩ h
theorem lw_y {B : Bs} {k y : Nat} (h : spB B k) (h2 : btB B k = nI 0) (h3 : fwB B k = y) (v : Nat) : lwP B (k + 1) v ↔ (lwP B k v ∨ v = y) := by
  constructor
  · rintro (e | ⟨s, h1, h4, h5, h6⟩)
    · exact Or.inl (Or.inl e)
    · rcases Nat.lt_or_ge s k with q | q
      · exact Or.inl (Or.inr ⟨s, q, h4, h5, h6⟩)
      · have : s = k := by omega
        subst this
        exact Or.inr (h6.symm.trans h3)
  · rintro ((e | ⟨s, h1, h4⟩) | e)
    · exact Or.inl e
    · exact Or.inr ⟨s, by omega, h4⟩
    · exact Or.inr ⟨k, by omega, h, h2, h3.trans e.symm⟩
set_option maxRecDepth 100000 in
set_option maxHeartbeats 4000000 in
theorem m_pull {X : Cx} {σ : Sp} {μ : Mm} {Q : Sp → Mm → Prop} {m : Nat} {z : Nat → Int32} {B : Bs} (h : ShM σ m) (hz : ZR z B) (wf : WF B) (q : ∀ ν, LW μ m (lowB B) 6 ν → Q σ (wC ν (m + 1) z)) : CTv X mX8_pull [.ref m] σ ((wC μ (m + 1) z)) Q := by
  refine CT.of (by decide +kernel) (Nat.le_of_ble_eq_true rfl) ?_
  show PW X mX8_pull 0 0 0 [some (.ref m), none] [] σ ((wC μ (m + 1) z)) (LV Q)
  have hn := wf.hn
  have h8 := wf.n8
  refine pw_iconst (v := nI 0) dX8_pull_0 (by decide) ?_
  refine pw_istore_1 dX8_pull_1 (by decide) ?_
  refine pw_up (P := fun k => ∀ ν, LW μ m (fun v => bW B v 1 = nI 1) k ν → PW X mX8_pull 0 0 2 [some (.ref m), some (.int (nI k))] [] σ (wC ν (m + 1) z) (LV Q)) 6 ?_ ?_ 0 (by omega) μ ⟨fun _ _ => rfl, fun v hv => absurd hv (by omega)⟩
  · intro ν1 hl1
    refine pw_iload_1 dX8_pull_2 ?_
    refine pw_bipush (v := nI 6) dX8_pull_3 (by decide) ?_
    refine pw_icmp_ge 35 dX8_pull_5 (by decide) (fun _ => ?_) (fun hh => absurd (by rw [nI_leI (by omega) (by omega)]; omega) hh)
    refine pw_iconst (v := nI 0) dX8_pull_35 (by decide) ?_
    refine pw_istore_1 dX8_pull_36 (by decide) ?_
    refine pw_up (P := fun k => ∀ ν, LW μ m (lwP B k) 6 ν → PW X mX8_pull 0 0 37 [some (.ref m), some (.int (nI k))] [] σ (wC ν (m + 1) z) (LV Q)) (nS B) ?_ ?_ 0 (by omega) _ (hl1.cong (fun v => ⟨Or.inl, fun hh => hh.elim id (fun ⟨s, h1, _⟩ => absurd h1 (by omega))⟩))
    · intro ν2 hl2
      refine pw_iload_1 dX8_pull_37 ?_
      refine pw_aload_0 dX8_pull_38 ?_
      refine pw_getr 8 0 dX8_pull_39 fX8_7 rfl (by decide) rfl h.t h.r0 ?_
      refine pw_bipush (v := nI 6) dX8_pull_42 (by decide) ?_
      refine pw_ialdN dX8_pull_44 h.a1 (by omega) (by decide) ?_
      refine pw_top (show _ = nI (nS B) from by rw [wC_self, hz.g (by decide)]; exact hn) ?_
      refine pw_icmp_ge 81 dX8_pull_45 (by decide) (fun _ => ?_) (fun hh => absurd (by rw [nI_leI (by omega) (by omega)]; omega) hh)
      refine pw_return dX8_pull_81 rfl ?_
      exact q _ hl2
    · intro k hk ih ν2 hl2
      refine pw_iload_1 dX8_pull_37 ?_
      refine pw_aload_0 dX8_pull_38 ?_
      refine pw_getr 8 0 dX8_pull_39 fX8_7 rfl (by decide) rfl h.t h.r0 ?_
      refine pw_bipush (v := nI 6) dX8_pull_42 (by decide) ?_
      refine pw_ialdN dX8_pull_44 h.a1 (by omega) (by decide) ?_
      refine pw_top (show _ = nI (nS B) from by rw [wC_self, hz.g (by decide)]; exact hn) ?_
      refine pw_icmp_ge 81 dX8_pull_45 (by decide) (fun hh => absurd hh (by rw [nI_leI (by omega) (by omega)]; omega)) (fun _ => ?_)
      refine pw_aload_0 dX8_pull_48 ?_
      refine pw_iload_1 dX8_pull_49 ?_
      refine pw_cV1i 8 dX8_pull_50 kX8_109 vX8_speaks iX8_speaks ⟨by decide, by decide⟩ ⟨rfl, rfl⟩ (by decide) rfl (Nat.le_of_ble_eq_true rfl) h.t (c_X8_speaks h hz (by omega) (fun h1 => ?_) (fun h2 => ?_))
      · skip
        refine pw_if_eq 75 dX8_pull_53 (by decide) (fun hh => absurd hh (by decide)) (fun _ => ?_)
        refine pw_aload_0 dX8_pull_56 ?_
        refine pw_iload_1 dX8_pull_57 ?_
        refine pw_cV1i 8 dX8_pull_58 kX8_130 vX8_bitOf iX8_bitOf ⟨by decide, by decide⟩ ⟨rfl, rfl⟩ (by decide) rfl (Nat.le_of_ble_eq_true rfl) h.t (m_bitOf h hz (by omega) ?_)
        refine pw_if_ne 75 dX8_pull_61 (by decide) (fun h3 => ?_) (fun h3 => ?_)
        · skip
          refine pw_iincN_1 dX8_pull_75 (by decide) ?_
          refine pw_goto 37 dX8_pull_78 (by decide) ?_
          exact ih _ (hl2.cong (lw_n (fun hh => h3 hh.2)))
        · skip
          obtain ⟨-, y, y6, hy⟩ := (wf.s (i := k) hk).word ((wf.s (i := k) hk).sp h1).1
          have hy : bS B k 6 = nI y := hy
          refine pw_aload_0 dX8_pull_64 ?_
          refine pw_getr 8 8 dX8_pull_65 fX8_30 rfl (by decide) rfl h.t h.r8 ?_
          refine pw_aload_0 dX8_pull_68 ?_
          refine pw_iload_1 dX8_pull_69 ?_
          refine pw_cV1i 8 dX8_pull_70 kX8_90 vX8_firstWire iX8_firstWire ⟨by decide, by decide⟩ ⟨rfl, rfl⟩ (by decide) rfl (Nat.le_of_ble_eq_true rfl) h.t (c_X8_firstWire h hz (by omega) ?_)
          refine pw_top hy ?_
          refine pw_iconst (v := nI 1) dX8_pull_73 (by decide) ?_
          refine pw_zastN dX8_pull_74 h.a7 (by omega) (by decide) ?_
          refine pw_iincN_1 dX8_pull_75 (by decide) ?_
          refine pw_goto 37 dX8_pull_78 (by decide) ?_
          refine pw_mem (wr_wC_n _ _ _ _ (by omega)) (ih _ (hl2.set (lw_y h1 h3 (fw_of hy y6))))
      · skip
        refine pw_if_eq 75 dX8_pull_53 (by decide) (fun _ => ?_) (fun hh => absurd (by decide) hh)
        refine pw_iincN_1 dX8_pull_75 (by decide) ?_
        refine pw_goto 37 dX8_pull_78 (by decide) ?_
        exact ih _ (hl2.cong (lw_n (fun hh => h2 hh.1)))
  · intro k hk ih ν1 hl1
    refine pw_iload_1 dX8_pull_2 ?_
    refine pw_bipush (v := nI 6) dX8_pull_3 (by decide) ?_
    refine pw_icmp_ge 35 dX8_pull_5 (by decide) (fun hh => absurd hh (by rw [nI_leI (by omega) (by omega)]; omega)) (fun _ => ?_)
    refine pw_aload_0 dX8_pull_8 ?_
    refine pw_getr 8 8 dX8_pull_9 fX8_30 rfl (by decide) rfl h.t h.r8 ?_
    refine pw_iload_1 dX8_pull_12 ?_
    refine pw_aload_0 dX8_pull_13 ?_
    refine pw_iload_1 dX8_pull_14 ?_
    refine pw_iconst (v := nI 1) dX8_pull_15 (by decide) ?_
    refine pw_cV2i 8 dX8_pull_16 kX8_100 vX8_wire iX8_wire ⟨by decide, by decide⟩ ⟨rfl, rfl⟩ (by decide) rfl (Nat.le_of_ble_eq_true rfl) h.t (c_X8_wire h hz (by omega) (by decide) ?_)
    refine pw_iconst (v := nI 1) dX8_pull_19 (by decide) ?_
    refine pw_icmp_ne 27 dX8_pull_20 (by decide) (fun h4 => ?_) (fun h4 => ?_)
    · skip
      refine pw_iconst (v := nI 0) dX8_pull_27 (by decide) ?_
      refine pw_zastN dX8_pull_28 h.a7 (by omega) (by decide) ?_
      refine pw_iincN_1 dX8_pull_29 (by decide) ?_
      refine pw_goto 2 dX8_pull_32 (by decide) ?_
      refine pw_mem (wr_wC_n _ _ _ _ (by omega)) (ih _ (hl1.step (cif_n h4).symm))
    · skip
      refine pw_iconst (v := nI 1) dX8_pull_23 (by decide) ?_
      refine pw_goto 28 dX8_pull_24 (by decide) ?_
      refine pw_zastN dX8_pull_28 h.a7 (by omega) (by decide) ?_
      refine pw_iincN_1 dX8_pull_29 (by decide) ?_
      refine pw_goto 2 dX8_pull_32 (by decide) ?_
      refine pw_mem (wr_wC_n _ _ _ _ (by omega)) (ih _ (hl1.step (cif_y h4).symm))
def aaP (B : Bs) (x : Int32) (k : Nat) : Prop := ∀ s, s < k → bi x (nI s) = nI 1 → awB B s
theorem aa_s {B : Bs} {x : Int32} {k : Nat} : aaP B x (k + 1) ↔ aaP B x k ∧ (bi x (nI k) = nI 1 → awB B k) := by
  constructor
  · exact fun h => ⟨fun s hs => h s (by omega), h k (by omega)⟩
  · rintro ⟨h1, h2⟩ s hs
    by_cases e : s = k
    · subst e
      exact h2
    · exact h1 s (by omega)
set_option maxRecDepth 100000 in
set_option maxHeartbeats 4000000 in
theorem m_allAwake {X : Cx} {σ : Sp} {μ : Mm} {Q : Int32 → Sp → Mm → Prop} {m : Nat} {z : Nat → Int32} {B : Bs} {x : Int32} (h : ShM σ m) (hz : ZR z B) (wf : WF B) (q1 : aaP B x (nS B) → Q (nI 1) σ (wC μ (m + 1) z)) (q0 : ¬ aaP B x (nS B) → Q (nI 0) σ (wC μ (m + 1) z)) : CTi X mX8_allAwake [.ref m, .int x] σ ((wC μ (m + 1) z)) Q := by
  refine CT.of (by decide +kernel) (Nat.le_of_ble_eq_true rfl) ?_
  show PW X mX8_allAwake 0 0 0 [some (.ref m), some (.int x), none, none] [] σ ((wC μ (m + 1) z)) (LI Q)
  have hn := wf.hn
  have h8 := wf.n8
  refine pw_iconst (v := nI 1) dX8_allAwake_0 (by decide) ?_
  refine pw_istore_2 dX8_allAwake_1 (by decide) ?_
  refine pw_iconst (v := nI 0) dX8_allAwake_2 (by decide) ?_
  refine pw_istore_3 dX8_allAwake_3 (by decide) ?_
  have e0 : nI 1 = cif (aaP B x 0) (nI 1) (nI 0) := (cif_y (fun s hs => absurd hs (by omega))).symm
  refine Eq.mpr (congrArg (fun y => PW X mX8_allAwake 0 0 4 [some (.ref m), some (.int x), some (.int y), some (.int (nI 0))] [] σ (wC μ (m + 1) z) (LI Q)) e0) ?_
  clear e0
  refine pw_up (P := fun k => PW X mX8_allAwake 0 0 4 [some (.ref m), some (.int x), some (.int (cif (aaP B x k) (nI 1) (nI 0))), some (.int (nI k))] [] σ (wC μ (m + 1) z) (LI Q)) (nS B) ?_ ?_ 0 (by omega)
  · skip
    refine pw_iload_3 dX8_allAwake_4 ?_
    refine pw_aload_0 dX8_allAwake_5 ?_
    refine pw_getr 8 0 dX8_allAwake_6 fX8_7 rfl (by decide) rfl h.t h.r0 ?_
    refine pw_bipush (v := nI 6) dX8_allAwake_9 (by decide) ?_
    refine pw_ialdN dX8_allAwake_11 h.a1 (by omega) (by decide) ?_
    refine pw_top (show _ = nI (nS B) from by rw [wC_self, hz.g (by decide)]; exact hn) ?_
    refine pw_icmp_ge 47 dX8_allAwake_12 (by decide) (fun _ => ?_) (fun hh => absurd (by rw [nI_leI (by omega) (by omega)]; omega) hh)
    refine pw_iload_2 dX8_allAwake_47 ?_
    refine pw_zreturn dX8_allAwake_48 rfl (cif_01 _) ?_
    by_cases e : aaP B x (nS B)
    · rw [cif_y e]
      exact q1 e
    · rw [cif_n e]
      exact q0 e
  · intro k hk ih
    refine pw_iload_3 dX8_allAwake_4 ?_
    refine pw_aload_0 dX8_allAwake_5 ?_
    refine pw_getr 8 0 dX8_allAwake_6 fX8_7 rfl (by decide) rfl h.t h.r0 ?_
    refine pw_bipush (v := nI 6) dX8_allAwake_9 (by decide) ?_
    refine pw_ialdN dX8_allAwake_11 h.a1 (by omega) (by decide) ?_
    refine pw_top (show _ = nI (nS B) from by rw [wC_self, hz.g (by decide)]; exact hn) ?_
    refine pw_icmp_ge 47 dX8_allAwake_12 (by decide) (fun hh => absurd hh (by rw [nI_leI (by omega) (by omega)]; omega)) (fun _ => ?_)
    refine pw_iload_2 dX8_allAwake_15 ?_
    refine pw_if_eq 39 dX8_allAwake_16 (by decide) (fun h1 => ?_) (fun h1 => ?_)
    · skip
      refine pw_iconst (v := nI 0) dX8_allAwake_39 (by decide) ?_
      refine pw_istore_2 dX8_allAwake_40 (by decide) ?_
      refine pw_iincN_3 dX8_allAwake_41 (by decide) ?_
      refine pw_goto 4 dX8_allAwake_44 (by decide) ?_
      rw [show cif (aaP B x (k + 1)) (nI 1) (nI 0) = _ from cif_n (fun hh => cif_0 h1 (aa_s.mp hh).1)] at ih
      exact ih
    · skip
      refine pw_iload_1 dX8_allAwake_19 ?_
      refine pw_iload_3 dX8_allAwake_20 ?_
      refine pw_ishr dX8_allAwake_21 ?_
      refine pw_iconst (v := nI 1) dX8_allAwake_22 (by decide) ?_
      refine pw_iand dX8_allAwake_23 ?_
      refine pw_if_eq 35 dX8_allAwake_24 (by decide) (fun h2 => ?_) (fun h2 => ?_)
      · skip
        refine pw_iconst (v := nI 1) dX8_allAwake_35 (by decide) ?_
        refine pw_goto 40 dX8_allAwake_36 (by decide) ?_
        refine pw_istore_2 dX8_allAwake_40 (by decide) ?_
        refine pw_iincN_3 dX8_allAwake_41 (by decide) ?_
        refine pw_goto 4 dX8_allAwake_44 (by decide) ?_
        rw [show cif (aaP B x (k + 1)) (nI 1) (nI 0) = _ from cif_y (aa_s.mpr ⟨cif_1 h1, fun e => absurd (e.symm.trans h2) (by decide)⟩)] at ih
        exact ih
      · skip
        refine pw_aload_0 dX8_allAwake_27 ?_
        refine pw_iload_3 dX8_allAwake_28 ?_
        refine pw_cV1i 8 dX8_allAwake_29 kX8_121 vX8_isAwake iX8_isAwake ⟨by decide, by decide⟩ ⟨rfl, rfl⟩ (by decide) rfl (Nat.le_of_ble_eq_true rfl) h.t (c_X8_isAwake h hz (by omega) (fun h3 => ?_) (fun h4 => ?_))
        · skip
          refine pw_if_eq 39 dX8_allAwake_32 (by decide) (fun hh => absurd hh (by decide)) (fun _ => ?_)
          refine pw_iconst (v := nI 1) dX8_allAwake_35 (by decide) ?_
          refine pw_goto 40 dX8_allAwake_36 (by decide) ?_
          refine pw_istore_2 dX8_allAwake_40 (by decide) ?_
          refine pw_iincN_3 dX8_allAwake_41 (by decide) ?_
          refine pw_goto 4 dX8_allAwake_44 (by decide) ?_
          rw [show cif (aaP B x (k + 1)) (nI 1) (nI 0) = _ from cif_y (aa_s.mpr ⟨cif_1 h1, fun _ => h3⟩)] at ih
          exact ih
        · skip
          refine pw_if_eq 39 dX8_allAwake_32 (by decide) (fun _ => ?_) (fun hh => absurd (by decide) hh)
          refine pw_iconst (v := nI 0) dX8_allAwake_39 (by decide) ?_
          refine pw_istore_2 dX8_allAwake_40 (by decide) ?_
          refine pw_iincN_3 dX8_allAwake_41 (by decide) ?_
          refine pw_goto 4 dX8_allAwake_44 (by decide) ?_
          rw [show cif (aaP B x (k + 1)) (nI 1) (nI 0) = _ from cif_n (fun hh => h4 ((aa_s.mp hh).2 (bi_n0 h2)))] at ih
          exact ih
def dnF (g : Nat → Int32) (K t : Nat) : Nat → Int32 := fun q => if 24 + 4 * K - t ≤ q ∧ q < 24 + 4 * K then g (q - 4) else g q
theorem dn_0 (g : Nat → Int32) (K : Nat) : dnF g K 0 = g := by
  funext q
  exact if_neg (by omega)
theorem dn_s {g : Nat → Int32} {K t : Nat} (ht : t < 4 * K - 4) : upd (dnF g K t) (24 + 4 * K - 1 - t) (dnF g K t (24 + 4 * K - 1 - t - 4)) = dnF g K (t + 1) := by
  funext q
  unfold dnF
  by_cases e : q = 24 + 4 * K - 1 - t
  · subst e
    rw [upd_s, if_neg (by omega), if_pos (by omega)]
  · rw [upd_n _ _ e]
    by_cases h : 24 + 4 * K - t ≤ q ∧ q < 24 + 4 * K
    · rw [if_pos h, if_pos (by omega)]
    · rw [if_neg h, if_neg (by omega)]
theorem dn_e (g : Nat → Int32) {K : Nat} (hK : 1 ≤ K) : dnF g K (4 * K - 4) = shL g K := by
  funext q
  unfold dnF shL
  by_cases h : 28 ≤ q ∧ q < 24 + 4 * K
  · rw [if_pos h, if_pos (by omega)]
  · rw [if_neg h, if_neg (by omega)]
theorem hk_of {f : Nat → Int32} {k : Nat} (h : f 23 = nI k) (h4 : k ≤ 4) : hkF f = if k < 4 then k + 1 else 4 := by
  unfold hkF
  rw [h, nI_clamp (by omega)]
theorem he_of (f : Nat → Int32) (x y z u : Int32) : upd (upd (upd (upd (shL (upd (upd f 21 (f 21 + nI 1)) 23 (nI (hkF f))) (hkF f)) 24 x) 25 y) 26 z) 27 u = heF f x y z u := rfl
set_option maxRecDepth 100000 in
set_option maxHeartbeats 4000000 in
theorem m_hears {X : Cx} {σ : Sp} {μ : Mm} {Q : Sp → Mm → Prop} {m : Nat} {z : Nat → Int32} {B : Bs} {o i : Nat} (h : ShM σ m) (hz : ZR z B) (wf : WF B) (ho : o < nS B) (hi : i < nS B) (hoi : o ≠ i) (q : ∀ z', ZR z' (setS B o (heF (bS B o) (bS B i 5) (nI i) (bS B i 6) (bG B 5))) → Q σ (wC μ (m + 1) z')) : CTv X mX8_hears [.ref m, .int (nI o), .int (nI i)] σ ((wC μ (m + 1) z)) Q := by
  refine CT.of (by decide +kernel) (Nat.le_of_ble_eq_true rfl) ?_
  show PW X mX8_hears 0 0 0 [some (.ref m), some (.int (nI o)), some (.int (nI i)), none] [] σ ((wC μ (m + 1) z)) (LV Q)
  have hn := wf.hn
  have h8 := wf.n8
  have hk4 := (wf.k (i := o) (by omega)).2.1
  have hkl := hk_le (bS B o)
  refine pw_aload_0 dX8_hears_0 ?_
  refine pw_iload_1 dX8_hears_1 ?_
  refine pw_bipush (v := nI 21) dX8_hears_2 (by decide) ?_
  refine pw_iconst (v := nI 1) dX8_hears_4 (by decide) ?_
  refine pw_cV3v 8 dX8_hears_5 kX8_76 vX8_add iX8_add ⟨by decide, by decide⟩ ⟨rfl, rfl⟩ (by decide) rfl (Nat.le_of_ble_eq_true rfl) h.t (c_X8_add h hz (by omega) (by decide) (fun z1 hz1 => ?_))
  refine pw_aload_0 dX8_hears_8 ?_
  refine pw_iload_1 dX8_hears_9 ?_
  refine pw_bipush (v := nI 23) dX8_hears_10 (by decide) ?_
  refine pw_aload_0 dX8_hears_12 ?_
  refine pw_iload_1 dX8_hears_13 ?_
  refine pw_bipush (v := nI 23) dX8_hears_14 (by decide) ?_
  refine pw_cV2i 8 dX8_hears_16 kX8_40 vX8_at iX8_at ⟨by decide, by decide⟩ ⟨rfl, rfl⟩ (by decide) rfl (Nat.le_of_ble_eq_true rfl) h.t (c_X8_at h hz1 (by omega) (by decide) ?_)
  refine pw_top (show _ = nI (nkF (bS B o)) by rw [bS_setS_s, upd_n _ _ (by omega)]; exact (wf.k (i := o) (by omega)).1) ?_
  refine pw_iconst (v := nI 4) dX8_hears_19 (by decide) ?_
  refine pw_icmp_ge 27 dX8_hears_20 (by decide) (fun h1 => ?_) (fun h1 => ?_)
  · skip
    refine pw_iconst (v := nI 0) dX8_hears_27 (by decide) ?_
    refine pw_cV3v 8 dX8_hears_28 kX8_76 vX8_add iX8_add ⟨by decide, by decide⟩ ⟨rfl, rfl⟩ (by decide) rfl (Nat.le_of_ble_eq_true rfl) h.t (c_X8_add h hz1 (by omega) (by decide) (fun z2 hz2 => ?_))
    have hk23 : upd (bS B o) 21 (bS B o 21 + nI 1) 23 + nI 0 = nI (hkF (bS B o)) := by
      have h95 := h1
      rw [nI_leI (by omega) (by omega)] at h95
      rw [upd_n _ _ (by omega), (wf.k (i := o) (by omega)).1, nI_add, hk_of (wf.k (i := o) (by omega)).1 hk4, if_neg (by omega), show nkF (bS B o) + 0 = 4 by omega]
    refine pw_bipush (v := nI 24) dX8_hears_31 (by decide) ?_
    refine pw_iconst (v := nI 4) dX8_hears_33 (by decide) ?_
    refine pw_aload_0 dX8_hears_34 ?_
    refine pw_iload_1 dX8_hears_35 ?_
    refine pw_bipush (v := nI 23) dX8_hears_36 (by decide) ?_
    refine pw_cV2i 8 dX8_hears_38 kX8_40 vX8_at iX8_at ⟨by decide, by decide⟩ ⟨rfl, rfl⟩ (by decide) rfl (Nat.le_of_ble_eq_true rfl) h.t (c_X8_at h hz2 (by omega) (by decide) ?_)
    refine pw_top (show _ = nI (hkF (bS B o)) by simp only [setS_setS, bS_setS_s, upd_s]; exact hk23) ?_
    refine pw_imulN dX8_hears_41 ?_
    refine pw_iaddN dX8_hears_42 ?_
    refine pw_iconst (v := nI 1) dX8_hears_43 (by decide) ?_
    refine pw_isubN dX8_hears_44 (by omega) ?_
    refine pw_istore_3 dX8_hears_45 (by decide) ?_
    have hB : setS (setS B o (upd (bS B o) 21 (bS B o 21 + (nI 1)))) o (upd (bS (setS B o (upd (bS B o) 21 (bS B o 21 + (nI 1)))) o) 23 (bS (setS B o (upd (bS B o) 21 (bS B o 21 + (nI 1)))) o 23 + (nI 0))) = setS B o (dnF (upd (upd (bS B o) 21 (bS B o 21 + nI 1)) 23 (nI (hkF (bS B o)))) (hkF (bS B o)) 0) := by
      rw [dn_0]
      simp only [setS_setS, bS_setS_s]
      exact congrArg (fun v => setS B o (upd (upd (bS B o) 21 (bS B o 21 + nI 1)) 23 v)) hk23
    rw [hB] at hz2
    refine pw_up (P := fun t => ∀ z, ZR z (setS B o (dnF (upd (upd (bS B o) 21 (bS B o 21 + nI 1)) 23 (nI (hkF (bS B o)))) (hkF (bS B o)) t)) → PW X mX8_hears 0 0 46 [some (.ref m), some (.int (nI o)), some (.int (nI i)), some (.int (nI (24 + 4 * hkF (bS B o) - 1 - t)))] [] σ (wC μ (m + 1) z) (LV Q)) (4 * hkF (bS B o) - 4) ?_ ?_ 0 (by omega) _ hz2
    · intro z1 hz1
      refine pw_iload_3 dX8_hears_46 ?_
      refine pw_bipush (v := nI 28) dX8_hears_47 (by decide) ?_
      refine pw_icmp_lt 72 dX8_hears_49 (by decide) (fun _ => ?_) (fun hh => absurd (by rw [nI_ltI (by omega) (by omega)]; omega) hh)
      refine pw_aload_0 dX8_hears_72 ?_
      refine pw_iload_1 dX8_hears_73 ?_
      refine pw_bipush (v := nI 24) dX8_hears_74 (by decide) ?_
      refine pw_aload_0 dX8_hears_76 ?_
      refine pw_iload_2 dX8_hears_77 ?_
      refine pw_iconst (v := nI 5) dX8_hears_78 (by decide) ?_
      refine pw_cV2i 8 dX8_hears_79 kX8_40 vX8_at iX8_at ⟨by decide, by decide⟩ ⟨rfl, rfl⟩ (by decide) rfl (Nat.le_of_ble_eq_true rfl) h.t (c_X8_at h hz1 (by omega) (by decide) ?_)
      refine pw_top (show _ = bS B i 5 by first | exact congrFun (bS_setS_n _ _ (Ne.symm hoi)) _ | (simp only [setS_setS]; exact congrFun (bS_setS_n _ _ (Ne.symm hoi)) _)) ?_
      refine pw_cV3v 8 dX8_hears_82 kX8_55 vX8_lay iX8_lay ⟨by decide, by decide⟩ ⟨rfl, rfl⟩ (by decide) rfl (Nat.le_of_ble_eq_true rfl) h.t (c_X8_lay h hz1 (by omega) (by decide) (fun z3 hz3 => ?_))
      refine pw_aload_0 dX8_hears_85 ?_
      refine pw_iload_1 dX8_hears_86 ?_
      refine pw_bipush (v := nI 25) dX8_hears_87 (by decide) ?_
      refine pw_iload_2 dX8_hears_89 ?_
      refine pw_cV3v 8 dX8_hears_90 kX8_55 vX8_lay iX8_lay ⟨by decide, by decide⟩ ⟨rfl, rfl⟩ (by decide) rfl (Nat.le_of_ble_eq_true rfl) h.t (c_X8_lay h hz3 (by omega) (by decide) (fun z4 hz4 => ?_))
      refine pw_aload_0 dX8_hears_93 ?_
      refine pw_iload_1 dX8_hears_94 ?_
      refine pw_bipush (v := nI 26) dX8_hears_95 (by decide) ?_
      refine pw_aload_0 dX8_hears_97 ?_
      refine pw_iload_2 dX8_hears_98 ?_
      refine pw_cV1i 8 dX8_hears_99 kX8_90 vX8_firstWire iX8_firstWire ⟨by decide, by decide⟩ ⟨rfl, rfl⟩ (by decide) rfl (Nat.le_of_ble_eq_true rfl) h.t (c_X8_firstWire h hz4 (by omega) ?_)
      refine pw_top (show _ = bS B i 6 by first | exact congrFun (bS_setS_n _ _ (Ne.symm hoi)) _ | (simp only [setS_setS]; exact congrFun (bS_setS_n _ _ (Ne.symm hoi)) _)) ?_
      refine pw_cV3v 8 dX8_hears_102 kX8_55 vX8_lay iX8_lay ⟨by decide, by decide⟩ ⟨rfl, rfl⟩ (by decide) rfl (Nat.le_of_ble_eq_true rfl) h.t (c_X8_lay h hz4 (by omega) (by decide) (fun z5 hz5 => ?_))
      refine pw_aload_0 dX8_hears_105 ?_
      refine pw_iload_1 dX8_hears_106 ?_
      refine pw_bipush (v := nI 27) dX8_hears_107 (by decide) ?_
      refine pw_aload_0 dX8_hears_109 ?_
      refine pw_getr 8 0 dX8_hears_110 fX8_7 rfl (by decide) rfl h.t h.r0 ?_
      refine pw_iconst (v := nI 5) dX8_hears_113 (by decide) ?_
      refine pw_ialdN dX8_hears_114 h.a1 (by omega) (by decide) ?_
      refine pw_top (show _ = bG (setS (setS (setS (setS B o (dnF (upd (upd (bS B o) 21 (bS B o 21 + nI 1)) 23 (nI (hkF (bS B o)))) (hkF (bS B o)) (4 * hkF (bS B o) - 4))) o (upd (bS (setS B o (dnF (upd (upd (bS B o) 21 (bS B o 21 + nI 1)) 23 (nI (hkF (bS B o)))) (hkF (bS B o)) (4 * hkF (bS B o) - 4))) o) 24 (bS B i 5))) o (upd (bS (setS (setS B o (dnF (upd (upd (bS B o) 21 (bS B o 21 + nI 1)) 23 (nI (hkF (bS B o)))) (hkF (bS B o)) (4 * hkF (bS B o) - 4))) o (upd (bS (setS B o (dnF (upd (upd (bS B o) 21 (bS B o 21 + nI 1)) 23 (nI (hkF (bS B o)))) (hkF (bS B o)) (4 * hkF (bS B o) - 4))) o) 24 (bS B i 5))) o) 25 (nI i))) o (upd (bS (setS (setS (setS B o (dnF (upd (upd (bS B o) 21 (bS B o 21 + nI 1)) 23 (nI (hkF (bS B o)))) (hkF (bS B o)) (4 * hkF (bS B o) - 4))) o (upd (bS (setS B o (dnF (upd (upd (bS B o) 21 (bS B o 21 + nI 1)) 23 (nI (hkF (bS B o)))) (hkF (bS B o)) (4 * hkF (bS B o) - 4))) o) 24 (bS B i 5))) o (upd (bS (setS (setS B o (dnF (upd (upd (bS B o) 21 (bS B o 21 + nI 1)) 23 (nI (hkF (bS B o)))) (hkF (bS B o)) (4 * hkF (bS B o) - 4))) o (upd (bS (setS B o (dnF (upd (upd (bS B o) 21 (bS B o 21 + nI 1)) 23 (nI (hkF (bS B o)))) (hkF (bS B o)) (4 * hkF (bS B o) - 4))) o) 24 (bS B i 5))) o) 25 (nI i))) o) 26 (bS B i 6))) 5 from by rw [wC_self, hz5.g (by decide)]) ?_
      refine pw_cV3v 8 dX8_hears_115 kX8_55 vX8_lay iX8_lay ⟨by decide, by decide⟩ ⟨rfl, rfl⟩ (by decide) rfl (Nat.le_of_ble_eq_true rfl) h.t (c_X8_lay h hz5 (by omega) (by decide) (fun z6 hz6 => ?_))
      refine pw_return dX8_hears_118 rfl ?_
      refine q _ (Eq.mp (congrArg (fun b => ZR z6 b) ?_) hz6)
      simp only [setS_setS, bS_setS_s]
      rw [dn_e _ (hk_le _).2, he_of]
      rfl
    · intro t ht ih z1 hz1
      refine pw_iload_3 dX8_hears_46 ?_
      refine pw_bipush (v := nI 28) dX8_hears_47 (by decide) ?_
      refine pw_icmp_lt 72 dX8_hears_49 (by decide) (fun hh => absurd hh (by rw [nI_ltI (by omega) (by omega)]; omega)) (fun _ => ?_)
      refine pw_aload_0 dX8_hears_52 ?_
      refine pw_iload_1 dX8_hears_53 ?_
      refine pw_iload_3 dX8_hears_54 ?_
      refine pw_aload_0 dX8_hears_55 ?_
      refine pw_iload_1 dX8_hears_56 ?_
      refine pw_iload_3 dX8_hears_57 ?_
      refine pw_iconst (v := nI 4) dX8_hears_58 (by decide) ?_
      refine pw_isubN dX8_hears_59 (by omega) ?_
      refine pw_cV2i 8 dX8_hears_60 kX8_40 vX8_at iX8_at ⟨by decide, by decide⟩ ⟨rfl, rfl⟩ (by decide) rfl (Nat.le_of_ble_eq_true rfl) h.t (c_X8_at h hz1 (by omega) (by omega) ?_)
      refine pw_cV3v 8 dX8_hears_63 kX8_55 vX8_lay iX8_lay ⟨by decide, by decide⟩ ⟨rfl, rfl⟩ (by decide) rfl (Nat.le_of_ble_eq_true rfl) h.t (c_X8_lay h hz1 (by omega) (by omega) (fun z7 hz7 => ?_))
      refine pw_iincM_3 dX8_hears_66 (by decide) (by omega) ?_
      refine pw_goto 46 dX8_hears_69 (by decide) ?_
      refine pw_st (ls' := [some (.ref m), some (.int (nI o)), some (.int (nI i)), some (.int (nI (24 + 4 * hkF (bS B o) - 1 - (t + 1))))]) (by rw [show 24 + 4 * hkF (bS B o) - 1 - t - 1 = 24 + 4 * hkF (bS B o) - 1 - (t + 1) by omega]) rfl (ih _ (Eq.mp (congrArg (fun b => ZR z7 b) ?_) hz7))
      simp only [setS_setS, bS_setS_s]
      rw [dn_s ht]
  · skip
    refine pw_iconst (v := nI 1) dX8_hears_23 (by decide) ?_
    refine pw_goto 28 dX8_hears_24 (by decide) ?_
    refine pw_cV3v 8 dX8_hears_28 kX8_76 vX8_add iX8_add ⟨by decide, by decide⟩ ⟨rfl, rfl⟩ (by decide) rfl (Nat.le_of_ble_eq_true rfl) h.t (c_X8_add h hz1 (by omega) (by decide) (fun z8 hz8 => ?_))
    have hk23 : upd (bS B o) 21 (bS B o 21 + nI 1) 23 + nI 1 = nI (hkF (bS B o)) := by
      have h95 := h1
      rw [nI_leI (by omega) (by omega)] at h95
      rw [upd_n _ _ (by omega), (wf.k (i := o) (by omega)).1, nI_add, hk_of (wf.k (i := o) (by omega)).1 hk4, if_pos (by omega)]
    refine pw_bipush (v := nI 24) dX8_hears_31 (by decide) ?_
    refine pw_iconst (v := nI 4) dX8_hears_33 (by decide) ?_
    refine pw_aload_0 dX8_hears_34 ?_
    refine pw_iload_1 dX8_hears_35 ?_
    refine pw_bipush (v := nI 23) dX8_hears_36 (by decide) ?_
    refine pw_cV2i 8 dX8_hears_38 kX8_40 vX8_at iX8_at ⟨by decide, by decide⟩ ⟨rfl, rfl⟩ (by decide) rfl (Nat.le_of_ble_eq_true rfl) h.t (c_X8_at h hz8 (by omega) (by decide) ?_)
    refine pw_top (show _ = nI (hkF (bS B o)) by simp only [setS_setS, bS_setS_s, upd_s]; exact hk23) ?_
    refine pw_imulN dX8_hears_41 ?_
    refine pw_iaddN dX8_hears_42 ?_
    refine pw_iconst (v := nI 1) dX8_hears_43 (by decide) ?_
    refine pw_isubN dX8_hears_44 (by omega) ?_
    refine pw_istore_3 dX8_hears_45 (by decide) ?_
    have hB : setS (setS B o (upd (bS B o) 21 (bS B o 21 + (nI 1)))) o (upd (bS (setS B o (upd (bS B o) 21 (bS B o 21 + (nI 1)))) o) 23 (bS (setS B o (upd (bS B o) 21 (bS B o 21 + (nI 1)))) o 23 + (nI 1))) = setS B o (dnF (upd (upd (bS B o) 21 (bS B o 21 + nI 1)) 23 (nI (hkF (bS B o)))) (hkF (bS B o)) 0) := by
      rw [dn_0]
      simp only [setS_setS, bS_setS_s]
      exact congrArg (fun v => setS B o (upd (upd (bS B o) 21 (bS B o 21 + nI 1)) 23 v)) hk23
    rw [hB] at hz8
    refine pw_up (P := fun t => ∀ z, ZR z (setS B o (dnF (upd (upd (bS B o) 21 (bS B o 21 + nI 1)) 23 (nI (hkF (bS B o)))) (hkF (bS B o)) t)) → PW X mX8_hears 0 0 46 [some (.ref m), some (.int (nI o)), some (.int (nI i)), some (.int (nI (24 + 4 * hkF (bS B o) - 1 - t)))] [] σ (wC μ (m + 1) z) (LV Q)) (4 * hkF (bS B o) - 4) ?_ ?_ 0 (by omega) _ hz8
    · intro z1 hz1
      refine pw_iload_3 dX8_hears_46 ?_
      refine pw_bipush (v := nI 28) dX8_hears_47 (by decide) ?_
      refine pw_icmp_lt 72 dX8_hears_49 (by decide) (fun _ => ?_) (fun hh => absurd (by rw [nI_ltI (by omega) (by omega)]; omega) hh)
      refine pw_aload_0 dX8_hears_72 ?_
      refine pw_iload_1 dX8_hears_73 ?_
      refine pw_bipush (v := nI 24) dX8_hears_74 (by decide) ?_
      refine pw_aload_0 dX8_hears_76 ?_
      refine pw_iload_2 dX8_hears_77 ?_
      refine pw_iconst (v := nI 5) dX8_hears_78 (by decide) ?_
      refine pw_cV2i 8 dX8_hears_79 kX8_40 vX8_at iX8_at ⟨by decide, by decide⟩ ⟨rfl, rfl⟩ (by decide) rfl (Nat.le_of_ble_eq_true rfl) h.t (c_X8_at h hz1 (by omega) (by decide) ?_)
      refine pw_top (show _ = bS B i 5 by first | exact congrFun (bS_setS_n _ _ (Ne.symm hoi)) _ | (simp only [setS_setS]; exact congrFun (bS_setS_n _ _ (Ne.symm hoi)) _)) ?_
      refine pw_cV3v 8 dX8_hears_82 kX8_55 vX8_lay iX8_lay ⟨by decide, by decide⟩ ⟨rfl, rfl⟩ (by decide) rfl (Nat.le_of_ble_eq_true rfl) h.t (c_X8_lay h hz1 (by omega) (by decide) (fun z9 hz9 => ?_))
      refine pw_aload_0 dX8_hears_85 ?_
      refine pw_iload_1 dX8_hears_86 ?_
      refine pw_bipush (v := nI 25) dX8_hears_87 (by decide) ?_
      refine pw_iload_2 dX8_hears_89 ?_
      refine pw_cV3v 8 dX8_hears_90 kX8_55 vX8_lay iX8_lay ⟨by decide, by decide⟩ ⟨rfl, rfl⟩ (by decide) rfl (Nat.le_of_ble_eq_true rfl) h.t (c_X8_lay h hz9 (by omega) (by decide) (fun z10 hz10 => ?_))
      refine pw_aload_0 dX8_hears_93 ?_
      refine pw_iload_1 dX8_hears_94 ?_
      refine pw_bipush (v := nI 26) dX8_hears_95 (by decide) ?_
      refine pw_aload_0 dX8_hears_97 ?_
      refine pw_iload_2 dX8_hears_98 ?_
      refine pw_cV1i 8 dX8_hears_99 kX8_90 vX8_firstWire iX8_firstWire ⟨by decide, by decide⟩ ⟨rfl, rfl⟩ (by decide) rfl (Nat.le_of_ble_eq_true rfl) h.t (c_X8_firstWire h hz10 (by omega) ?_)
      refine pw_top (show _ = bS B i 6 by first | exact congrFun (bS_setS_n _ _ (Ne.symm hoi)) _ | (simp only [setS_setS]; exact congrFun (bS_setS_n _ _ (Ne.symm hoi)) _)) ?_
      refine pw_cV3v 8 dX8_hears_102 kX8_55 vX8_lay iX8_lay ⟨by decide, by decide⟩ ⟨rfl, rfl⟩ (by decide) rfl (Nat.le_of_ble_eq_true rfl) h.t (c_X8_lay h hz10 (by omega) (by decide) (fun z11 hz11 => ?_))
      refine pw_aload_0 dX8_hears_105 ?_
      refine pw_iload_1 dX8_hears_106 ?_
      refine pw_bipush (v := nI 27) dX8_hears_107 (by decide) ?_
      refine pw_aload_0 dX8_hears_109 ?_
      refine pw_getr 8 0 dX8_hears_110 fX8_7 rfl (by decide) rfl h.t h.r0 ?_
      refine pw_iconst (v := nI 5) dX8_hears_113 (by decide) ?_
      refine pw_ialdN dX8_hears_114 h.a1 (by omega) (by decide) ?_
      refine pw_top (show _ = bG (setS (setS (setS (setS B o (dnF (upd (upd (bS B o) 21 (bS B o 21 + nI 1)) 23 (nI (hkF (bS B o)))) (hkF (bS B o)) (4 * hkF (bS B o) - 4))) o (upd (bS (setS B o (dnF (upd (upd (bS B o) 21 (bS B o 21 + nI 1)) 23 (nI (hkF (bS B o)))) (hkF (bS B o)) (4 * hkF (bS B o) - 4))) o) 24 (bS B i 5))) o (upd (bS (setS (setS B o (dnF (upd (upd (bS B o) 21 (bS B o 21 + nI 1)) 23 (nI (hkF (bS B o)))) (hkF (bS B o)) (4 * hkF (bS B o) - 4))) o (upd (bS (setS B o (dnF (upd (upd (bS B o) 21 (bS B o 21 + nI 1)) 23 (nI (hkF (bS B o)))) (hkF (bS B o)) (4 * hkF (bS B o) - 4))) o) 24 (bS B i 5))) o) 25 (nI i))) o (upd (bS (setS (setS (setS B o (dnF (upd (upd (bS B o) 21 (bS B o 21 + nI 1)) 23 (nI (hkF (bS B o)))) (hkF (bS B o)) (4 * hkF (bS B o) - 4))) o (upd (bS (setS B o (dnF (upd (upd (bS B o) 21 (bS B o 21 + nI 1)) 23 (nI (hkF (bS B o)))) (hkF (bS B o)) (4 * hkF (bS B o) - 4))) o) 24 (bS B i 5))) o (upd (bS (setS (setS B o (dnF (upd (upd (bS B o) 21 (bS B o 21 + nI 1)) 23 (nI (hkF (bS B o)))) (hkF (bS B o)) (4 * hkF (bS B o) - 4))) o (upd (bS (setS B o (dnF (upd (upd (bS B o) 21 (bS B o 21 + nI 1)) 23 (nI (hkF (bS B o)))) (hkF (bS B o)) (4 * hkF (bS B o) - 4))) o) 24 (bS B i 5))) o) 25 (nI i))) o) 26 (bS B i 6))) 5 from by rw [wC_self, hz11.g (by decide)]) ?_
      refine pw_cV3v 8 dX8_hears_115 kX8_55 vX8_lay iX8_lay ⟨by decide, by decide⟩ ⟨rfl, rfl⟩ (by decide) rfl (Nat.le_of_ble_eq_true rfl) h.t (c_X8_lay h hz11 (by omega) (by decide) (fun z12 hz12 => ?_))
      refine pw_return dX8_hears_118 rfl ?_
      refine q _ (Eq.mp (congrArg (fun b => ZR z12 b) ?_) hz12)
      simp only [setS_setS, bS_setS_s]
      rw [dn_e _ (hk_le _).2, he_of]
      rfl
    · intro t ht ih z1 hz1
      refine pw_iload_3 dX8_hears_46 ?_
      refine pw_bipush (v := nI 28) dX8_hears_47 (by decide) ?_
      refine pw_icmp_lt 72 dX8_hears_49 (by decide) (fun hh => absurd hh (by rw [nI_ltI (by omega) (by omega)]; omega)) (fun _ => ?_)
      refine pw_aload_0 dX8_hears_52 ?_
      refine pw_iload_1 dX8_hears_53 ?_
      refine pw_iload_3 dX8_hears_54 ?_
      refine pw_aload_0 dX8_hears_55 ?_
      refine pw_iload_1 dX8_hears_56 ?_
      refine pw_iload_3 dX8_hears_57 ?_
      refine pw_iconst (v := nI 4) dX8_hears_58 (by decide) ?_
      refine pw_isubN dX8_hears_59 (by omega) ?_
      refine pw_cV2i 8 dX8_hears_60 kX8_40 vX8_at iX8_at ⟨by decide, by decide⟩ ⟨rfl, rfl⟩ (by decide) rfl (Nat.le_of_ble_eq_true rfl) h.t (c_X8_at h hz1 (by omega) (by omega) ?_)
      refine pw_cV3v 8 dX8_hears_63 kX8_55 vX8_lay iX8_lay ⟨by decide, by decide⟩ ⟨rfl, rfl⟩ (by decide) rfl (Nat.le_of_ble_eq_true rfl) h.t (c_X8_lay h hz1 (by omega) (by omega) (fun z13 hz13 => ?_))
      refine pw_iincM_3 dX8_hears_66 (by decide) (by omega) ?_
      refine pw_goto 46 dX8_hears_69 (by decide) ?_
      refine pw_st (ls' := [some (.ref m), some (.int (nI o)), some (.int (nI i)), some (.int (nI (24 + 4 * hkF (bS B o) - 1 - (t + 1))))]) (by rw [show 24 + 4 * hkF (bS B o) - 1 - t - 1 = 24 + 4 * hkF (bS B o) - 1 - (t + 1) by omega]) rfl (ih _ (Eq.mp (congrArg (fun b => ZR z13 b) ?_) hz13))
      simp only [setS_setS, bS_setS_s]
      rw [dn_s ht]
