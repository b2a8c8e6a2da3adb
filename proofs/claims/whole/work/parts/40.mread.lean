/-! Texts of the model: what it reads -/
noncomputable def mlG (P : Pd) (i : Nat) : Int32 := cif (i < P.2) (P.1 i) (-6)
theorem nI_ne6 {k : Nat} (h : k ≤ 1000) : nI k ≠ -6 := fun e => by
  have h95 : nI k < 0 := by rw [e]; decide
  exact nI_pos (by omega) h95
theorem ml_y {P : Pd} {i c : Nat} (hc : c ≤ 1000) (h : mlG P i = nI c) : chT P i c := by
  rcases Classical.em (i < P.2) with hi | hi
  · exact ⟨hi, (cif_y hi).symm.trans h⟩
  · have e : mlG P i = -6 := cif_n hi
    exact absurd (h.symm.trans e) (nI_ne6 hc)
theorem ml_i {P : Pd} {i c : Nat} (h : chT P i c) : mlG P i = nI c := (cif_y h.1).trans h.2
theorem lt_nle {a b : Nat} (ha : a ≤ 1000) (hb : b ≤ 1000) (h : ¬ nI b ≤ nI a) : a < b := by
  rw [nI_leI (by omega) (by omega)] at h
  omega
set_option maxRecDepth 100000 in
set_option maxHeartbeats 4000000 in
theorem m_letter {X : Cx} {σ : Sp} {μ : Mm} {Q : Int32 → Sp → Mm → Prop} {m i : Nat} {P : Pd} (h : ShM σ m) (hq : QX μ m P) (ha : μ m 11 = nI i) (hi : i ≤ 81) (q : Q (mlG P i) σ μ) : CTi X mX8_letter [.ref m] σ μ Q := by
  refine CT.of (by decide +kernel) (Nat.le_of_ble_eq_true rfl) ?_
  show PW X mX8_letter 0 0 0 [some (.ref m)] [] σ μ (LI Q)
  have h80 := hq.2.1
  refine pw_aload_0 dX8_letter_0 ?_
  refine pw_getI 8 11 dX8_letter_1 fX8_192 rfl (by decide) rfl h.t ?_
  refine pw_top ha ?_
  refine pw_aload_0 dX8_letter_4 ?_
  refine pw_getI 8 7 dX8_letter_5 fX8_183 rfl (by decide) rfl h.t ?_
  refine pw_top hq.1 ?_
  refine pw_icmp_ge 23 dX8_letter_8 (by decide) (fun h1 => ?_) (fun h1 => ?_)
  · skip
    refine pw_bipush (v := -6) dX8_letter_23 (by decide) ?_
    refine pw_ireturn dX8_letter_25 rfl ?_
    have e1 : mlG P i = -6 := cif_n (fun h95 => by have h96 := h1; rw [nI_leI (by omega) (by omega)] at h96; omega)
    rw [e1] at q
    exact q
  · skip
    have hn : i < P.2 := lt_nle (by omega) (by omega) h1
    refine pw_aload_0 dX8_letter_11 ?_
    refine pw_getr 8 6 dX8_letter_12 fX8_26 rfl (by decide) rfl h.t h.r6 ?_
    refine pw_aload_0 dX8_letter_15 ?_
    refine pw_getI 8 11 dX8_letter_16 fX8_192 rfl (by decide) rfl h.t ?_
    refine pw_top ha ?_
    refine pw_caldN dX8_letter_19 h.a6 (by omega) (by decide) ?_
    refine pw_top (hq.2.2 i hn) ?_
    refine pw_goto 25 dX8_letter_20 (by decide) ?_
    refine pw_ireturn dX8_letter_25 rfl ?_
    have e1 : mlG P i = P.1 i := cif_y hn
    rw [e1] at q
    exact q
noncomputable def wnG (ok : Prop) (z : Nat × Int32) : Nat × Int32 := cif (z.2 = -6) (z.1 + 1, cif ok (-6) (nI z.1)) z
def TW (m : Nat) (μ ν : Mm) : Prop := (∀ a, a ≠ m → ν a = μ a) ∧ ∀ j, j ≠ 11 → j ≠ 12 → ν m j = μ m j
theorem TW.rf {m : Nat} {μ : Mm} : TW m μ μ := ⟨fun _ _ => rfl, fun _ _ _ => rfl⟩
theorem TW.tr {m : Nat} {μ ν κ : Mm} (h : TW m μ ν) (k : TW m ν κ) : TW m μ κ := ⟨fun a ha => (k.1 a ha).trans (h.1 a ha), fun j j1 j2 => (k.2 j j1 j2).trans (h.2 j j1 j2)⟩
theorem TW.w {m k : Nat} {x : Int32} {μ ν : Mm} (h : TW m μ ν) (hk : k = 11 ∨ k = 12) : TW m μ (wr ν m k x) := ⟨fun a ha => (wr_n _ _ _ ha).trans (h.1 a ha), fun j j1 j2 => by
  rw [wr_s, upd_n _ _ (by omega)]
  exact h.2 j j1 j2⟩
set_option maxRecDepth 100000 in
set_option maxHeartbeats 4000000 in
theorem m_wants {X : Cx} {σ : Sp} {μ : Mm} {Q : Sp → Mm → Prop} {m i : Nat} {w x : Int32} {ok : Prop} (h : ShM σ m) (ha : μ m 11 = nI i) (hw : μ m 12 = w) (hok : ¬ x = 0 ↔ ok) (q : ∀ ν, TW m μ ν → ν m 11 = nI (wnG ok (i, w)).1 → ν m 12 = (wnG ok (i, w)).2 → Q σ ν) : CTv X mX8_wants [.ref m, .int x] σ μ Q := by
  refine CT.of (by decide +kernel) (Nat.le_of_ble_eq_true rfl) ?_
  show PW X mX8_wants 0 0 0 [some (.ref m), some (.int x)] [] σ μ (LV Q)
  refine pw_aload_0 dX8_wants_0 ?_
  refine pw_getI 8 12 dX8_wants_1 fX8_195 rfl (by decide) rfl h.t ?_
  refine pw_top hw ?_
  refine pw_bipush (v := -6) dX8_wants_4 (by decide) ?_
  refine pw_icmp_ne 36 dX8_wants_6 (by decide) (fun h1 => ?_) (fun h1 => ?_)
  · skip
    refine pw_return dX8_wants_36 rfl ?_
    have e9 : wnG ok (i, w) = (i, w) := cif_n h1
    rw [e9] at q
    exact q _ TW.rf ha hw
  · skip
    refine pw_aload_0 dX8_wants_9 ?_
    refine pw_iload_1 dX8_wants_10 ?_
    refine pw_if_eq 19 dX8_wants_11 (by decide) (fun h2 => ?_) (fun h2 => ?_)
    · skip
      refine pw_aload_0 dX8_wants_19 ?_
      refine pw_getI 8 11 dX8_wants_20 fX8_192 rfl (by decide) rfl h.t ?_
      refine pw_top ha ?_
      refine pw_putI 8 12 dX8_wants_23 fX8_195 rfl (by decide) rfl (Or.inl rfl) rfl (by decide) h.t ?_
      refine pw_aload_0 dX8_wants_26 ?_
      refine pw_dup dX8_wants_27 ?_
      refine pw_getI 8 11 dX8_wants_28 fX8_192 rfl (by decide) rfl h.t ?_
      refine pw_top (rdN ha (by decide)) ?_
      refine pw_iconst (v := nI 1) dX8_wants_31 (by decide) ?_
      refine pw_iaddN dX8_wants_32 ?_
      refine pw_putI 8 11 dX8_wants_33 fX8_192 rfl (by decide) rfl (Or.inl rfl) rfl (by decide) h.t ?_
      refine pw_return dX8_wants_36 rfl ?_
      have e9 : wnG ok (i, w) = (i + 1, nI i) := (cif_y (show w = -6 from h1)).trans (by rw [cif_n (fun h95 => hok.mpr h95 h2)])
      rw [e9] at q
      exact q _ ((TW.rf.w (Or.inr rfl)).w (Or.inl rfl)) rdS (rdN rdS (by decide))
    · skip
      refine pw_bipush (v := -6) dX8_wants_14 (by decide) ?_
      refine pw_goto 23 dX8_wants_16 (by decide) ?_
      refine pw_putI 8 12 dX8_wants_23 fX8_195 rfl (by decide) rfl (Or.inl rfl) rfl (by decide) h.t ?_
      refine pw_aload_0 dX8_wants_26 ?_
      refine pw_dup dX8_wants_27 ?_
      refine pw_getI 8 11 dX8_wants_28 fX8_192 rfl (by decide) rfl h.t ?_
      refine pw_top (rdN ha (by decide)) ?_
      refine pw_iconst (v := nI 1) dX8_wants_31 (by decide) ?_
      refine pw_iaddN dX8_wants_32 ?_
      refine pw_putI 8 11 dX8_wants_33 fX8_192 rfl (by decide) rfl (Or.inl rfl) rfl (by decide) h.t ?_
      refine pw_return dX8_wants_36 rfl ?_
      have e9 : wnG ok (i, w) = (i + 1, -6) := (cif_y (show w = -6 from h1)).trans (by rw [cif_y (hok.mp h2)])
      rw [e9] at q
      exact q _ ((TW.rf.w (Or.inr rfl)).w (Or.inl rfl)) rdS (rdN rdS (by decide))
theorem md_y {P : Pd} {i : Nat} (a : ¬ mlG P i - nI 48 < nI 0) (b : ¬ nI 9 < mlG P i - nI 48) : dgT P i := by
  obtain ⟨-, h96, h97⟩ := in_of (lo := 0) (hi := 9) (by decide) (by decide) a (Int32.not_lt.mp b)
  exact (dg_y (d := (mlG P i - nI 48).toNatClampNeg) (by omega) (ml_y (by omega) (i32_sub h97))).1
theorem md_n {P : Pd} {i : Nat} (a : mlG P i - nI 48 < nI 0 ∨ nI 9 < mlG P i - nI 48) : ¬ dgT P i := fun ht => by
  obtain ⟨h96, h97⟩ := dg_i ht
  rw [ml_i h97, i32_cs] at a
  rcases a with a | a
  · exact nI_pos (by omega) a
  · rw [nI_ltI (by omega) (by omega)] at a
    omega
theorem mw_y {P : Pd} {i j : Nat} (hj : j < 6) (e : mlG P i - nI 97 = nI j) : wrT P i := (wr_y hj (ml_y (by omega) (i32_sub e))).1
theorem mw_n {P : Pd} {i : Nat} (a : ∀ j, j < 6 → mlG P i - nI 97 ≠ nI j) : ¬ wrT P i := fun ht => by
  obtain ⟨h96, h97⟩ := wr_i ht
  exact a _ h96 (by rw [ml_i h97, i32_cs])
set_option maxRecDepth 100000 in
set_option maxHeartbeats 4000000 in
theorem m_digit {X : Cx} {σ : Sp} {μ : Mm} {Q : Int32 → Sp → Mm → Prop} {m i : Nat} {w : Int32} {P : Pd} (h : ShM σ m) (hq : QX μ m P) (ha : μ m 11 = nI i) (hw : μ m 12 = w) (hi : i ≤ 81) (q : ∀ ν, TW m μ ν → ν m 11 = nI (wnG (dgT P i) (i, w)).1 → ν m 12 = (wnG (dgT P i) (i, w)).2 → Q (mlG P i - nI 48) σ ν) : CTi X mX8_digit [.ref m] σ μ Q := by
  refine CT.of (by decide +kernel) (Nat.le_of_ble_eq_true rfl) ?_
  show PW X mX8_digit 0 0 0 [some (.ref m), none] [] σ μ (LI Q)
  refine pw_aload_0 dX8_digit_0 ?_
  refine pw_cV0i 8 dX8_digit_1 kX8_198 vX8_letter iX8_letter ⟨by decide, by decide⟩ ⟨rfl, rfl⟩ (by decide) rfl (Nat.le_of_ble_eq_true rfl) h.t (m_letter h hq ha hi ?_)
  refine pw_bipush (v := nI 48) dX8_digit_4 (by decide) ?_
  refine pw_isub dX8_digit_6 ?_
  refine pw_istore_1 dX8_digit_7 (by decide) ?_
  refine pw_aload_0 dX8_digit_8 ?_
  refine pw_iload_1 dX8_digit_9 ?_
  refine pw_iconst (v := nI 0) dX8_digit_10 (by decide) ?_
  refine pw_bipush (v := nI 9) dX8_digit_11 (by decide) ?_
  refine pw_cS3i dX8_digit_13 kX8_36 vX8_in sX8_in ⟨by decide, by decide⟩ ⟨rfl, rfl⟩ (Nat.le_of_ble_eq_true rfl) (c_X8_in (fun a9 b9 => ?_) (fun a9 => ?_))
  · skip
    refine pw_cV1v 8 dX8_digit_16 kX8_201 vX8_wants iX8_wants ⟨by decide, by decide⟩ ⟨rfl, rfl⟩ (by decide) rfl (Nat.le_of_ble_eq_true rfl) h.t (m_wants h ha hw (ok := dgT P i) ⟨fun _ => md_y a9 b9, fun _ => (by decide)⟩ (fun ν9 tw9 g1 g2 => ?_))
    refine pw_iload_1 dX8_digit_19 ?_
    refine pw_ireturn dX8_digit_20 rfl ?_
    exact q _ tw9 g1 g2
  · skip
    refine pw_cV1v 8 dX8_digit_16 kX8_201 vX8_wants iX8_wants ⟨by decide, by decide⟩ ⟨rfl, rfl⟩ (by decide) rfl (Nat.le_of_ble_eq_true rfl) h.t (m_wants h ha hw (ok := dgT P i) ⟨fun h95 => absurd rfl h95, fun h95 => absurd h95 (md_n a9)⟩ (fun ν9 tw9 g1 g2 => ?_))
    refine pw_iload_1 dX8_digit_19 ?_
    refine pw_ireturn dX8_digit_20 rfl ?_
    exact q _ tw9 g1 g2
set_option maxRecDepth 100000 in
set_option maxHeartbeats 4000000 in
theorem m_wireRead {X : Cx} {σ : Sp} {μ : Mm} {Q : Int32 → Sp → Mm → Prop} {m i : Nat} {w : Int32} {P : Pd} (h : ShM σ m) (hq : QX μ m P) (ha : μ m 11 = nI i) (hw : μ m 12 = w) (hi : i ≤ 81) (q : ∀ ν, TW m μ ν → ν m 11 = nI (wnG (wrT P i) (i, w)).1 → ν m 12 = (wnG (wrT P i) (i, w)).2 → Q (mlG P i - nI 97) σ ν) : CTi X mX8_wireRead [.ref m] σ μ Q := by
  refine CT.of (by decide +kernel) (Nat.le_of_ble_eq_true rfl) ?_
  show PW X mX8_wireRead 0 0 0 [some (.ref m), none] [] σ μ (LI Q)
  refine pw_aload_0 dX8_wireRead_0 ?_
  refine pw_cV0i 8 dX8_wireRead_1 kX8_198 vX8_letter iX8_letter ⟨by decide, by decide⟩ ⟨rfl, rfl⟩ (by decide) rfl (Nat.le_of_ble_eq_true rfl) h.t (m_letter h hq ha hi ?_)
  refine pw_bipush (v := nI 97) dX8_wireRead_4 (by decide) ?_
  refine pw_isub dX8_wireRead_6 ?_
  refine pw_istore_1 dX8_wireRead_7 (by decide) ?_
  refine pw_aload_0 dX8_wireRead_8 ?_
  refine pw_iload_1 dX8_wireRead_9 ?_
  refine pw_cS1i dX8_wireRead_10 kX8_70 vX8_isWire sX8_isWire ⟨by decide, by decide⟩ ⟨rfl, rfl⟩ (Nat.le_of_ble_eq_true rfl) (c_X8_isWire (fun j9 ej9 hj9 => ?_) (fun a9 => ?_))
  · skip
    refine pw_cV1v 8 dX8_wireRead_13 kX8_201 vX8_wants iX8_wants ⟨by decide, by decide⟩ ⟨rfl, rfl⟩ (by decide) rfl (Nat.le_of_ble_eq_true rfl) h.t (m_wants h ha hw (ok := wrT P i) ⟨fun _ => mw_y hj9 ej9, fun _ => (by decide)⟩ (fun ν9 tw9 g1 g2 => ?_))
    refine pw_iload_1 dX8_wireRead_16 ?_
    refine pw_ireturn dX8_wireRead_17 rfl ?_
    exact q _ tw9 g1 g2
  · skip
    refine pw_cV1v 8 dX8_wireRead_13 kX8_201 vX8_wants iX8_wants ⟨by decide, by decide⟩ ⟨rfl, rfl⟩ (by decide) rfl (Nat.le_of_ble_eq_true rfl) h.t (m_wants h ha hw (ok := wrT P i) ⟨fun h95 => absurd rfl h95, fun h95 => absurd h95 (mw_n a9)⟩ (fun ν9 tw9 g1 g2 => ?_))
    refine pw_iload_1 dX8_wireRead_16 ?_
    refine pw_ireturn dX8_wireRead_17 rfl ?_
    exact q _ tw9 g1 g2
