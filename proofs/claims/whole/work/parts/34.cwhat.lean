/-! The class: undo, restore, what if -/
theorem CX.trial {σ : Sp} {μ μ1 : Mm} {o x : Nat} {A : Aw} {C : Bs} (h : CX σ μ o x A) (k : BU μ (o + 63) C μ1) : CX σ μ1 o x A ∧ FX μ o μ1 := by
  obtain ⟨c1, c2, c3, c4, c5, c6⟩ := h
  have f : ∀ a, (a < o + 63 ∨ o + 125 ≤ a) → μ1 a = μ a := fun a ha => k.1 a (by omega)
  exact ⟨⟨c1, c2.at fun a _ _ => f a (by omega), k.nu, c4.at fun a _ _ => f a (by omega), c5.at fun a _ => f a (by omega), c6.at fun a _ _ => f a (by omega)⟩, fun a _ _ => f a (by omega)⟩
theorem HX.last {μ : Mm} {hh x : Nat} {H : (Nat → Bs) × Nat} (h : HX μ hh x H) (h0 : H.2 ≠ 0) : BU μ (hb hh (if 0 < x then x - 1 else 6)) (H.1 (H.2 - 1)) μ := by
  obtain ⟨h1, h2, h3, h4, h5, h6⟩ := h
  have := h6 (H.2 - 1) (by omega)
  rw [show (x + 7 - H.2 + (H.2 - 1)) % 7 = if 0 < x then x - 1 else 6 by split <;> omega] at this
  exact this
theorem HX.pop {μ μ' : Mm} {hh x : Nat} {H : (Nat → Bs) × Nat} (h : HX μ hh x H) (h0 : H.2 ≠ 0) (e : ∀ a, hh < a → a < hh + 436 → μ' a = μ a) (e1 : μ' hh 1 = nI (if 0 < x then x - 1 else 6)) (e2 : μ' hh 2 = nI (H.2 - 1)) : HX μ' hh (if 0 < x then x - 1 else 6) (H.1, H.2 - 1) := by
  obtain ⟨h1, h2, h3, h4, h5, h6⟩ := h
  refine ⟨e1, by split <;> omega, e2, by show H.2 - 1 ≤ 6; omega, fun j hj => (h5 j hj).at fun a a1 a2 => ?_, fun k hk => ?_⟩
  · have := hb_in (hh := hh) hj
    exact e a (by omega) (by omega)
  · have hk' : k < H.2 - 1 := hk
    show BU μ' (hb hh (((if 0 < x then x - 1 else 6) + 7 - (H.2 - 1) + k) % 7)) (H.1 k) μ'
    rw [show ((if 0 < x then x - 1 else 6) + 7 - (H.2 - 1) + k) % 7 = (x + 7 - H.2 + k) % 7 by split <;> omega]
    refine (h6 k (by omega)).at fun a a1 a2 => ?_
    have := hb_in (hh := hh) (show (x + 7 - H.2 + k) % 7 < 7 by omega)
    exact e a (by omega) (by omega)
set_option maxRecDepth 100000 in
set_option maxHeartbeats 4000000 in
theorem k_takeBack {X : Cx} {σ : Sp} {μ : Mm} {Q : Int32 → Sp → Mm → Prop} {hh b x : Nat} {H : (Nat → Bs) × Nat} (h : ShHist σ hh) (hs2 : ShBus σ b) (hd : b + 62 ≤ hh ∨ hh + 436 ≤ b) (hx : HX μ hh x H) (wfH : ∀ k, k < H.2 → WF (H.1 k)) (hN : NU μ b) (q0 : H.2 = 0 → Q (-5) σ μ) (q1 : H.2 ≠ 0 → ∀ μ2, BU (wr μ hh 1 (nI (if 0 < x then x - 1 else 6))) b (H.1 (H.2 - 1)) μ2 → Q (nI (H.2 - 1)) σ (wr μ2 hh 2 (nI (H.2 - 1)))) : CTi X mX1_takeBack [.ref hh, .ref b] σ μ Q := by
  refine CT.of (by decide +kernel) (Nat.le_of_ble_eq_true rfl) ?_
  show PW X mX1_takeBack 0 0 0 [some (.ref hh), some (.ref b)] [] σ μ (LI Q)
  have hx7 := hx.2.1
  have hl6 := hx.2.2.2.1
  refine pw_aload_0 dX1_takeBack_0 ?_
  refine pw_getI 1 2 dX1_takeBack_1 fX1_26 rfl (by decide) rfl h.t ?_
  refine pw_top hx.2.2.1 ?_
  refine pw_if_ne 10 dX1_takeBack_4 (by decide) (fun h1 => ?_) (fun h1 => ?_)
  · skip
    refine pw_aload_0 dX1_takeBack_10 ?_
    refine pw_aload_0 dX1_takeBack_11 ?_
    refine pw_getI 1 1 dX1_takeBack_12 fX1_18 rfl (by decide) rfl h.t ?_
    refine pw_top hx.1 ?_
    refine pw_if_le 27 dX1_takeBack_15 (by decide) (fun h2 => ?_) (fun h2 => ?_)
    · skip
      refine pw_bipush (v := nI 6) dX1_takeBack_27 (by decide) ?_
      have h0 : H.2 ≠ 0 := fun e => h1 (by rw [e]; rfl)
      have ex : (if 0 < x then x - 1 else 6) = 6 := if_neg (by have h95 := h2; rw [show (0 : Int32) = nI 0 from rfl, nI_leI (by omega) (by omega)] at h95; omega)
      refine pw_top (show _ = nI (if 0 < x then x - 1 else 6) by rw [ex]) ?_
      refine pw_putI 1 1 dX1_takeBack_29 fX1_18 rfl (by decide) rfl (Or.inl rfl) rfl (by decide) h.t ?_
      have hxn : (if 0 < x then x - 1 else 6) < 7 := by split <;> omega
      have hbl : BU (wr μ hh 1 (nI (if 0 < x then x - 1 else 6))) (hb hh (if 0 < x then x - 1 else 6)) (H.1 (H.2 - 1)) (wr μ hh 1 (nI (if 0 < x then x - 1 else 6))) := (hx.last h0).at fun a a1 a2 => wr_n _ _ _ (by have := hb_in (hh := hh) hxn; omega)
      have hN1 : NU (wr μ hh 1 (nI (if 0 < x then x - 1 else 6))) b := hN.at fun a a1 a2 => wr_n _ _ _ (by omega)
      refine pw_aload_1 dX1_takeBack_32 ?_
      refine pw_aload_0 dX1_takeBack_33 ?_
      refine pw_getr 1 0 dX1_takeBack_34 fX1_11 rfl (by decide) rfl h.t h.r0 ?_
      refine pw_aload_0 dX1_takeBack_37 ?_
      refine pw_getI 1 1 dX1_takeBack_38 fX1_18 rfl (by decide) rfl h.t ?_
      refine pw_top (show _ = nI (if 0 < x then x - 1 else 6) by rw [wr_s, upd_s]) ?_
      refine pw_aaldBr dX1_takeBack_41 h.a (by omega) (by decide) (h.s (by omega)) ?_
      refine pw_cV1v 0 dX1_takeBack_42 kX1_22 vX0_copyFrom iX0_copyFrom ⟨by decide, by decide⟩ ⟨rfl, rfl⟩ (by decide) rfl (Nat.le_of_ble_eq_true rfl) hs2.t (k_copyFrom hs2 (h.B hxn) (by have := hb_in (hh := hh) hxn; omega) hbl (wfH _ (by omega)) hN1 (fun μ2 hb2 => ?_))
      refine pw_aload_0 dX1_takeBack_45 ?_
      refine pw_dup dX1_takeBack_46 ?_
      refine pw_getI 1 2 dX1_takeBack_47 fX1_26 rfl (by decide) rfl h.t ?_
      refine pw_top (show _ = nI H.2 by rw [hb2.1 _ (by omega), wr_s, upd_n _ _ (by omega)]; exact hx.2.2.1) ?_
      refine pw_iconst (v := nI 1) dX1_takeBack_50 (by decide) ?_
      refine pw_isubN dX1_takeBack_51 (by omega) ?_
      refine pw_putI 1 2 dX1_takeBack_52 fX1_26 rfl (by decide) rfl (Or.inl rfl) rfl (by decide) h.t ?_
      refine pw_aload_0 dX1_takeBack_55 ?_
      refine pw_getI 1 2 dX1_takeBack_56 fX1_26 rfl (by decide) rfl h.t ?_
      refine pw_top (show _ = nI (H.2 - 1) by rw [wr_s, upd_s]) ?_
      refine pw_ireturn dX1_takeBack_59 rfl ?_
      exact q1 h0 μ2 hb2
    · skip
      have hx0 : 0 < x := by have h95 := h2; rw [show (0 : Int32) = nI 0 from rfl, nI_leI (by omega) (by omega)] at h95; omega
      refine pw_aload_0 dX1_takeBack_18 ?_
      refine pw_getI 1 1 dX1_takeBack_19 fX1_18 rfl (by decide) rfl h.t ?_
      refine pw_top hx.1 ?_
      refine pw_iconst (v := nI 1) dX1_takeBack_22 (by decide) ?_
      refine pw_isubN dX1_takeBack_23 (by omega) ?_
      refine pw_goto 29 dX1_takeBack_24 (by decide) ?_
      have h0 : H.2 ≠ 0 := fun e => h1 (by rw [e]; rfl)
      have ex : (if 0 < x then x - 1 else 6) = x - 1 := if_pos (by have h95 := h2; rw [show (0 : Int32) = nI 0 from rfl, nI_leI (by omega) (by omega)] at h95; omega)
      refine pw_top (show _ = nI (if 0 < x then x - 1 else 6) by rw [ex]) ?_
      refine pw_putI 1 1 dX1_takeBack_29 fX1_18 rfl (by decide) rfl (Or.inl rfl) rfl (by decide) h.t ?_
      have hxn : (if 0 < x then x - 1 else 6) < 7 := by split <;> omega
      have hbl : BU (wr μ hh 1 (nI (if 0 < x then x - 1 else 6))) (hb hh (if 0 < x then x - 1 else 6)) (H.1 (H.2 - 1)) (wr μ hh 1 (nI (if 0 < x then x - 1 else 6))) := (hx.last h0).at fun a a1 a2 => wr_n _ _ _ (by have := hb_in (hh := hh) hxn; omega)
      have hN1 : NU (wr μ hh 1 (nI (if 0 < x then x - 1 else 6))) b := hN.at fun a a1 a2 => wr_n _ _ _ (by omega)
      refine pw_aload_1 dX1_takeBack_32 ?_
      refine pw_aload_0 dX1_takeBack_33 ?_
      refine pw_getr 1 0 dX1_takeBack_34 fX1_11 rfl (by decide) rfl h.t h.r0 ?_
      refine pw_aload_0 dX1_takeBack_37 ?_
      refine pw_getI 1 1 dX1_takeBack_38 fX1_18 rfl (by decide) rfl h.t ?_
      refine pw_top (show _ = nI (if 0 < x then x - 1 else 6) by rw [wr_s, upd_s]) ?_
      refine pw_aaldBr dX1_takeBack_41 h.a (by omega) (by decide) (h.s (by omega)) ?_
      refine pw_cV1v 0 dX1_takeBack_42 kX1_22 vX0_copyFrom iX0_copyFrom ⟨by decide, by decide⟩ ⟨rfl, rfl⟩ (by decide) rfl (Nat.le_of_ble_eq_true rfl) hs2.t (k_copyFrom hs2 (h.B hxn) (by have := hb_in (hh := hh) hxn; omega) hbl (wfH _ (by omega)) hN1 (fun μ2 hb2 => ?_))
      refine pw_aload_0 dX1_takeBack_45 ?_
      refine pw_dup dX1_takeBack_46 ?_
      refine pw_getI 1 2 dX1_takeBack_47 fX1_26 rfl (by decide) rfl h.t ?_
      refine pw_top (show _ = nI H.2 by rw [hb2.1 _ (by omega), wr_s, upd_n _ _ (by omega)]; exact hx.2.2.1) ?_
      refine pw_iconst (v := nI 1) dX1_takeBack_50 (by decide) ?_
      refine pw_isubN dX1_takeBack_51 (by omega) ?_
      refine pw_putI 1 2 dX1_takeBack_52 fX1_26 rfl (by decide) rfl (Or.inl rfl) rfl (by decide) h.t ?_
      refine pw_aload_0 dX1_takeBack_55 ?_
      refine pw_getI 1 2 dX1_takeBack_56 fX1_26 rfl (by decide) rfl h.t ?_
      refine pw_top (show _ = nI (H.2 - 1) by rw [wr_s, upd_s]) ?_
      refine pw_ireturn dX1_takeBack_59 rfl ?_
      exact q1 h0 μ2 hb2
  · skip
    refine pw_bipush (v := -5) dX1_takeBack_7 (by decide) ?_
    refine pw_ireturn dX1_takeBack_9 rfl ?_
    exact q0 ((nI_eq (b := 0) (by omega) (by omega)).mp h1)
set_option maxRecDepth 100000 in
set_option maxHeartbeats 4000000 in
theorem kf_undo {X : Cx} {σ : Sp} {μ : Mm} {Q : Int32 → Sp → Mm → Prop} {o x : Nat} {A : Aw} (hc : CX σ μ o x A) (wa : WA A) (q : ∀ μ' x', CX σ μ' o x' (unA A) → FX μ o μ' → Q (unR A) σ μ') : CTi X mX7_undo [.ref o] σ μ Q := by
  refine CT.of (by decide +kernel) (Nat.le_of_ble_eq_true rfl) ?_
  show PW X mX7_undo 0 0 0 [some (.ref o)] [] σ μ (LI Q)
  refine pw_aload_0 dX7_undo_0 ?_
  refine pw_getr 7 2 dX7_undo_1 fX7_22 rfl (by decide) rfl hc.1.t hc.1.r2 ?_
  refine pw_aload_0 dX7_undo_4 ?_
  refine pw_getr 7 0 dX7_undo_5 fX7_10 rfl (by decide) rfl hc.1.t hc.1.r0 ?_
  refine pw_cV1i 1 dX7_undo_8 kX7_236 vX1_takeBack iX1_takeBack ⟨by decide, by decide⟩ ⟨rfl, rfl⟩ (by decide) rfl (Nat.le_of_ble_eq_true rfl) hc.1.hist.t (k_takeBack hc.1.hist hc.1.now (by omega) hc.2.2.2.1 (fun k hk => (wa.2.1 k hk).1) hc.2.1.nu (fun h0 => ?_) (fun h0 μ2 hb2 => ?_))
  · skip
    refine pw_ireturn dX7_undo_11 rfl ?_
    have e1 : unR A = -5 := if_pos h0
    have e2 : unA A = A := if_pos h0
    rw [e1, e2] at q
    exact q _ _ hc (fun _ _ _ => rfl)
  · skip
    refine pw_ireturn dX7_undo_11 rfl ?_
    have e1 : unR A = nI ((aH A).2 - 1) := if_neg h0
    have e2 : unA A = ((aH A).1 ((aH A).2 - 1), ((aH A).1, (aH A).2 - 1), aS A, aP A) := if_neg h0
    rw [e1, e2] at q
    have f : ∀ a, a ≠ o + 125 → (a < o + 1 ∨ o + 63 ≤ a) → wr μ2 (o + 125) 2 (nI ((aH A).2 - 1)) a = μ a := fun a a0 a1 => (wr_n _ _ _ a0).trans ((hb2.1 a (by omega)).trans (wr_n _ _ _ a0))
    have e125 : μ2 (o + 125) = wr μ (o + 125) 1 (nI (if 0 < x then x - 1 else 6)) (o + 125) := hb2.1 _ (by omega)
    obtain ⟨c1, c2, c3, c4, c5, c6⟩ := hc
    refine q _ (if 0 < x then x - 1 else 6) ⟨c1, hb2.self.at fun a a1 a2 => wr_n _ _ _ (by omega), c3.at fun a a1 a2 => f a (by omega) (by omega), c4.pop h0 (fun a a1 a2 => f a (by omega) (by omega)) (by rw [wr_s, upd_n _ _ (by omega), e125, wr_s, upd_s]) (by rw [wr_s, upd_s]), c5.at fun a a1 => f a (by omega) (by omega), c6.at fun a a1 a2 => f a (by omega) (by omega)⟩ (fun a a1 a2 => f a (by omega) (by omega))
set_option maxRecDepth 100000 in
set_option maxHeartbeats 4000000 in
theorem kf_restore {X : Cx} {σ : Sp} {μ : Mm} {Q : Int32 → Sp → Mm → Prop} {o x : Nat} {u : Int32} {A : Aw} (hc : CX σ μ o x A) (wa : WA A) (q : ∀ μ' x', CX σ μ' o x' (rsA A u) → FX μ o μ' → Q (rsR A u) σ μ') : CTi X mX7_restore [.ref o, .int u] σ μ Q := by
  refine CT.of (by decide +kernel) (Nat.le_of_ble_eq_true rfl) ?_
  show PW X mX7_restore 0 0 0 [some (.ref o), some (.int u), none] [] σ μ (LI Q)
  have wf := wa.1.1
  have hx := hc.2.2.2.1.1
  have hx7 := hc.2.2.2.1.2.1
  have hin := hb_in (hh := o + 125) hx7
  refine pw_iload_1 dX7_restore_0 ?_
  refine pw_cS1i dX7_restore_1 kX7_240 vX7_isSlot sX7_isSlot ⟨by decide, by decide⟩ ⟨rfl, rfl⟩ (Nat.le_of_ble_eq_true rfl) (c_X7_isSlot (fun j ej hj => ?_) (fun hno => ?_))
  · skip
    subst ej
    refine pw_if_ne 10 dX7_restore_4 (by decide) (fun _ => ?_) (fun hh => absurd hh (by decide))
    refine pw_aload_0 dX7_restore_10 ?_
    refine pw_getr 7 3 dX7_restore_11 fX7_26 rfl (by decide) rfl hc.1.t hc.1.r3 ?_
    refine pw_iload_1 dX7_restore_14 ?_
    rcases hS : aS A j with _ | C
    · skip
      refine pw_aaldBN (o := none) dX7_restore_15 hc.1.slots (by omega) (by decide) (hc.2.2.2.2.1.1 j hj hS) ?_
      refine pw_nastore_2 dX7_restore_16 (by decide) ?_
      refine pw_naload_2 dX7_restore_17 ?_
      refine pw_nonnullN dX7_restore_18 ?_
      refine pw_bipush (v := -5) dX7_restore_21 (by decide) ?_
      refine pw_ireturn dX7_restore_23 rfl ?_
      have hi2 : inN 2 (nI j) := inN_ok hj
      have ei : ixN (nI j) = j := ixN_nI (by omega)
      have e1 : rsR A (nI j) = -5 := by unfold rsR; rw [cif_y hi2, ei, hS]; rfl
      have e2 : rsA A (nI j) = A := by unfold rsA; rw [cif_y hi2, ei, hS]; rfl
      rw [e1, e2] at q
      exact q _ _ hc (fun _ _ _ => rfl)
    · obtain ⟨a, ha, ha9, hsh, hba⟩ := hc.2.2.2.2.1.2.1 j C hj hS
      have wfC := (wa.2.2 j C hS).1
      refine pw_aaldBr dX7_restore_15 hc.1.slots (by omega) (by decide) ha ?_
      refine pw_astore_2 dX7_restore_16 (by decide) ?_
      refine pw_aload_2 dX7_restore_17 ?_
      refine pw_nonnull 24 dX7_restore_18 (by decide) ?_
      refine pw_aload_0 dX7_restore_24 ?_
      refine pw_getr 7 2 dX7_restore_25 fX7_22 rfl (by decide) rfl hc.1.t hc.1.r2 ?_
      refine pw_aload_0 dX7_restore_28 ?_
      refine pw_getr 7 0 dX7_restore_29 fX7_10 rfl (by decide) rfl hc.1.t hc.1.r0 ?_
      refine pw_cV1v 1 dX7_restore_32 kX7_46 vX1_prepare iX1_prepare ⟨by decide, by decide⟩ ⟨rfl, rfl⟩ (by decide) rfl (Nat.le_of_ble_eq_true rfl) hc.1.hist.t (k_prepare hc.1.hist hc.1.now (by omega) hc.2.1 wf hx hx7 (hc.2.2.2.1.2.2.2.2.1 x hx7) (fun μ1 hb1 => ?_))
      have hbn : BU μ1 (o + 1) (aB A) μ1 := hb1.mv hc.2.1 (by omega)
      refine pw_aload_0 dX7_restore_35 ?_
      refine pw_getr 7 0 dX7_restore_36 fX7_10 rfl (by decide) rfl hc.1.t hc.1.r0 ?_
      refine pw_aload_2 dX7_restore_39 ?_
      refine pw_cV1v 0 dX7_restore_40 kX7_178 vX0_copyFrom iX0_copyFrom ⟨by decide, by decide⟩ ⟨rfl, rfl⟩ (by decide) rfl (Nat.le_of_ble_eq_true rfl) hc.1.now.t (k_copyFrom hc.1.now hsh (by omega) (hb1.mv hba (by omega)) wfC hbn.nu (fun μ2 hb2 => ?_))
      have ef : μ2 (o + 125) = μ (o + 125) := (hb2.1 _ (by omega)).trans (hb1.1 _ (by omega))
      refine pw_aload_0 dX7_restore_43 ?_
      refine pw_getr 7 2 dX7_restore_44 fX7_22 rfl (by decide) rfl hc.1.t hc.1.r2 ?_
      refine pw_aload_0 dX7_restore_47 ?_
      refine pw_getr 7 0 dX7_restore_48 fX7_10 rfl (by decide) rfl hc.1.t hc.1.r0 ?_
      refine pw_getI 0 5 dX7_restore_51 fX7_143 rfl (by decide) rfl hc.1.now.t ?_
      refine pw_top (hb2.n wfC rfl) ?_
      refine pw_cV1i 1 dX7_restore_54 kX7_54 vX1_keep iX1_keep ⟨by decide, by decide⟩ ⟨rfl, rfl⟩ (by decide) rfl (Nat.le_of_ble_eq_true rfl) hc.1.hist.t (k_keep hc.1.hist (x := x) (l := (aH A).2) (by rw [ef]; exact hx) hx7 (by rw [ef]; exact hc.2.2.2.1.2.2.1) hc.2.2.2.1.2.2.2.1 (fun hneg => ?_) (fun hok => ?_))
      · skip
        refine pw_ireturn dX7_restore_57 rfl ?_
        exact absurd hneg (nnI (by have := wfC.n8; omega))
      · skip
        refine pw_ireturn dX7_restore_57 rfl ?_
        have hi2 : inN 2 (nI j) := inN_ok hj
        have ei : ixN (nI j) = j := ixN_nI (by omega)
        have e1 : rsR A (nI j) = nI (nS C) := by unfold rsR; rw [cif_y hi2, ei, hS]; rfl
        have e2 : rsA A (nI j) = (C, pushH (aH A) (aB A), aS A, aP A) := by unfold rsA; rw [cif_y hi2, ei, hS]; rfl
        rw [e1, e2] at q
        obtain ⟨g1, g2⟩ := hc.opO (μ3 := wr (wr μ2 (o + 125) 1 (nI (if x < 6 then x + 1 else 0))) (o + 125) 2 (nI (if (aH A).2 < 6 then (aH A).2 + 1 else 6))) hb1 hb2 (fun a ha => by rw [wr_n _ _ _ ha, wr_n _ _ _ ha]) (by rw [wr_s, upd_n _ _ (by omega), wr_s, upd_s]) (by rw [wr_s, upd_s])
        exact q _ _ g1 g2
  · skip
    refine pw_if_ne 10 dX7_restore_4 (by decide) (fun hh => absurd hh (by decide)) (fun _ => ?_)
    refine pw_bipush (v := -2) dX7_restore_7 (by decide) ?_
    refine pw_ireturn dX7_restore_9 rfl ?_
    have hi2 : ¬ inN 2 u := inN_no hno
    have e1 : rsR A u = -2 := cif_n hi2
    have e2 : rsA A u = A := cif_n hi2
    rw [e1, e2] at q
    exact q _ _ hc (fun _ _ _ => rfl)
set_option maxRecDepth 100000 in
set_option maxHeartbeats 4000000 in
theorem kf_sleepsIn {X : Cx} {σ : Sp} {μ : Mm} {Q : Int32 → Sp → Mm → Prop} {o x : Nat} {u : Int32} {A : Aw} (hc : CX σ μ o x A) (wa : WA A) (q : ∀ μ', CX σ μ' o x A → FX μ o μ' → Q (slR (aB A) u) σ μ') : CTi X mX7_sleepsIn [.ref o, .int u] σ μ Q := by
  refine CT.of (by decide +kernel) (Nat.le_of_ble_eq_true rfl) ?_
  show PW X mX7_sleepsIn 0 0 0 [some (.ref o), some (.int u), none, none] [] σ μ (LI Q)
  have wf := wa.1.1
  have h8 := wf.n8
  have hb : BU μ (o + 1) (aB A) μ := hc.2.1
  have h : ShBus σ (o + 1) := hc.1.now
  refine pw_aload_0 dX7_sleepsIn_0 ?_
  refine pw_getr 7 1 dX7_sleepsIn_1 fX7_16 rfl (by decide) rfl hc.1.t hc.1.r1 ?_
  refine pw_aload_0 dX7_sleepsIn_4 ?_
  refine pw_getr 7 0 dX7_sleepsIn_5 fX7_10 rfl (by decide) rfl hc.1.t hc.1.r0 ?_
  refine pw_cV1v 0 dX7_sleepsIn_8 kX7_178 vX0_copyFrom iX0_copyFrom ⟨by decide, by decide⟩ ⟨rfl, rfl⟩ (by decide) rfl (Nat.le_of_ble_eq_true rfl) hc.1.trial.t (k_copyFrom hc.1.trial hc.1.now (by omega) hb wf hc.2.2.1 (fun μ1 hb1 => ?_))
  have ht : ShBus σ (o + 63) := hc.1.trial
  refine pw_aload_0 dX7_sleepsIn_11 ?_
  refine pw_getr 7 1 dX7_sleepsIn_12 fX7_16 rfl (by decide) rfl hc.1.t hc.1.r1 ?_
  refine pw_iload_1 dX7_sleepsIn_15 ?_
  refine pw_cV1r 0 dX7_sleepsIn_16 kX7_103 vX0_find iX0_find ⟨by decide, by decide⟩ ⟨rfl, rfl⟩ (by decide) rfl (Nat.le_of_ble_eq_true rfl) hc.1.trial.t (k_find ht hb1 wf rfl (fun j ej hj => ?_) (fun hno => ?_))
  · skip
    subst ej
    refine pw_astore_2 dX7_sleepsIn_19 (by decide) ?_
    refine pw_aload_2 dX7_sleepsIn_20 ?_
    refine pw_nonnull 26 dX7_sleepsIn_21 (by decide) ?_
    refine pw_iconst (v := nI 0) dX7_sleepsIn_26 (by decide) ?_
    refine pw_istore_3 dX7_sleepsIn_27 (by decide) ?_
    refine pw_up (P := fun k => ∀ μ1, BU μ (o + 63) (bk (aB A) k) μ1 → (∀ i9, i9 < k → ¬ slP (aB A) j i9) → PW X mX7_sleepsIn 0 0 28 [some (.ref o), some (.int (nI j)), some (.ref (st (o + 63) j)), some (.int (nI k))] [] σ μ1 (LI Q)) 601 ?_ ?_ 0 (by omega) _ hb1 (fun i9 hi9 => absurd hi9 (by omega))
    · intro μ1 hb1 hno9
      refine pw_iload_3 dX7_sleepsIn_28 ?_
      refine pw_sipush (v := nI 600) dX7_sleepsIn_29 (by decide) ?_
      refine pw_icmp_gt 58 dX7_sleepsIn_32 (by decide) (fun _ => ?_) (fun hh => absurd (by rw [nI_ltI (by omega) (by omega)]; omega) hh)
      refine pw_bipush (v := -6) dX7_sleepsIn_58 (by decide) ?_
      refine pw_ireturn dX7_sleepsIn_60 rfl ?_
      have ei : ixN (nI j) = j := ixN_nI (by omega)
      have e1 : slR (aB A) (nI j) = -6 := by unfold slR; rw [cif_y (inN_ok hj), ei, ss_n hno9]
      rw [e1] at q
      exact q _ (hc.trial hb1).1 (hc.trial hb1).2
    · intro k hk ih μ1 hb1 hno9
      have wf1 := bk_wf wf k
      have en1 : nS (bk (aB A) k) = nS (aB A) := bk_n k
      refine pw_iload_3 dX7_sleepsIn_28 ?_
      refine pw_sipush (v := nI 600) dX7_sleepsIn_29 (by decide) ?_
      refine pw_icmp_gt 58 dX7_sleepsIn_32 (by decide) (fun hh => absurd hh (by rw [nI_ltI (by omega) (by omega)]; omega)) (fun _ => ?_)
      refine pw_aload_2 dX7_sleepsIn_35 ?_
      refine pw_getI 6 5 dX7_sleepsIn_36 fX7_171 rfl (by decide) rfl ((ht.S (by omega))).t ?_
      refine pw_top (hb1.s5 (by omega)) ?_
      refine pw_if_eq 44 dX7_sleepsIn_39 (by decide) (fun h1 => ?_) (fun h1 => ?_)
      · skip
        refine pw_aload_0 dX7_sleepsIn_44 ?_
        refine pw_getr 7 1 dX7_sleepsIn_45 fX7_16 rfl (by decide) rfl hc.1.t hc.1.r1 ?_
        refine pw_cV0i 0 dX7_sleepsIn_48 kX7_181 vX0_passBeat iX0_passBeat ⟨by decide, by decide⟩ ⟨rfl, rfl⟩ (by decide) rfl (Nat.le_of_ble_eq_true rfl) hc.1.trial.t (k_passBeat ht hb1 wf1 (fun μ2 hb2 => ?_))
        refine pw_pop dX7_sleepsIn_51 ?_
        refine pw_iincN_3 dX7_sleepsIn_52 (by decide) ?_
        refine pw_goto 28 dX7_sleepsIn_55 (by decide) ?_
        refine ih μ2 hb2 (fun i9 h95 => ?_)
        rcases Nat.lt_or_ge i9 k with q9 | q9
        · exact hno9 i9 q9
        · have e9 : i9 = k := by omega
          rw [e9]
          exact fun e => e h1
      · skip
        refine pw_iload_3 dX7_sleepsIn_42 ?_
        refine pw_ireturn dX7_sleepsIn_43 rfl ?_
        have ei : ixN (nI j) = j := ixN_nI (by omega)
        have hp9 : slP (aB A) j k := h1
        have e1 : slR (aB A) (nI j) = nI k := by unfold slR; rw [cif_y (inN_ok hj), ei, ss_y hp9 (by omega) hno9]
        rw [e1] at q
        exact q _ (hc.trial hb1).1 (hc.trial hb1).2
  · skip
    refine pw_nastore_2 dX7_sleepsIn_19 (by decide) ?_
    refine pw_naload_2 dX7_sleepsIn_20 ?_
    refine pw_nonnullN dX7_sleepsIn_21 ?_
    refine pw_iconst (v := -1) dX7_sleepsIn_24 (by decide) ?_
    refine pw_ireturn dX7_sleepsIn_25 rfl ?_
    have e1 : slR (aB A) u = -1 := cif_n (inN_no hno)
    rw [e1] at q
    exact q _ (hc.trial hb1).1 (hc.trial hb1).2
set_option maxRecDepth 100000 in
set_option maxHeartbeats 4000000 in
theorem kf_quietIn {X : Cx} {σ : Sp} {μ : Mm} {Q : Int32 → Sp → Mm → Prop} {o x : Nat} {A : Aw} (hc : CX σ μ o x A) (wa : WA A) (q : ∀ μ', CX σ μ' o x A → FX μ o μ' → Q (quR (aB A)) σ μ') : CTi X mX7_quietIn [.ref o] σ μ Q := by
  refine CT.of (by decide +kernel) (Nat.le_of_ble_eq_true rfl) ?_
  show PW X mX7_quietIn 0 0 0 [some (.ref o), none] [] σ μ (LI Q)
  have wf := wa.1.1
  have h8 := wf.n8
  have hb : BU μ (o + 1) (aB A) μ := hc.2.1
  have h : ShBus σ (o + 1) := hc.1.now
  refine pw_aload_0 dX7_quietIn_0 ?_
  refine pw_getr 7 1 dX7_quietIn_1 fX7_16 rfl (by decide) rfl hc.1.t hc.1.r1 ?_
  refine pw_aload_0 dX7_quietIn_4 ?_
  refine pw_getr 7 0 dX7_quietIn_5 fX7_10 rfl (by decide) rfl hc.1.t hc.1.r0 ?_
  refine pw_cV1v 0 dX7_quietIn_8 kX7_178 vX0_copyFrom iX0_copyFrom ⟨by decide, by decide⟩ ⟨rfl, rfl⟩ (by decide) rfl (Nat.le_of_ble_eq_true rfl) hc.1.trial.t (k_copyFrom hc.1.trial hc.1.now (by omega) hb wf hc.2.2.1 (fun μ1 hb1 => ?_))
  have ht : ShBus σ (o + 63) := hc.1.trial
  refine pw_iconst (v := nI 0) dX7_quietIn_11 (by decide) ?_
  refine pw_istore_1 dX7_quietIn_12 (by decide) ?_
  refine pw_up (P := fun k => ∀ μ1, BU μ (o + 63) (bk (aB A) k) μ1 → (∀ i9, i9 < k → ¬ quP (aB A) i9) → PW X mX7_quietIn 0 0 13 [some (.ref o), some (.int (nI k))] [] σ μ1 (LI Q)) 901 ?_ ?_ 0 (by omega) _ hb1 (fun i9 hi9 => absurd hi9 (by omega))
  · intro μ1 hb1 hno9
    refine pw_iload_1 dX7_quietIn_13 ?_
    refine pw_sipush (v := nI 900) dX7_quietIn_14 (by decide) ?_
    refine pw_icmp_gt 46 dX7_quietIn_17 (by decide) (fun _ => ?_) (fun hh => absurd (by rw [nI_ltI (by omega) (by omega)]; omega) hh)
    refine pw_bipush (v := -6) dX7_quietIn_46 (by decide) ?_
    refine pw_ireturn dX7_quietIn_48 rfl ?_
    have e1 : quR (aB A) = -6 := ss_n hno9
    rw [e1] at q
    exact q _ (hc.trial hb1).1 (hc.trial hb1).2
  · intro k hk ih μ1 hb1 hno9
    have wf1 := bk_wf wf k
    have en1 : nS (bk (aB A) k) = nS (aB A) := bk_n k
    refine pw_iload_1 dX7_quietIn_13 ?_
    refine pw_sipush (v := nI 900) dX7_quietIn_14 (by decide) ?_
    refine pw_icmp_gt 46 dX7_quietIn_17 (by decide) (fun hh => absurd hh (by rw [nI_ltI (by omega) (by omega)]; omega)) (fun _ => ?_)
    refine pw_aload_0 dX7_quietIn_20 ?_
    refine pw_getr 7 1 dX7_quietIn_21 fX7_16 rfl (by decide) rfl hc.1.t hc.1.r1 ?_
    refine pw_cV0i 0 dX7_quietIn_24 kX7_190 vX0_hasWords iX0_hasWords ⟨by decide, by decide⟩ ⟨rfl, rfl⟩ (by decide) rfl (Nat.le_of_ble_eq_true rfl) hc.1.trial.t (k_hasWords ht hb1 wf1 en1 (fun hw => ?_) (fun hw => ?_))
    · skip
      refine pw_if_ne 32 dX7_quietIn_27 (by decide) (fun _ => ?_) (fun hh => absurd hh (by decide))
      refine pw_aload_0 dX7_quietIn_32 ?_
      refine pw_getr 7 1 dX7_quietIn_33 fX7_16 rfl (by decide) rfl hc.1.t hc.1.r1 ?_
      refine pw_cV0i 0 dX7_quietIn_36 kX7_181 vX0_passBeat iX0_passBeat ⟨by decide, by decide⟩ ⟨rfl, rfl⟩ (by decide) rfl (Nat.le_of_ble_eq_true rfl) hc.1.trial.t (k_passBeat ht hb1 wf1 (fun μ2 hb2 => ?_))
      refine pw_pop dX7_quietIn_39 ?_
      refine pw_iincN_1 dX7_quietIn_40 (by decide) ?_
      refine pw_goto 13 dX7_quietIn_43 (by decide) ?_
      refine ih μ2 hb2 (fun i9 h95 => ?_)
      rcases Nat.lt_or_ge i9 k with q9 | q9
      · exact hno9 i9 q9
      · have e9 : i9 = k := by omega
        rw [e9]
        exact fun e => by obtain ⟨s9, h91, h92⟩ := hw; have := e s9 h91; omega
    · skip
      refine pw_if_ne 32 dX7_quietIn_27 (by decide) (fun hh => absurd hh (by decide)) (fun _ => ?_)
      refine pw_iload_1 dX7_quietIn_30 ?_
      refine pw_ireturn dX7_quietIn_31 rfl ?_
      have hp9 : quP (aB A) k := hw
      have e1 : quR (aB A) = nI k := ss_y hp9 (by omega) hno9
      rw [e1] at q
      exact q _ (hc.trial hb1).1 (hc.trial hb1).2
