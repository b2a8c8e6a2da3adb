/-! Texts of the model: what it reads -/
noncomputable def mlG (P : Pd) (i : Nat) : Int32 := cif (i < P.2) (P.1 i) (-6)
theorem nI_ne6 {k : Nat} (h : k ≤ 1000) : nI k ≠ -6 := fun e => by
  have h95 : nI k < 0 := by rw [e]; decide
  exact nI_pos (by omega) h95
theorem ml_y {P : Pd} {i c : Nat} (hc : c ≤ 1000) (h : mlG P i = nI c) : chT P i c := by
  rcases Classical.em (i < P.2) with hi | hi
  · exact ⟨hi, (cif_y hi).symm.trans h⟩
  · have e : mlG P i = -6 := cif_n hi
    exact absurd (h.symm.trans e) (nI_ne6 hc)
theorem ml_i {P : Pd} {i c : Nat} (h : chT P i c) : mlG P i = nI c := (cif_y h.1).trans h.2
set_option maxRecDepth 100000 in
set_option maxHeartbeats 4000000 in
theorem m_letter {X : Cx} {σ : Sp} {μ : Mm} {Q : Int32 → Sp → Mm → Prop} {m i : Nat} {P : Pd} (h : ShM σ m) (hq : QX μ m P) (ha : μ m 11 = nI i) (hi : i ≤ 80) (q : Q (mlG P i) σ μ) : CTi X mX8_letter [.ref m] σ μ Q := by
  refine CT.of (by decide +kernel) (Nat.le_of_ble_eq_true rfl) ?_
  show PW X mX8_letter 0 0 0 [some (.ref m)] [] σ μ (LI Q)
  have h80 := hq.2.1
  refine pw_aload_0 dX8_letter_0 ?_
  refine pw_getI 8 11 dX8_letter_1 fX8_192 rfl (by decide) rfl h.t ?_
  refine pw_top ha ?_
  refine pw_aload_0 dX8_letter_4 ?_
  refine pw_getI 8 7 dX8_letter_5 fX8_183 rfl (by decide) rfl h.t ?_
  refine pw_top hq.1 ?_
  refine pw_icmp_ge 23 dX8_letter_8 (by decide) (fun h1 => ?_) (fun h1 => ?_)
  · skip
    refine pw_bipush (v := -6) dX8_letter_23 (by decide) ?_
    refine pw_ireturn dX8_letter_25 rfl ?_
    have e1 : mlG P i = -6 := cif_n (fun h95 => by have h96 := h1; rw [nI_leI (by omega) (by omega)] at h96; omega)
    rw [e1] at q
    exact q
  · skip
    have hn : i < P.2 := lt_of_nle hi h80 h1
    refine pw_aload_0 dX8_letter_11 ?_
    refine pw_getr 8 6 dX8_letter_12 fX8_26 rfl (by decide) rfl h.t h.r6 ?_
    refine pw_aload_0 dX8_letter_15 ?_
    refine pw_getI 8 11 dX8_letter_16 fX8_192 rfl (by decide) rfl h.t ?_
    refine pw_top ha ?_
    refine pw_caldN dX8_letter_19 h.a6 (by omega) (by decide) ?_
    refine pw_top (hq.2.2 i hn) ?_
    refine pw_goto 25 dX8_letter_20 (by decide) ?_
    refine pw_ireturn dX8_letter_25 rfl ?_
    have e1 : mlG P i = P.1 i := cif_y hn
    rw [e1] at q
    exact q
