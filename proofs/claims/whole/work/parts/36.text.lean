/-! Texts: what is asked of a pad, and the reader of the class -/
abbrev Pd := (Nat → Int32) × Nat
def PD (μ : Mm) (p : Nat) (P : Pd) : Prop := μ p 1 = nI P.2 ∧ P.2 ≤ 80 ∧ ∀ j, j < P.2 → μ (p + 1) j = P.1 j
def RX (p : Nat) (μ ν : Mm) : Prop := ∀ a, a ≠ p + 2 → ν a = μ a
theorem RX.rf {p : Nat} {μ : Mm} : RX p μ μ := fun _ _ => rfl
theorem RX.tr {p : Nat} {μ ν κ : Mm} (h : RX p μ ν) (k : RX p ν κ) : RX p μ κ := fun a ha => (k a ha).trans (h a ha)
theorem RX.w {p k : Nat} {x : Int32} {μ ν : Mm} (h : RX p μ ν) : RX p μ (wr ν (p + 2) k x) := fun a ha => (wr_n _ _ _ ha).trans (h a ha)
theorem rdS {ν : Mm} {a k : Nat} {x : Int32} : wr ν a k x a k = x := by rw [wr_s, upd_s]
theorem rdN {ν : Mm} {a k j : Nat} {x y : Int32} (h : ν a j = y) (hj : j ≠ k) : wr ν a k x a j = y := by
  rw [wr_s, upd_n _ _ hj]
  exact h
def KP (p : Nat) (ks : List Nat) (μ ν : Mm) : Prop := ∀ j, j ∉ ks → ν (p + 2) j = μ (p + 2) j
theorem KP.rf {p : Nat} {ks : List Nat} {μ : Mm} : KP p ks μ μ := fun _ _ => rfl
theorem KP.w {p k : Nat} {ks : List Nat} {x : Int32} {μ ν : Mm} (h : KP p ks μ ν) (hk : k ∈ ks) : KP p ks μ (wr ν (p + 2) k x) := fun j hj => by
  rw [wr_s, upd_n _ _ (fun e => hj (by rw [e]; exact hk))]
  exact h j hj
theorem KP.tr {p : Nat} {ks is : List Nat} {μ ν κ : Mm} (h : KP p ks μ ν) (k : KP p is ν κ) (hs : ∀ j, j ∈ is → j ∈ ks) : KP p ks μ κ := fun j hj => (k j (fun e => hj (hs j e))).trans (h j hj)
theorem PD.fr {p : Nat} {P : Pd} {μ ν : Mm} (h : PD μ p P) (k : RX p μ ν) : PD ν p P := by
  refine ⟨?_, h.2.1, fun j hj => ?_⟩
  · rw [k p (by omega)]
    exact h.1
  · rw [k (p + 1) (by omega)]
    exact h.2.2 j hj
noncomputable def cdG (P : Pd) (i : Nat) : Int32 := cif (i < P.2) (P.1 i) (nI 0)
def dgT (P : Pd) (i : Nat) : Prop := i < P.2 ∧ ∃ d, d < 10 ∧ P.1 i = nI (48 + d)
def dgV (P : Pd) (i : Nat) : Nat := (P.1 i).toNatClampNeg - 48
def wrT (P : Pd) (i : Nat) : Prop := i < P.2 ∧ ∃ d, d < 6 ∧ P.1 i = nI (97 + d)
def wrV (P : Pd) (i : Nat) : Nat := (P.1 i).toNatClampNeg - 97
def chT (P : Pd) (i c : Nat) : Prop := i < P.2 ∧ P.1 i = nI c
theorem nI_tn {a : Nat} (h : a < 2 ^ 31) : (nI a).toNatClampNeg = a := ixN_nI h
theorem i32_sub {x : Int32} {c d : Nat} (h : x - nI c = nI d) : x = nI (c + d) := by
  have e : x = (x - nI c) + nI c := (Int32.sub_add_cancel x (nI c)).symm
  rw [e, h, nI_add, Nat.add_comm]
theorem i32_cs {c d : Nat} : nI (c + d) - nI c = nI d := by
  rw [← nI_add, Int32.add_comm, Int32.add_sub_cancel]
theorem cd_y {P : Pd} {i c : Nat} (hc : 0 < c) (h2 : c < 2 ^ 31) (h : cdG P i = nI c) : chT P i c := by
  rcases Classical.em (i < P.2) with hi | hi
  · exact ⟨hi, (cif_y hi).symm.trans h⟩
  · have e : cdG P i = nI 0 := cif_n hi
    exact absurd ((nI_eq (by omega) (by omega)).mp (h.symm.trans e)) (by omega)
theorem cd_i {P : Pd} {i c : Nat} (h : chT P i c) : cdG P i = nI c := (cif_y h.1).trans h.2
theorem dg_y {P : Pd} {i d : Nat} (hd : d < 10) (h : chT P i (48 + d)) : dgT P i ∧ dgV P i = d := by
  refine ⟨⟨h.1, d, hd, h.2⟩, ?_⟩
  unfold dgV
  rw [h.2, nI_tn (by omega)]
  omega
theorem wr_y {P : Pd} {i d : Nat} (hd : d < 6) (h : chT P i (97 + d)) : wrT P i ∧ wrV P i = d := by
  refine ⟨⟨h.1, d, hd, h.2⟩, ?_⟩
  unfold wrV
  rw [h.2, nI_tn (by omega)]
  omega
theorem dg_i {P : Pd} {i : Nat} (h : dgT P i) : dgV P i < 10 ∧ chT P i (48 + dgV P i) := by
  obtain ⟨hi, d, hd, e⟩ := h
  have k := (dg_y hd ⟨hi, e⟩).2
  rw [k]
  exact ⟨hd, hi, e⟩
theorem wr_i {P : Pd} {i : Nat} (h : wrT P i) : wrV P i < 6 ∧ chT P i (97 + wrV P i) := by
  obtain ⟨hi, d, hd, e⟩ := h
  have k := (wr_y hd ⟨hi, e⟩).2
  rw [k]
  exact ⟨hd, hi, e⟩
noncomputable def nmG (P : Pd) : Nat → Nat → Nat → Nat × Nat
  | 0, v, i => (v, i)
  | f + 1, v, i => cif (0 < v ∧ dgT P i ∧ 10 * v + dgV P i ≤ 999) (nmG P f (10 * v + dgV P i) (i + 1)) (v, i)
theorem nm_big {v d k : Nat} (h : 1000 ≤ v * (k * 10)) : 1000 ≤ (v * 10 + d) * k := by
  have e : v * (k * 10) = v * 10 * k := by rw [Nat.mul_comm k 10, Nat.mul_assoc]
  rw [Nat.add_mul, ← e]
  omega
noncomputable def wsG (P : Pd) : Nat → (Nat → Prop) → Nat → (Nat → Prop) × Nat
  | 0, s, i => (s, i)
  | f + 1, s, i => cif (wrT P i ∧ ¬ s (wrV P i)) (wsG P f (fun v => s v ∨ wrV P i = v) (i + 1)) (s, i)
theorem lt_of_nle {a b : Nat} (ha : a ≤ 81) (hb : b ≤ 80) (h : ¬ nI b ≤ nI a) : a < b := by
  rw [nI_leI (by omega) (by omega)] at h
  omega
set_option maxRecDepth 100000 in
set_option maxHeartbeats 4000000 in
theorem k_codeAt {X : Cx} {σ : Sp} {μ : Mm} {Q : Int32 → Sp → Mm → Prop} {μ0 : Mm} {p i : Nat} {P : Pd} (hp : ShPad σ p) (hd : PD μ0 p P) (rx : RX p μ0 μ) (hi : i ≤ 81) (q : Q (cdG P i) σ μ) : CTi X mX3_codeAt [.ref p, .int (nI i)] σ μ Q := by
  refine CT.of (by decide +kernel) (Nat.le_of_ble_eq_true rfl) ?_
  show PW X mX3_codeAt 0 0 0 [some (.ref p), some (.int (nI i))] [] σ μ (LI Q)
  have h80 := hd.2.1
  refine pw_iload_1 dX3_codeAt_0 ?_
  refine pw_if_lt 27 dX3_codeAt_1 (by decide) (fun hh => absurd hh (nI_pos (by omega))) (fun _ => ?_)
  refine pw_iload_1 dX3_codeAt_4 ?_
  refine pw_aload_0 dX3_codeAt_5 ?_
  refine pw_getI 3 1 dX3_codeAt_6 fX3_19 rfl (by decide) rfl hp.t ?_
  refine pw_top (hd.fr rx).1 ?_
  refine pw_icmp_ge 27 dX3_codeAt_9 (by decide) (fun h1 => ?_) (fun h1 => ?_)
  · skip
    refine pw_iconst (v := nI 0) dX3_codeAt_27 (by decide) ?_
    refine pw_ireturn dX3_codeAt_28 rfl ?_
    have hn : ¬ i < P.2 := fun h95 => by have h96 := h1; rw [nI_leI (by omega) (by omega)] at h96; omega
    have e1 : cdG P i = nI 0 := cif_n hn
    rw [e1] at q
    exact q
  · skip
    have hn : i < P.2 := lt_of_nle hi h80 h1
    refine pw_iload_1 dX3_codeAt_12 ?_
    refine pw_bipush (v := nI 80) dX3_codeAt_13 (by decide) ?_
    refine pw_icmp_ge 27 dX3_codeAt_15 (by decide) (fun hh => absurd hh (by rw [nI_leI (by omega) (by omega)]; omega)) (fun _ => ?_)
    refine pw_aload_0 dX3_codeAt_18 ?_
    refine pw_getr 3 0 dX3_codeAt_19 fX3_9 rfl (by decide) rfl hp.t hp.r0 ?_
    refine pw_iload_1 dX3_codeAt_22 ?_
    refine pw_caldN dX3_codeAt_23 hp.a (by omega) (by decide) ?_
    refine pw_top ((hd.fr rx).2.2 i hn) ?_
    refine pw_goto 28 dX3_codeAt_24 (by decide) ?_
    refine pw_ireturn dX3_codeAt_28 rfl ?_
    have e1 : cdG P i = P.1 i := cif_y hn
    rw [e1] at q
    exact q
set_option maxRecDepth 100000 in
set_option maxHeartbeats 4000000 in
theorem k_digitAt {X : Cx} {σ : Sp} {μ : Mm} {Q : Int32 → Sp → Mm → Prop} {μ0 : Mm} {p i : Nat} {P : Pd} (hr : ShRd σ (p + 2) p) (hd : PD μ0 p P) (rx : RX p μ0 μ) (ha : μ (p + 2) 1 = nI i) (hi : i ≤ 80) (q1 : ∀ d, d < 10 → chT P i (48 + d) → Q (nI d) σ μ) (q0 : ¬ dgT P i → Q (-6) σ μ) : CTi X mX4_digitAt [.ref (p + 2)] σ μ Q := by
  refine CT.of (by decide +kernel) (Nat.le_of_ble_eq_true rfl) ?_
  show PW X mX4_digitAt 0 0 0 [some (.ref (p + 2)), none] [] σ μ (LI Q)
  have h80 := hd.2.1
  refine pw_aload_0 dX4_digitAt_0 ?_
  refine pw_getr 4 0 dX4_digitAt_1 fX4_9 rfl (by decide) rfl hr.t hr.r0 ?_
  refine pw_aload_0 dX4_digitAt_4 ?_
  refine pw_getI 4 1 dX4_digitAt_5 fX4_15 rfl (by decide) rfl hr.t ?_
  refine pw_top ha ?_
  refine pw_cV1i 3 dX4_digitAt_8 kX4_28 vX3_codeAt iX3_codeAt ⟨by decide, by decide⟩ ⟨rfl, rfl⟩ (by decide) rfl (Nat.le_of_ble_eq_true rfl) hr.p.t (k_codeAt hr.p hd rx (by omega) ?_)
  refine pw_bipush (v := nI 48) dX4_digitAt_11 (by decide) ?_
  refine pw_isub dX4_digitAt_13 ?_
  refine pw_istore_1 dX4_digitAt_14 (by decide) ?_
  refine pw_iload_1 dX4_digitAt_15 ?_
  refine pw_if_lt 29 dX4_digitAt_16 (by decide) (fun h1 => ?_) (fun h1 => ?_)
  · skip
    refine pw_bipush (v := -6) dX4_digitAt_29 (by decide) ?_
    refine pw_ireturn dX4_digitAt_31 rfl ?_
    exact q0 (fun ht => by obtain ⟨h96, h97⟩ := dg_i ht; have e1 := cd_i h97; have h95 := h1; rw [e1, i32_cs] at h95; exact nI_pos (by omega) h95)
  · skip
    refine pw_iload_1 dX4_digitAt_19 ?_
    refine pw_bipush (v := nI 9) dX4_digitAt_20 (by decide) ?_
    refine pw_icmp_gt 29 dX4_digitAt_22 (by decide) (fun h2 => ?_) (fun h2 => ?_)
    · skip
      refine pw_bipush (v := -6) dX4_digitAt_29 (by decide) ?_
      refine pw_ireturn dX4_digitAt_31 rfl ?_
      exact q0 (fun ht => by obtain ⟨h96, h97⟩ := dg_i ht; have e1 := cd_i h97; have h95 := h2; rw [e1, i32_cs, nI_ltI (by omega) (by omega)] at h95; omega)
    · skip
      refine pw_iload_1 dX4_digitAt_25 ?_
      refine pw_goto 31 dX4_digitAt_26 (by decide) ?_
      refine pw_ireturn dX4_digitAt_31 rfl ?_
      obtain ⟨-, h96, h97⟩ := in_of (lo := 0) (hi := 9) (by decide) (by decide) h1 (Int32.not_lt.mp h2)
      generalize (cdG P i - nI 48).toNatClampNeg = d at h96 h97
      rw [h97]
      exact q1 d (by omega) (cd_y (by omega) (by omega) (i32_sub h97))
set_option maxRecDepth 100000 in
set_option maxHeartbeats 4000000 in
theorem k_canGrow {X : Cx} {σ : Sp} {μ : Mm} {Q : Int32 → Sp → Mm → Prop} {p v : Nat} (hr : ShRd σ (p + 2) p) (hw : μ (p + 2) 6 = nI v) (hv : v ≤ 999) {d : Nat} (hd : d < 10) (q1 : 0 < v → v * 10 + d ≤ 999 → Q (nI 1) σ μ) (q0 : (0 < v → ¬ v * 10 + d ≤ 999) → Q (nI 0) σ μ) : CTi X mX4_canGrowBy [.ref (p + 2), .int (nI d)] σ μ Q := by
  refine CT.of (by decide +kernel) (Nat.le_of_ble_eq_true rfl) ?_
  show PW X mX4_canGrowBy 0 0 0 [some (.ref (p + 2)), some (.int (nI d))] [] σ μ (LI Q)
  refine pw_iload_1 dX4_canGrowBy_0 ?_
  refine pw_bipush (v := -6) dX4_canGrowBy_1 (by decide) ?_
  refine pw_icmp_eq 32 dX4_canGrowBy_3 (by decide) (fun hh => absurd hh (m6_ne (by omega))) (fun _ => ?_)
  refine pw_aload_0 dX4_canGrowBy_6 ?_
  refine pw_getI 4 6 dX4_canGrowBy_7 fX4_71 rfl (by decide) rfl hr.t ?_
  refine pw_top hw ?_
  refine pw_if_eq 32 dX4_canGrowBy_10 (by decide) (fun h1 => ?_) (fun h1 => ?_)
  · skip
    refine pw_iconst (v := nI 0) dX4_canGrowBy_32 (by decide) ?_
    refine pw_zreturn dX4_canGrowBy_33 rfl (by decide) ?_
    exact q0 (fun h95 h96 => absurd ((nI_eq (by omega) (by omega)).mp (show nI v = nI 0 from h1)) (by omega))
  · skip
    refine pw_aload_0 dX4_canGrowBy_13 ?_
    refine pw_getI 4 6 dX4_canGrowBy_14 fX4_71 rfl (by decide) rfl hr.t ?_
    refine pw_top hw ?_
    refine pw_bipush (v := nI 10) dX4_canGrowBy_17 (by decide) ?_
    refine pw_imulN dX4_canGrowBy_19 ?_
    refine pw_iload_1 dX4_canGrowBy_20 ?_
    refine pw_iaddN dX4_canGrowBy_21 ?_
    refine pw_sipush (v := nI 999) dX4_canGrowBy_22 (by decide) ?_
    refine pw_icmp_gt 32 dX4_canGrowBy_25 (by decide) (fun h2 => ?_) (fun h2 => ?_)
    · skip
      refine pw_iconst (v := nI 0) dX4_canGrowBy_32 (by decide) ?_
      refine pw_zreturn dX4_canGrowBy_33 rfl (by decide) ?_
      exact q0 (fun h95 h96 => by have h97 := h2; rw [nI_ltI (by omega) (by omega)] at h97; omega)
    · skip
      refine pw_iconst (v := nI 1) dX4_canGrowBy_28 (by decide) ?_
      refine pw_goto 33 dX4_canGrowBy_29 (by decide) ?_
      refine pw_zreturn dX4_canGrowBy_33 rfl (by decide) ?_
      exact q1 (Nat.pos_of_ne_zero (fun e => h1 (by rw [e]; rfl))) (by have h95 := Int32.not_lt.mp h2; rw [nI_leI (by omega) (by omega)] at h95; omega)
set_option maxRecDepth 100000 in
set_option maxHeartbeats 4000000 in
theorem k_canGrowN {X : Cx} {σ : Sp} {μ : Mm} {Q : Int32 → Sp → Mm → Prop} {p v : Nat} (hr : ShRd σ (p + 2) p) (hw : μ (p + 2) 6 = nI v) (hv : v ≤ 999) (q : Q (nI 0) σ μ) : CTi X mX4_canGrowBy [.ref (p + 2), .int ((-6))] σ μ Q := by
  refine CT.of (by decide +kernel) (Nat.le_of_ble_eq_true rfl) ?_
  show PW X mX4_canGrowBy 0 0 0 [some (.ref (p + 2)), some (.int ((-6)))] [] σ μ (LI Q)
  refine pw_iload_1 dX4_canGrowBy_0 ?_
  refine pw_bipush (v := -6) dX4_canGrowBy_1 (by decide) ?_
  refine pw_icmp_eq 32 dX4_canGrowBy_3 (by decide) (fun _ => ?_) (fun hh => absurd rfl hh)
  refine pw_iconst (v := nI 0) dX4_canGrowBy_32 (by decide) ?_
  refine pw_zreturn dX4_canGrowBy_33 rfl (by decide) ?_
  exact q
set_option maxRecDepth 100000 in
set_option maxHeartbeats 4000000 in
theorem k_readSign {X : Cx} {σ : Sp} {μ : Mm} {Q : Int32 → Sp → Mm → Prop} {μ0 : Mm} {p i : Nat} {P : Pd} (hr : ShRd σ (p + 2) p) (hd : PD μ0 p P) (rx : RX p μ0 μ) (ha : μ (p + 2) 1 = nI i) (hi : i ≤ 80) {c : Nat} (hc : 0 < c) (hc2 : c < 2 ^ 31) (q1 : chT P i c → ∀ ν, RX p μ0 ν → KP p [1] μ ν → ν (p + 2) 1 = nI (i + 1) → Q (nI 1) σ ν) (q0 : ¬ chT P i c → Q (nI 0) σ μ) : CTi X mX4_readSign [.ref (p + 2), .int (nI c)] σ μ Q := by
  refine CT.of (by decide +kernel) (Nat.le_of_ble_eq_true rfl) ?_
  show PW X mX4_readSign 0 0 0 [some (.ref (p + 2)), some (.int (nI c))] [] σ μ (LI Q)
  have h80 := hd.2.1
  have kp0 : KP p [1] μ μ := KP.rf
  refine pw_aload_0 dX4_readSign_0 ?_
  refine pw_getr 4 0 dX4_readSign_1 fX4_9 rfl (by decide) rfl hr.t hr.r0 ?_
  refine pw_aload_0 dX4_readSign_4 ?_
  refine pw_getI 4 1 dX4_readSign_5 fX4_15 rfl (by decide) rfl hr.t ?_
  refine pw_top ha ?_
  refine pw_cV1i 3 dX4_readSign_8 kX4_28 vX3_codeAt iX3_codeAt ⟨by decide, by decide⟩ ⟨rfl, rfl⟩ (by decide) rfl (Nat.le_of_ble_eq_true rfl) hr.p.t (k_codeAt hr.p hd rx (by omega) ?_)
  refine pw_iload_1 dX4_readSign_11 ?_
  refine pw_icmp_eq 17 dX4_readSign_12 (by decide) (fun h1 => ?_) (fun h1 => ?_)
  · skip
    refine pw_aload_0 dX4_readSign_17 ?_
    refine pw_dup dX4_readSign_18 ?_
    refine pw_getI 4 1 dX4_readSign_19 fX4_15 rfl (by decide) rfl hr.t ?_
    refine pw_top ha ?_
    refine pw_iconst (v := nI 1) dX4_readSign_22 (by decide) ?_
    refine pw_iaddN dX4_readSign_23 ?_
    refine pw_putI 4 1 dX4_readSign_24 fX4_15 rfl (by decide) rfl (Or.inl rfl) rfl (by decide) hr.t ?_
    refine pw_gen (P := fun ν => RX p μ0 ν ∧ KP p [1] μ ν ∧ ν (p + 2) 1 = (nI (i + 1))) ⟨rx.w, kp0.w (by decide), rdS⟩ (fun μ1 ⟨rx1, kp1, rh1c1⟩ => ?_)
    refine pw_iconst (v := nI 1) dX4_readSign_27 (by decide) ?_
    refine pw_zreturn dX4_readSign_28 rfl (by decide) ?_
    exact q1 (cd_y hc hc2 h1) _ rx1 kp1 rh1c1
  · skip
    refine pw_iconst (v := nI 0) dX4_readSign_15 (by decide) ?_
    refine pw_zreturn dX4_readSign_16 rfl (by decide) ?_
    exact q0 (fun h95 => h1 (cd_i h95))
set_option maxRecDepth 100000 in
set_option maxHeartbeats 4000000 in
theorem k_readStation {X : Cx} {σ : Sp} {μ : Mm} {Q : Int32 → Sp → Mm → Prop} {μ0 : Mm} {p i : Nat} {P : Pd} (hr : ShRd σ (p + 2) p) (hd : PD μ0 p P) (rx : RX p μ0 μ) (ha : μ (p + 2) 1 = nI i) (hi : i ≤ 80) (q1 : ∀ d, d < 10 → chT P i (48 + d) → ∀ ν, RX p μ0 ν → KP p [1, 3] μ ν → ν (p + 2) 1 = nI (i + 1) → ν (p + 2) 3 = nI d → Q (nI 1) σ ν) (q0 : ¬ dgT P i → ∀ ν, RX p μ0 ν → KP p [1, 3] μ ν → ν (p + 2) 1 = nI i → Q (nI 0) σ ν)  : CTi X mX4_readStation [.ref (p + 2)] σ μ Q := by
  refine CT.of (by decide +kernel) (Nat.le_of_ble_eq_true rfl) ?_
  show PW X mX4_readStation 0 0 0 [some (.ref (p + 2))] [] σ μ (LI Q)
  have h80 := hd.2.1
  have kp0 : KP p [1, 3] μ μ := KP.rf
  refine pw_aload_0 dX4_readStation_0 ?_
  refine pw_aload_0 dX4_readStation_1 ?_
  refine pw_cV0i 4 dX4_readStation_2 kX4_64 vX4_digitAt iX4_digitAt ⟨by decide, by decide⟩ ⟨rfl, rfl⟩ (by decide) rfl (Nat.le_of_ble_eq_true rfl) hr.t (k_digitAt hr hd rx ha (by omega) (fun d1 hd1 d1c => ?_) (fun hd1 => ?_))
  · skip
    refine pw_putI 4 3 dX4_readStation_5 fX4_68 rfl (by decide) rfl (Or.inl rfl) rfl (by decide) hr.t ?_
    refine pw_gen (P := fun ν => RX p μ0 ν ∧ KP p [1, 3] μ ν ∧ ν (p + 2) 1 = (nI i) ∧ ν (p + 2) 3 = (nI d1)) ⟨rx.w, kp0.w (by decide), rdN ha (by decide), rdS⟩ (fun μ1 ⟨rx1, kp1, rh1c1, rh1c3⟩ => ?_)
    refine pw_aload_0 dX4_readStation_8 ?_
    refine pw_getI 4 3 dX4_readStation_9 fX4_68 rfl (by decide) rfl hr.t ?_
    refine pw_top rh1c3 ?_
    refine pw_bipush (v := -6) dX4_readStation_12 (by decide) ?_
    refine pw_icmp_ne 19 dX4_readStation_14 (by decide) (fun _ => ?_) (fun hh => absurd hh (m6_ne (by omega)))
    refine pw_aload_0 dX4_readStation_19 ?_
    refine pw_dup dX4_readStation_20 ?_
    refine pw_getI 4 1 dX4_readStation_21 fX4_15 rfl (by decide) rfl hr.t ?_
    refine pw_top rh1c1 ?_
    refine pw_iconst (v := nI 1) dX4_readStation_24 (by decide) ?_
    refine pw_iaddN dX4_readStation_25 ?_
    refine pw_putI 4 1 dX4_readStation_26 fX4_15 rfl (by decide) rfl (Or.inl rfl) rfl (by decide) hr.t ?_
    refine pw_gen (P := fun ν => RX p μ0 ν ∧ KP p [1, 3] μ ν ∧ ν (p + 2) 1 = (nI (i + 1)) ∧ ν (p + 2) 3 = (nI d1)) ⟨rx1.w, kp1.w (by decide), rdS, rdN rh1c3 (by decide)⟩ (fun μ2 ⟨rx2, kp2, rh2c1, rh2c3⟩ => ?_)
    refine pw_iconst (v := nI 1) dX4_readStation_29 (by decide) ?_
    refine pw_zreturn dX4_readStation_30 rfl (by decide) ?_
    exact q1 d1 hd1 d1c _ rx2 kp2 rh2c1 rh2c3
  · skip
    refine pw_putI 4 3 dX4_readStation_5 fX4_68 rfl (by decide) rfl (Or.inl rfl) rfl (by decide) hr.t ?_
    refine pw_gen (P := fun ν => RX p μ0 ν ∧ KP p [1, 3] μ ν ∧ ν (p + 2) 1 = (nI i) ∧ ν (p + 2) 3 = ((-6))) ⟨rx.w, kp0.w (by decide), rdN ha (by decide), rdS⟩ (fun μ3 ⟨rx3, kp3, rh3c1, rh3c3⟩ => ?_)
    refine pw_aload_0 dX4_readStation_8 ?_
    refine pw_getI 4 3 dX4_readStation_9 fX4_68 rfl (by decide) rfl hr.t ?_
    refine pw_top rh3c3 ?_
    refine pw_bipush (v := -6) dX4_readStation_12 (by decide) ?_
    refine pw_icmp_ne 19 dX4_readStation_14 (by decide) (fun hh => absurd rfl hh) (fun _ => ?_)
    refine pw_iconst (v := nI 0) dX4_readStation_17 (by decide) ?_
    refine pw_zreturn dX4_readStation_18 rfl (by decide) ?_
    exact q0 hd1 _ rx3 kp3 rh3c1
set_option maxRecDepth 100000 in
set_option maxHeartbeats 4000000 in
theorem k_readWire {X : Cx} {σ : Sp} {μ : Mm} {Q : Int32 → Sp → Mm → Prop} {μ0 : Mm} {p i : Nat} {P : Pd} (hr : ShRd σ (p + 2) p) (hd : PD μ0 p P) (rx : RX p μ0 μ) (ha : μ (p + 2) 1 = nI i) (hi : i ≤ 80) (q1 : ∀ d, d < 6 → chT P i (97 + d) → ∀ ν, RX p μ0 ν → KP p [1, 4] μ ν → ν (p + 2) 1 = nI (i + 1) → ν (p + 2) 4 = nI d → Q (nI 1) σ ν) (q0 : ¬ wrT P i → ∀ ν, RX p μ0 ν → KP p [1, 4] μ ν → ν (p + 2) 1 = nI i → Q (nI 0) σ ν)  : CTi X mX4_readWire [.ref (p + 2)] σ μ Q := by
  refine CT.of (by decide +kernel) (Nat.le_of_ble_eq_true rfl) ?_
  show PW X mX4_readWire 0 0 0 [some (.ref (p + 2))] [] σ μ (LI Q)
  have h80 := hd.2.1
  have kp0 : KP p [1, 4] μ μ := KP.rf
  refine pw_aload_0 dX4_readWire_0 ?_
  refine pw_aload_0 dX4_readWire_1 ?_
  refine pw_getr 4 0 dX4_readWire_2 fX4_9 rfl (by decide) rfl hr.t hr.r0 ?_
  refine pw_aload_0 dX4_readWire_5 ?_
  refine pw_getI 4 1 dX4_readWire_6 fX4_15 rfl (by decide) rfl hr.t ?_
  refine pw_top ha ?_
  refine pw_cV1i 3 dX4_readWire_9 kX4_28 vX3_codeAt iX3_codeAt ⟨by decide, by decide⟩ ⟨rfl, rfl⟩ (by decide) rfl (Nat.le_of_ble_eq_true rfl) hr.p.t (k_codeAt hr.p hd rx (by omega) ?_)
  refine pw_bipush (v := nI 97) dX4_readWire_12 (by decide) ?_
  refine pw_isub dX4_readWire_14 ?_
  refine pw_putI 4 4 dX4_readWire_15 fX4_51 rfl (by decide) rfl (Or.inl rfl) rfl (by decide) hr.t ?_
  refine pw_gen (P := fun ν => RX p μ0 ν ∧ KP p [1, 4] μ ν ∧ ν (p + 2) 1 = (nI i) ∧ ν (p + 2) 4 = ((cdG P i) - (nI 97))) ⟨rx.w, kp0.w (by decide), rdN ha (by decide), rdS⟩ (fun μ1 ⟨rx1, kp1, rh1c1, rh1c4⟩ => ?_)
  refine pw_aload_0 dX4_readWire_18 ?_
  refine pw_getI 4 4 dX4_readWire_19 fX4_51 rfl (by decide) rfl hr.t ?_
  refine pw_top rh1c4 ?_
  refine pw_cSN1i dX4_readWire_22 kX4_54 vX7_isWire sX7_isWire ⟨by decide, by decide⟩ ⟨rfl, rfl⟩ (Nat.le_of_ble_eq_true rfl) (c_X7_isWire (fun j ej hj => ?_) (fun hno => ?_))
  · skip
    refine pw_if_ne 30 dX4_readWire_25 (by decide) (fun _ => ?_) (fun hh => absurd hh (by decide))
    refine pw_aload_0 dX4_readWire_30 ?_
    refine pw_dup dX4_readWire_31 ?_
    refine pw_getI 4 1 dX4_readWire_32 fX4_15 rfl (by decide) rfl hr.t ?_
    refine pw_top rh1c1 ?_
    refine pw_iconst (v := nI 1) dX4_readWire_35 (by decide) ?_
    refine pw_iaddN dX4_readWire_36 ?_
    refine pw_putI 4 1 dX4_readWire_37 fX4_15 rfl (by decide) rfl (Or.inl rfl) rfl (by decide) hr.t ?_
    refine pw_gen (P := fun ν => RX p μ0 ν ∧ KP p [1, 4] μ ν ∧ ν (p + 2) 1 = (nI (i + 1)) ∧ ν (p + 2) 4 = ((cdG P i) - (nI 97))) ⟨rx1.w, kp1.w (by decide), rdS, rdN rh1c4 (by decide)⟩ (fun μ2 ⟨rx2, kp2, rh2c1, rh2c4⟩ => ?_)
    refine pw_iconst (v := nI 1) dX4_readWire_40 (by decide) ?_
    refine pw_zreturn dX4_readWire_41 rfl (by decide) ?_
    rw [ej] at rh2c4
    exact q1 j hj (cd_y (by omega) (by omega) (i32_sub ej)) _ rx2 kp2 rh2c1 rh2c4
  · skip
    refine pw_if_ne 30 dX4_readWire_25 (by decide) (fun hh => absurd hh (by decide)) (fun _ => ?_)
    refine pw_iconst (v := nI 0) dX4_readWire_28 (by decide) ?_
    refine pw_zreturn dX4_readWire_29 rfl (by decide) ?_
    exact q0 (fun ht => hno _ (wr_i ht).1 (by rw [cd_i (wr_i ht).2]; exact i32_cs)) _ rx1 kp1 rh1c1
set_option maxRecDepth 100000 in
set_option maxHeartbeats 4000000 in
theorem k_readNumber {X : Cx} {σ : Sp} {μ : Mm} {Q : Int32 → Sp → Mm → Prop} {μ0 : Mm} {p i : Nat} {P : Pd} (hr : ShRd σ (p + 2) p) (hd : PD μ0 p P) (rx : RX p μ0 μ) (ha : μ (p + 2) 1 = nI i) (hi : i ≤ 80) (q1 : ∀ d, d < 10 → chT P i (48 + d) → ∀ ν, RX p μ0 ν → KP p [1, 6] μ ν → ν (p + 2) 1 = nI (nmG P 3 d (i + 1)).2 → ν (p + 2) 6 = nI (nmG P 3 d (i + 1)).1 → Q (nI 1) σ ν) (q0 : ¬ dgT P i → ∀ ν, RX p μ0 ν → KP p [1, 6] μ ν → ν (p + 2) 1 = nI i → Q (nI 0) σ ν)  : CTi X mX4_readNumber [.ref (p + 2)] σ μ Q := by
  refine CT.of (by decide +kernel) (Nat.le_of_ble_eq_true rfl) ?_
  show PW X mX4_readNumber 0 0 0 [some (.ref (p + 2)), none] [] σ μ (LI Q)
  have h80 := hd.2.1
  have kp0 : KP p [1, 6] μ μ := KP.rf
  refine pw_aload_0 dX4_readNumber_0 ?_
  refine pw_aload_0 dX4_readNumber_1 ?_
  refine pw_cV0i 4 dX4_readNumber_2 kX4_64 vX4_digitAt iX4_digitAt ⟨by decide, by decide⟩ ⟨rfl, rfl⟩ (by decide) rfl (Nat.le_of_ble_eq_true rfl) hr.t (k_digitAt hr hd rx ha (by omega) (fun d1 hd1 d1c => ?_) (fun hd1 => ?_))
  · skip
    refine pw_putI 4 6 dX4_readNumber_5 fX4_71 rfl (by decide) rfl (Or.inl rfl) rfl (by decide) hr.t ?_
    refine pw_gen (P := fun ν => RX p μ0 ν ∧ KP p [1, 6] μ ν ∧ ν (p + 2) 1 = (nI i) ∧ ν (p + 2) 6 = (nI d1)) ⟨rx.w, kp0.w (by decide), rdN ha (by decide), rdS⟩ (fun μ1 ⟨rx1, kp1, rh1c1, rh1c6⟩ => ?_)
    refine pw_aload_0 dX4_readNumber_8 ?_
    refine pw_getI 4 6 dX4_readNumber_9 fX4_71 rfl (by decide) rfl hr.t ?_
    refine pw_top rh1c6 ?_
    refine pw_bipush (v := -6) dX4_readNumber_12 (by decide) ?_
    refine pw_icmp_ne 19 dX4_readNumber_14 (by decide) (fun _ => ?_) (fun hh => absurd hh (m6_ne (by omega)))
    refine pw_aload_0 dX4_readNumber_19 ?_
    refine pw_dup dX4_readNumber_20 ?_
    refine pw_getI 4 1 dX4_readNumber_21 fX4_15 rfl (by decide) rfl hr.t ?_
    refine pw_top rh1c1 ?_
    refine pw_iconst (v := nI 1) dX4_readNumber_24 (by decide) ?_
    refine pw_iaddN dX4_readNumber_25 ?_
    refine pw_putI 4 1 dX4_readNumber_26 fX4_15 rfl (by decide) rfl (Or.inl rfl) rfl (by decide) hr.t ?_
    refine pw_gen (P := fun ν => RX p μ0 ν ∧ KP p [1, 6] μ ν ∧ ν (p + 2) 1 = (nI (i + 1)) ∧ ν (p + 2) 6 = (nI d1)) ⟨rx1.w, kp1.w (by decide), rdS, rdN rh1c6 (by decide)⟩ (fun μ2 ⟨rx2, kp2, rh2c1, rh2c6⟩ => ?_)
    refine pw_iconst (v := nI 1) dX4_readNumber_29 (by decide) ?_
    refine pw_istore_1 dX4_readNumber_30 (by decide) ?_
    have loop : ∀ f j9 v i9 ν, j9 + f = 4 → (v = 0 ∨ 1000 ≤ v * 10 ^ f) → v ≤ 999 → i9 ≤ 80 → RX p μ0 ν → KP p [1, 6] μ ν → ν (p + 2) 1 = nI i9 → ν (p + 2) 6 = nI v → (∀ ν', RX p μ0 ν' → KP p [1, 6] μ ν' → ν' (p + 2) 1 = nI (nmG P f v i9).2 → ν' (p + 2) 6 = nI (nmG P f v i9).1 → Q (nI 1) σ ν') → PW X mX4_readNumber 0 0 31 [some (.ref (p + 2)), some (.int (nI j9))] [] σ ν (LI Q) := by
      intro f
      induction f with
      | zero =>
        intro j9 v i9 ν hjf hv0 hv hi9 rx9 kp9 ha9 hn9 q9
        refine pw_iload_1 dX4_readNumber_31 ?_
        refine pw_bipush (v := nI 80) dX4_readNumber_32 (by decide) ?_
        refine pw_icmp_ge 80 dX4_readNumber_34 (by decide) (fun hh => absurd hh (by rw [nI_leI (by omega) (by omega)]; omega)) (fun _ => ?_)
        refine pw_aload_0 dX4_readNumber_37 ?_
        refine pw_aload_0 dX4_readNumber_38 ?_
        refine pw_cV0i 4 dX4_readNumber_39 kX4_64 vX4_digitAt iX4_digitAt ⟨by decide, by decide⟩ ⟨rfl, rfl⟩ (by decide) rfl (Nat.le_of_ble_eq_true rfl) hr.t (k_digitAt hr hd rx9 ha9 (by omega) (fun d2 hd2 d2c => ?_) (fun hd2 => ?_))
        · skip
          refine pw_cV1i 4 dX4_readNumber_42 kX4_74 vX4_canGrowBy iX4_canGrowBy ⟨by decide, by decide⟩ ⟨rfl, rfl⟩ (by decide) rfl (Nat.le_of_ble_eq_true rfl) hr.t (k_canGrow hr hn9 hv (by omega) (fun g1 g2 => ?_) (fun g0 => ?_))
          · skip
            refine pw_if_eq 80 dX4_readNumber_45 (by decide) (fun hh => absurd hh (by decide)) (fun _ => ?_)
            rcases hv0 with h95 | h95 <;> omega
          · skip
            refine pw_if_eq 80 dX4_readNumber_45 (by decide) (fun _ => ?_) (fun hh => absurd (by decide) hh)
            refine pw_iconst (v := nI 1) dX4_readNumber_80 (by decide) ?_
            refine pw_zreturn dX4_readNumber_81 rfl (by decide) ?_
            have e9 : nmG P 0 v i9 = (v, i9) := rfl
            rw [e9] at q9
            exact q9 _ rx9 kp9 ha9 hn9
        · skip
          refine pw_cV1i 4 dX4_readNumber_42 kX4_74 vX4_canGrowBy iX4_canGrowBy ⟨by decide, by decide⟩ ⟨rfl, rfl⟩ (by decide) rfl (Nat.le_of_ble_eq_true rfl) hr.t (k_canGrowN hr hn9 hv ?_)
          refine pw_if_eq 80 dX4_readNumber_45 (by decide) (fun _ => ?_) (fun hh => absurd (by decide) hh)
          refine pw_iconst (v := nI 1) dX4_readNumber_80 (by decide) ?_
          refine pw_zreturn dX4_readNumber_81 rfl (by decide) ?_
          have e9 : nmG P 0 v i9 = (v, i9) := rfl
          rw [e9] at q9
          exact q9 _ rx9 kp9 ha9 hn9
      | succ f ih =>
        intro j9 v i9 ν hjf hv0 hv hi9 rx9 kp9 ha9 hn9 q9
        refine pw_iload_1 dX4_readNumber_31 ?_
        refine pw_bipush (v := nI 80) dX4_readNumber_32 (by decide) ?_
        refine pw_icmp_ge 80 dX4_readNumber_34 (by decide) (fun hh => absurd hh (by rw [nI_leI (by omega) (by omega)]; omega)) (fun _ => ?_)
        refine pw_aload_0 dX4_readNumber_37 ?_
        refine pw_aload_0 dX4_readNumber_38 ?_
        refine pw_cV0i 4 dX4_readNumber_39 kX4_64 vX4_digitAt iX4_digitAt ⟨by decide, by decide⟩ ⟨rfl, rfl⟩ (by decide) rfl (Nat.le_of_ble_eq_true rfl) hr.t (k_digitAt hr hd rx9 ha9 (by omega) (fun d3 hd3 d3c => ?_) (fun hd3 => ?_))
        · skip
          refine pw_cV1i 4 dX4_readNumber_42 kX4_74 vX4_canGrowBy iX4_canGrowBy ⟨by decide, by decide⟩ ⟨rfl, rfl⟩ (by decide) rfl (Nat.le_of_ble_eq_true rfl) hr.t (k_canGrow hr hn9 hv (by omega) (fun g1 g2 => ?_) (fun g0 => ?_))
          · skip
            refine pw_if_eq 80 dX4_readNumber_45 (by decide) (fun hh => absurd hh (by decide)) (fun _ => ?_)
            refine pw_aload_0 dX4_readNumber_48 ?_
            refine pw_aload_0 dX4_readNumber_49 ?_
            refine pw_getI 4 6 dX4_readNumber_50 fX4_71 rfl (by decide) rfl hr.t ?_
            refine pw_top hn9 ?_
            refine pw_bipush (v := nI 10) dX4_readNumber_53 (by decide) ?_
            refine pw_imulN dX4_readNumber_55 ?_
            refine pw_aload_0 dX4_readNumber_56 ?_
            refine pw_cV0i 4 dX4_readNumber_57 kX4_64 vX4_digitAt iX4_digitAt ⟨by decide, by decide⟩ ⟨rfl, rfl⟩ (by decide) rfl (Nat.le_of_ble_eq_true rfl) hr.t (k_digitAt hr hd rx9 ha9 (by omega) (fun d4 hd4 d4c => ?_) (fun hd4 => ?_))
            · skip
              refine pw_iaddN dX4_readNumber_60 ?_
              refine pw_putI 4 6 dX4_readNumber_61 fX4_71 rfl (by decide) rfl (Or.inl rfl) rfl (by decide) hr.t ?_
              refine pw_gen (P := fun ν => RX p μ0 ν ∧ KP p [1, 6] μ ν ∧ ν (p + 2) 1 = (nI i9) ∧ ν (p + 2) 6 = (nI ((v * 10) + d4))) ⟨rx9.w, kp9.w (by decide), rdN ha9 (by decide), rdS⟩ (fun μ3 ⟨rx3, kp3, rh3c1, rh3c6⟩ => ?_)
              refine pw_aload_0 dX4_readNumber_64 ?_
              refine pw_dup dX4_readNumber_65 ?_
              refine pw_getI 4 1 dX4_readNumber_66 fX4_15 rfl (by decide) rfl hr.t ?_
              refine pw_top rh3c1 ?_
              refine pw_iconst (v := nI 1) dX4_readNumber_69 (by decide) ?_
              refine pw_iaddN dX4_readNumber_70 ?_
              refine pw_putI 4 1 dX4_readNumber_71 fX4_15 rfl (by decide) rfl (Or.inl rfl) rfl (by decide) hr.t ?_
              refine pw_gen (P := fun ν => RX p μ0 ν ∧ KP p [1, 6] μ ν ∧ ν (p + 2) 1 = (nI (i9 + 1)) ∧ ν (p + 2) 6 = (nI ((v * 10) + d4))) ⟨rx3.w, kp3.w (by decide), rdS, rdN rh3c6 (by decide)⟩ (fun μ4 ⟨rx4, kp4, rh4c1, rh4c6⟩ => ?_)
              refine pw_iincN_1 dX4_readNumber_74 (by decide) ?_
              refine pw_goto 31 dX4_readNumber_77 (by decide) ?_
              have hk : d3 = d4 := (dg_y hd3 d3c).2.symm.trans (dg_y hd4 d4c).2
              subst hk
              have e9 : nmG P (f + 1) v i9 = nmG P f (v * 10 + d3) (i9 + 1) := by
                have k1 := dg_y hd3 d3c
                have k2 : nmG P (f + 1) v i9 = nmG P f (10 * v + dgV P i9) (i9 + 1) := cif_y ⟨g1, k1.1, by rw [k1.2]; omega⟩
                rw [k2, k1.2, Nat.mul_comm 10 v]
              rw [e9] at q9
              exact ih (j9 + 1) (v * 10 + d3) (i9 + 1) _ (by omega) (Or.inr (by have h95 := hv0.resolve_left (by omega); rw [Nat.pow_succ] at h95; exact nm_big h95)) (by omega) (by have h95 := d3c.1; omega) rx4 kp4 rh4c1 rh4c6 q9
            · skip
              refine pw_iadd dX4_readNumber_60 ?_
              refine pw_putI 4 6 dX4_readNumber_61 fX4_71 rfl (by decide) rfl (Or.inl rfl) rfl (by decide) hr.t ?_
              refine pw_gen (P := fun ν => RX p μ0 ν ∧ KP p [1, 6] μ ν ∧ ν (p + 2) 1 = (nI i9) ∧ ν (p + 2) 6 = ((nI (v * 10)) + ((-6)))) ⟨rx9.w, kp9.w (by decide), rdN ha9 (by decide), rdS⟩ (fun μ5 ⟨rx5, kp5, rh5c1, rh5c6⟩ => ?_)
              refine pw_aload_0 dX4_readNumber_64 ?_
              refine pw_dup dX4_readNumber_65 ?_
              refine pw_getI 4 1 dX4_readNumber_66 fX4_15 rfl (by decide) rfl hr.t ?_
              refine pw_top rh5c1 ?_
              refine pw_iconst (v := nI 1) dX4_readNumber_69 (by decide) ?_
              refine pw_iaddN dX4_readNumber_70 ?_
              refine pw_putI 4 1 dX4_readNumber_71 fX4_15 rfl (by decide) rfl (Or.inl rfl) rfl (by decide) hr.t ?_
              refine pw_gen (P := fun ν => RX p μ0 ν ∧ KP p [1, 6] μ ν ∧ ν (p + 2) 1 = (nI (i9 + 1)) ∧ ν (p + 2) 6 = ((nI (v * 10)) + ((-6)))) ⟨rx5.w, kp5.w (by decide), rdS, rdN rh5c6 (by decide)⟩ (fun μ6 ⟨rx6, kp6, rh6c1, rh6c6⟩ => ?_)
              refine pw_iincN_1 dX4_readNumber_74 (by decide) ?_
              refine pw_goto 31 dX4_readNumber_77 (by decide) ?_
              exact absurd (dg_y hd3 d3c).1 hd4
          · skip
            refine pw_if_eq 80 dX4_readNumber_45 (by decide) (fun _ => ?_) (fun hh => absurd (by decide) hh)
            refine pw_iconst (v := nI 1) dX4_readNumber_80 (by decide) ?_
            refine pw_zreturn dX4_readNumber_81 rfl (by decide) ?_
            have e9 : nmG P (f + 1) v i9 = (v, i9) := cif_n (fun hh => by have h95 := (dg_y hd3 d3c).2; have h96 := hh.2.2; rw [h95] at h96; have h97 := g0 hh.1; omega)
            rw [e9] at q9
            exact q9 _ rx9 kp9 ha9 hn9
        · skip
          refine pw_cV1i 4 dX4_readNumber_42 kX4_74 vX4_canGrowBy iX4_canGrowBy ⟨by decide, by decide⟩ ⟨rfl, rfl⟩ (by decide) rfl (Nat.le_of_ble_eq_true rfl) hr.t (k_canGrowN hr hn9 hv ?_)
          refine pw_if_eq 80 dX4_readNumber_45 (by decide) (fun _ => ?_) (fun hh => absurd (by decide) hh)
          refine pw_iconst (v := nI 1) dX4_readNumber_80 (by decide) ?_
          refine pw_zreturn dX4_readNumber_81 rfl (by decide) ?_
          have e9 : nmG P (f + 1) v i9 = (v, i9) := cif_n (fun hh => hd3 hh.2.1)
          rw [e9] at q9
          exact q9 _ rx9 kp9 ha9 hn9
    have hc9 := d1c.1
    exact loop 3 1 d1 (i + 1) _ (by omega) (by omega) (by omega) (by omega) rx2 kp2 rh2c1 rh2c6 (q1 d1 hd1 d1c)
  · skip
    refine pw_putI 4 6 dX4_readNumber_5 fX4_71 rfl (by decide) rfl (Or.inl rfl) rfl (by decide) hr.t ?_
    refine pw_gen (P := fun ν => RX p μ0 ν ∧ KP p [1, 6] μ ν ∧ ν (p + 2) 1 = (nI i) ∧ ν (p + 2) 6 = ((-6))) ⟨rx.w, kp0.w (by decide), rdN ha (by decide), rdS⟩ (fun μ7 ⟨rx7, kp7, rh7c1, rh7c6⟩ => ?_)
    refine pw_aload_0 dX4_readNumber_8 ?_
    refine pw_getI 4 6 dX4_readNumber_9 fX4_71 rfl (by decide) rfl hr.t ?_
    refine pw_top rh7c6 ?_
    refine pw_bipush (v := -6) dX4_readNumber_12 (by decide) ?_
    refine pw_icmp_ne 19 dX4_readNumber_14 (by decide) (fun hh => absurd rfl hh) (fun _ => ?_)
    refine pw_iconst (v := nI 0) dX4_readNumber_17 (by decide) ?_
    refine pw_zreturn dX4_readNumber_18 rfl (by decide) ?_
    exact q0 hd1 _ rx7 kp7 rh7c1
set_option maxRecDepth 100000 in
set_option maxHeartbeats 4000000 in
theorem k_isNewWire {X : Cx} {σ : Sp} {μ : Mm} {Q : Int32 → Sp → Mm → Prop} {p : Nat} (hr : ShRd σ (p + 2) p) {s9 : Nat → Prop} (hw : μ (p + 2) 5 = msk s9 6) {x : Int32} (q1 : ∀ w, w < 6 → x = nI w → ¬ s9 w → Q (nI 1) σ μ) (q0 : (∀ w, w < 6 → x = nI w → s9 w) → Q (nI 0) σ μ) : CTi X mX4_isNewWire [.ref (p + 2), .int x] σ μ Q := by
  refine CT.of (by decide +kernel) (Nat.le_of_ble_eq_true rfl) ?_
  show PW X mX4_isNewWire 0 0 0 [some (.ref (p + 2)), some (.int x)] [] σ μ (LI Q)
  refine pw_iload_1 dX4_isNewWire_0 ?_
  refine pw_cSN1i dX4_isNewWire_1 kX4_54 vX7_isWire sX7_isWire ⟨by decide, by decide⟩ ⟨rfl, rfl⟩ (Nat.le_of_ble_eq_true rfl) (c_X7_isWire (fun j ej hj => ?_) (fun hno => ?_))
  · skip
    subst ej
    refine pw_if_eq 22 dX4_isNewWire_4 (by decide) (fun hh => absurd hh (by decide)) (fun _ => ?_)
    refine pw_aload_0 dX4_isNewWire_7 ?_
    refine pw_getI 4 5 dX4_isNewWire_8 fX4_58 rfl (by decide) rfl hr.t ?_
    refine pw_top hw ?_
    refine pw_iload_1 dX4_isNewWire_11 ?_
    refine pw_ishr dX4_isNewWire_12 ?_
    refine pw_iconst (v := nI 1) dX4_isNewWire_13 (by decide) ?_
    refine pw_iand dX4_isNewWire_14 ?_
    refine pw_if_ne 22 dX4_isNewWire_15 (by decide) (fun h1 => ?_) (fun h1 => ?_)
    · skip
      refine pw_iconst (v := nI 0) dX4_isNewWire_22 (by decide) ?_
      refine pw_zreturn dX4_isNewWire_23 rfl (by decide) ?_
      exact q0 (fun w9 hw9 e9 => by rw [← (nI_eq (by omega) (by omega)).mp e9]; exact (msk_bi (by decide) hj).mp (bi_n0 h1))
    · skip
      refine pw_iconst (v := nI 1) dX4_isNewWire_18 (by decide) ?_
      refine pw_goto 23 dX4_isNewWire_19 (by decide) ?_
      refine pw_zreturn dX4_isNewWire_23 rfl (by decide) ?_
      exact q1 j hj rfl (fun h95 => bi_10 ((msk_bi (by decide) hj).mpr h95) h1)
  · skip
    refine pw_if_eq 22 dX4_isNewWire_4 (by decide) (fun _ => ?_) (fun hh => absurd (by decide) hh)
    refine pw_iconst (v := nI 0) dX4_isNewWire_22 (by decide) ?_
    refine pw_zreturn dX4_isNewWire_23 rfl (by decide) ?_
    exact q0 (fun w9 hw9 e9 => absurd e9 (hno w9 hw9))
set_option maxRecDepth 100000 in
set_option maxHeartbeats 4000000 in
theorem k_readWires {X : Cx} {σ : Sp} {μ : Mm} {Q : Int32 → Sp → Mm → Prop} {μ0 : Mm} {p i : Nat} {P : Pd} (hr : ShRd σ (p + 2) p) (hd : PD μ0 p P) (rx : RX p μ0 μ) (ha : μ (p + 2) 1 = nI i) (hi : i ≤ 80) (q1 : (∃ w, w < 6 ∧ (wsG P 6 (fun _ => False) i).1 w) → ∀ ν, RX p μ0 ν → KP p [1, 4, 5] μ ν → ν (p + 2) 1 = nI (wsG P 6 (fun _ => False) i).2 → ν (p + 2) 5 = msk (wsG P 6 (fun _ => False) i).1 6 → Q (nI 1) σ ν) (q0 : (¬ ∃ w, w < 6 ∧ (wsG P 6 (fun _ => False) i).1 w) → ∀ ν, RX p μ0 ν → KP p [1, 4, 5] μ ν → ν (p + 2) 1 = nI (wsG P 6 (fun _ => False) i).2 → Q (nI 0) σ ν) : CTi X mX4_readWires [.ref (p + 2)] σ μ Q := by
  refine CT.of (by decide +kernel) (Nat.le_of_ble_eq_true rfl) ?_
  show PW X mX4_readWires 0 0 0 [some (.ref (p + 2)), none] [] σ μ (LI Q)
  have h80 := hd.2.1
  have kp0 : KP p [1, 4, 5] μ μ := KP.rf
  refine pw_aload_0 dX4_readWires_0 ?_
  refine pw_iconst (v := nI 0) dX4_readWires_1 (by decide) ?_
  refine pw_putI 4 5 dX4_readWires_2 fX4_58 rfl (by decide) rfl (Or.inl rfl) rfl (by decide) hr.t ?_
  refine pw_gen (P := fun ν => RX p μ0 ν ∧ KP p [1, 4, 5] μ ν ∧ ν (p + 2) 1 = (nI i) ∧ ν (p + 2) 5 = (nI 0)) ⟨rx.w, kp0.w (by decide), rdN ha (by decide), rdS⟩ (fun μ1 ⟨rx1, kp1, rh1c1, rh1c5⟩ => ?_)
  refine pw_iconst (v := nI 0) dX4_readWires_5 (by decide) ?_
  refine pw_istore_1 dX4_readWires_6 (by decide) ?_
  have ex : ∀ ν' j', RX p μ0 ν' → KP p [1, 4, 5] μ ν' → ν' (p + 2) 1 = nI (wsG P 6 (fun _ => False) i).2 → ν' (p + 2) 5 = msk (wsG P 6 (fun _ => False) i).1 6 → PW X mX4_readWires 0 0 60 [some (.ref (p + 2)), some (.int (nI j'))] [] σ ν' (LI Q) := by
    intro ν' j' rx9 kp9 ha9 hw9
    refine pw_aload_0 dX4_readWires_60 ?_
    refine pw_getI 4 5 dX4_readWires_61 fX4_58 rfl (by decide) rfl hr.t ?_
    refine pw_top hw9 ?_
    refine pw_if_eq 71 dX4_readWires_64 (by decide) (fun h1 => ?_) (fun h1 => ?_)
    · skip
      refine pw_iconst (v := nI 0) dX4_readWires_71 (by decide) ?_
      refine pw_zreturn dX4_readWires_72 rfl (by decide) ?_
      exact q0 (fun ⟨w9, hw9, h96⟩ => msk_ne0 (by decide) hw9 h96 h1) _ rx9 kp9 ha9
    · skip
      refine pw_iconst (v := nI 1) dX4_readWires_67 (by decide) ?_
      refine pw_goto 72 dX4_readWires_68 (by decide) ?_
      refine pw_zreturn dX4_readWires_72 rfl (by decide) ?_
      exact q1 (Classical.not_not.mp (fun h95 => h1 (msk_0 (fun w9 hw9 h96 => h95 ⟨w9, hw9, h96⟩)))) _ rx9 kp9 ha9 hw9
  skip
  have loop : ∀ f j9 s9 i9 ν, j9 + f = 6 → i9 ≤ 80 → RX p μ0 ν → KP p [1, 4, 5] μ ν → ν (p + 2) 1 = nI i9 → ν (p + 2) 5 = msk s9 6 → (∀ ν' j', RX p μ0 ν' → KP p [1, 4, 5] μ ν' → ν' (p + 2) 1 = nI (wsG P f s9 i9).2 → ν' (p + 2) 5 = msk (wsG P f s9 i9).1 6 → PW X mX4_readWires 0 0 60 [some (.ref (p + 2)), some (.int (nI j'))] [] σ ν' (LI Q)) → PW X mX4_readWires 0 0 7 [some (.ref (p + 2)), some (.int (nI j9))] [] σ ν (LI Q) := by
    intro f
    induction f with
    | zero =>
      intro j9 s9 i9 ν hjf hi9 rx9 kp9 ha9 hw8 q9
      refine pw_iload_1 dX4_readWires_7 ?_
      refine pw_bipush (v := nI 6) dX4_readWires_8 (by decide) ?_
      refine pw_icmp_ge 60 dX4_readWires_10 (by decide) (fun _ => ?_) (fun hh => absurd (by rw [nI_leI (by omega) (by omega)]; omega) hh)
      exact q9 _ _ rx9 kp9 ha9 hw8
    | succ f ih =>
      intro j9 s9 i9 ν hjf hi9 rx9 kp9 ha9 hw8 q9
      refine pw_iload_1 dX4_readWires_7 ?_
      refine pw_bipush (v := nI 6) dX4_readWires_8 (by decide) ?_
      refine pw_icmp_ge 60 dX4_readWires_10 (by decide) (fun hh => absurd hh (by rw [nI_leI (by omega) (by omega)]; omega)) (fun _ => ?_)
      refine pw_aload_0 dX4_readWires_13 ?_
      refine pw_aload_0 dX4_readWires_14 ?_
      refine pw_getr 4 0 dX4_readWires_15 fX4_9 rfl (by decide) rfl hr.t hr.r0 ?_
      refine pw_aload_0 dX4_readWires_18 ?_
      refine pw_getI 4 1 dX4_readWires_19 fX4_15 rfl (by decide) rfl hr.t ?_
      refine pw_top ha9 ?_
      refine pw_cV1i 3 dX4_readWires_22 kX4_28 vX3_codeAt iX3_codeAt ⟨by decide, by decide⟩ ⟨rfl, rfl⟩ (by decide) rfl (Nat.le_of_ble_eq_true rfl) hr.p.t (k_codeAt hr.p hd rx9 (by omega) ?_)
      refine pw_bipush (v := nI 97) dX4_readWires_25 (by decide) ?_
      refine pw_isub dX4_readWires_27 ?_
      refine pw_cV1i 4 dX4_readWires_28 kX4_61 vX4_isNewWire iX4_isNewWire ⟨by decide, by decide⟩ ⟨rfl, rfl⟩ (by decide) rfl (Nat.le_of_ble_eq_true rfl) hr.t (k_isNewWire hr hw8 (fun w9 hw9 ew9 ns9 => ?_) (fun no9 => ?_))
      · skip
        refine pw_if_eq 60 dX4_readWires_31 (by decide) (fun hh => absurd hh (by decide)) (fun _ => ?_)
        refine pw_aload_0 dX4_readWires_34 ?_
        refine pw_cV0i 4 dX4_readWires_35 kX4_45 vX4_readWire iX4_readWire ⟨by decide, by decide⟩ ⟨rfl, rfl⟩ (by decide) rfl (Nat.le_of_ble_eq_true rfl) hr.t (k_readWire hr hd rx9 ha9 (by omega) (fun d2 hd2 d2c μw2 rxw2 kq2 h1_2 h4_2 => ?_) (fun h95 => absurd (wr_y hw9 (cd_y (by omega) (by omega) (i32_sub ew9))).1 h95))
        refine pw_pop dX4_readWires_38 ?_
        refine pw_aload_0 dX4_readWires_39 ?_
        refine pw_dup dX4_readWires_40 ?_
        refine pw_getI 4 5 dX4_readWires_41 fX4_58 rfl (by decide) rfl hr.t ?_
        refine pw_top ((kq2 5 (by decide)).trans hw8) ?_
        refine pw_iconst (v := nI 1) dX4_readWires_44 (by decide) ?_
        refine pw_aload_0 dX4_readWires_45 ?_
        refine pw_getI 4 4 dX4_readWires_46 fX4_51 rfl (by decide) rfl hr.t ?_
        refine pw_top h4_2 ?_
        refine pw_ishl dX4_readWires_49 ?_
        refine pw_ior dX4_readWires_50 ?_
        refine pw_putI 4 5 dX4_readWires_51 fX4_58 rfl (by decide) rfl (Or.inl rfl) rfl (by decide) hr.t ?_
        refine pw_gen (P := fun ν => RX p μ0 ν ∧ KP p [1, 4, 5] μ ν ∧ ν (p + 2) 1 = (nI (i9 + 1)) ∧ ν (p + 2) 4 = (nI d2) ∧ ν (p + 2) 5 = ((msk s9 6) ||| ((nI 1) <<< ((nI d2) &&& 31)))) ⟨rxw2.w, (kp9.tr kq2 (by decide)).w (by decide), rdN h1_2 (by decide), rdN h4_2 (by decide), rdS⟩ (fun μ3 ⟨rx3, kp3, rh3c1, rh3c4, rh3c5⟩ => ?_)
        refine pw_iincN_1 dX4_readWires_54 (by decide) ?_
        refine pw_goto 7 dX4_readWires_57 (by decide) ?_
        have k1 := wr_y hw9 (cd_y (by omega) (by omega) (i32_sub ew9))
        have k2 := wr_y hd2 d2c
        have k3 : d2 = w9 := k2.2.symm.trans k1.2
        have e9 : wsG P (f + 1) s9 i9 = wsG P f (fun v => s9 v ∨ wrV P i9 = v) (i9 + 1) := cif_y ⟨k1.1, by rw [k1.2]; exact ns9⟩
        rw [e9, k2.2] at q9
        exact ih (j9 + 1) _ (i9 + 1) _ (by omega) (by have h95 := d2c.1; omega) rx3 kp3 rh3c1 (rh3c5.trans (msk_or1 (by decide) hd2)) q9
      · skip
        refine pw_if_eq 60 dX4_readWires_31 (by decide) (fun _ => ?_) (fun hh => absurd (by decide) hh)
        have e9 : wsG P (f + 1) s9 i9 = (s9, i9) := cif_n (fun hh => hh.2 (no9 _ (wr_i hh.1).1 (by rw [cd_i (wr_i hh.1).2]; exact i32_cs)))
        rw [e9] at q9
        exact q9 _ _ rx9 kp9 ha9 hw8
  exact loop 6 0 (fun _ => False) i _ rfl hi rx1 kp1 rh1c1 (rh1c5.trans (msk_0 (fun _ _ h95 => h95)).symm) ex
set_option maxRecDepth 100000 in
set_option maxHeartbeats 4000000 in
theorem k_clear {X : Cx} {σ : Sp} {μ : Mm} {Q : Int32 → Sp → Mm → Prop} {p : Nat} (hp : ShPad σ p) (q : Q (μ p 1) σ (wr μ p 1 (nI 0))) : CTi X mX3_clear [.ref p] σ μ Q := by
  refine CT.of (by decide +kernel) (Nat.le_of_ble_eq_true rfl) ?_
  show PW X mX3_clear 0 0 0 [some (.ref p), none] [] σ μ (LI Q)
  refine pw_aload_0 dX3_clear_0 ?_
  refine pw_getI 3 1 dX3_clear_1 fX3_19 rfl (by decide) rfl hp.t ?_
  refine pw_istore_1 dX3_clear_4 (by decide) ?_
  refine pw_aload_0 dX3_clear_5 ?_
  refine pw_iconst (v := nI 0) dX3_clear_6 (by decide) ?_
  refine pw_putI 3 1 dX3_clear_7 fX3_19 rfl (by decide) rfl (Or.inl rfl) rfl (by decide) hp.t ?_
  refine pw_iload_1 dX3_clear_10 ?_
  refine pw_ireturn dX3_clear_11 rfl ?_
  exact q
