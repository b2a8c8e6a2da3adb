/-! Texts: the fault of a text (class) -/
theorem nmG_b {P : Pd} (h80 : P.2 ≤ 80) : ∀ {f v i : Nat}, i ≤ 80 → i ≤ (nmG P f v i).2 ∧ (nmG P f v i).2 ≤ 80 ∧ (v ≤ 999 → (nmG P f v i).1 ≤ 999)
  | 0, v, i, hi => ⟨Nat.le_refl i, hi, fun h => h⟩
  | f + 1, v, i, hi => by
    rcases Classical.em (0 < v ∧ dgT P i ∧ 10 * v + dgV P i ≤ 999) with h | h
    · have e : nmG P (f + 1) v i = nmG P f (10 * v + dgV P i) (i + 1) := cif_y h
      have g := h.2.1.1
      have k := nmG_b h80 (f := f) (v := 10 * v + dgV P i) (i := i + 1) (by omega)
      rw [e]
      exact ⟨by omega, k.2.1, fun _ => k.2.2 h.2.2⟩
    · have e : nmG P (f + 1) v i = (v, i) := cif_n h
      rw [e]
      exact ⟨Nat.le_refl i, hi, fun h => h⟩
theorem wsG_b {P : Pd} (h80 : P.2 ≤ 80) : ∀ {f i : Nat} {s : Nat → Prop}, i ≤ 80 → i ≤ (wsG P f s i).2 ∧ (wsG P f s i).2 ≤ 80
  | 0, i, s, hi => ⟨Nat.le_refl i, hi⟩
  | f + 1, i, s, hi => by
    rcases Classical.em (wrT P i ∧ ¬ s (wrV P i)) with h | h
    · have e : wsG P (f + 1) s i = wsG P f (fun v => s v ∨ wrV P i = v) (i + 1) := cif_y h
      have g := h.1.1
      have k := wsG_b h80 (f := f) (s := fun v => s v ∨ wrV P i = v) (i := i + 1) (by omega)
      rw [e]
      exact ⟨by omega, k.2⟩
    · have e : wsG P (f + 1) s i = (s, i) := cif_n h
      rw [e]
      exact ⟨Nat.le_refl i, hi⟩
theorem orG_b {P : Pd} {i : Nat} (h80 : P.2 ≤ 80) (hi : i ≤ 80) : (orG P i).2 ≤ 80 ∧ ((orG P i).1 ≠ none → i < (orG P i).2) := by
  unfold orG
  rcases Classical.em (chT P i 33) with c1x | c1x
  · rw [cif_y c1x]
    have gc1x := c1x.1
    rcases Classical.em (wrT P (i + 1)) with c2x | c2x
    · rw [cif_y c2x]
      have gc2x := c2x.1
      exact ⟨by show i + 1 + 1 ≤ 80; omega, fun _ => by show i < i + 1 + 1; omega⟩
    · rw [cif_n c2x]
      exact ⟨by show i + 1 ≤ 80; omega, fun h95 => absurd rfl h95⟩
  · rw [cif_n c1x]
    rcases Classical.em (chT P i 98) with c3x | c3x
    · rw [cif_y c3x]
      have gc3x := c3x.1
      rcases Classical.em (dgT P (i + 1)) with c4x | c4x
      · rw [cif_y c4x]
        have gc4x := c4x.1
        have kn := nmG_b h80 (f := 3) (v := dgV P (i + 1)) (i := i + 1 + 1) (by omega)
        exact ⟨by show (nmG P 3 (dgV P (i + 1)) (i + 1 + 1)).2 ≤ 80; omega, fun _ => by show i < (nmG P 3 (dgV P (i + 1)) (i + 1 + 1)).2; omega⟩
      · rw [cif_n c4x]
        exact ⟨by show i + 1 ≤ 80; omega, fun h95 => absurd rfl h95⟩
    · rw [cif_n c3x]
      rcases Classical.em (chT P i 115) with c5x | c5x
      · rw [cif_y c5x]
        have gc5x := c5x.1
        rcases Classical.em (∃ w, w < 6 ∧ (wsG P 6 (fun _ => False) (i + 1)).1 w) with c6x | c6x
        · rw [cif_y c6x]
          have kw := wsG_b h80 (f := 6) (s := fun _ => False) (i := i + 1) (by omega)
          exact ⟨by show (wsG P 6 (fun _ => False) (i + 1)).2 ≤ 80; omega, fun _ => by show i < (wsG P 6 (fun _ => False) (i + 1)).2; omega⟩
        · rw [cif_n c6x]
          have kw := wsG_b h80 (f := 6) (s := fun _ => False) (i := i + 1) (by omega)
          exact ⟨by show (wsG P 6 (fun _ => False) (i + 1)).2 ≤ 80; omega, fun h95 => absurd rfl h95⟩
      · rw [cif_n c5x]
        rcases Classical.em (chT P i 119) with c7x | c7x
        · rw [cif_y c7x]
          have gc7x := c7x.1
          rcases Classical.em (dgT P (i + 1)) with c8x | c8x
          · rw [cif_y c8x]
            have gc8x := c8x.1
            rcases Classical.em (wrT P (i + 1 + 1)) with c9x | c9x
            · rw [cif_y c9x]
              have gc9x := c9x.1
              rcases Classical.em (chT P (i + 1 + 1 + 1) 61) with c10x | c10x
              · rw [cif_y c10x]
                have gc10x := c10x.1
                rcases Classical.em (dgT P (i + 1 + 1 + 1 + 1)) with c11x | c11x
                · rw [cif_y c11x]
                  have gc11x := c11x.1
                  have kn := nmG_b h80 (f := 3) (v := dgV P (i + 1 + 1 + 1 + 1)) (i := i + 1 + 1 + 1 + 1 + 1) (by omega)
                  exact ⟨by show (nmG P 3 (dgV P (i + 1 + 1 + 1 + 1)) (i + 1 + 1 + 1 + 1 + 1)).2 ≤ 80; omega, fun _ => by show i < (nmG P 3 (dgV P (i + 1 + 1 + 1 + 1)) (i + 1 + 1 + 1 + 1 + 1)).2; omega⟩
                · rw [cif_n c11x]
                  exact ⟨by show i + 1 + 1 + 1 + 1 ≤ 80; omega, fun h95 => absurd rfl h95⟩
              · rw [cif_n c10x]
                exact ⟨by show i + 1 + 1 + 1 ≤ 80; omega, fun h95 => absurd rfl h95⟩
            · rw [cif_n c9x]
              exact ⟨by show i + 1 + 1 ≤ 80; omega, fun h95 => absurd rfl h95⟩
          · rw [cif_n c8x]
            exact ⟨by show i + 1 ≤ 80; omega, fun h95 => absurd rfl h95⟩
        · rw [cif_n c7x]
          rcases Classical.em (chT P i 122) with c12x | c12x
          · rw [cif_y c12x]
            have gc12x := c12x.1
            rcases Classical.em (dgT P (i + 1)) with c13x | c13x
            · rw [cif_y c13x]
              have gc13x := c13x.1
              exact ⟨by show i + 1 + 1 ≤ 80; omega, fun _ => by show i < i + 1 + 1; omega⟩
            · rw [cif_n c13x]
              exact ⟨by show i + 1 ≤ 80; omega, fun h95 => absurd rfl h95⟩
          · rw [cif_n c12x]
            exact ⟨by show i ≤ 80; omega, fun h95 => absurd rfl h95⟩
noncomputable def flG (P : Pd) : Nat → Nat → Int32
  | 0, i => nI i
  | f + 1, i => cif ((orG P i).1 = none) (nI (orG P i).2) (cif (P.2 ≤ (orG P i).2) (-6) (cif (chT P (orG P i).2 59) (flG P f ((orG P i).2 + 1)) (nI (orG P i).2)))
theorem orG_out {P : Pd} {i : Nat} (h : P.2 ≤ i) : orG P i = (none, i) := by
  have k : ∀ c, ¬ chT P i c := fun c hc => absurd hc.1 (by omega)
  unfold orG
  rw [cif_n (k 33), cif_n (k 98), cif_n (k 115), cif_n (k 119), cif_n (k 122)]
theorem fl_out {P : Pd} {f i : Nat} (h : P.2 ≤ i) : flG P f i = nI i := by
  cases f with
  | zero => rfl
  | succ f =>
    have k := orG_out h
    unfold flG
    rw [k]
    exact cif_y rfl
theorem fl_no {P : Pd} {f i j : Nat} (e : orG P i = (none, j)) : flG P (f + 1) i = nI j := by
  unfold flG
  rw [e]
  exact cif_y rfl
theorem so_ne {α : Type} {o : α} : ¬ (some o = none) := fun h => by cases h
theorem fl_end {P : Pd} {f i j : Nat} {o : Nat × Int32 × Int32 × Int32} (e : orG P i = (some o, j)) (h : P.2 ≤ j) : flG P (f + 1) i = -6 := by
  unfold flG
  rw [e]
  exact (cif_n so_ne).trans (cif_y h)
theorem fl_bad {P : Pd} {f i j : Nat} {o : Nat × Int32 × Int32 × Int32} (e : orG P i = (some o, j)) (h : j < P.2) (hc : ¬ chT P j 59) : flG P (f + 1) i = nI j := by
  unfold flG
  rw [e]
  exact (cif_n so_ne).trans ((cif_n (Nat.not_le.mpr h)).trans (cif_n hc))
theorem fl_s {P : Pd} {f i : Nat} : flG P (f + 1) i = cif ((orG P i).1 = none) (nI (orG P i).2) (cif (P.2 ≤ (orG P i).2) (-6) (cif (chT P (orG P i).2 59) (flG P f ((orG P i).2 + 1)) (nI (orG P i).2))) := rfl
theorem fl_go {P : Pd} {f i j : Nat} {o : Nat × Int32 × Int32 × Int32} (e : orG P i = (some o, j)) (h : j < P.2) (hc : chT P j 59) : flG P (f + 1) i = flG P f (j + 1) := by
  rw [fl_s, e]
  exact (cif_n so_ne).trans ((cif_n (Nat.not_le.mpr h)).trans (cif_y hc))
set_option maxRecDepth 100000 in
set_option maxHeartbeats 4000000 in
theorem k_findFault {X : Cx} {σ : Sp} {μ : Mm} {Q : Int32 → Sp → Mm → Prop} {μ0 : Mm} {p : Nat} {P : Pd} (hr : ShRd σ (p + 2) p) (hd : PD μ0 p P) (rx : RX p μ0 μ) (q : ∀ ν, RX p μ0 ν → Q (flG P 80 0) σ ν) : CTi X mX4_findFault [.ref (p + 2)] σ μ Q := by
  refine CT.of (by decide +kernel) (Nat.le_of_ble_eq_true rfl) ?_
  show PW X mX4_findFault 0 0 0 [some (.ref (p + 2)), none] [] σ μ (LI Q)
  have h80 := hd.2.1
  have kp0 : KP p [1] μ μ := KP.rf
  refine pw_aload_0 dX4_findFault_0 ?_
  refine pw_iconst (v := nI 0) dX4_findFault_1 (by decide) ?_
  refine pw_putI 4 1 dX4_findFault_2 fX4_15 rfl (by decide) rfl (Or.inl rfl) rfl (by decide) hr.t ?_
  refine pw_gen (P := fun ν => RX p μ0 ν ∧ KP p [1] μ ν ∧ ν (p + 2) 1 = (nI 0)) ⟨rx.w, kp0.w (by decide), rdS⟩ (fun μ1 ⟨rx1, kp1, rh1c1⟩ => ?_)
  refine pw_iconst (v := nI 0) dX4_findFault_5 (by decide) ?_
  refine pw_istore_1 dX4_findFault_6 (by decide) ?_
  have loop : ∀ f c i9 ν, c + f = 80 → P.2 ≤ i9 + f → i9 ≤ 80 → RX p μ0 ν → ν (p + 2) 1 = nI i9 → (∀ ν', RX p μ0 ν' → Q (flG P f i9) σ ν') → PW X mX4_findFault 0 0 7 [some (.ref (p + 2)), some (.int (nI c))] [] σ ν (LI Q) := by
    intro f
    induction f with
    | zero =>
      intro c i9 ν hc9 hf hi9 rx9 ha9 q9
      refine pw_iload_1 dX4_findFault_7 ?_
      refine pw_bipush (v := nI 80) dX4_findFault_8 (by decide) ?_
      refine pw_icmp_ge 74 dX4_findFault_10 (by decide) (fun _ => ?_) (fun hh => absurd (by rw [nI_leI (by omega) (by omega)]; omega) hh)
      refine pw_aload_0 dX4_findFault_74 ?_
      refine pw_getI 4 1 dX4_findFault_75 fX4_15 rfl (by decide) rfl hr.t ?_
      refine pw_top ha9 ?_
      refine pw_ireturn dX4_findFault_78 rfl ?_
      exact q9 _ rx9
    | succ f ih =>
      intro c i9 ν hc9 hf hi9 rx9 ha9 q9
      refine pw_iload_1 dX4_findFault_7 ?_
      refine pw_bipush (v := nI 80) dX4_findFault_8 (by decide) ?_
      refine pw_icmp_ge 74 dX4_findFault_10 (by decide) (fun hh => absurd hh (by rw [nI_leI (by omega) (by omega)]; omega)) (fun _ => ?_)
      refine pw_aload_0 dX4_findFault_13 ?_
      refine pw_cV0i 4 dX4_findFault_14 kX4_19 vX4_readOrder iX4_readOrder ⟨by decide, by decide⟩ ⟨rfl, rfl⟩ (by decide) rfl (Nat.le_of_ble_eq_true rfl) hr.t (k_readOrder hr hd rx9 ha9 hi9 (fun o9 j9 eo μo rxo ha8 ro8 => ?_) (fun j9 eo μo rxo ha8 => ?_))
      · skip
        have hbo := orG_b (P := P) (i := i9) h80 hi9
        rw [eo] at hbo
        have hb1 : j9 ≤ 80 := hbo.1
        have hb8 : i9 < j9 := hbo.2 so_ne
        refine pw_if_eq 74 dX4_findFault_17 (by decide) (fun hh => absurd hh (by decide)) (fun _ => ?_)
        refine pw_aload_0 dX4_findFault_20 ?_
        refine pw_getI 4 1 dX4_findFault_21 fX4_15 rfl (by decide) rfl hr.t ?_
        refine pw_top ha8 ?_
        refine pw_aload_0 dX4_findFault_24 ?_
        refine pw_getr 4 0 dX4_findFault_25 fX4_9 rfl (by decide) rfl hr.t hr.r0 ?_
        refine pw_getI 3 1 dX4_findFault_28 fX4_23 rfl (by decide) rfl hr.p.t ?_
        refine pw_top (hd.fr rxo).1 ?_
        refine pw_icmp_lt 37 dX4_findFault_31 (by decide) (fun h1 => ?_) (fun h1 => ?_)
        · skip
          refine pw_aload_0 dX4_findFault_37 ?_
          refine pw_getr 4 0 dX4_findFault_38 fX4_9 rfl (by decide) rfl hr.t hr.r0 ?_
          refine pw_aload_0 dX4_findFault_41 ?_
          refine pw_getI 4 1 dX4_findFault_42 fX4_15 rfl (by decide) rfl hr.t ?_
          refine pw_top ha8 ?_
          refine pw_cV1i 3 dX4_findFault_45 kX4_28 vX3_codeAt iX3_codeAt ⟨by decide, by decide⟩ ⟨rfl, rfl⟩ (by decide) rfl (Nat.le_of_ble_eq_true rfl) hr.p.t (k_codeAt hr.p hd rxo (by omega) ?_)
          refine pw_bipush (v := nI 59) dX4_findFault_48 (by decide) ?_
          refine pw_icmp_eq 58 dX4_findFault_50 (by decide) (fun h2 => ?_) (fun h2 => ?_)
          · skip
            refine pw_aload_0 dX4_findFault_58 ?_
            refine pw_dup dX4_findFault_59 ?_
            refine pw_getI 4 1 dX4_findFault_60 fX4_15 rfl (by decide) rfl hr.t ?_
            refine pw_top ha8 ?_
            refine pw_iconst (v := nI 1) dX4_findFault_63 (by decide) ?_
            refine pw_iaddN dX4_findFault_64 ?_
            refine pw_putI 4 1 dX4_findFault_65 fX4_15 rfl (by decide) rfl (Or.inl rfl) rfl (by decide) hr.t ?_
            refine pw_gen (P := fun ν => RX p μ0 ν ∧ KP p [1] μo ν ∧ ν (p + 2) 1 = (nI (j9 + 1))) ⟨rxo.w, (KP.rf : KP p [1] μo μo).w (by decide), rdS⟩ (fun μ3 ⟨rx3, kp3, rh3c1⟩ => ?_)
            refine pw_iincN_1 dX4_findFault_68 (by decide) ?_
            refine pw_goto 7 dX4_findFault_71 (by decide) ?_
            have hs9 : chT P j9 59 := cd_y (by omega) (by omega) h2
            have hb9 := hs9.1
            have e9 : flG P (f + 1) i9 = flG P f (j9 + 1) := fl_go eo hb9 hs9
            rw [e9] at q9
            exact ih (c + 1) (j9 + 1) _ (by omega) (by omega) (by omega) rx3 rh3c1 q9
          · skip
            refine pw_aload_0 dX4_findFault_53 ?_
            refine pw_getI 4 1 dX4_findFault_54 fX4_15 rfl (by decide) rfl hr.t ?_
            refine pw_top ha8 ?_
            refine pw_ireturn dX4_findFault_57 rfl ?_
            have e9 : flG P (f + 1) i9 = nI j9 := fl_bad eo (by have h95 := h1; rw [nI_ltI (by omega) (by omega)] at h95; exact h95) (fun h95 => h2 (cd_i h95))
            rw [e9] at q9
            exact q9 _ rxo
        · skip
          refine pw_bipush (v := -6) dX4_findFault_34 (by decide) ?_
          refine pw_ireturn dX4_findFault_36 rfl ?_
          have e9 : flG P (f + 1) i9 = -6 := fl_end eo (by have h95 := h1; rw [nI_ltI (by omega) (by omega)] at h95; omega)
          rw [e9] at q9
          exact q9 _ rxo
      · skip
        refine pw_if_eq 74 dX4_findFault_17 (by decide) (fun _ => ?_) (fun hh => absurd (by decide) hh)
        refine pw_aload_0 dX4_findFault_74 ?_
        refine pw_getI 4 1 dX4_findFault_75 fX4_15 rfl (by decide) rfl hr.t ?_
        refine pw_top ha8 ?_
        refine pw_ireturn dX4_findFault_78 rfl ?_
        have e9 : flG P (f + 1) i9 = nI j9 := fl_no eo
        rw [e9] at q9
        exact q9 _ rxo
  exact loop 80 0 0 _ (by omega) (by omega) (by omega) rx1 rh1c1 q
