/-! Texts of the model: the wires of a station -/
theorem or_0 (y : Int32) : nI 0 ||| y = y := b_ext fun i _ => by rw [b_or, show bt (nI 0) i = false from b_0 i, Bool.false_or]
theorem msk_one {w : Nat} (hw : w < 6) : nI 1 <<< (nI w &&& 31) = msk (fun v => False ∨ w = v) 6 := by
  have k := msk_or1 (p := fun _ => False) (n := 6) (by decide) hw
  rw [msk_0 (fun _ _ h => h), or_0] at k
  exact k
theorem cnt_full {s : Nat → Prop} : ∀ {n : Nat}, n ≤ cntP s n → ∀ v, v < n → s v
  | 0, _, v, hv => absurd hv (by omega)
  | n + 1, h, v, hv => by
    have k := cntP_le s n
    rcases Classical.em (s n) with c | c
    · rw [cntP_y c] at h
      rcases Nat.lt_or_ge v n with g | g
      · exact cnt_full (by omega) v g
      · rw [show v = n by omega]
        exact c
    · rw [cntP_n c] at h
      omega
theorem cnt_add {s : Nat → Prop} {w : Nat} (hn : ¬ s w) : ∀ {n : Nat}, w < n → cntP (fun v => s v ∨ w = v) n = cntP s n + 1
  | 0, h => absurd h (by omega)
  | n + 1, h => by
    rcases Classical.em (w = n) with c | c
    · subst c
      rw [cntP_y (Or.inr rfl), cntP_n hn, cntP_cong (q := s) (fun i hi => ⟨fun q => q.elim id (fun e => absurd e (by omega)), Or.inl⟩)]
    · have ih := cnt_add hn (n := n) (by omega)
      rcases Classical.em (s n) with d | d
      · rw [cntP_y (Or.inl d), cntP_y d, ih]
      · rw [cntP_n (fun q => q.elim d c), cntP_n d, ih]
theorem ws_stop {P : Pd} {f i : Nat} {s : Nat → Prop} (h : ¬ (wrT P i ∧ ¬ s (wrV P i))) : wsG P f s i = (s, i) := by
  cases f with
  | zero => rfl
  | succ f => exact cif_n h
theorem ws_go {P : Pd} {f i : Nat} {s : Nat → Prop} (h1 : wrT P i) (h2 : ¬ s (wrV P i)) : wsG P (f + 1) s i = wsG P f (fun v => s v ∨ wrV P i = v) (i + 1) := cif_y ⟨h1, h2⟩
theorem ws_mono {P : Pd} {v : Nat} : ∀ {f i : Nat} {s : Nat → Prop}, s v → (wsG P f s i).1 v
  | 0, _, _, h => h
  | f + 1, i, s, h => by
    rcases Classical.em (wrT P i ∧ ¬ s (wrV P i)) with c | c
    · rw [ws_go c.1 c.2]
      exact ws_mono (Or.inl h)
    · rw [ws_stop c]
      exact h
theorem ws_ex {P : Pd} {i : Nat} (h : wrT P i) : ∃ w, w < 6 ∧ (wsG P 6 (fun _ => False) i).1 w := by
  rw [ws_go h (fun hh => hh)]
  exact ⟨wrV P i, (wr_i h).1, ws_mono (Or.inr rfl)⟩
theorem ws_nex {P : Pd} {i : Nat} (h : ¬ wrT P i) : wsG P 6 (fun _ => False) i = (fun _ => False, i) := ws_stop (fun hh => h hh.1)
set_option maxRecDepth 100000 in
set_option maxHeartbeats 4000000 in
theorem m_wiresRead2 {X : Cx} {σ : Sp} {μ : Mm} {Q : Int32 → Sp → Mm → Prop} {m i : Nat} {P : Pd} (h : ShM σ m) (hq : QX μ m P) (ha : μ m 11 = nI i) (hw : μ m 12 = -6) (hi : i ≤ 80) (q1 : wrT P i → ∀ ν, TW m μ ν → ν m 11 = nI (wsG P 6 (fun _ => False) i).2 → ν m 12 = -6 → Q (msk (wsG P 6 (fun _ => False) i).1 6) σ ν) (q0 : ¬ wrT P i → ∀ ν x, TW m μ ν → ν m 11 = nI (i + 1) → ν m 12 = nI i → Q x σ ν) : CTi X mX8_wiresRead [.ref m] σ μ Q := by
  refine CT.of (by decide +kernel) (Nat.le_of_ble_eq_true rfl) ?_
  show PW X mX8_wiresRead 0 0 0 [some (.ref m), none] [] σ μ (LI Q)
  have h80 := hq.2.1
  refine pw_iconst (v := nI 1) dX8_wiresRead_0 (by decide) ?_
  refine pw_aload_0 dX8_wiresRead_1 ?_
  refine pw_cV0i 8 dX8_wiresRead_2 kX8_208 vX8_wireRead iX8_wireRead ⟨by decide, by decide⟩ ⟨rfl, rfl⟩ (by decide) rfl (Nat.le_of_ble_eq_true rfl) h.t (m_wireRead2 h (hq.tw (TW.rf : TW m μ μ)) ha hw (by omega) (fun hd1 ν1 tw1 a1 w1 => ?_) (fun hd1 ν1 x1 tw1 a1 w1 => ?_))
  · skip
    have hb1 := hd1.1
    refine pw_ishl dX8_wiresRead_5 ?_
    refine pw_top (msk_one (wr_i hd1).1) ?_
    refine pw_istore_1 dX8_wiresRead_6 (by decide) ?_
    have loop : ∀ f s9 i9 ν, 6 ≤ f + cntP s9 6 → i9 ≤ 80 → TW m μ ν → ν m 11 = nI i9 → ν m 12 = -6 → (∀ ν', TW m μ ν' → ν' m 11 = nI (wsG P f s9 i9).2 → ν' m 12 = -6 → Q (msk (wsG P f s9 i9).1 6) σ ν') → PW X mX8_wiresRead 0 0 7 [some (.ref m), some (.int (msk s9 6))] [] σ ν (LI Q) := by
      intro f
      induction f with
      | zero =>
        intro s9 i9 ν hf hi9 tw9 a9 w9 q9
        refine pw_aload_0 dX8_wiresRead_7 ?_
        refine pw_getI 8 12 dX8_wiresRead_8 fX8_195 rfl (by decide) rfl h.t ?_
        refine pw_top w9 ?_
        refine pw_bipush (v := -6) dX8_wiresRead_11 (by decide) ?_
        refine pw_icmp_ne 68 dX8_wiresRead_13 (by decide) (fun hh => absurd rfl hh) (fun _ => ?_)
        refine pw_aload_0 dX8_wiresRead_16 ?_
        refine pw_cV0i 8 dX8_wiresRead_17 kX8_198 vX8_letter iX8_letter ⟨by decide, by decide⟩ ⟨rfl, rfl⟩ (by decide) rfl (Nat.le_of_ble_eq_true rfl) h.t (m_letter h (hq.tw tw9) a9 (by omega) ?_)
        refine pw_bipush (v := nI 97) dX8_wiresRead_20 (by decide) ?_
        refine pw_isub dX8_wiresRead_22 ?_
        refine pw_cS1i dX8_wiresRead_23 kX8_70 vX8_isWire sX8_isWire ⟨by decide, by decide⟩ ⟨rfl, rfl⟩ (Nat.le_of_ble_eq_true rfl) (c_X8_isWire (fun j9 ej9 hj9 => ?_) (fun p9 => ?_))
        · skip
          have hd9 := mw_y hj9 ej9
          have hb9 := hd9.1
          refine pw_if_eq 68 dX8_wiresRead_26 (by decide) (fun hh => absurd hh (by decide)) (fun _ => ?_)
          refine pw_iload_1 dX8_wiresRead_29 ?_
          refine pw_aload_0 dX8_wiresRead_30 ?_
          refine pw_cV0i 8 dX8_wiresRead_31 kX8_198 vX8_letter iX8_letter ⟨by decide, by decide⟩ ⟨rfl, rfl⟩ (by decide) rfl (Nat.le_of_ble_eq_true rfl) h.t (m_letter h (hq.tw tw9) a9 (by omega) ?_)
          refine pw_bipush (v := nI 97) dX8_wiresRead_34 (by decide) ?_
          refine pw_isub dX8_wiresRead_36 ?_
          refine pw_top ej9 ?_
          refine pw_ishr dX8_wiresRead_37 ?_
          refine pw_iconst (v := nI 1) dX8_wiresRead_38 (by decide) ?_
          refine pw_iand dX8_wiresRead_39 ?_
          refine pw_if_ne 68 dX8_wiresRead_40 (by decide) (fun h1 => ?_) (fun h1 => ?_)
          · skip
            refine pw_iload_1 dX8_wiresRead_68 ?_
            refine pw_ireturn dX8_wiresRead_69 rfl ?_
            have e9 : wsG P 0 s9 i9 = (s9, i9) := ws_stop (fun hh => hh.2 (by rw [(wr_y hj9 (ml_y (by omega) (i32_sub ej9))).2]; exact (msk_bi (by decide) hj9).mp (bi_n0 h1)))
            rw [e9] at q9
            exact q9 _ tw9 a9 w9
          · skip
            refine pw_iload_1 dX8_wiresRead_43 ?_
            refine pw_iconst (v := nI 1) dX8_wiresRead_44 (by decide) ?_
            refine pw_aload_0 dX8_wiresRead_45 ?_
            refine pw_cV0i 8 dX8_wiresRead_46 kX8_198 vX8_letter iX8_letter ⟨by decide, by decide⟩ ⟨rfl, rfl⟩ (by decide) rfl (Nat.le_of_ble_eq_true rfl) h.t (m_letter h (hq.tw tw9) a9 (by omega) ?_)
            refine pw_bipush (v := nI 97) dX8_wiresRead_49 (by decide) ?_
            refine pw_isub dX8_wiresRead_51 ?_
            refine pw_top ej9 ?_
            refine pw_ishl dX8_wiresRead_52 ?_
            refine pw_ior dX8_wiresRead_53 ?_
            refine pw_top (msk_or1 (by decide) hj9) ?_
            refine pw_istore_1 dX8_wiresRead_54 (by decide) ?_
            refine pw_aload_0 dX8_wiresRead_55 ?_
            refine pw_dup dX8_wiresRead_56 ?_
            refine pw_getI 8 11 dX8_wiresRead_57 fX8_192 rfl (by decide) rfl h.t ?_
            refine pw_top a9 ?_
            refine pw_iconst (v := nI 1) dX8_wiresRead_60 (by decide) ?_
            refine pw_iaddN dX8_wiresRead_61 ?_
            refine pw_putI 8 11 dX8_wiresRead_62 fX8_192 rfl (by decide) rfl (Or.inl rfl) rfl (by decide) h.t ?_
            refine pw_gen (P := fun ν => TW m μ ν ∧ ν m 7 = (nI P.2) ∧ ν m 11 = (nI (i9 + 1)) ∧ ν m 12 = ((-6))) ⟨tw9.w (by decide), rdN ((hq.tw tw9).1) (by decide), rdS, rdN w9 (by decide)⟩ (fun μ2 ⟨rl2, mh2c7, mh2c11, mh2c12⟩ => ?_)
            refine pw_goto 7 dX8_wiresRead_65 (by decide) ?_
            have ns9 : ¬ s9 j9 := fun h95 => bi_10 ((msk_bi (by decide) hj9).mpr h95) h1
            exact absurd (cnt_full (by omega) j9 hj9) ns9
        · skip
          refine pw_if_eq 68 dX8_wiresRead_26 (by decide) (fun _ => ?_) (fun hh => absurd (by decide) hh)
          refine pw_iload_1 dX8_wiresRead_68 ?_
          refine pw_ireturn dX8_wiresRead_69 rfl ?_
          have e9 : wsG P 0 s9 i9 = (s9, i9) := ws_stop (fun hh => mw_n p9 hh.1)
          rw [e9] at q9
          exact q9 _ tw9 a9 w9
      | succ f ih =>
        intro s9 i9 ν hf hi9 tw9 a9 w9 q9
        refine pw_aload_0 dX8_wiresRead_7 ?_
        refine pw_getI 8 12 dX8_wiresRead_8 fX8_195 rfl (by decide) rfl h.t ?_
        refine pw_top w9 ?_
        refine pw_bipush (v := -6) dX8_wiresRead_11 (by decide) ?_
        refine pw_icmp_ne 68 dX8_wiresRead_13 (by decide) (fun hh => absurd rfl hh) (fun _ => ?_)
        refine pw_aload_0 dX8_wiresRead_16 ?_
        refine pw_cV0i 8 dX8_wiresRead_17 kX8_198 vX8_letter iX8_letter ⟨by decide, by decide⟩ ⟨rfl, rfl⟩ (by decide) rfl (Nat.le_of_ble_eq_true rfl) h.t (m_letter h (hq.tw tw9) a9 (by omega) ?_)
        refine pw_bipush (v := nI 97) dX8_wiresRead_20 (by decide) ?_
        refine pw_isub dX8_wiresRead_22 ?_
        refine pw_cS1i dX8_wiresRead_23 kX8_70 vX8_isWire sX8_isWire ⟨by decide, by decide⟩ ⟨rfl, rfl⟩ (Nat.le_of_ble_eq_true rfl) (c_X8_isWire (fun j9 ej9 hj9 => ?_) (fun p9 => ?_))
        · skip
          have hd9 := mw_y hj9 ej9
          have hb9 := hd9.1
          refine pw_if_eq 68 dX8_wiresRead_26 (by decide) (fun hh => absurd hh (by decide)) (fun _ => ?_)
          refine pw_iload_1 dX8_wiresRead_29 ?_
          refine pw_aload_0 dX8_wiresRead_30 ?_
          refine pw_cV0i 8 dX8_wiresRead_31 kX8_198 vX8_letter iX8_letter ⟨by decide, by decide⟩ ⟨rfl, rfl⟩ (by decide) rfl (Nat.le_of_ble_eq_true rfl) h.t (m_letter h (hq.tw tw9) a9 (by omega) ?_)
          refine pw_bipush (v := nI 97) dX8_wiresRead_34 (by decide) ?_
          refine pw_isub dX8_wiresRead_36 ?_
          refine pw_top ej9 ?_
          refine pw_ishr dX8_wiresRead_37 ?_
          refine pw_iconst (v := nI 1) dX8_wiresRead_38 (by decide) ?_
          refine pw_iand dX8_wiresRead_39 ?_
          refine pw_if_ne 68 dX8_wiresRead_40 (by decide) (fun h2 => ?_) (fun h2 => ?_)
          · skip
            refine pw_iload_1 dX8_wiresRead_68 ?_
            refine pw_ireturn dX8_wiresRead_69 rfl ?_
            have e9 : wsG P (f + 1) s9 i9 = (s9, i9) := ws_stop (fun hh => hh.2 (by rw [(wr_y hj9 (ml_y (by omega) (i32_sub ej9))).2]; exact (msk_bi (by decide) hj9).mp (bi_n0 h2)))
            rw [e9] at q9
            exact q9 _ tw9 a9 w9
          · skip
            refine pw_iload_1 dX8_wiresRead_43 ?_
            refine pw_iconst (v := nI 1) dX8_wiresRead_44 (by decide) ?_
            refine pw_aload_0 dX8_wiresRead_45 ?_
            refine pw_cV0i 8 dX8_wiresRead_46 kX8_198 vX8_letter iX8_letter ⟨by decide, by decide⟩ ⟨rfl, rfl⟩ (by decide) rfl (Nat.le_of_ble_eq_true rfl) h.t (m_letter h (hq.tw tw9) a9 (by omega) ?_)
            refine pw_bipush (v := nI 97) dX8_wiresRead_49 (by decide) ?_
            refine pw_isub dX8_wiresRead_51 ?_
            refine pw_top ej9 ?_
            refine pw_ishl dX8_wiresRead_52 ?_
            refine pw_ior dX8_wiresRead_53 ?_
            refine pw_top (msk_or1 (by decide) hj9) ?_
            refine pw_istore_1 dX8_wiresRead_54 (by decide) ?_
            refine pw_aload_0 dX8_wiresRead_55 ?_
            refine pw_dup dX8_wiresRead_56 ?_
            refine pw_getI 8 11 dX8_wiresRead_57 fX8_192 rfl (by decide) rfl h.t ?_
            refine pw_top a9 ?_
            refine pw_iconst (v := nI 1) dX8_wiresRead_60 (by decide) ?_
            refine pw_iaddN dX8_wiresRead_61 ?_
            refine pw_putI 8 11 dX8_wiresRead_62 fX8_192 rfl (by decide) rfl (Or.inl rfl) rfl (by decide) h.t ?_
            refine pw_gen (P := fun ν => TW m μ ν ∧ ν m 7 = (nI P.2) ∧ ν m 11 = (nI (i9 + 1)) ∧ ν m 12 = ((-6))) ⟨tw9.w (by decide), rdN ((hq.tw tw9).1) (by decide), rdS, rdN w9 (by decide)⟩ (fun μ3 ⟨rl3, mh3c7, mh3c11, mh3c12⟩ => ?_)
            refine pw_goto 7 dX8_wiresRead_65 (by decide) ?_
            have ns9 : ¬ s9 j9 := fun h95 => bi_10 ((msk_bi (by decide) hj9).mpr h95) h2
            have ew9 := (wr_y hj9 (ml_y (by omega) (i32_sub ej9))).2
            have e9 : wsG P (f + 1) s9 i9 = wsG P f (fun v => s9 v ∨ j9 = v) (i9 + 1) := by
              rw [ws_go hd9 (by rw [ew9]; exact ns9), ew9]
            rw [e9] at q9
            exact ih _ (i9 + 1) _ (by rw [cnt_add ns9 hj9]; omega) (by omega) rl3 mh3c11 mh3c12 q9
        · skip
          refine pw_if_eq 68 dX8_wiresRead_26 (by decide) (fun _ => ?_) (fun hh => absurd (by decide) hh)
          refine pw_iload_1 dX8_wiresRead_68 ?_
          refine pw_ireturn dX8_wiresRead_69 rfl ?_
          have e9 : wsG P (f + 1) s9 i9 = (s9, i9) := ws_stop (fun hh => mw_n p9 hh.1)
          rw [e9] at q9
          exact q9 _ tw9 a9 w9
    have e7 : wsG P 6 (fun _ => False) i = wsG P 5 (fun v => False ∨ wrV P i = v) (i + 1) := ws_go hd1 (fun hh => hh)
    have q8 := q1 hd1
    rw [e7] at q8
    exact loop 5 _ (i + 1) _ (by rw [cnt_add (fun hh => hh) (wr_i hd1).1]; omega) (by omega) ((TW.rf : TW m μ μ).tr tw1) a1 w1 q8
  · skip
    refine pw_ishl dX8_wiresRead_5 ?_
    refine pw_top rfl ?_
    refine pw_istore_1 dX8_wiresRead_6 (by decide) ?_
    refine pw_aload_0 dX8_wiresRead_7 ?_
    refine pw_getI 8 12 dX8_wiresRead_8 fX8_195 rfl (by decide) rfl h.t ?_
    refine pw_top w1 ?_
    refine pw_bipush (v := -6) dX8_wiresRead_11 (by decide) ?_
    refine pw_icmp_ne 68 dX8_wiresRead_13 (by decide) (fun _ => ?_) (fun hh => absurd hh (nI_ne6 (by omega)))
    refine pw_iload_1 dX8_wiresRead_68 ?_
    refine pw_ireturn dX8_wiresRead_69 rfl ?_
    exact q0 hd1 _ _ ((TW.rf : TW m μ μ).tr tw1) a1 w1
set_option maxRecDepth 100000 in
set_option maxHeartbeats 4000000 in
theorem m_wiresReadN {X : Cx} {σ : Sp} {μ : Mm} {Q : Int32 → Sp → Mm → Prop} {m i : Nat} {w : Int32} {P : Pd} (h : ShM σ m) (hq : QX μ m P) (ha : μ m 11 = nI i) (hw : μ m 12 = w) (hn : w ≠ -6) (hi : i ≤ 81) (q : ∀ ν x, TW m μ ν → ν m 11 = nI i → ν m 12 = w → Q x σ ν) : CTi X mX8_wiresRead [.ref m] σ μ Q := by
  refine CT.of (by decide +kernel) (Nat.le_of_ble_eq_true rfl) ?_
  show PW X mX8_wiresRead 0 0 0 [some (.ref m), none] [] σ μ (LI Q)
  have h80 := hq.2.1
  refine pw_iconst (v := nI 1) dX8_wiresRead_0 (by decide) ?_
  refine pw_aload_0 dX8_wiresRead_1 ?_
  refine pw_cV0i 8 dX8_wiresRead_2 kX8_208 vX8_wireRead iX8_wireRead ⟨by decide, by decide⟩ ⟨rfl, rfl⟩ (by decide) rfl (Nat.le_of_ble_eq_true rfl) h.t (m_wireReadN h (hq.tw (TW.rf : TW m μ μ)) ha hw hn (by omega) (fun ν1 x1 tw1 a1 w1 => ?_))
  refine pw_ishl dX8_wiresRead_5 ?_
  refine pw_istore_1 dX8_wiresRead_6 (by decide) ?_
  refine pw_aload_0 dX8_wiresRead_7 ?_
  refine pw_getI 8 12 dX8_wiresRead_8 fX8_195 rfl (by decide) rfl h.t ?_
  refine pw_top w1 ?_
  refine pw_bipush (v := -6) dX8_wiresRead_11 (by decide) ?_
  refine pw_icmp_ne 68 dX8_wiresRead_13 (by decide) (fun _ => ?_) (fun hh => absurd hh hn)
  refine pw_iload_1 dX8_wiresRead_68 ?_
  refine pw_ireturn dX8_wiresRead_69 rfl ?_
  exact q _ _ ((TW.rf : TW m μ μ).tr tw1) a1 w1
