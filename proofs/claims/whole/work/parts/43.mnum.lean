/-! Texts of the model: what it reads, in three ways: well, with a fault, behind a fault -/
theorem QX.tw {μ ν : Mm} {m : Nat} {P : Pd} (h : QX μ m P) (k : TW m μ ν) : QX ν m P := ⟨(k.2 7 (by decide) (by decide)).trans h.1, h.2.1, fun j hj => (congrFun (k.1 (m + 6) (by omega)) j).trans (h.2.2 j hj)⟩
theorem wn_ok {ok : Prop} {i : Nat} {w : Int32} (hw : w = -6) (h : ok) : wnG ok (i, w) = (i + 1, -6) := (cif_y (show (i, w).2 = -6 from hw)).trans (by rw [cif_y h])
theorem wn_no {ok : Prop} {i : Nat} {w : Int32} (hw : w = -6) (h : ¬ ok) : wnG ok (i, w) = (i + 1, nI i) := (cif_y (show (i, w).2 = -6 from hw)).trans (by rw [cif_n h])
theorem wn_st {ok : Prop} {i : Nat} {w : Int32} (hw : w ≠ -6) : wnG ok (i, w) = (i, w) := cif_n hw
theorem md_v {P : Pd} {i : Nat} (h : dgT P i) : mlG P i - nI 48 = nI (dgV P i) := by rw [ml_i (dg_i h).2, i32_cs]
theorem mw_v {P : Pd} {i : Nat} (h : wrT P i) : mlG P i - nI 97 = nI (wrV P i) := by rw [ml_i (wr_i h).2, i32_cs]
theorem nI_le0 {v : Nat} (hv : v ≤ 999) (h : nI v ≤ 0) : v = 0 := by
  have h2 : nI v ≤ nI 0 := h
  rw [nI_leI (by omega) (by omega)] at h2
  omega
theorem rdO {ν : Mm} {a b k j : Nat} {x y : Int32} (h : ν b j = y) (hb : b ≠ a) : wr ν a k x b j = y := by
  rw [wr_n _ _ _ hb]
  exact h
theorem m_digit2 {X : Cx} {σ : Sp} {μ : Mm} {Q : Int32 → Sp → Mm → Prop} {m i : Nat} {P : Pd} (h : ShM σ m) (hq : QX μ m P) (ha : μ m 11 = nI i) (hw : μ m 12 = -6) (hi : i ≤ 80) (q1 : dgT P i → ∀ ν, TW m μ ν → ν m 11 = nI (i + 1) → ν m 12 = -6 → Q (nI (dgV P i)) σ ν) (q0 : ¬ dgT P i → ∀ ν x, TW m μ ν → ν m 11 = nI (i + 1) → ν m 12 = nI i → Q x σ ν) : CTi X mX8_digit [.ref m] σ μ Q := by
  refine m_digit h hq ha hw (by omega) (fun ν tw g1 g2 => ?_)
  rcases Classical.em (dgT P i) with d | d
  · rw [wn_ok rfl d] at g1 g2
    rw [md_v d]
    exact q1 d ν tw g1 g2
  · rw [wn_no rfl d] at g1 g2
    exact q0 d ν _ tw g1 g2
theorem m_digitN {X : Cx} {σ : Sp} {μ : Mm} {Q : Int32 → Sp → Mm → Prop} {m i : Nat} {w : Int32} {P : Pd} (h : ShM σ m) (hq : QX μ m P) (ha : μ m 11 = nI i) (hw : μ m 12 = w) (hn : w ≠ -6) (hi : i ≤ 81) (q : ∀ ν x, TW m μ ν → ν m 11 = nI i → ν m 12 = w → Q x σ ν) : CTi X mX8_digit [.ref m] σ μ Q := by
  refine m_digit h hq ha hw hi (fun ν tw g1 g2 => ?_)
  rw [wn_st hn] at g1 g2
  exact q ν _ tw g1 g2
theorem m_wireRead2 {X : Cx} {σ : Sp} {μ : Mm} {Q : Int32 → Sp → Mm → Prop} {m i : Nat} {P : Pd} (h : ShM σ m) (hq : QX μ m P) (ha : μ m 11 = nI i) (hw : μ m 12 = -6) (hi : i ≤ 80) (q1 : wrT P i → ∀ ν, TW m μ ν → ν m 11 = nI (i + 1) → ν m 12 = -6 → Q (nI (wrV P i)) σ ν) (q0 : ¬ wrT P i → ∀ ν x, TW m μ ν → ν m 11 = nI (i + 1) → ν m 12 = nI i → Q x σ ν) : CTi X mX8_wireRead [.ref m] σ μ Q := by
  refine m_wireRead h hq ha hw (by omega) (fun ν tw g1 g2 => ?_)
  rcases Classical.em (wrT P i) with d | d
  · rw [wn_ok rfl d] at g1 g2
    rw [mw_v d]
    exact q1 d ν tw g1 g2
  · rw [wn_no rfl d] at g1 g2
    exact q0 d ν _ tw g1 g2
theorem m_wireReadN {X : Cx} {σ : Sp} {μ : Mm} {Q : Int32 → Sp → Mm → Prop} {m i : Nat} {w : Int32} {P : Pd} (h : ShM σ m) (hq : QX μ m P) (ha : μ m 11 = nI i) (hw : μ m 12 = w) (hn : w ≠ -6) (hi : i ≤ 81) (q : ∀ ν x, TW m μ ν → ν m 11 = nI i → ν m 12 = w → Q x σ ν) : CTi X mX8_wireRead [.ref m] σ μ Q := by
  refine m_wireRead h hq ha hw hi (fun ν tw g1 g2 => ?_)
  rw [wn_st hn] at g1 g2
  exact q ν _ tw g1 g2
theorem m_wantsT {X : Cx} {σ : Sp} {μ : Mm} {Q : Sp → Mm → Prop} {m i : Nat} {x : Int32} (h : ShM σ m) (ha : μ m 11 = nI i) (hw : μ m 12 = -6) (hx : ¬ x = 0) (q : ∀ ν, TW m μ ν → ν m 11 = nI (i + 1) → ν m 12 = -6 → Q σ ν) : CTv X mX8_wants [.ref m, .int x] σ μ Q := by
  refine m_wants h ha hw (ok := True) ⟨fun _ => trivial, fun _ => hx⟩ (fun ν tw g1 g2 => ?_)
  rw [wn_ok rfl trivial] at g1 g2
  exact q ν tw g1 g2
theorem m_wantsF {X : Cx} {σ : Sp} {μ : Mm} {Q : Sp → Mm → Prop} {m i : Nat} (h : ShM σ m) (ha : μ m 11 = nI i) (hw : μ m 12 = -6) (q : ∀ ν, TW m μ ν → ν m 11 = nI (i + 1) → ν m 12 = nI i → Q σ ν) : CTv X mX8_wants [.ref m, .int (nI 0)] σ μ Q := by
  refine m_wants h ha hw (ok := False) ⟨fun hh => hh rfl, fun hh => hh.elim⟩ (fun ν tw g1 g2 => ?_)
  rw [wn_no rfl (fun hh => hh)] at g1 g2
  exact q ν tw g1 g2
theorem m_wantsN {X : Cx} {σ : Sp} {μ : Mm} {Q : Sp → Mm → Prop} {m i : Nat} {x w : Int32} (h : ShM σ m) (ha : μ m 11 = nI i) (hw : μ m 12 = w) (hn : w ≠ -6) (q : ∀ ν, TW m μ ν → ν m 11 = nI i → ν m 12 = w → Q σ ν) : CTv X mX8_wants [.ref m, .int x] σ μ Q := by
  refine m_wants h ha hw (ok := ¬ x = 0) Iff.rfl (fun ν tw g1 g2 => ?_)
  rw [wn_st hn] at g1 g2
  exact q ν tw g1 g2
set_option maxRecDepth 100000 in
set_option maxHeartbeats 4000000 in
theorem m_number2 {X : Cx} {σ : Sp} {μ : Mm} {Q : Int32 → Sp → Mm → Prop} {m i : Nat} {P : Pd} (h : ShM σ m) (hq : QX μ m P) (ha : μ m 11 = nI i) (hw : μ m 12 = -6) (hi : i ≤ 80) (q1 : dgT P i → ∀ ν, TW m μ ν → ν m 11 = nI (nmG P 3 (dgV P i) (i + 1)).2 → ν m 12 = -6 → Q (nI (nmG P 3 (dgV P i) (i + 1)).1) σ ν) (q0 : ¬ dgT P i → ∀ ν x, TW m μ ν → ν m 11 = nI (i + 1) → ν m 12 = nI i → Q x σ ν) : CTi X mX8_number [.ref m] σ μ Q := by
  refine CT.of (by decide +kernel) (Nat.le_of_ble_eq_true rfl) ?_
  show PW X mX8_number 0 0 0 [some (.ref m), none, none] [] σ μ (LI Q)
  have h80 := hq.2.1
  refine pw_aload_0 dX8_number_0 ?_
  refine pw_cV0i 8 dX8_number_1 kX8_205 vX8_digit iX8_digit ⟨by decide, by decide⟩ ⟨rfl, rfl⟩ (by decide) rfl (Nat.le_of_ble_eq_true rfl) h.t (m_digit2 h (hq.tw (TW.rf : TW m μ μ)) ha hw (by omega) (fun hd1 ν1 tw1 a1 w1 => ?_) (fun hd1 ν1 x1 tw1 a1 w1 => ?_))
  · skip
    have hb1 := hd1.1
    refine pw_istore_1 dX8_number_4 (by decide) ?_
    refine pw_aload_0 dX8_number_5 ?_
    refine pw_cV0i 8 dX8_number_6 kX8_198 vX8_letter iX8_letter ⟨by decide, by decide⟩ ⟨rfl, rfl⟩ (by decide) rfl (Nat.le_of_ble_eq_true rfl) h.t (m_letter h (hq.tw ((TW.rf : TW m μ μ).tr tw1)) a1 (by omega) ?_)
    refine pw_bipush (v := nI 48) dX8_number_9 (by decide) ?_
    refine pw_isub dX8_number_11 ?_
    refine pw_istore_2 dX8_number_12 (by decide) ?_
    have loop : ∀ f v i9 ν, (v = 0 ∨ 1000 ≤ v * 10 ^ f) → v ≤ 999 → i9 ≤ 80 → TW m μ ν → ν m 11 = nI i9 → ν m 12 = -6 → (∀ ν', TW m μ ν' → ν' m 11 = nI (nmG P f v i9).2 → ν' m 12 = -6 → Q (nI (nmG P f v i9).1) σ ν') → PW X mX8_number 0 0 13 [some (.ref m), some (.int (nI v)), some (.int (mlG P i9 - nI 48))] [] σ ν (LI Q) := by
      intro f
      induction f with
      | zero =>
        intro v i9 ν hv0 hv hi9 tw9 a9 w9 q9
        refine pw_aload_0 dX8_number_13 ?_
        refine pw_getI 8 12 dX8_number_14 fX8_195 rfl (by decide) rfl h.t ?_
        refine pw_top w9 ?_
        refine pw_bipush (v := -6) dX8_number_17 (by decide) ?_
        refine pw_icmp_ne 76 dX8_number_19 (by decide) (fun hh => absurd rfl hh) (fun _ => ?_)
        refine pw_iload_1 dX8_number_22 ?_
        refine pw_if_le 76 dX8_number_23 (by decide) (fun h1 => ?_) (fun h1 => ?_)
        · skip
          refine pw_iload_1 dX8_number_76 ?_
          refine pw_ireturn dX8_number_77 rfl ?_
          have e9 : nmG P 0 v i9 = (v, i9) := rfl
          rw [e9] at q9
          exact q9 _ tw9 a9 w9
        · skip
          exact absurd (hv0.elim (fun h96 => by rw [h96]; decide) (fun h96 => by omega)) h1
      | succ f ih =>
        intro v i9 ν hv0 hv hi9 tw9 a9 w9 q9
        refine pw_aload_0 dX8_number_13 ?_
        refine pw_getI 8 12 dX8_number_14 fX8_195 rfl (by decide) rfl h.t ?_
        refine pw_top w9 ?_
        refine pw_bipush (v := -6) dX8_number_17 (by decide) ?_
        refine pw_icmp_ne 76 dX8_number_19 (by decide) (fun hh => absurd rfl hh) (fun _ => ?_)
        refine pw_iload_1 dX8_number_22 ?_
        refine pw_if_le 76 dX8_number_23 (by decide) (fun h2 => ?_) (fun h2 => ?_)
        · skip
          refine pw_iload_1 dX8_number_76 ?_
          refine pw_ireturn dX8_number_77 rfl ?_
          have e9 : nmG P (f + 1) v i9 = (v, i9) := cif_n (fun hh => by have h95 := nI_le0 hv h2; omega)
          rw [e9] at q9
          exact q9 _ tw9 a9 w9
        · skip
          refine pw_iload_2 dX8_number_26 ?_
          refine pw_iconst (v := nI 0) dX8_number_27 (by decide) ?_
          refine pw_bipush (v := nI 9) dX8_number_28 (by decide) ?_
          refine pw_cS3i dX8_number_30 kX8_36 vX8_in sX8_in ⟨by decide, by decide⟩ ⟨rfl, rfl⟩ (Nat.le_of_ble_eq_true rfl) (c_X8_in (fun p9 r9 => ?_) (fun p9 => ?_))
          · skip
            have hd9 := md_y p9 r9
            have hb9 := hd9.1
            have hv9 := (dg_i hd9).1
            rw [md_v hd9]
            refine pw_if_eq 76 dX8_number_33 (by decide) (fun hh => absurd hh (by decide)) (fun _ => ?_)
            refine pw_bipush (v := nI 10) dX8_number_36 (by decide) ?_
            refine pw_iload_1 dX8_number_38 ?_
            refine pw_imulN dX8_number_39 ?_
            refine pw_iload_2 dX8_number_40 ?_
            refine pw_iaddN dX8_number_41 ?_
            refine pw_sipush (v := nI 999) dX8_number_42 (by decide) ?_
            refine pw_icmp_gt 76 dX8_number_45 (by decide) (fun h3 => ?_) (fun h3 => ?_)
            · skip
              refine pw_iload_1 dX8_number_76 ?_
              refine pw_ireturn dX8_number_77 rfl ?_
              have e9 : nmG P (f + 1) v i9 = (v, i9) := cif_n (fun hh => by have h95 := h3; rw [nI_ltI (by omega) (by omega)] at h95; omega)
              rw [e9] at q9
              exact q9 _ tw9 a9 w9
            · skip
              refine pw_bipush (v := nI 10) dX8_number_48 (by decide) ?_
              refine pw_iload_1 dX8_number_50 ?_
              refine pw_imulN dX8_number_51 ?_
              refine pw_iload_2 dX8_number_52 ?_
              refine pw_iaddN dX8_number_53 ?_
              refine pw_istore_1 dX8_number_54 (by decide) ?_
              refine pw_aload_0 dX8_number_55 ?_
              refine pw_dup dX8_number_56 ?_
              refine pw_getI 8 11 dX8_number_57 fX8_192 rfl (by decide) rfl h.t ?_
              refine pw_top a9 ?_
              refine pw_iconst (v := nI 1) dX8_number_60 (by decide) ?_
              refine pw_iaddN dX8_number_61 ?_
              refine pw_putI 8 11 dX8_number_62 fX8_192 rfl (by decide) rfl (Or.inl rfl) rfl (by decide) h.t ?_
              refine pw_gen (P := fun ν => TW m μ ν ∧ ν m 7 = (nI P.2) ∧ ν m 11 = (nI (i9 + 1)) ∧ ν m 12 = ((-6))) ⟨tw9.w (by decide), rdN ((hq.tw tw9).1) (by decide), rdS, rdN w9 (by decide)⟩ (fun μ2 ⟨rl2, mh2c7, mh2c11, mh2c12⟩ => ?_)
              refine pw_aload_0 dX8_number_65 ?_
              refine pw_cV0i 8 dX8_number_66 kX8_198 vX8_letter iX8_letter ⟨by decide, by decide⟩ ⟨rfl, rfl⟩ (by decide) rfl (Nat.le_of_ble_eq_true rfl) h.t (m_letter h (hq.tw rl2) mh2c11 (by omega) ?_)
              refine pw_bipush (v := nI 48) dX8_number_69 (by decide) ?_
              refine pw_isub dX8_number_71 ?_
              refine pw_istore_2 dX8_number_72 (by decide) ?_
              refine pw_goto 13 dX8_number_73 (by decide) ?_
              have g9 : 10 * v + dgV P i9 ≤ 999 := by have h95 := h3; rw [nI_ltI (by omega) (by omega)] at h95; omega
              have g8 : 0 < v := Nat.pos_of_ne_zero (fun e => h2 (by rw [e]; decide))
              have e9 : nmG P (f + 1) v i9 = nmG P f (10 * v + dgV P i9) (i9 + 1) := cif_y ⟨g8, hd9, g9⟩
              rw [e9] at q9
              exact ih (10 * v + dgV P i9) (i9 + 1) _ (Or.inr (by have h95 := hv0.resolve_left (by omega); rw [Nat.pow_succ] at h95; rw [Nat.mul_comm 10 v]; exact nm_big h95)) g9 (by omega) rl2 mh2c11 mh2c12 q9
          · skip
            refine pw_if_eq 76 dX8_number_33 (by decide) (fun _ => ?_) (fun hh => absurd (by decide) hh)
            refine pw_iload_1 dX8_number_76 ?_
            refine pw_ireturn dX8_number_77 rfl ?_
            have e9 : nmG P (f + 1) v i9 = (v, i9) := cif_n (fun hh => md_n p9 hh.2.1)
            rw [e9] at q9
            exact q9 _ tw9 a9 w9
    exact loop 3 (dgV P i) (i + 1) _ (by have h95 := (dg_i hd1).1; omega) (by have h95 := (dg_i hd1).1; omega) (by omega) ((TW.rf : TW m μ μ).tr tw1) a1 w1 (q1 hd1)
  · skip
    refine pw_istore_1 dX8_number_4 (by decide) ?_
    refine pw_aload_0 dX8_number_5 ?_
    refine pw_cV0i 8 dX8_number_6 kX8_198 vX8_letter iX8_letter ⟨by decide, by decide⟩ ⟨rfl, rfl⟩ (by decide) rfl (Nat.le_of_ble_eq_true rfl) h.t (m_letter h (hq.tw ((TW.rf : TW m μ μ).tr tw1)) a1 (by omega) ?_)
    refine pw_bipush (v := nI 48) dX8_number_9 (by decide) ?_
    refine pw_isub dX8_number_11 ?_
    refine pw_istore_2 dX8_number_12 (by decide) ?_
    refine pw_aload_0 dX8_number_13 ?_
    refine pw_getI 8 12 dX8_number_14 fX8_195 rfl (by decide) rfl h.t ?_
    refine pw_top w1 ?_
    refine pw_bipush (v := -6) dX8_number_17 (by decide) ?_
    refine pw_icmp_ne 76 dX8_number_19 (by decide) (fun _ => ?_) (fun hh => absurd hh (nI_ne6 (by omega)))
    refine pw_iload_1 dX8_number_76 ?_
    refine pw_ireturn dX8_number_77 rfl ?_
    exact q0 hd1 _ _ ((TW.rf : TW m μ μ).tr tw1) a1 w1
set_option maxRecDepth 100000 in
set_option maxHeartbeats 4000000 in
theorem m_numberN {X : Cx} {σ : Sp} {μ : Mm} {Q : Int32 → Sp → Mm → Prop} {m i : Nat} {w : Int32} {P : Pd} (h : ShM σ m) (hq : QX μ m P) (ha : μ m 11 = nI i) (hw : μ m 12 = w) (hn : w ≠ -6) (hi : i ≤ 81) (q : ∀ ν x, TW m μ ν → ν m 11 = nI i → ν m 12 = w → Q x σ ν) : CTi X mX8_number [.ref m] σ μ Q := by
  refine CT.of (by decide +kernel) (Nat.le_of_ble_eq_true rfl) ?_
  show PW X mX8_number 0 0 0 [some (.ref m), none, none] [] σ μ (LI Q)
  have h80 := hq.2.1
  refine pw_aload_0 dX8_number_0 ?_
  refine pw_cV0i 8 dX8_number_1 kX8_205 vX8_digit iX8_digit ⟨by decide, by decide⟩ ⟨rfl, rfl⟩ (by decide) rfl (Nat.le_of_ble_eq_true rfl) h.t (m_digitN h (hq.tw (TW.rf : TW m μ μ)) ha hw hn (by omega) (fun ν1 x1 tw1 a1 w1 => ?_))
  refine pw_istore_1 dX8_number_4 (by decide) ?_
  refine pw_aload_0 dX8_number_5 ?_
  refine pw_cV0i 8 dX8_number_6 kX8_198 vX8_letter iX8_letter ⟨by decide, by decide⟩ ⟨rfl, rfl⟩ (by decide) rfl (Nat.le_of_ble_eq_true rfl) h.t (m_letter h (hq.tw ((TW.rf : TW m μ μ).tr tw1)) a1 (by omega) ?_)
  refine pw_bipush (v := nI 48) dX8_number_9 (by decide) ?_
  refine pw_isub dX8_number_11 ?_
  refine pw_istore_2 dX8_number_12 (by decide) ?_
  refine pw_aload_0 dX8_number_13 ?_
  refine pw_getI 8 12 dX8_number_14 fX8_195 rfl (by decide) rfl h.t ?_
  refine pw_top w1 ?_
  refine pw_bipush (v := -6) dX8_number_17 (by decide) ?_
  refine pw_icmp_ne 76 dX8_number_19 (by decide) (fun _ => ?_) (fun hh => absurd hh hn)
  refine pw_iload_1 dX8_number_76 ?_
  refine pw_ireturn dX8_number_77 rfl ?_
  exact q _ _ ((TW.rf : TW m μ μ).tr tw1) a1 w1
