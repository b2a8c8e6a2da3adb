/-! What both answer; the model: what there is -/
noncomputable def owF (B : Bs) (v : Nat) (y : Int32) : Int32 := if y = nI 0 then bW B v 0 else if y = nI 1 then bW B v 1 else if y = nI 2 then msk (fun s => atB B s (nI v)) (nS B) else if y = nI 3 then msk (fun s => spB B s ∧ fwB B s = v) (nS B) else if y = nI 4 then nI (smN (fun s => wcB B s (nI v)) (nS B)) else if y = nI 5 then bW B v 2 else if y = nI 6 then bW B v 3 else -2
noncomputable def owR (B : Bs) (x y : Int32) : Int32 := cif (inN 6 x) (owF B (ixN x) y) (-1)
noncomputable def ofR (B : Bs) (x y : Int32) : Int32 := cif (inN (nS B) x) (faF (bS B (ixN x)) y) (-1)
noncomputable def roR (B : Bs) (x r y : Int32) : Int32 := cif (inN (nS B) x ∧ inN (nwF (bS B (ixN x))) r) (cif (inN 3 y) (bS B (ixN x) (5 + 3 * ixN r + ixN y)) (-2)) (-1)
noncomputable def heR (B : Bs) (x r y : Int32) : Int32 := cif (inN (nS B) x ∧ inN (nkF (bS B (ixN x))) r) (cif (inN 4 y) (bS B (ixN x) (24 + 4 * ixN r + ixN y)) (-2)) (-1)
noncomputable def ctF (A : Aw) (y : Int32) : Int32 := if y = nI 0 then bG (aB A) 5 else if y = nI 1 then nI (nS (aB A)) else if y = nI 2 then msk (spB (aB A)) (nS (aB A)) else if y = nI 3 then msk (awB (aB A)) (nS (aB A)) else if y = nI 4 then smI (fun s => bS (aB A) s 4) (nS (aB A)) else if y = nI 5 then smI (fun s => bS (aB A) s 19) (nS (aB A)) else if y = nI 6 then smI (fun s => bS (aB A) s 20) (nS (aB A)) else if y = nI 7 then smI (fun s => bS (aB A) s 22) (nS (aB A)) else if y = nI 8 then msk (fun v => bW (aB A) v 1 = nI 1) 6 else if y = nI 9 then smI (fun s => bS (aB A) s 1) (nS (aB A))
  else if y = nI 10 then bG (aB A) 0 else if y = nI 11 then bG (aB A) 1 else if y = nI 12 then bG (aB A) 2 else if y = nI 13 then bG (aB A) 3 else if y = nI 14 then bG (aB A) 4 else if y = nI 15 then nI (aP A).2 else if y = nI 16 then nI (aH A).2 else -2
noncomputable def whF (B : Bs) (i : Nat) : Int32 := cif (spB B i) (nI 1) (cif (bS B i 3 = nI 1) (nI 2) (cif (bS B i 2 = nI 1) (nI 3) (cif (nwF (bS B i) = 0) (nI 4) (cif (bG B 0 ≤ bW B (fwB B i) 0) (nI 0) (cif (bW B (fwB B i) 1 = nI 1) (nI 5) (nI 6))))))
noncomputable def whR (B : Bs) (x : Int32) : Int32 := cif (inN (nS B) x) (whF B (ixN x)) (-1)
noncomputable def wtB (B : Bs) (v : Nat) : Nat := smN (fun s => wcB B s (nI v)) (nS B)
noncomputable def buS (B : Bs) (v : Nat) (P : Int32 × Nat) : Int32 × Nat := if P.2 < wtB B v then (nI v, wtB B v) else P
noncomputable def buR (B : Bs) : Int32 := (itr (buS B) 6 (-6, 0)).1
theorem if_out {n : Nat} {x : Int32} (hn : n < 2 ^ 30) (h : x.toInt < 0 ∨ (n : Int) < x.toInt) (k : Nat) (hk : k ≤ n) : x ≠ nI k := sw_ne hn h hk
theorem ow_out {B : Bs} {v : Nat} {y : Int32} (h : y.toInt < 0 ∨ ((6 : Nat) : Int) < y.toInt) : owF B v y = -2 := by
  have e := fun k (hk : k ≤ 6) => sw_ne (by decide) h hk
  unfold owF
  rw [if_neg (e 0 (by omega)), if_neg (e 1 (by omega)), if_neg (e 2 (by omega)), if_neg (e 3 (by omega)), if_neg (e 4 (by omega)), if_neg (e 5 (by omega)), if_neg (e 6 (by omega))]
theorem ct_out {A : Aw} {y : Int32} (h : y.toInt < 0 ∨ ((16 : Nat) : Int) < y.toInt) : ctF A y = -2 := by
  have e := fun k (hk : k ≤ 16) => sw_ne (by decide) h hk
  unfold ctF
  rw [if_neg (e 0 (by omega)), if_neg (e 1 (by omega)), if_neg (e 2 (by omega)), if_neg (e 3 (by omega)), if_neg (e 4 (by omega)), if_neg (e 5 (by omega)), if_neg (e 6 (by omega)), if_neg (e 7 (by omega)), if_neg (e 8 (by omega)), if_neg (e 9 (by omega)), if_neg (e 10 (by omega)), if_neg (e 11 (by omega)), if_neg (e 12 (by omega)), if_neg (e 13 (by omega)), if_neg (e 14 (by omega)), if_neg (e 15 (by omega)), if_neg (e 16 (by omega))]
set_option maxRecDepth 100000 in
set_option maxHeartbeats 4000000 in
theorem ms_ofWire {X : Cx} {σ : Sp} {μ : Mm} {Q : Int32 → Sp → Mm → Prop} {m : Nat} {x y : Int32} {A : Aw} (h : ShM σ m) (hx : MX μ m A) (wa : WA A) (q : Q (owR (aB A) x y) σ μ) : CTi X mX8_ofWire [.ref m, .int x, .int y] σ μ Q := by
  refine CT.of (by decide +kernel) (Nat.le_of_ble_eq_true rfl) ?_
  show PW X mX8_ofWire 0 0 0 [some (.ref m), some (.int x), some (.int y)] [] σ μ (LI Q)
  have wf := wa.1.1
  have hz := hx.1
  have hn := wf.hn
  have h8 := wf.n8
  refine pw_mem (wC_id μ (m + 1)).symm ?_
  refine pw_iload_1 dX8_ofWire_0 ?_
  refine pw_cS1i dX8_ofWire_1 kX8_70 vX8_isWire sX8_isWire ⟨by decide, by decide⟩ ⟨rfl, rfl⟩ (Nat.le_of_ble_eq_true rfl) (c_X8_isWire (fun j ej hj => ?_) (fun hno => ?_))
  · skip
    subst ej
    refine pw_if_ne 9 dX8_ofWire_4 (by decide) (fun _ => ?_) (fun hh => absurd hh (by decide))
    refine pw_iload_2 dX8_ofWire_9 ?_
    rcases sw_out (x := y) (n := 6) (by decide) with hsw1 | ⟨ksw, hks, rfl⟩
    · skip
      refine pw_tabOut 86 dX8_ofWire_10 hsw1 (by decide) ?_
      refine pw_bipush (v := -2) dX8_ofWire_86 (by decide) ?_
      refine pw_ireturn dX8_ofWire_88 rfl ?_
      have ei : ixN (nI j) = j := ixN_nI (by omega)
      have e1 : owR (aB A) (nI j) y = -2 := by unfold owR; rw [cif_y (inN_ok hj), ow_out hsw1]
      rw [e1] at q
      rw [wC_id]
      exact q
    · match ksw, hks with
      | 0, _ =>
        refine pw_tabIn 52 dX8_ofWire_10 (by decide) (by decide) rfl (by decide) ?_
        refine pw_aload_0 dX8_ofWire_52 ?_
        refine pw_iload_1 dX8_ofWire_53 ?_
        refine pw_iload_2 dX8_ofWire_54 ?_
        refine pw_cV2i 8 dX8_ofWire_55 kX8_100 vX8_wire iX8_wire ⟨by decide, by decide⟩ ⟨rfl, rfl⟩ (by decide) rfl (Nat.le_of_ble_eq_true rfl) h.t (c_X8_wire h hz (by omega) (by decide) ?_)
        refine pw_ireturn dX8_ofWire_58 rfl ?_
        have ei : ixN (nI j) = j := ixN_nI (by omega)
        have e1 : owR (aB A) (nI j) (nI 0) = bW (aB A) j 0 := by unfold owR; rw [cif_y (inN_ok hj), ei]; rfl
        rw [e1] at q
        rw [wC_id]
        exact q
      | 1, _ =>
        refine pw_tabIn 52 dX8_ofWire_10 (by decide) (by decide) rfl (by decide) ?_
        refine pw_aload_0 dX8_ofWire_52 ?_
        refine pw_iload_1 dX8_ofWire_53 ?_
        refine pw_iload_2 dX8_ofWire_54 ?_
        refine pw_cV2i 8 dX8_ofWire_55 kX8_100 vX8_wire iX8_wire ⟨by decide, by decide⟩ ⟨rfl, rfl⟩ (by decide) rfl (Nat.le_of_ble_eq_true rfl) h.t (c_X8_wire h hz (by omega) (by decide) ?_)
        refine pw_ireturn dX8_ofWire_58 rfl ?_
        have ei : ixN (nI j) = j := ixN_nI (by omega)
        have e1 : owR (aB A) (nI j) (nI 1) = bW (aB A) j 1 := by unfold owR; rw [cif_y (inN_ok hj), ei]; rfl
        rw [e1] at q
        rw [wC_id]
        exact q
      | 2, _ =>
        refine pw_tabIn 59 dX8_ofWire_10 (by decide) (by decide) rfl (by decide) ?_
        refine pw_aload_0 dX8_ofWire_59 ?_
        refine pw_iload_1 dX8_ofWire_60 ?_
        refine pw_cV1i 8 dX8_ofWire_61 kX8_162 vX8_stationsAt iX8_stationsAt ⟨by decide, by decide⟩ ⟨rfl, rfl⟩ (by decide) rfl (Nat.le_of_ble_eq_true rfl) h.t (m_stationsAt h hz wf ?_)
        refine pw_ireturn dX8_ofWire_64 rfl ?_
        have ei : ixN (nI j) = j := ixN_nI (by omega)
        have e1 : owR (aB A) (nI j) (nI 2) = msk (fun s => atB (aB A) s (nI j)) (nS (aB A)) := by unfold owR; rw [cif_y (inN_ok hj), ei]; rfl
        rw [e1] at q
        rw [wC_id]
        exact q
      | 3, _ =>
        refine pw_tabIn 65 dX8_ofWire_10 (by decide) (by decide) rfl (by decide) ?_
        refine pw_aload_0 dX8_ofWire_65 ?_
        refine pw_iload_1 dX8_ofWire_66 ?_
        refine pw_cV1i 8 dX8_ofWire_67 kX8_165 vX8_speakersOn iX8_speakersOn ⟨by decide, by decide⟩ ⟨rfl, rfl⟩ (by decide) rfl (Nat.le_of_ble_eq_true rfl) h.t (m_speakersOn h hz wf hj ?_)
        refine pw_ireturn dX8_ofWire_70 rfl ?_
        have ei : ixN (nI j) = j := ixN_nI (by omega)
        have e1 : owR (aB A) (nI j) (nI 3) = msk (fun s => spB (aB A) s ∧ fwB (aB A) s = j) (nS (aB A)) := by unfold owR; rw [cif_y (inN_ok hj), ei]; rfl
        rw [e1] at q
        rw [wC_id]
        exact q
      | 4, _ =>
        refine pw_tabIn 71 dX8_ofWire_10 (by decide) (by decide) rfl (by decide) ?_
        refine pw_aload_0 dX8_ofWire_71 ?_
        refine pw_iload_1 dX8_ofWire_72 ?_
        refine pw_cV1i 8 dX8_ofWire_73 kX8_168 vX8_waiting iX8_waiting ⟨by decide, by decide⟩ ⟨rfl, rfl⟩ (by decide) rfl (Nat.le_of_ble_eq_true rfl) h.t (m_waiting h hz wf ?_)
        refine pw_ireturn dX8_ofWire_76 rfl ?_
        have ei : ixN (nI j) = j := ixN_nI (by omega)
        have e1 : owR (aB A) (nI j) (nI 4) = nI (smN (fun s => wcB (aB A) s (nI j)) (nS (aB A))) := by unfold owR; rw [cif_y (inN_ok hj), ei]; rfl
        rw [e1] at q
        rw [wC_id]
        exact q
      | 5, _ =>
        refine pw_tabIn 77 dX8_ofWire_10 (by decide) (by decide) rfl (by decide) ?_
        refine pw_aload_0 dX8_ofWire_77 ?_
        refine pw_iload_1 dX8_ofWire_78 ?_
        refine pw_iload_2 dX8_ofWire_79 ?_
        refine pw_iconst (v := nI 3) dX8_ofWire_80 (by decide) ?_
        refine pw_isubN dX8_ofWire_81 (by omega) ?_
        refine pw_cV2i 8 dX8_ofWire_82 kX8_100 vX8_wire iX8_wire ⟨by decide, by decide⟩ ⟨rfl, rfl⟩ (by decide) rfl (Nat.le_of_ble_eq_true rfl) h.t (c_X8_wire h hz (by omega) (by omega) ?_)
        refine pw_ireturn dX8_ofWire_85 rfl ?_
        have ei : ixN (nI j) = j := ixN_nI (by omega)
        have e1 : owR (aB A) (nI j) (nI 5) = bW (aB A) j 2 := by unfold owR; rw [cif_y (inN_ok hj), ei]; rfl
        rw [e1] at q
        rw [wC_id]
        exact q
      | 6, _ =>
        refine pw_tabIn 77 dX8_ofWire_10 (by decide) (by decide) rfl (by decide) ?_
        refine pw_aload_0 dX8_ofWire_77 ?_
        refine pw_iload_1 dX8_ofWire_78 ?_
        refine pw_iload_2 dX8_ofWire_79 ?_
        refine pw_iconst (v := nI 3) dX8_ofWire_80 (by decide) ?_
        refine pw_isubN dX8_ofWire_81 (by omega) ?_
        refine pw_cV2i 8 dX8_ofWire_82 kX8_100 vX8_wire iX8_wire ⟨by decide, by decide⟩ ⟨rfl, rfl⟩ (by decide) rfl (Nat.le_of_ble_eq_true rfl) h.t (c_X8_wire h hz (by omega) (by omega) ?_)
        refine pw_ireturn dX8_ofWire_85 rfl ?_
        have ei : ixN (nI j) = j := ixN_nI (by omega)
        have e1 : owR (aB A) (nI j) (nI 6) = bW (aB A) j 3 := by unfold owR; rw [cif_y (inN_ok hj), ei]; rfl
        rw [e1] at q
        rw [wC_id]
        exact q
      | k + 7, hk => exact absurd hk (by omega)
  · skip
    refine pw_if_ne 9 dX8_ofWire_4 (by decide) (fun hh => absurd hh (by decide)) (fun _ => ?_)
    refine pw_iconst (v := -1) dX8_ofWire_7 (by decide) ?_
    refine pw_ireturn dX8_ofWire_8 rfl ?_
    have e1 : owR (aB A) x y = -1 := cif_n (inN_no hno)
    rw [e1] at q
    rw [wC_id]
    exact q
set_option maxRecDepth 100000 in
set_option maxHeartbeats 4000000 in
theorem ms_of {X : Cx} {σ : Sp} {μ : Mm} {Q : Int32 → Sp → Mm → Prop} {m : Nat} {x y : Int32} {A : Aw} (h : ShM σ m) (hx : MX μ m A) (wa : WA A) (q : Q (ofR (aB A) x y) σ μ) : CTi X mX8_of [.ref m, .int x, .int y] σ μ Q := by
  refine CT.of (by decide +kernel) (Nat.le_of_ble_eq_true rfl) ?_
  show PW X mX8_of 0 0 0 [some (.ref m), some (.int x), some (.int y)] [] σ μ (LI Q)
  have wf := wa.1.1
  have hz := hx.1
  have hn := wf.hn
  have h8 := wf.n8
  refine pw_mem (wC_id μ (m + 1)).symm ?_
  refine pw_aload_0 dX8_of_0 ?_
  refine pw_iload_1 dX8_of_1 ?_
  refine pw_cV1i 8 dX8_of_2 kX8_66 vX8_isStation iX8_isStation ⟨by decide, by decide⟩ ⟨rfl, rfl⟩ (by decide) rfl (Nat.le_of_ble_eq_true rfl) h.t (c_X8_isStation h hz hn h8 (fun j ej hj => ?_) (fun hno => ?_))
  · skip
    subst ej
    refine pw_if_ne 10 dX8_of_5 (by decide) (fun _ => ?_) (fun hh => absurd hh (by decide))
    refine pw_iload_2 dX8_of_10 ?_
    rcases sw_out (x := y) (n := 9) (by decide) with hsw1 | ⟨ksw, hks, rfl⟩
    · skip
      refine pw_tabOut 147 dX8_of_11 hsw1 (by decide) ?_
      refine pw_bipush (v := -2) dX8_of_147 (by decide) ?_
      refine pw_ireturn dX8_of_149 rfl ?_
      have ei : ixN (nI j) = j := ixN_nI (by omega)
      have e1 : ofR (aB A) (nI j) y = -2 := by unfold ofR; rw [cif_y (inN_ok hj), fa_out hsw1]
      rw [e1] at q
      rw [wC_id]
      exact q
    · match ksw, hks with
      | 0, _ =>
        refine pw_tabIn 64 dX8_of_11 (by decide) (by decide) rfl (by decide) ?_
        refine pw_aload_0 dX8_of_64 ?_
        refine pw_iload_1 dX8_of_65 ?_
        refine pw_iload_2 dX8_of_66 ?_
        refine pw_cV2i 8 dX8_of_67 kX8_40 vX8_at iX8_at ⟨by decide, by decide⟩ ⟨rfl, rfl⟩ (by decide) rfl (Nat.le_of_ble_eq_true rfl) h.t (c_X8_at h hz (by omega) (by decide) ?_)
        refine pw_ireturn dX8_of_70 rfl ?_
        have ei : ixN (nI j) = j := ixN_nI (by omega)
        have e1 : ofR (aB A) (nI j) (nI 0) = bS (aB A) j 0 := by unfold ofR; rw [cif_y (inN_ok hj), ei]; rfl
        rw [e1] at q
        rw [wC_id]
        exact q
      | 1, _ =>
        refine pw_tabIn 64 dX8_of_11 (by decide) (by decide) rfl (by decide) ?_
        refine pw_aload_0 dX8_of_64 ?_
        refine pw_iload_1 dX8_of_65 ?_
        refine pw_iload_2 dX8_of_66 ?_
        refine pw_cV2i 8 dX8_of_67 kX8_40 vX8_at iX8_at ⟨by decide, by decide⟩ ⟨rfl, rfl⟩ (by decide) rfl (Nat.le_of_ble_eq_true rfl) h.t (c_X8_at h hz (by omega) (by decide) ?_)
        refine pw_ireturn dX8_of_70 rfl ?_
        have ei : ixN (nI j) = j := ixN_nI (by omega)
        have e1 : ofR (aB A) (nI j) (nI 1) = bS (aB A) j 1 := by unfold ofR; rw [cif_y (inN_ok hj), ei]; rfl
        rw [e1] at q
        rw [wC_id]
        exact q
      | 2, _ =>
        refine pw_tabIn 71 dX8_of_11 (by decide) (by decide) rfl (by decide) ?_
        refine pw_aload_0 dX8_of_71 ?_
        refine pw_iload_1 dX8_of_72 ?_
        refine pw_iconst (v := nI 3) dX8_of_73 (by decide) ?_
        refine pw_cV2i 8 dX8_of_74 kX8_40 vX8_at iX8_at ⟨by decide, by decide⟩ ⟨rfl, rfl⟩ (by decide) rfl (Nat.le_of_ble_eq_true rfl) h.t (c_X8_at h hz (by omega) (by decide) ?_)
        refine pw_iconst (v := nI 1) dX8_of_77 (by decide) ?_
        refine pw_icmp_ne 85 dX8_of_78 (by decide) (fun h1 => ?_) (fun h1 => ?_)
        · skip
          refine pw_aload_0 dX8_of_85 ?_
          refine pw_iload_1 dX8_of_86 ?_
          refine pw_iconst (v := nI 2) dX8_of_87 (by decide) ?_
          refine pw_cV2i 8 dX8_of_88 kX8_40 vX8_at iX8_at ⟨by decide, by decide⟩ ⟨rfl, rfl⟩ (by decide) rfl (Nat.le_of_ble_eq_true rfl) h.t (c_X8_at h hz (by omega) (by decide) ?_)
          refine pw_ireturn dX8_of_91 rfl ?_
          have ei : ixN (nI j) = j := ixN_nI (by omega)
          have e1 : ofR (aB A) (nI j) (nI 2) = bS (aB A) j 2 := by unfold ofR; rw [cif_y (inN_ok hj), ei, fa_2n ((wf.s hj).2.1.2.resolve_right h1)]
          rw [e1] at q
          rw [wC_id]
          exact q
        · skip
          refine pw_iconst (v := nI 2) dX8_of_81 (by decide) ?_
          refine pw_goto 91 dX8_of_82 (by decide) ?_
          refine pw_ireturn dX8_of_91 rfl ?_
          have ei : ixN (nI j) = j := ixN_nI (by omega)
          have e1 : ofR (aB A) (nI j) (nI 2) = nI 2 := by unfold ofR; rw [cif_y (inN_ok hj), ei, fa_2y h1]
          rw [e1] at q
          rw [wC_id]
          exact q
      | 3, _ =>
        refine pw_tabIn 92 dX8_of_11 (by decide) (by decide) rfl (by decide) ?_
        refine pw_aload_0 dX8_of_92 ?_
        refine pw_iload_1 dX8_of_93 ?_
        refine pw_iconst (v := nI 4) dX8_of_94 (by decide) ?_
        refine pw_cV2i 8 dX8_of_95 kX8_40 vX8_at iX8_at ⟨by decide, by decide⟩ ⟨rfl, rfl⟩ (by decide) rfl (Nat.le_of_ble_eq_true rfl) h.t (c_X8_at h hz (by omega) (by decide) ?_)
        refine pw_top (wf.w (by omega)).1 ?_
        refine pw_ireturn dX8_of_98 rfl ?_
        have ei : ixN (nI j) = j := ixN_nI (by omega)
        have e1 : ofR (aB A) (nI j) (nI 3) = nI (nwF (bS (aB A) j)) := by unfold ofR; rw [cif_y (inN_ok hj), ei]; exact (wf.w (by omega)).1
        rw [e1] at q
        rw [wC_id]
        exact q
      | 4, _ =>
        refine pw_tabIn 99 dX8_of_11 (by decide) (by decide) rfl (by decide) ?_
        refine pw_aload_0 dX8_of_99 ?_
        refine pw_iload_1 dX8_of_100 ?_
        refine pw_bipush (v := nI 17) dX8_of_101 (by decide) ?_
        refine pw_cV2i 8 dX8_of_103 kX8_40 vX8_at iX8_at ⟨by decide, by decide⟩ ⟨rfl, rfl⟩ (by decide) rfl (Nat.le_of_ble_eq_true rfl) h.t (c_X8_at h hz (by omega) (by decide) ?_)
        refine pw_ireturn dX8_of_106 rfl ?_
        have ei : ixN (nI j) = j := ixN_nI (by omega)
        have e1 : ofR (aB A) (nI j) (nI 4) = bS (aB A) j 17 := by unfold ofR; rw [cif_y (inN_ok hj), ei]; rfl
        rw [e1] at q
        rw [wC_id]
        exact q
      | 5, _ =>
        refine pw_tabIn 107 dX8_of_11 (by decide) (by decide) rfl (by decide) ?_
        refine pw_aload_0 dX8_of_107 ?_
        refine pw_iload_1 dX8_of_108 ?_
        refine pw_bipush (v := nI 18) dX8_of_109 (by decide) ?_
        refine pw_cV2i 8 dX8_of_111 kX8_40 vX8_at iX8_at ⟨by decide, by decide⟩ ⟨rfl, rfl⟩ (by decide) rfl (Nat.le_of_ble_eq_true rfl) h.t (c_X8_at h hz (by omega) (by decide) ?_)
        refine pw_ireturn dX8_of_114 rfl ?_
        have ei : ixN (nI j) = j := ixN_nI (by omega)
        have e1 : ofR (aB A) (nI j) (nI 5) = bS (aB A) j 18 := by unfold ofR; rw [cif_y (inN_ok hj), ei]; rfl
        rw [e1] at q
        rw [wC_id]
        exact q
      | 6, _ =>
        refine pw_tabIn 115 dX8_of_11 (by decide) (by decide) rfl (by decide) ?_
        refine pw_aload_0 dX8_of_115 ?_
        refine pw_iload_1 dX8_of_116 ?_
        refine pw_bipush (v := nI 19) dX8_of_117 (by decide) ?_
        refine pw_cV2i 8 dX8_of_119 kX8_40 vX8_at iX8_at ⟨by decide, by decide⟩ ⟨rfl, rfl⟩ (by decide) rfl (Nat.le_of_ble_eq_true rfl) h.t (c_X8_at h hz (by omega) (by decide) ?_)
        refine pw_ireturn dX8_of_122 rfl ?_
        have ei : ixN (nI j) = j := ixN_nI (by omega)
        have e1 : ofR (aB A) (nI j) (nI 6) = bS (aB A) j 19 := by unfold ofR; rw [cif_y (inN_ok hj), ei]; rfl
        rw [e1] at q
        rw [wC_id]
        exact q
      | 7, _ =>
        refine pw_tabIn 123 dX8_of_11 (by decide) (by decide) rfl (by decide) ?_
        refine pw_aload_0 dX8_of_123 ?_
        refine pw_iload_1 dX8_of_124 ?_
        refine pw_bipush (v := nI 20) dX8_of_125 (by decide) ?_
        refine pw_cV2i 8 dX8_of_127 kX8_40 vX8_at iX8_at ⟨by decide, by decide⟩ ⟨rfl, rfl⟩ (by decide) rfl (Nat.le_of_ble_eq_true rfl) h.t (c_X8_at h hz (by omega) (by decide) ?_)
        refine pw_ireturn dX8_of_130 rfl ?_
        have ei : ixN (nI j) = j := ixN_nI (by omega)
        have e1 : ofR (aB A) (nI j) (nI 7) = bS (aB A) j 20 := by unfold ofR; rw [cif_y (inN_ok hj), ei]; rfl
        rw [e1] at q
        rw [wC_id]
        exact q
      | 8, _ =>
        refine pw_tabIn 131 dX8_of_11 (by decide) (by decide) rfl (by decide) ?_
        refine pw_aload_0 dX8_of_131 ?_
        refine pw_iload_1 dX8_of_132 ?_
        refine pw_bipush (v := nI 21) dX8_of_133 (by decide) ?_
        refine pw_cV2i 8 dX8_of_135 kX8_40 vX8_at iX8_at ⟨by decide, by decide⟩ ⟨rfl, rfl⟩ (by decide) rfl (Nat.le_of_ble_eq_true rfl) h.t (c_X8_at h hz (by omega) (by decide) ?_)
        refine pw_ireturn dX8_of_138 rfl ?_
        have ei : ixN (nI j) = j := ixN_nI (by omega)
        have e1 : ofR (aB A) (nI j) (nI 8) = bS (aB A) j 21 := by unfold ofR; rw [cif_y (inN_ok hj), ei]; rfl
        rw [e1] at q
        rw [wC_id]
        exact q
      | 9, _ =>
        refine pw_tabIn 139 dX8_of_11 (by decide) (by decide) rfl (by decide) ?_
        refine pw_aload_0 dX8_of_139 ?_
        refine pw_iload_1 dX8_of_140 ?_
        refine pw_bipush (v := nI 22) dX8_of_141 (by decide) ?_
        refine pw_cV2i 8 dX8_of_143 kX8_40 vX8_at iX8_at ⟨by decide, by decide⟩ ⟨rfl, rfl⟩ (by decide) rfl (Nat.le_of_ble_eq_true rfl) h.t (c_X8_at h hz (by omega) (by decide) ?_)
        refine pw_ireturn dX8_of_146 rfl ?_
        have ei : ixN (nI j) = j := ixN_nI (by omega)
        have e1 : ofR (aB A) (nI j) (nI 9) = bS (aB A) j 22 := by unfold ofR; rw [cif_y (inN_ok hj), ei]; rfl
        rw [e1] at q
        rw [wC_id]
        exact q
      | k + 10, hk => exact absurd hk (by omega)
  · skip
    refine pw_if_ne 10 dX8_of_5 (by decide) (fun hh => absurd hh (by decide)) (fun _ => ?_)
    refine pw_iconst (v := -1) dX8_of_8 (by decide) ?_
    refine pw_ireturn dX8_of_9 rfl ?_
    have e1 : ofR (aB A) x y = -1 := cif_n (inN_no hno)
    rw [e1] at q
    rw [wC_id]
    exact q
set_option maxRecDepth 100000 in
set_option maxHeartbeats 4000000 in
theorem ms_count {X : Cx} {σ : Sp} {μ : Mm} {Q : Int32 → Sp → Mm → Prop} {m : Nat} {y : Int32} {A : Aw} (h : ShM σ m) (hx : MX μ m A) (wa : WA A) (q : Q (ctF A y) σ μ) : CTi X mX8_count [.ref m, .int y] σ μ Q := by
  refine CT.of (by decide +kernel) (Nat.le_of_ble_eq_true rfl) ?_
  show PW X mX8_count 0 0 0 [some (.ref m), some (.int y)] [] σ μ (LI Q)
  have wf := wa.1.1
  have hz := hx.1
  have hn := wf.hn
  have h8 := wf.n8
  refine pw_mem (wC_id μ (m + 1)).symm ?_
  refine pw_iload_1 dX8_count_0 ?_
  rcases sw_out (x := y) (n := 16) (by decide) with hsw1 | ⟨ksw, hks, rfl⟩
  · skip
    refine pw_tabOut 167 dX8_count_1 hsw1 (by decide) ?_
    refine pw_bipush (v := -2) dX8_count_167 (by decide) ?_
    refine pw_ireturn dX8_count_169 rfl ?_
    have e1 : ctF A y = -2 := ct_out hsw1
    rw [e1] at q
    rw [wC_id]
    exact q
  · match ksw, hks with
    | 0, _ =>
      refine pw_tabIn 84 dX8_count_1 (by decide) (by decide) rfl (by decide) ?_
      refine pw_aload_0 dX8_count_84 ?_
      refine pw_getr 8 0 dX8_count_85 fX8_7 rfl (by decide) rfl h.t h.r0 ?_
      refine pw_iconst (v := nI 5) dX8_count_88 (by decide) ?_
      refine pw_ialdN dX8_count_89 h.a1 (by omega) (by decide) ?_
      refine pw_top (show _ = bG ((aB A)) 5 from by rw [wC_self, hz.g (by decide)]) ?_
      refine pw_ireturn dX8_count_90 rfl ?_
      rw [wC_id]
      exact q
    | 1, _ =>
      refine pw_tabIn 91 dX8_count_1 (by decide) (by decide) rfl (by decide) ?_
      refine pw_aload_0 dX8_count_91 ?_
      refine pw_getr 8 0 dX8_count_92 fX8_7 rfl (by decide) rfl h.t h.r0 ?_
      refine pw_bipush (v := nI 6) dX8_count_95 (by decide) ?_
      refine pw_ialdN dX8_count_97 h.a1 (by omega) (by decide) ?_
      refine pw_top (show _ = nI (nS (aB A)) from by rw [wC_self, hz.g (by decide)]; exact hn) ?_
      refine pw_ireturn dX8_count_98 rfl ?_
      rw [wC_id]
      exact q
    | 2, _ =>
      refine pw_tabIn 99 dX8_count_1 (by decide) (by decide) rfl (by decide) ?_
      refine pw_aload_0 dX8_count_99 ?_
      refine pw_cV0i 8 dX8_count_100 kX8_171 vX8_speakers iX8_speakers ⟨by decide, by decide⟩ ⟨rfl, rfl⟩ (by decide) rfl (Nat.le_of_ble_eq_true rfl) h.t (m_speakers h hz wf ?_)
      refine pw_ireturn dX8_count_103 rfl ?_
      rw [wC_id]
      exact q
    | 3, _ =>
      refine pw_tabIn 104 dX8_count_1 (by decide) (by decide) rfl (by decide) ?_
      refine pw_aload_0 dX8_count_104 ?_
      refine pw_cV0i 8 dX8_count_105 kX8_174 vX8_awake iX8_awake ⟨by decide, by decide⟩ ⟨rfl, rfl⟩ (by decide) rfl (Nat.le_of_ble_eq_true rfl) h.t (m_awake h hz wf ?_)
      refine pw_ireturn dX8_count_108 rfl ?_
      rw [wC_id]
      exact q
    | 4, _ =>
      refine pw_tabIn 109 dX8_count_1 (by decide) (by decide) rfl (by decide) ?_
      refine pw_aload_0 dX8_count_109 ?_
      refine pw_iconst (v := nI 4) dX8_count_110 (by decide) ?_
      refine pw_cV1i 8 dX8_count_111 kX8_177 vX8_sum iX8_sum ⟨by decide, by decide⟩ ⟨rfl, rfl⟩ (by decide) rfl (Nat.le_of_ble_eq_true rfl) h.t (m_sum h hz wf (by decide) ?_)
      refine pw_ireturn dX8_count_114 rfl ?_
      rw [wC_id]
      exact q
    | 5, _ =>
      refine pw_tabIn 115 dX8_count_1 (by decide) (by decide) rfl (by decide) ?_
      refine pw_aload_0 dX8_count_115 ?_
      refine pw_bipush (v := nI 19) dX8_count_116 (by decide) ?_
      refine pw_cV1i 8 dX8_count_118 kX8_177 vX8_sum iX8_sum ⟨by decide, by decide⟩ ⟨rfl, rfl⟩ (by decide) rfl (Nat.le_of_ble_eq_true rfl) h.t (m_sum h hz wf (by decide) ?_)
      refine pw_ireturn dX8_count_121 rfl ?_
      rw [wC_id]
      exact q
    | 6, _ =>
      refine pw_tabIn 122 dX8_count_1 (by decide) (by decide) rfl (by decide) ?_
      refine pw_aload_0 dX8_count_122 ?_
      refine pw_bipush (v := nI 20) dX8_count_123 (by decide) ?_
      refine pw_cV1i 8 dX8_count_125 kX8_177 vX8_sum iX8_sum ⟨by decide, by decide⟩ ⟨rfl, rfl⟩ (by decide) rfl (Nat.le_of_ble_eq_true rfl) h.t (m_sum h hz wf (by decide) ?_)
      refine pw_ireturn dX8_count_128 rfl ?_
      rw [wC_id]
      exact q
    | 7, _ =>
      refine pw_tabIn 129 dX8_count_1 (by decide) (by decide) rfl (by decide) ?_
      refine pw_aload_0 dX8_count_129 ?_
      refine pw_bipush (v := nI 22) dX8_count_130 (by decide) ?_
      refine pw_cV1i 8 dX8_count_132 kX8_177 vX8_sum iX8_sum ⟨by decide, by decide⟩ ⟨rfl, rfl⟩ (by decide) rfl (Nat.le_of_ble_eq_true rfl) h.t (m_sum h hz wf (by decide) ?_)
      refine pw_ireturn dX8_count_135 rfl ?_
      rw [wC_id]
      exact q
    | 8, _ =>
      refine pw_tabIn 136 dX8_count_1 (by decide) (by decide) rfl (by decide) ?_
      refine pw_aload_0 dX8_count_136 ?_
      refine pw_cV0i 8 dX8_count_137 kX8_180 vX8_faults iX8_faults ⟨by decide, by decide⟩ ⟨rfl, rfl⟩ (by decide) rfl (Nat.le_of_ble_eq_true rfl) h.t (m_faults h hz wf ?_)
      refine pw_ireturn dX8_count_140 rfl ?_
      rw [wC_id]
      exact q
    | 9, _ =>
      refine pw_tabIn 141 dX8_count_1 (by decide) (by decide) rfl (by decide) ?_
      refine pw_aload_0 dX8_count_141 ?_
      refine pw_iconst (v := nI 1) dX8_count_142 (by decide) ?_
      refine pw_cV1i 8 dX8_count_143 kX8_177 vX8_sum iX8_sum ⟨by decide, by decide⟩ ⟨rfl, rfl⟩ (by decide) rfl (Nat.le_of_ble_eq_true rfl) h.t (m_sum h hz wf (by decide) ?_)
      refine pw_ireturn dX8_count_146 rfl ?_
      rw [wC_id]
      exact q
    | 10, _ =>
      refine pw_tabIn 147 dX8_count_1 (by decide) (by decide) rfl (by decide) ?_
      refine pw_aload_0 dX8_count_147 ?_
      refine pw_getr 8 0 dX8_count_148 fX8_7 rfl (by decide) rfl h.t h.r0 ?_
      refine pw_iload_1 dX8_count_151 ?_
      refine pw_bipush (v := nI 10) dX8_count_152 (by decide) ?_
      refine pw_isubN dX8_count_154 (by omega) ?_
      refine pw_ialdN dX8_count_155 h.a1 (by omega) (by decide) ?_
      refine pw_top (show _ = bG (aB A) 0 by rw [wC_self]; exact hz.g (by decide)) ?_
      refine pw_ireturn dX8_count_156 rfl ?_
      rw [wC_id]
      exact q
    | 11, _ =>
      refine pw_tabIn 147 dX8_count_1 (by decide) (by decide) rfl (by decide) ?_
      refine pw_aload_0 dX8_count_147 ?_
      refine pw_getr 8 0 dX8_count_148 fX8_7 rfl (by decide) rfl h.t h.r0 ?_
      refine pw_iload_1 dX8_count_151 ?_
      refine pw_bipush (v := nI 10) dX8_count_152 (by decide) ?_
      refine pw_isubN dX8_count_154 (by omega) ?_
      refine pw_ialdN dX8_count_155 h.a1 (by omega) (by decide) ?_
      refine pw_top (show _ = bG (aB A) 1 by rw [wC_self]; exact hz.g (by decide)) ?_
      refine pw_ireturn dX8_count_156 rfl ?_
      rw [wC_id]
      exact q
    | 12, _ =>
      refine pw_tabIn 147 dX8_count_1 (by decide) (by decide) rfl (by decide) ?_
      refine pw_aload_0 dX8_count_147 ?_
      refine pw_getr 8 0 dX8_count_148 fX8_7 rfl (by decide) rfl h.t h.r0 ?_
      refine pw_iload_1 dX8_count_151 ?_
      refine pw_bipush (v := nI 10) dX8_count_152 (by decide) ?_
      refine pw_isubN dX8_count_154 (by omega) ?_
      refine pw_ialdN dX8_count_155 h.a1 (by omega) (by decide) ?_
      refine pw_top (show _ = bG (aB A) 2 by rw [wC_self]; exact hz.g (by decide)) ?_
      refine pw_ireturn dX8_count_156 rfl ?_
      rw [wC_id]
      exact q
    | 13, _ =>
      refine pw_tabIn 147 dX8_count_1 (by decide) (by decide) rfl (by decide) ?_
      refine pw_aload_0 dX8_count_147 ?_
      refine pw_getr 8 0 dX8_count_148 fX8_7 rfl (by decide) rfl h.t h.r0 ?_
      refine pw_iload_1 dX8_count_151 ?_
      refine pw_bipush (v := nI 10) dX8_count_152 (by decide) ?_
      refine pw_isubN dX8_count_154 (by omega) ?_
      refine pw_ialdN dX8_count_155 h.a1 (by omega) (by decide) ?_
      refine pw_top (show _ = bG (aB A) 3 by rw [wC_self]; exact hz.g (by decide)) ?_
      refine pw_ireturn dX8_count_156 rfl ?_
      rw [wC_id]
      exact q
    | 14, _ =>
      refine pw_tabIn 147 dX8_count_1 (by decide) (by decide) rfl (by decide) ?_
      refine pw_aload_0 dX8_count_147 ?_
      refine pw_getr 8 0 dX8_count_148 fX8_7 rfl (by decide) rfl h.t h.r0 ?_
      refine pw_iload_1 dX8_count_151 ?_
      refine pw_bipush (v := nI 10) dX8_count_152 (by decide) ?_
      refine pw_isubN dX8_count_154 (by omega) ?_
      refine pw_ialdN dX8_count_155 h.a1 (by omega) (by decide) ?_
      refine pw_top (show _ = bG (aB A) 4 by rw [wC_self]; exact hz.g (by decide)) ?_
      refine pw_ireturn dX8_count_156 rfl ?_
      rw [wC_id]
      exact q
    | 15, _ =>
      refine pw_tabIn 157 dX8_count_1 (by decide) (by decide) rfl (by decide) ?_
      refine pw_aload_0 dX8_count_157 ?_
      refine pw_getI 8 7 dX8_count_158 fX8_183 rfl (by decide) rfl h.t ?_
      refine pw_top (show _ = nI (aP A).2 by rw [wC_ne _ _ (by omega)]; exact hx.2.2.2.1) ?_
      refine pw_ireturn dX8_count_161 rfl ?_
      rw [wC_id]
      exact q
    | 16, _ =>
      refine pw_tabIn 162 dX8_count_1 (by decide) (by decide) rfl (by decide) ?_
      refine pw_aload_0 dX8_count_162 ?_
      refine pw_getI 8 2 dX8_count_163 fX8_44 rfl (by decide) rfl h.t ?_
      refine pw_top (show _ = nI (aH A).2 by rw [wC_ne _ _ (by omega)]; exact hx.2.1.1) ?_
      refine pw_ireturn dX8_count_166 rfl ?_
      rw [wC_id]
      exact q
    | k + 17, hk => exact absurd hk (by omega)
set_option maxRecDepth 100000 in
set_option maxHeartbeats 4000000 in
theorem ms_why {X : Cx} {σ : Sp} {μ : Mm} {Q : Int32 → Sp → Mm → Prop} {m : Nat} {x : Int32} {A : Aw} (h : ShM σ m) (hx : MX μ m A) (wa : WA A) (q : Q (whR (aB A) x) σ μ) : CTi X mX8_why [.ref m, .int x] σ μ Q := by
  refine CT.of (by decide +kernel) (Nat.le_of_ble_eq_true rfl) ?_
  show PW X mX8_why 0 0 0 [some (.ref m), some (.int x)] [] σ μ (LI Q)
  have wf := wa.1.1
  have hz := hx.1
  have hn := wf.hn
  have h8 := wf.n8
  refine pw_mem (wC_id μ (m + 1)).symm ?_
  refine pw_aload_0 dX8_why_0 ?_
  refine pw_iload_1 dX8_why_1 ?_
  refine pw_cV1i 8 dX8_why_2 kX8_66 vX8_isStation iX8_isStation ⟨by decide, by decide⟩ ⟨rfl, rfl⟩ (by decide) rfl (Nat.le_of_ble_eq_true rfl) h.t (c_X8_isStation h hz hn h8 (fun j ej hj => ?_) (fun hno => ?_))
  · skip
    subst ej
    refine pw_if_ne 10 dX8_why_5 (by decide) (fun _ => ?_) (fun hh => absurd hh (by decide))
    refine pw_aload_0 dX8_why_10 ?_
    refine pw_iload_1 dX8_why_11 ?_
    refine pw_cV1i 8 dX8_why_12 kX8_109 vX8_speaks iX8_speaks ⟨by decide, by decide⟩ ⟨rfl, rfl⟩ (by decide) rfl (Nat.le_of_ble_eq_true rfl) h.t (c_X8_speaks h hz (by omega) (fun h1 => ?_) (fun h2 => ?_))
    · skip
      refine pw_if_eq 20 dX8_why_15 (by decide) (fun hh => absurd hh (by decide)) (fun _ => ?_)
      refine pw_iconst (v := nI 1) dX8_why_18 (by decide) ?_
      refine pw_ireturn dX8_why_19 rfl ?_
      have ei : ixN (nI j) = j := ixN_nI (by omega)
      have e1 : whR (aB A) (nI j) = nI 1 := by unfold whR whF; rw [cif_y (inN_ok hj), ei, cif_y h1]
      rw [e1] at q
      rw [wC_id]
      exact q
    · skip
      refine pw_if_eq 20 dX8_why_15 (by decide) (fun _ => ?_) (fun hh => absurd (by decide) hh)
      refine pw_aload_0 dX8_why_20 ?_
      refine pw_iload_1 dX8_why_21 ?_
      refine pw_cV1i 8 dX8_why_22 kX8_121 vX8_isAwake iX8_isAwake ⟨by decide, by decide⟩ ⟨rfl, rfl⟩ (by decide) rfl (Nat.le_of_ble_eq_true rfl) h.t (c_X8_isAwake h hz (by omega) (fun h3 => ?_) (fun h4 => ?_))
      · skip
        refine pw_if_ne 44 dX8_why_25 (by decide) (fun _ => ?_) (fun hh => absurd hh (by decide))
        refine pw_aload_0 dX8_why_44 ?_
        refine pw_iload_1 dX8_why_45 ?_
        refine pw_iconst (v := nI 4) dX8_why_46 (by decide) ?_
        refine pw_cV2i 8 dX8_why_47 kX8_40 vX8_at iX8_at ⟨by decide, by decide⟩ ⟨rfl, rfl⟩ (by decide) rfl (Nat.le_of_ble_eq_true rfl) h.t (c_X8_at h hz (by omega) (by decide) ?_)
        refine pw_top (wf.w (by omega)).1 ?_
        refine pw_if_ne 55 dX8_why_50 (by decide) (fun h5 => ?_) (fun h5 => ?_)
        · skip
          obtain ⟨-, y, y6, hy⟩ := (wf.s hj).word (r := 0) (Nat.pos_of_ne_zero (fun e => h5 (by rw [e]; rfl)))
          have hy : bS (aB A) j 6 = nI y := hy
          refine pw_aload_0 dX8_why_55 ?_
          refine pw_aload_0 dX8_why_56 ?_
          refine pw_iload_1 dX8_why_57 ?_
          refine pw_cV1i 8 dX8_why_58 kX8_90 vX8_firstWire iX8_firstWire ⟨by decide, by decide⟩ ⟨rfl, rfl⟩ (by decide) rfl (Nat.le_of_ble_eq_true rfl) h.t (c_X8_firstWire h hz (by omega) ?_)
          refine pw_top hy ?_
          refine pw_iconst (v := nI 0) dX8_why_61 (by decide) ?_
          refine pw_cV2i 8 dX8_why_62 kX8_100 vX8_wire iX8_wire ⟨by decide, by decide⟩ ⟨rfl, rfl⟩ (by decide) rfl (Nat.le_of_ble_eq_true rfl) h.t (c_X8_wire h hz (by omega) (by decide) ?_)
          refine pw_aload_0 dX8_why_65 ?_
          refine pw_getr 8 0 dX8_why_66 fX8_7 rfl (by decide) rfl h.t h.r0 ?_
          refine pw_iconst (v := nI 0) dX8_why_69 (by decide) ?_
          refine pw_ialdN dX8_why_70 h.a1 (by omega) (by decide) ?_
          refine pw_top (show _ = bG ((aB A)) 0 from by rw [wC_self, hz.g (by decide)]) ?_
          refine pw_icmp_lt 78 dX8_why_71 (by decide) (fun h6 => ?_) (fun h6 => ?_)
          · skip
            refine pw_aload_0 dX8_why_78 ?_
            refine pw_aload_0 dX8_why_79 ?_
            refine pw_iload_1 dX8_why_80 ?_
            refine pw_cV1i 8 dX8_why_81 kX8_90 vX8_firstWire iX8_firstWire ⟨by decide, by decide⟩ ⟨rfl, rfl⟩ (by decide) rfl (Nat.le_of_ble_eq_true rfl) h.t (c_X8_firstWire h hz (by omega) ?_)
            refine pw_top hy ?_
            refine pw_iconst (v := nI 1) dX8_why_84 (by decide) ?_
            refine pw_cV2i 8 dX8_why_85 kX8_100 vX8_wire iX8_wire ⟨by decide, by decide⟩ ⟨rfl, rfl⟩ (by decide) rfl (Nat.le_of_ble_eq_true rfl) h.t (c_X8_wire h hz (by omega) (by decide) ?_)
            refine pw_iconst (v := nI 1) dX8_why_88 (by decide) ?_
            refine pw_icmp_ne 96 dX8_why_89 (by decide) (fun h7 => ?_) (fun h7 => ?_)
            · skip
              refine pw_bipush (v := nI 6) dX8_why_96 (by decide) ?_
              refine pw_ireturn dX8_why_98 rfl ?_
              have ei : ixN (nI j) = j := ixN_nI (by omega)
              have e1 : whR (aB A) (nI j) = nI 6 := by unfold whR whF; rw [cif_y (inN_ok hj), ei, cif_n h2, cif_n (fun e => absurd (e.symm.trans h3.2) (by decide)), cif_n (fun e => absurd (e.symm.trans h3.1) (by decide)), cif_n (fun e => h5 (by rw [e]; rfl)), fw_of hy y6, cif_n (Int32.not_le.mpr h6), cif_n h7]
              rw [e1] at q
              rw [wC_id]
              exact q
            · skip
              refine pw_iconst (v := nI 5) dX8_why_92 (by decide) ?_
              refine pw_goto 98 dX8_why_93 (by decide) ?_
              refine pw_ireturn dX8_why_98 rfl ?_
              have ei : ixN (nI j) = j := ixN_nI (by omega)
              have e1 : whR (aB A) (nI j) = nI 5 := by unfold whR whF; rw [cif_y (inN_ok hj), ei, cif_n h2, cif_n (fun e => absurd (e.symm.trans h3.2) (by decide)), cif_n (fun e => absurd (e.symm.trans h3.1) (by decide)), cif_n (fun e => h5 (by rw [e]; rfl)), fw_of hy y6, cif_n (Int32.not_le.mpr h6), cif_y h7]
              rw [e1] at q
              rw [wC_id]
              exact q
          · skip
            refine pw_iconst (v := nI 0) dX8_why_74 (by decide) ?_
            refine pw_goto 98 dX8_why_75 (by decide) ?_
            refine pw_ireturn dX8_why_98 rfl ?_
            have ei : ixN (nI j) = j := ixN_nI (by omega)
            have e1 : whR (aB A) (nI j) = nI 0 := by unfold whR whF; rw [cif_y (inN_ok hj), ei, cif_n h2, cif_n (fun e => absurd (e.symm.trans h3.2) (by decide)), cif_n (fun e => absurd (e.symm.trans h3.1) (by decide)), cif_n (fun e => h5 (by rw [e]; rfl)), fw_of hy y6, cif_y (Int32.not_lt.mp h6)]
            rw [e1] at q
            rw [wC_id]
            exact q
        · skip
          refine pw_iconst (v := nI 4) dX8_why_53 (by decide) ?_
          refine pw_ireturn dX8_why_54 rfl ?_
          have ei : ixN (nI j) = j := ixN_nI (by omega)
          have hw9 := (wf.w (i := j) (by omega)).2
          have e1 : whR (aB A) (nI j) = nI 4 := by unfold whR whF; rw [cif_y (inN_ok hj), ei, cif_n h2, cif_n (fun e => absurd (e.symm.trans h3.2) (by decide)), cif_n (fun e => absurd (e.symm.trans h3.1) (by decide)), cif_y (show nwF (bS (aB A) j) = 0 from (nI_eq (by omega) (by omega)).mp h5)]
          rw [e1] at q
          rw [wC_id]
          exact q
      · skip
        refine pw_if_ne 44 dX8_why_25 (by decide) (fun hh => absurd hh (by decide)) (fun _ => ?_)
        refine pw_aload_0 dX8_why_28 ?_
        refine pw_iload_1 dX8_why_29 ?_
        refine pw_iconst (v := nI 3) dX8_why_30 (by decide) ?_
        refine pw_cV2i 8 dX8_why_31 kX8_40 vX8_at iX8_at ⟨by decide, by decide⟩ ⟨rfl, rfl⟩ (by decide) rfl (Nat.le_of_ble_eq_true rfl) h.t (c_X8_at h hz (by omega) (by decide) ?_)
        refine pw_iconst (v := nI 1) dX8_why_34 (by decide) ?_
        refine pw_icmp_ne 42 dX8_why_35 (by decide) (fun h8 => ?_) (fun h8 => ?_)
        · skip
          refine pw_iconst (v := nI 3) dX8_why_42 (by decide) ?_
          refine pw_ireturn dX8_why_43 rfl ?_
          have ei : ixN (nI j) = j := ixN_nI (by omega)
          have z9 := (wf.s hj).2.1
          have ea : bS (aB A) j 2 = nI 1 := z9.1.resolve_left (fun e => h4 ⟨e, z9.2.resolve_right h8⟩)
          have e1 : whR (aB A) (nI j) = nI 3 := by unfold whR whF; rw [cif_y (inN_ok hj), ei, cif_n h2, cif_n h8, cif_y ea]
          rw [e1] at q
          rw [wC_id]
          exact q
        · skip
          refine pw_iconst (v := nI 2) dX8_why_38 (by decide) ?_
          refine pw_goto 43 dX8_why_39 (by decide) ?_
          refine pw_ireturn dX8_why_43 rfl ?_
          have ei : ixN (nI j) = j := ixN_nI (by omega)
          have e1 : whR (aB A) (nI j) = nI 2 := by unfold whR whF; rw [cif_y (inN_ok hj), ei, cif_n h2, cif_y h8]
          rw [e1] at q
          rw [wC_id]
          exact q
  · skip
    refine pw_if_ne 10 dX8_why_5 (by decide) (fun hh => absurd hh (by decide)) (fun _ => ?_)
    refine pw_iconst (v := -1) dX8_why_8 (by decide) ?_
    refine pw_ireturn dX8_why_9 rfl ?_
    have e1 : whR (aB A) x = -1 := cif_n (inN_no hno)
    rw [e1] at q
    rw [wC_id]
    exact q
theorem in_w1 {r : Int32} {w : Nat} (hw : w ≤ 4) (h0 : ¬ r < nI 0) (h1 : ¬ nI w - nI 1 < r) : ∃ e, e < w ∧ r = nI e := by
  obtain ⟨e, he, rfl⟩ := nI_of h0
  refine ⟨e, ?_, rfl⟩
  rcases Nat.lt_or_ge e w with q | q
  · exact q
  · refine absurd ?_ h1
    rcases Nat.eq_zero_or_pos w with rfl | hp
    · exact Int32.lt_of_lt_of_le (show nI 0 - nI 1 < nI 0 by decide) (nI_pos' he)
    · rw [pk_sub hp, nI_ltI (by omega) he]
      omega
theorem in_w0 {r : Int32} {w : Nat} (hw : w ≤ 4) (h : r < nI 0 ∨ nI w - nI 1 < r) : ∀ e, e < w → r ≠ nI e := by
  rintro e he rfl
  rcases h with h | h
  · exact nI_pos (by omega) h
  · rw [pk_sub (by omega), nI_ltI (by omega) (by omega)] at h
    omega
set_option maxRecDepth 100000 in
set_option maxHeartbeats 4000000 in
theorem ms_row {X : Cx} {σ : Sp} {μ : Mm} {Q : Int32 → Sp → Mm → Prop} {m : Nat} {x r y : Int32} {A : Aw} (h : ShM σ m) (hx : MX μ m A) (wa : WA A) (q : Q (roR (aB A) x r y) σ μ) : CTi X mX8_row [.ref m, .int x, .int r, .int y] σ μ Q := by
  refine CT.of (by decide +kernel) (Nat.le_of_ble_eq_true rfl) ?_
  show PW X mX8_row 0 0 0 [some (.ref m), some (.int x), some (.int r), some (.int y)] [] σ μ (LI Q)
  have wf := wa.1.1
  have hz := hx.1
  have hn := wf.hn
  have h8 := wf.n8
  refine pw_mem (wC_id μ (m + 1)).symm ?_
  refine pw_aload_0 dX8_row_0 ?_
  refine pw_iload_1 dX8_row_1 ?_
  refine pw_cV1i 8 dX8_row_2 kX8_66 vX8_isStation iX8_isStation ⟨by decide, by decide⟩ ⟨rfl, rfl⟩ (by decide) rfl (Nat.le_of_ble_eq_true rfl) h.t (c_X8_isStation h hz hn h8 (fun j ej hj => ?_) (fun hno => ?_))
  · skip
    subst ej
    refine pw_if_eq 24 dX8_row_5 (by decide) (fun hh => absurd hh (by decide)) (fun _ => ?_)
    have hw4 : nwF (bS (aB A) j) ≤ 4 := (wf.w (i := j) (by omega)).2
    refine pw_iload_2 dX8_row_8 ?_
    refine pw_iconst (v := nI 0) dX8_row_9 (by decide) ?_
    refine pw_aload_0 dX8_row_10 ?_
    refine pw_iload_1 dX8_row_11 ?_
    refine pw_iconst (v := nI 4) dX8_row_12 (by decide) ?_
    refine pw_cV2i 8 dX8_row_13 kX8_40 vX8_at iX8_at ⟨by decide, by decide⟩ ⟨rfl, rfl⟩ (by decide) rfl (Nat.le_of_ble_eq_true rfl) h.t (c_X8_at h hz (by omega) (by decide) ?_)
    refine pw_top (wf.w (by omega)).1 ?_
    refine pw_iconst (v := nI 1) dX8_row_16 (by decide) ?_
    refine pw_isub dX8_row_17 ?_
    refine pw_cS3i dX8_row_18 kX8_36 vX8_in sX8_in ⟨by decide, by decide⟩ ⟨rfl, rfl⟩ (Nat.le_of_ble_eq_true rfl) (c_X8_in (fun hr0 hr1 => ?_) (fun hrn => ?_))
    · skip
      obtain ⟨e, he, rfl⟩ := in_w1 hw4 hr0 hr1
      refine pw_if_ne 26 dX8_row_21 (by decide) (fun _ => ?_) (fun hh => absurd hh (by decide))
      refine pw_iload_3 dX8_row_26 ?_
      refine pw_iconst (v := nI 0) dX8_row_27 (by decide) ?_
      refine pw_iconst (v := nI 2) dX8_row_28 (by decide) ?_
      refine pw_cS3i dX8_row_29 kX8_36 vX8_in sX8_in ⟨by decide, by decide⟩ ⟨rfl, rfl⟩ (Nat.le_of_ble_eq_true rfl) (c_X8_inN (by decide) (by decide) (fun t et htl ht => ?_) (fun hnt => ?_))
      · skip
        subst et
        refine pw_if_eq 50 dX8_row_32 (by decide) (fun hh => absurd hh (by decide)) (fun _ => ?_)
        refine pw_aload_0 dX8_row_35 ?_
        refine pw_iload_1 dX8_row_36 ?_
        refine pw_iconst (v := nI 5) dX8_row_37 (by decide) ?_
        refine pw_iconst (v := nI 3) dX8_row_38 (by decide) ?_
        refine pw_iload_2 dX8_row_39 ?_
        refine pw_imulN dX8_row_40 ?_
        refine pw_iaddN dX8_row_41 ?_
        refine pw_iload_3 dX8_row_42 ?_
        refine pw_iaddN dX8_row_43 ?_
        refine pw_cV2i 8 dX8_row_44 kX8_40 vX8_at iX8_at ⟨by decide, by decide⟩ ⟨rfl, rfl⟩ (by decide) rfl (Nat.le_of_ble_eq_true rfl) h.t (c_X8_at h hz (by omega) (by omega) ?_)
        refine pw_goto 52 dX8_row_47 (by decide) ?_
        refine pw_ireturn dX8_row_52 rfl ?_
        have ei : ixN (nI j) = j := ixN_nI (by omega)
        have ee : ixN (nI e) = e := ixN_nI (by omega)
        have hy : inN (nS (aB A)) (nI j) ∧ inN (nwF (bS (aB A) (ixN (nI j)))) (nI e) := ⟨inN_ok hj, by rw [ei]; exact inN_ok he⟩
        have et : ixN (nI t) = t := ixN_nI (by omega)
        have e1 : roR (aB A) (nI j) (nI e) (nI t) = bS (aB A) j (5 + 3 * e + t) := by unfold roR; rw [cif_y hy, cif_y (inN_ok (show t < 3 by omega)), ei, ee, et]
        rw [e1] at q
        rw [wC_id]
        exact q
      · skip
        refine pw_if_eq 50 dX8_row_32 (by decide) (fun _ => ?_) (fun hh => absurd (by decide) hh)
        refine pw_bipush (v := -2) dX8_row_50 (by decide) ?_
        refine pw_ireturn dX8_row_52 rfl ?_
        have ei : ixN (nI j) = j := ixN_nI (by omega)
        have ee : ixN (nI e) = e := ixN_nI (by omega)
        have hy : inN (nS (aB A)) (nI j) ∧ inN (nwF (bS (aB A) (ixN (nI j)))) (nI e) := ⟨inN_ok hj, by rw [ei]; exact inN_ok he⟩
        have e1 : roR (aB A) (nI j) (nI e) y = -2 := (cif_y hy).trans (cif_n (fun ⟨k, h1, e9⟩ => hnt k (by omega) (by omega) e9))
        rw [e1] at q
        rw [wC_id]
        exact q
    · skip
      refine pw_if_ne 26 dX8_row_21 (by decide) (fun hh => absurd hh (by decide)) (fun _ => ?_)
      refine pw_iconst (v := -1) dX8_row_24 (by decide) ?_
      refine pw_ireturn dX8_row_25 rfl ?_
      have ei : ixN (nI j) = j := ixN_nI (by omega)
      have e1 : roR (aB A) (nI j) r y = -1 := cif_n (fun hh => inN_no (in_w0 hw4 hrn) (by rw [← ei]; exact hh.2))
      rw [e1] at q
      rw [wC_id]
      exact q
  · skip
    refine pw_if_eq 24 dX8_row_5 (by decide) (fun _ => ?_) (fun hh => absurd (by decide) hh)
    refine pw_iconst (v := -1) dX8_row_24 (by decide) ?_
    refine pw_ireturn dX8_row_25 rfl ?_
    have e1 : roR (aB A) x r y = -1 := cif_n (fun hh => inN_no hno hh.1)
    rw [e1] at q
    rw [wC_id]
    exact q
set_option maxRecDepth 100000 in
set_option maxHeartbeats 4000000 in
theorem ms_heard {X : Cx} {σ : Sp} {μ : Mm} {Q : Int32 → Sp → Mm → Prop} {m : Nat} {x r y : Int32} {A : Aw} (h : ShM σ m) (hx : MX μ m A) (wa : WA A) (q : Q (heR (aB A) x r y) σ μ) : CTi X mX8_heard [.ref m, .int x, .int r, .int y] σ μ Q := by
  refine CT.of (by decide +kernel) (Nat.le_of_ble_eq_true rfl) ?_
  show PW X mX8_heard 0 0 0 [some (.ref m), some (.int x), some (.int r), some (.int y)] [] σ μ (LI Q)
  have wf := wa.1.1
  have hz := hx.1
  have hn := wf.hn
  have h8 := wf.n8
  refine pw_mem (wC_id μ (m + 1)).symm ?_
  refine pw_aload_0 dX8_heard_0 ?_
  refine pw_iload_1 dX8_heard_1 ?_
  refine pw_cV1i 8 dX8_heard_2 kX8_66 vX8_isStation iX8_isStation ⟨by decide, by decide⟩ ⟨rfl, rfl⟩ (by decide) rfl (Nat.le_of_ble_eq_true rfl) h.t (c_X8_isStation h hz hn h8 (fun j ej hj => ?_) (fun hno => ?_))
  · skip
    subst ej
    refine pw_if_eq 25 dX8_heard_5 (by decide) (fun hh => absurd hh (by decide)) (fun _ => ?_)
    have hw4 : nkF (bS (aB A) j) ≤ 4 := (wf.k (i := j) (by omega)).2.1
    refine pw_iload_2 dX8_heard_8 ?_
    refine pw_iconst (v := nI 0) dX8_heard_9 (by decide) ?_
    refine pw_aload_0 dX8_heard_10 ?_
    refine pw_iload_1 dX8_heard_11 ?_
    refine pw_bipush (v := nI 23) dX8_heard_12 (by decide) ?_
    refine pw_cV2i 8 dX8_heard_14 kX8_40 vX8_at iX8_at ⟨by decide, by decide⟩ ⟨rfl, rfl⟩ (by decide) rfl (Nat.le_of_ble_eq_true rfl) h.t (c_X8_at h hz (by omega) (by decide) ?_)
    refine pw_top ((wf.k (i := j) (by omega)).1) ?_
    refine pw_iconst (v := nI 1) dX8_heard_17 (by decide) ?_
    refine pw_isub dX8_heard_18 ?_
    refine pw_cS3i dX8_heard_19 kX8_36 vX8_in sX8_in ⟨by decide, by decide⟩ ⟨rfl, rfl⟩ (Nat.le_of_ble_eq_true rfl) (c_X8_in (fun hr0 hr1 => ?_) (fun hrn => ?_))
    · skip
      obtain ⟨e, he, rfl⟩ := in_w1 hw4 hr0 hr1
      refine pw_if_ne 27 dX8_heard_22 (by decide) (fun _ => ?_) (fun hh => absurd hh (by decide))
      refine pw_iload_3 dX8_heard_27 ?_
      refine pw_iconst (v := nI 0) dX8_heard_28 (by decide) ?_
      refine pw_iconst (v := nI 3) dX8_heard_29 (by decide) ?_
      refine pw_cS3i dX8_heard_30 kX8_36 vX8_in sX8_in ⟨by decide, by decide⟩ ⟨rfl, rfl⟩ (Nat.le_of_ble_eq_true rfl) (c_X8_inN (by decide) (by decide) (fun t et htl ht => ?_) (fun hnt => ?_))
      · skip
        subst et
        refine pw_if_eq 52 dX8_heard_33 (by decide) (fun hh => absurd hh (by decide)) (fun _ => ?_)
        refine pw_aload_0 dX8_heard_36 ?_
        refine pw_iload_1 dX8_heard_37 ?_
        refine pw_bipush (v := nI 24) dX8_heard_38 (by decide) ?_
        refine pw_iconst (v := nI 4) dX8_heard_40 (by decide) ?_
        refine pw_iload_2 dX8_heard_41 ?_
        refine pw_imulN dX8_heard_42 ?_
        refine pw_iaddN dX8_heard_43 ?_
        refine pw_iload_3 dX8_heard_44 ?_
        refine pw_iaddN dX8_heard_45 ?_
        refine pw_cV2i 8 dX8_heard_46 kX8_40 vX8_at iX8_at ⟨by decide, by decide⟩ ⟨rfl, rfl⟩ (by decide) rfl (Nat.le_of_ble_eq_true rfl) h.t (c_X8_at h hz (by omega) (by omega) ?_)
        refine pw_goto 54 dX8_heard_49 (by decide) ?_
        refine pw_ireturn dX8_heard_54 rfl ?_
        have ei : ixN (nI j) = j := ixN_nI (by omega)
        have ee : ixN (nI e) = e := ixN_nI (by omega)
        have hy : inN (nS (aB A)) (nI j) ∧ inN (nkF (bS (aB A) (ixN (nI j)))) (nI e) := ⟨inN_ok hj, by rw [ei]; exact inN_ok he⟩
        have et : ixN (nI t) = t := ixN_nI (by omega)
        have e1 : heR (aB A) (nI j) (nI e) (nI t) = bS (aB A) j (24 + 4 * e + t) := by unfold heR; rw [cif_y hy, cif_y (inN_ok (show t < 4 by omega)), ei, ee, et]
        rw [e1] at q
        rw [wC_id]
        exact q
      · skip
        refine pw_if_eq 52 dX8_heard_33 (by decide) (fun _ => ?_) (fun hh => absurd (by decide) hh)
        refine pw_bipush (v := -2) dX8_heard_52 (by decide) ?_
        refine pw_ireturn dX8_heard_54 rfl ?_
        have ei : ixN (nI j) = j := ixN_nI (by omega)
        have ee : ixN (nI e) = e := ixN_nI (by omega)
        have hy : inN (nS (aB A)) (nI j) ∧ inN (nkF (bS (aB A) (ixN (nI j)))) (nI e) := ⟨inN_ok hj, by rw [ei]; exact inN_ok he⟩
        have e1 : heR (aB A) (nI j) (nI e) y = -2 := (cif_y hy).trans (cif_n (fun ⟨k, h1, e9⟩ => hnt k (by omega) (by omega) e9))
        rw [e1] at q
        rw [wC_id]
        exact q
    · skip
      refine pw_if_ne 27 dX8_heard_22 (by decide) (fun hh => absurd hh (by decide)) (fun _ => ?_)
      refine pw_iconst (v := -1) dX8_heard_25 (by decide) ?_
      refine pw_ireturn dX8_heard_26 rfl ?_
      have ei : ixN (nI j) = j := ixN_nI (by omega)
      have e1 : heR (aB A) (nI j) r y = -1 := cif_n (fun hh => inN_no (in_w0 hw4 hrn) (by rw [← ei]; exact hh.2))
      rw [e1] at q
      rw [wC_id]
      exact q
  · skip
    refine pw_if_eq 25 dX8_heard_5 (by decide) (fun _ => ?_) (fun hh => absurd (by decide) hh)
    refine pw_iconst (v := -1) dX8_heard_25 (by decide) ?_
    refine pw_ireturn dX8_heard_26 rfl ?_
    have e1 : heR (aB A) x r y = -1 := cif_n (fun hh => inN_no hno hh.1)
    rw [e1] at q
    rw [wC_id]
    exact q
theorem bu_y {B : Bs} {v : Nat} {P : Int32 × Nat} (h : P.2 < wtB B v) : buS B v P = (nI v, wtB B v) := if_pos h
theorem bu_n {B : Bs} {v : Nat} {P : Int32 × Nat} (h : ¬ P.2 < wtB B v) : buS B v P = P := if_neg h
theorem wc_le {B : Bs} {s : Nat} {x : Int32} (wf : WF B) (hs : s < 8) : wcB B s x ≤ 4 := Nat.le_trans (cntP_le _ _) (wf.w hs).2
theorem sm_le {f : Nat → Nat} {c : Nat} : ∀ {n : Nat}, (∀ k, k < n → f k ≤ c) → smN f n ≤ c * n
  | 0, _ => Nat.le_refl _
  | n + 1, h => by
    have ih := sm_le (n := n) fun k hk => h k (by omega)
    have := h n (by omega)
    show smN f n + f n ≤ c * (n + 1)
    rw [Nat.mul_succ]
    omega
theorem wt_le {B : Bs} {v : Nat} (wf : WF B) : wtB B v ≤ 32 := by
  have h8 := wf.n8
  have := sm_le (f := fun s => wcB B s (nI v)) (c := 4) (n := nS B) fun k hk => wc_le wf (by omega)
  have e : wtB B v = smN (fun s => wcB B s (nI v)) (nS B) := rfl
  omega
theorem bu_le {B : Bs} (wf : WF B) : ∀ k, (itr (buS B) k (-6, 0)).2 ≤ 32
  | 0 => by show 0 ≤ 32; omega
  | k + 1 => by
    have ih := bu_le wf k
    show (buS B k (itr (buS B) k (-6, 0))).2 ≤ 32
    generalize itr (buS B) k (-6, 0) = P at ih
    by_cases h : P.2 < wtB B k
    · rw [bu_y h]
      exact wt_le wf
    · rw [bu_n h]
      exact ih
set_option maxRecDepth 100000 in
set_option maxHeartbeats 4000000 in
theorem ms_busiest {X : Cx} {σ : Sp} {μ : Mm} {Q : Int32 → Sp → Mm → Prop} {m : Nat} {A : Aw} (h : ShM σ m) (hx : MX μ m A) (wa : WA A) (q : Q (buR (aB A)) σ μ) : CTi X mX8_busiest [.ref m] σ μ Q := by
  refine CT.of (by decide +kernel) (Nat.le_of_ble_eq_true rfl) ?_
  show PW X mX8_busiest 0 0 0 [some (.ref m), none, none, none, none] [] σ μ (LI Q)
  have wf := wa.1.1
  have hz := hx.1
  have hn := wf.hn
  have h8 := wf.n8
  refine pw_mem (wC_id μ (m + 1)).symm ?_
  refine pw_bipush (v := -6) dX8_busiest_0 (by decide) ?_
  refine pw_istore_1 dX8_busiest_2 (by decide) ?_
  refine pw_iconst (v := nI 0) dX8_busiest_3 (by decide) ?_
  refine pw_istore_2 dX8_busiest_4 (by decide) ?_
  refine pw_iconst (v := nI 0) dX8_busiest_5 (by decide) ?_
  refine pw_istore_3 dX8_busiest_6 (by decide) ?_
  refine pw_fg (ls' := [some (.ref m), some (.int ((itr (buS (aB A)) 0 (-6, 0)).1)), some (.int (nI ((itr (buS (aB A)) 0 (-6, 0)).2))), some (.int (nI 0)), none]) ⟨Or.inr rfl, Or.inr rfl, Or.inr rfl, Or.inr rfl, Or.inl rfl, trivial⟩ ?_
  refine pw_up (P := fun k => PW X mX8_busiest 0 0 7 [some (.ref m), some (.int ((itr (buS (aB A)) k (-6, 0)).1)), some (.int (nI ((itr (buS (aB A)) k (-6, 0)).2))), some (.int (nI k)), none] [] σ (wC μ (m + 1) (μ (m + 1))) (LI Q)) 6 ?_ ?_ 0 (by omega)
  · skip
    refine pw_iload_3 dX8_busiest_7 ?_
    refine pw_bipush (v := nI 6) dX8_busiest_8 (by decide) ?_
    refine pw_icmp_ge 51 dX8_busiest_10 (by decide) (fun _ => ?_) (fun hh => absurd (by rw [nI_leI (by omega) (by omega)]; omega) hh)
    refine pw_iload_1 dX8_busiest_51 ?_
    refine pw_ireturn dX8_busiest_52 rfl ?_
    rw [wC_id]
    exact q
  · intro k hk ih
    have ih2 : PW X mX8_busiest 0 0 7 [some (.ref m), some (.int ((buS (aB A) k (itr (buS (aB A)) k (-6, 0))).1)), some (.int (nI ((buS (aB A) k (itr (buS (aB A)) k (-6, 0))).2))), some (.int (nI ((k + 1)))), none] [] σ (wC μ (m + 1) (μ (m + 1))) (LI Q) := ih
    have hb9 := bu_le wf k
    have hw9 := wt_le (v := k) wf
    have hw8 : smN (fun s => wcB (aB A) s (nI k)) (nS (aB A)) ≤ 32 := hw9
    clear ih
    generalize (itr (buS (aB A)) k (-6, 0)) = C at ih2 hb9 ⊢
    refine pw_iload_3 dX8_busiest_7 ?_
    refine pw_bipush (v := nI 6) dX8_busiest_8 (by decide) ?_
    refine pw_icmp_ge 51 dX8_busiest_10 (by decide) (fun hh => absurd hh (by rw [nI_leI (by omega) (by omega)]; omega)) (fun _ => ?_)
    refine pw_aload_0 dX8_busiest_13 ?_
    refine pw_iload_3 dX8_busiest_14 ?_
    refine pw_cV1i 8 dX8_busiest_15 kX8_168 vX8_waiting iX8_waiting ⟨by decide, by decide⟩ ⟨rfl, rfl⟩ (by decide) rfl (Nat.le_of_ble_eq_true rfl) h.t (m_waiting h hz wf ?_)
    refine pw_istore_4 dX8_busiest_18 (by decide) ?_
    refine pw_iload_4 dX8_busiest_20 ?_
    refine pw_iload_2 dX8_busiest_22 ?_
    refine pw_icmp_le 30 dX8_busiest_23 (by decide) (fun h1 => ?_) (fun h1 => ?_)
    · skip
      refine pw_iload_1 dX8_busiest_30 ?_
      refine pw_istore_1 dX8_busiest_31 (by decide) ?_
      refine pw_iload_4 dX8_busiest_32 ?_
      refine pw_iload_2 dX8_busiest_34 ?_
      refine pw_icmp_le 43 dX8_busiest_35 (by decide) (fun h2 => ?_) (fun h2 => ?_)
      · skip
        refine pw_iload_2 dX8_busiest_43 ?_
        refine pw_istore_2 dX8_busiest_44 (by decide) ?_
        refine pw_iincN_3 dX8_busiest_45 (by decide) ?_
        refine pw_goto 7 dX8_busiest_48 (by decide) ?_
        have hlt : ¬ C.2 < wtB (aB A) k := by
          have h5 := h1
          rw [nI_leI (by omega) (by omega)] at h5
          have : wtB (aB A) k = smN (fun s => wcB (aB A) s (nI k)) (nS (aB A)) := rfl
          omega
        rw [bu_n hlt] at ih2
        refine pw_fg (ls' := [some (.ref m), some (.int C.1), some (.int (nI C.2)), some (.int (nI ((k + 1)))), none]) ⟨Or.inr rfl, Or.inr rfl, Or.inr rfl, Or.inr rfl, Or.inl rfl, trivial⟩ ih2
      · skip
        refine pw_iload_4 dX8_busiest_38 ?_
        refine pw_goto 44 dX8_busiest_40 (by decide) ?_
        refine pw_istore_2 dX8_busiest_44 (by decide) ?_
        refine pw_iincN_3 dX8_busiest_45 (by decide) ?_
        refine pw_goto 7 dX8_busiest_48 (by decide) ?_
        exact absurd (h2) (fun h => h h1)
    · skip
      refine pw_iload_3 dX8_busiest_26 ?_
      refine pw_goto 31 dX8_busiest_27 (by decide) ?_
      refine pw_istore_1 dX8_busiest_31 (by decide) ?_
      refine pw_iload_4 dX8_busiest_32 ?_
      refine pw_iload_2 dX8_busiest_34 ?_
      refine pw_icmp_le 43 dX8_busiest_35 (by decide) (fun h3 => ?_) (fun h3 => ?_)
      · skip
        refine pw_iload_2 dX8_busiest_43 ?_
        refine pw_istore_2 dX8_busiest_44 (by decide) ?_
        refine pw_iincN_3 dX8_busiest_45 (by decide) ?_
        refine pw_goto 7 dX8_busiest_48 (by decide) ?_
        exact absurd (h1) (fun h => h h3)
      · skip
        refine pw_iload_4 dX8_busiest_38 ?_
        refine pw_goto 44 dX8_busiest_40 (by decide) ?_
        refine pw_istore_2 dX8_busiest_44 (by decide) ?_
        refine pw_iincN_3 dX8_busiest_45 (by decide) ?_
        refine pw_goto 7 dX8_busiest_48 (by decide) ?_
        have hlt : C.2 < wtB (aB A) k := by
          have h5 := h1
          rw [nI_leI (by omega) (by omega)] at h5
          have : wtB (aB A) k = smN (fun s => wcB (aB A) s (nI k)) (nS (aB A)) := rfl
          omega
        rw [bu_y hlt] at ih2
        refine pw_fg (ls' := [some (.ref m), some (.int (nI k)), some (.int (nI (wtB (aB A) k))), some (.int (nI ((k + 1)))), none]) ⟨Or.inr rfl, Or.inr rfl, Or.inr rfl, Or.inr rfl, Or.inl rfl, trivial⟩ ih2
