/-! Texts of the model: orders carried out -/
theorem doR33 {B : Bs} {a b c : Int32} : doR B (33, a, b, c) = skR B a := cif_y rfl
theorem doN33 {B : Bs} {a b c : Int32} : doN B (33, a, b, c) = skN B a := cif_y rfl
theorem doR98 {B : Bs} {a b c : Int32} : doR B (98, a, b, c) = psR B a := (cif_n (show ¬ (98 : Nat) = 33 by decide)).trans (cif_y rfl)
theorem doN98 {B : Bs} {a b c : Int32} : doN B (98, a, b, c) = psN B a := (cif_n (show ¬ (98 : Nat) = 33 by decide)).trans (cif_y rfl)
theorem doR115 {B : Bs} {a b c : Int32} : doR B (115, a, b, c) = cmR B a := (cif_n (show ¬ (115 : Nat) = 33 by decide)).trans ((cif_n (show ¬ (115 : Nat) = 98 by decide)).trans (cif_y rfl))
theorem doN115 {B : Bs} {a b c : Int32} : doN B (115, a, b, c) = cmN B a := (cif_n (show ¬ (115 : Nat) = 33 by decide)).trans ((cif_n (show ¬ (115 : Nat) = 98 by decide)).trans (cif_y rfl))
theorem doR119 {B : Bs} {a b c : Int32} : doR B (119, a, b, c) = wdR B a b c := (cif_n (show ¬ (119 : Nat) = 33 by decide)).trans ((cif_n (show ¬ (119 : Nat) = 98 by decide)).trans ((cif_n (show ¬ (119 : Nat) = 115 by decide)).trans (cif_y rfl)))
theorem doN119 {B : Bs} {a b c : Int32} : doN B (119, a, b, c) = wdN B a b c := (cif_n (show ¬ (119 : Nat) = 33 by decide)).trans ((cif_n (show ¬ (119 : Nat) = 98 by decide)).trans ((cif_n (show ¬ (119 : Nat) = 115 by decide)).trans (cif_y rfl)))
theorem doR122 {B : Bs} {a b c : Int32} : doR B (122, a, b, c) = dzR B a := (cif_n (show ¬ (122 : Nat) = 33 by decide)).trans ((cif_n (show ¬ (122 : Nat) = 98 by decide)).trans ((cif_n (show ¬ (122 : Nat) = 115 by decide)).trans ((cif_n (show ¬ (122 : Nat) = 119 by decide)).trans (cif_y rfl))))
theorem doN122 {B : Bs} {a b c : Int32} : doN B (122, a, b, c) = dzN B a := (cif_n (show ¬ (122 : Nat) = 33 by decide)).trans ((cif_n (show ¬ (122 : Nat) = 98 by decide)).trans ((cif_n (show ¬ (122 : Nat) = 115 by decide)).trans ((cif_n (show ¬ (122 : Nat) = 119 by decide)).trans (cif_y rfl))))
def okO (o : Od) : Prop := o.1 = 33 ∨ o.1 = 98 ∨ o.1 = 115 ∨ o.1 = 119 ∨ o.1 = 122
theorem cm_ok {B : Bs} {x : Int32} (h : ¬ cmR B x < 0) : cmP x ∧ nS B ≠ 8 := by
  rcases Classical.em (cmP x) with c | c
  · refine ⟨c, fun e => h ?_⟩
    rw [show cmR B x = -4 from (cif_y c).trans (if_pos e)]
    decide
  · exact absurd (show cmR B x < 0 by rw [show cmR B x = -2 from cif_n c]; decide) h
theorem sk_ok {B : Bs} {x : Int32} (h : ¬ skR B x < 0) : inN 6 x := by
  rcases Classical.em (inN 6 x) with c | c
  · exact c
  · exact absurd (show skR B x < 0 by rw [show skR B x = -1 from cif_n c]; decide) h
theorem dz_ok {B : Bs} {x : Int32} (h : ¬ dzR B x < 0) : inN (nS B) x := by
  rcases Classical.em (inN (nS B) x) with c | c
  · exact c
  · exact absurd (show dzR B x < 0 by rw [show dzR B x = -1 from cif_n c]; decide) h
theorem ps_ok {B : Bs} {x : Int32} (h : ¬ psR B x < 0) : psP x ∧ ¬ nI 99999 < bG B 5 + x := by
  rcases Classical.em (psP x) with c | c
  · refine ⟨c, fun e => h ?_⟩
    rw [show psR B x = -5 from (cif_y c).trans (if_pos e)]
    decide
  · exact absurd (show psR B x < 0 by rw [show psR B x = -2 from cif_n c]; decide) h
theorem wd_ok {B : Bs} {x y u : Int32} (h : ¬ wdR B x y u < 0) : (inN (nS B) x ∧ inN 6 y) ∧ inN 256 u ∧ atB B (ixN x) y ∧ nwF (bS B (ixN x)) ≠ 4 := by
  rcases Classical.em (inN (nS B) x ∧ inN 6 y) with c | c
  · rcases Classical.em (inN 256 u) with d | d
    · rcases Classical.em (atB B (ixN x) y) with a | a
      · refine ⟨c, d, a, fun e => h ?_⟩
        rw [show wdR B x y u = -4 from (cif_y c).trans ((cif_y d).trans ((cif_y a).trans (if_pos e)))]
        decide
      · exact absurd (show wdR B x y u < 0 by rw [show wdR B x y u = -5 from (cif_y c).trans ((cif_y d).trans (cif_n a))]; decide) h
    · exact absurd (show wdR B x y u < 0 by rw [show wdR B x y u = -2 from (cif_y c).trans (cif_n d)]; decide) h
  · exact absurd (show wdR B x y u < 0 by rw [show wdR B x y u = -1 from cif_n c]; decide) h
theorem cm_nn {B : Bs} {x : Int32} (wf : WF B) (h1 : cmP x) (h2 : nS B ≠ 8) : ¬ cmR B x < 0 := by
  have h8 := wf.n8
  rw [show cmR B x = nI (nS B) from (cif_y h1).trans (if_neg h2)]
  exact nnI (by omega)
theorem sk_nn {B : Bs} {j : Nat} (wf : WF B) (hj : j < 6) : ¬ skR B (nI j) < 0 := by
  rw [show skR B (nI j) = nI 1 - bW B j 1 from by unfold skR; rw [cif_y (inN_ok hj), ixN_nI (by omega)]]
  exact z_nn (wf.2.2.1 j hj).2
theorem dz_nn {B : Bs} {j : Nat} (wf : WF B) (hj : j < nS B) : ¬ dzR B (nI j) < 0 := by
  have h8 := wf.n8
  rw [show dzR B (nI j) = nI 1 - bS B j 3 from by unfold dzR; rw [cif_y (inN_ok hj), ixN_nI (by omega)]]
  exact z_nn (wf.s hj).2.1.2
theorem ps_nn {B : Bs} {c : Nat} (wf : WF B) (h1 : 1 ≤ c) (h9 : c ≤ 999) (h : ¬ nI 99999 < bG B 5 + nI c) : ¬ psR B (nI c) < 0 := by
  have hle := bI_le wf c
  rw [show psR B (nI c) = nI (btI c B).2 from (cif_y ⟨c, h1, h9, rfl⟩).trans ((if_neg h).trans (by rw [ixN_nI (by omega)]))]
  exact nnI (by omega)
theorem wd_nn {B : Bs} {j v t : Nat} (wf : WF B) (hj : j < nS B) (hv : v < 6) (ht : t < 256) (hat : atB B j (nI v)) (h4 : nwF (bS B j) ≠ 4) : ¬ wdR B (nI j) (nI v) (nI t) < 0 := by
  have h8 := wf.n8
  have hw := (wf.w (i := j) (by omega)).2
  have ei : ixN (nI j) = j := ixN_nI (by omega)
  rw [show wdR B (nI j) (nI v) (nI t) = nI (nwF (bS B j) + 1) from by unfold wdR; rw [cif_y ⟨inN_ok hj, inN_ok hv⟩, cif_y (inN_ok ht), ei, cif_y hat, if_neg h4]]
  exact nnI (by omega)
theorem neg_ne0 {x : Int32} (h : x < 0) : ¬ x = 0 := fun e => by
  rw [e] at h
  exact absurd h (by decide)
set_option maxRecDepth 100000 in
set_option maxHeartbeats 4000000 in
theorem m_whyNot {X : Cx} {σ : Sp} {μ : Mm} {Q : Int32 → Sp → Mm → Prop} {m k : Nat} {z : Nat → Int32} {B : Bs} {o : Od} (h : ShM σ m) (hz : ZR z B) (wf : WF B) (ok : okO o) (mo : MO (μ (m + 8)) k o) (hk : k ≤ 40) (q0 : ¬ doR B o < 0 → Q (nI 0) σ (wC μ (m + 1) z)) (qe : doR B o < 0 → ∀ r, ¬ r = 0 → Q r σ (wC μ (m + 1) z)) : CTi X mX8_whyNot [.ref m, .int (nI (4 * k))] σ ((wC μ (m + 1) z)) Q := by
  refine CT.of (by decide +kernel) (Nat.le_of_ble_eq_true rfl) ?_
  show PW X mX8_whyNot 0 0 0 [some (.ref m), some (.int (nI (4 * k))), none] [] σ ((wC μ (m + 1) z)) (LI Q)
  obtain ⟨kd, a9, b9, c9⟩ := o
  rcases ok with e9 | e9 | e9 | e9 | e9
  · skip
    have e8 : kd = 33 := e9
    subst e8
    clear e9
    have mo0 : μ (m + 8) (4 * k) = (nI 33) := mo.1
    have mo1 : μ (m + 8) ((4 * k) + 1) = a9 := mo.2.1
    refine pw_aload_0 dX8_whyNot_0 ?_
    refine pw_getr 8 9 dX8_whyNot_1 fX8_33 rfl (by decide) rfl h.t h.r9 ?_
    refine pw_iload_1 dX8_whyNot_4 ?_
    refine pw_iconst (v := nI 1) dX8_whyNot_5 (by decide) ?_
    refine pw_iaddN dX8_whyNot_6 ?_
    refine pw_ialdN dX8_whyNot_7 h.a8 (by omega) (by decide) ?_
    refine pw_top (((congrFun (wC_ne _ _ (show m + 8 ≠ m + 1 by omega)) _).trans mo1)) ?_
    refine pw_istore_2 dX8_whyNot_8 (by decide) ?_
    refine pw_aload_0 dX8_whyNot_9 ?_
    refine pw_getr 8 9 dX8_whyNot_10 fX8_33 rfl (by decide) rfl h.t h.r9 ?_
    refine pw_iload_1 dX8_whyNot_13 ?_
    refine pw_ialdN dX8_whyNot_14 h.a8 (by omega) (by decide) ?_
    refine pw_top (((congrFun (wC_ne _ _ (show m + 8 ≠ m + 1 by omega)) _).trans mo0)) ?_
    refine pw_lookup (off := 69) 84 dX8_whyNot_15 (by decide) (by decide) (by decide) ?_
    refine pw_aload_0 dX8_whyNot_84 ?_
    refine pw_iload_2 dX8_whyNot_85 ?_
    refine pw_cV1i 8 dX8_whyNot_86 kX8_103 vX8_whyNotWire iX8_whyNotWire ⟨by decide, by decide⟩ ⟨rfl, rfl⟩ (by decide) rfl (Nat.le_of_ble_eq_true rfl) h.t (m_whyWire (B := B) h (fun e9 => ?_) (fun j9 ej9 hj9 => ?_))
    · skip
      refine pw_ireturn dX8_whyNot_89 rfl ?_
      exact qe (by rw [doR33]; exact e9) _ (neg_ne0 e9)
    · skip
      refine pw_ireturn dX8_whyNot_89 rfl ?_
      exact q0 (by rw [doR33]; exact ej9 ▸ sk_nn wf hj9)
  · skip
    have e8 : kd = 98 := e9
    subst e8
    clear e9
    have mo0 : μ (m + 8) (4 * k) = (nI 98) := mo.1
    have mo1 : μ (m + 8) ((4 * k) + 1) = a9 := mo.2.1
    refine pw_aload_0 dX8_whyNot_0 ?_
    refine pw_getr 8 9 dX8_whyNot_1 fX8_33 rfl (by decide) rfl h.t h.r9 ?_
    refine pw_iload_1 dX8_whyNot_4 ?_
    refine pw_iconst (v := nI 1) dX8_whyNot_5 (by decide) ?_
    refine pw_iaddN dX8_whyNot_6 ?_
    refine pw_ialdN dX8_whyNot_7 h.a8 (by omega) (by decide) ?_
    refine pw_top (((congrFun (wC_ne _ _ (show m + 8 ≠ m + 1 by omega)) _).trans mo1)) ?_
    refine pw_istore_2 dX8_whyNot_8 (by decide) ?_
    refine pw_aload_0 dX8_whyNot_9 ?_
    refine pw_getr 8 9 dX8_whyNot_10 fX8_33 rfl (by decide) rfl h.t h.r9 ?_
    refine pw_iload_1 dX8_whyNot_13 ?_
    refine pw_ialdN dX8_whyNot_14 h.a8 (by omega) (by decide) ?_
    refine pw_top (((congrFun (wC_ne _ _ (show m + 8 ≠ m + 1 by omega)) _).trans mo0)) ?_
    refine pw_lookup (off := 81) 96 dX8_whyNot_15 (by decide) (by decide) (by decide) ?_
    refine pw_aload_0 dX8_whyNot_96 ?_
    refine pw_iload_2 dX8_whyNot_97 ?_
    refine pw_cV1i 8 dX8_whyNot_98 kX8_156 vX8_whyNotPass iX8_whyNotPass ⟨by decide, by decide⟩ ⟨rfl, rfl⟩ (by decide) rfl (Nat.le_of_ble_eq_true rfl) h.t (m_whyPass h hz wf (fun e9 => ?_) (fun t9 et9 l9 r9 n9 => ?_))
    · skip
      refine pw_ireturn dX8_whyNot_101 rfl ?_
      exact qe (by rw [doR98]; exact e9) _ (neg_ne0 e9)
    · skip
      refine pw_ireturn dX8_whyNot_101 rfl ?_
      exact q0 (by rw [doR98]; exact et9 ▸ ps_nn wf l9 r9 n9)
  · skip
    have e8 : kd = 115 := e9
    subst e8
    clear e9
    have mo0 : μ (m + 8) (4 * k) = (nI 115) := mo.1
    have mo1 : μ (m + 8) ((4 * k) + 1) = a9 := mo.2.1
    refine pw_aload_0 dX8_whyNot_0 ?_
    refine pw_getr 8 9 dX8_whyNot_1 fX8_33 rfl (by decide) rfl h.t h.r9 ?_
    refine pw_iload_1 dX8_whyNot_4 ?_
    refine pw_iconst (v := nI 1) dX8_whyNot_5 (by decide) ?_
    refine pw_iaddN dX8_whyNot_6 ?_
    refine pw_ialdN dX8_whyNot_7 h.a8 (by omega) (by decide) ?_
    refine pw_top (((congrFun (wC_ne _ _ (show m + 8 ≠ m + 1 by omega)) _).trans mo1)) ?_
    refine pw_istore_2 dX8_whyNot_8 (by decide) ?_
    refine pw_aload_0 dX8_whyNot_9 ?_
    refine pw_getr 8 9 dX8_whyNot_10 fX8_33 rfl (by decide) rfl h.t h.r9 ?_
    refine pw_iload_1 dX8_whyNot_13 ?_
    refine pw_ialdN dX8_whyNot_14 h.a8 (by omega) (by decide) ?_
    refine pw_top (((congrFun (wC_ne _ _ (show m + 8 ≠ m + 1 by omega)) _).trans mo0)) ?_
    refine pw_lookup (off := 41) 56 dX8_whyNot_15 (by decide) (by decide) (by decide) ?_
    refine pw_aload_0 dX8_whyNot_56 ?_
    refine pw_iload_2 dX8_whyNot_57 ?_
    refine pw_cV1i 8 dX8_whyNot_58 kX8_59 vX8_whyNotStation iX8_whyNotStation ⟨by decide, by decide⟩ ⟨rfl, rfl⟩ (by decide) rfl (Nat.le_of_ble_eq_true rfl) h.t (m_whyStation h hz wf (fun e9 => ?_) (fun p9 r9 => ?_))
    · skip
      refine pw_ireturn dX8_whyNot_61 rfl ?_
      exact qe (by rw [doR115]; exact e9) _ (neg_ne0 e9)
    · skip
      refine pw_ireturn dX8_whyNot_61 rfl ?_
      exact q0 (by rw [doR115]; exact cm_nn wf p9 r9)
  · skip
    have e8 : kd = 119 := e9
    subst e8
    clear e9
    have mo0 : μ (m + 8) (4 * k) = (nI 119) := mo.1
    have mo1 : μ (m + 8) ((4 * k) + 1) = a9 := mo.2.1
    have mo2 : μ (m + 8) ((4 * k) + 2) = b9 := (mo.2.2 rfl).1
    have mo3 : μ (m + 8) ((4 * k) + 3) = c9 := (mo.2.2 rfl).2
    refine pw_aload_0 dX8_whyNot_0 ?_
    refine pw_getr 8 9 dX8_whyNot_1 fX8_33 rfl (by decide) rfl h.t h.r9 ?_
    refine pw_iload_1 dX8_whyNot_4 ?_
    refine pw_iconst (v := nI 1) dX8_whyNot_5 (by decide) ?_
    refine pw_iaddN dX8_whyNot_6 ?_
    refine pw_ialdN dX8_whyNot_7 h.a8 (by omega) (by decide) ?_
    refine pw_top (((congrFun (wC_ne _ _ (show m + 8 ≠ m + 1 by omega)) _).trans mo1)) ?_
    refine pw_istore_2 dX8_whyNot_8 (by decide) ?_
    refine pw_aload_0 dX8_whyNot_9 ?_
    refine pw_getr 8 9 dX8_whyNot_10 fX8_33 rfl (by decide) rfl h.t h.r9 ?_
    refine pw_iload_1 dX8_whyNot_13 ?_
    refine pw_ialdN dX8_whyNot_14 h.a8 (by omega) (by decide) ?_
    refine pw_top (((congrFun (wC_ne _ _ (show m + 8 ≠ m + 1 by omega)) _).trans mo0)) ?_
    refine pw_lookup (off := 47) 62 dX8_whyNot_15 (by decide) (by decide) (by decide) ?_
    refine pw_aload_0 dX8_whyNot_62 ?_
    refine pw_iload_2 dX8_whyNot_63 ?_
    refine pw_aload_0 dX8_whyNot_64 ?_
    refine pw_getr 8 9 dX8_whyNot_65 fX8_33 rfl (by decide) rfl h.t h.r9 ?_
    refine pw_iload_1 dX8_whyNot_68 ?_
    refine pw_iconst (v := nI 2) dX8_whyNot_69 (by decide) ?_
    refine pw_iaddN dX8_whyNot_70 ?_
    refine pw_ialdN dX8_whyNot_71 h.a8 (by omega) (by decide) ?_
    refine pw_top (((congrFun (wC_ne _ _ (show m + 8 ≠ m + 1 by omega)) _).trans mo2)) ?_
    refine pw_aload_0 dX8_whyNot_72 ?_
    refine pw_getr 8 9 dX8_whyNot_73 fX8_33 rfl (by decide) rfl h.t h.r9 ?_
    refine pw_iload_1 dX8_whyNot_76 ?_
    refine pw_iconst (v := nI 3) dX8_whyNot_77 (by decide) ?_
    refine pw_iaddN dX8_whyNot_78 ?_
    refine pw_ialdN dX8_whyNot_79 h.a8 (by omega) (by decide) ?_
    refine pw_top (((congrFun (wC_ne _ _ (show m + 8 ≠ m + 1 by omega)) _).trans mo3)) ?_
    refine pw_cV3i 8 dX8_whyNot_80 kX8_79 vX8_whyNotWord iX8_whyNotWord ⟨by decide, by decide⟩ ⟨rfl, rfl⟩ (by decide) rfl (Nat.le_of_ble_eq_true rfl) h.t (m_whyWord h hz wf (fun e9 => ?_) (fun j9 v9 t9 ej9 hj9 ev9 hv9 et9 ht9 hat9 h49 => ?_))
    · skip
      refine pw_ireturn dX8_whyNot_83 rfl ?_
      exact qe (by rw [doR119]; exact e9) _ (neg_ne0 e9)
    · skip
      refine pw_ireturn dX8_whyNot_83 rfl ?_
      exact q0 (by rw [doR119]; exact by subst ej9 ev9 et9; exact wd_nn wf hj9 hv9 ht9 hat9 h49)
  · skip
    have e8 : kd = 122 := e9
    subst e8
    clear e9
    have mo0 : μ (m + 8) (4 * k) = (nI 122) := mo.1
    have mo1 : μ (m + 8) ((4 * k) + 1) = a9 := mo.2.1
    refine pw_aload_0 dX8_whyNot_0 ?_
    refine pw_getr 8 9 dX8_whyNot_1 fX8_33 rfl (by decide) rfl h.t h.r9 ?_
    refine pw_iload_1 dX8_whyNot_4 ?_
    refine pw_iconst (v := nI 1) dX8_whyNot_5 (by decide) ?_
    refine pw_iaddN dX8_whyNot_6 ?_
    refine pw_ialdN dX8_whyNot_7 h.a8 (by omega) (by decide) ?_
    refine pw_top (((congrFun (wC_ne _ _ (show m + 8 ≠ m + 1 by omega)) _).trans mo1)) ?_
    refine pw_istore_2 dX8_whyNot_8 (by decide) ?_
    refine pw_aload_0 dX8_whyNot_9 ?_
    refine pw_getr 8 9 dX8_whyNot_10 fX8_33 rfl (by decide) rfl h.t h.r9 ?_
    refine pw_iload_1 dX8_whyNot_13 ?_
    refine pw_ialdN dX8_whyNot_14 h.a8 (by omega) (by decide) ?_
    refine pw_top (((congrFun (wC_ne _ _ (show m + 8 ≠ m + 1 by omega)) _).trans mo0)) ?_
    refine pw_lookup (off := 75) 90 dX8_whyNot_15 (by decide) (by decide) (by decide) ?_
    refine pw_aload_0 dX8_whyNot_90 ?_
    refine pw_iload_2 dX8_whyNot_91 ?_
    refine pw_cV1i 8 dX8_whyNot_92 kX8_115 vX8_whyNotDoze iX8_whyNotDoze ⟨by decide, by decide⟩ ⟨rfl, rfl⟩ (by decide) rfl (Nat.le_of_ble_eq_true rfl) h.t (m_whyDoze h hz wf (fun e9 => ?_) (fun j9 ej9 hj9 => ?_))
    · skip
      refine pw_ireturn dX8_whyNot_95 rfl ?_
      exact qe (by rw [doR122]; exact e9) _ (neg_ne0 e9)
    · skip
      refine pw_ireturn dX8_whyNot_95 rfl ?_
      exact q0 (by rw [doR122]; exact ej9 ▸ dz_nn wf hj9)
set_option maxRecDepth 100000 in
set_option maxHeartbeats 4000000 in
theorem m_does {X : Cx} {σ : Sp} {μ : Mm} {Q : Sp → Mm → Prop} {m k : Nat} {z : Nat → Int32} {B : Bs} {o : Od} (h : ShM σ m) (hz : ZR z B) (wf : WF B) (ok : okO o) (mo : MO (μ (m + 8)) k o) (hk : k ≤ 40) (hd : ¬ doR B o < 0) (q : ∀ ν z', FM μ m ν → ZR z' (doN B o) → Q σ (wC ν (m + 1) z')) : CTv X mX8_does [.ref m, .int (nI (4 * k))] σ ((wC μ (m + 1) z)) Q := by
  refine CT.of (by decide +kernel) (Nat.le_of_ble_eq_true rfl) ?_
  show PW X mX8_does 0 0 0 [some (.ref m), some (.int (nI (4 * k))), none] [] σ ((wC μ (m + 1) z)) (LV Q)
  obtain ⟨kd, a9, b9, c9⟩ := o
  rcases ok with e9 | e9 | e9 | e9 | e9
  · skip
    have e8 : kd = 33 := e9
    subst e8
    clear e9
    rw [doR33] at hd
    obtain ⟨j9, hj9, ej9⟩ := sk_ok hd
    subst ej9
    have en : doN B (33, nI j9, b9, c9) = setW B j9 1 (nI 1 - bW B j9 1) := by rw [doN33]; unfold skN; rw [cif_y (inN_ok hj9), ixN_nI (by omega)]
    have mo0 : μ (m + 8) (4 * k) = (nI 33) := mo.1
    have mo1 : μ (m + 8) ((4 * k) + 1) = (nI j9) := mo.2.1
    refine pw_aload_0 dX8_does_0 ?_
    refine pw_getr 8 9 dX8_does_1 fX8_33 rfl (by decide) rfl h.t h.r9 ?_
    refine pw_iload_1 dX8_does_4 ?_
    refine pw_iconst (v := nI 1) dX8_does_5 (by decide) ?_
    refine pw_iaddN dX8_does_6 ?_
    refine pw_ialdN dX8_does_7 h.a8 (by omega) (by decide) ?_
    refine pw_top (((congrFun (wC_ne _ _ (show m + 8 ≠ m + 1 by omega)) _).trans mo1)) ?_
    refine pw_istore_2 dX8_does_8 (by decide) ?_
    refine pw_aload_0 dX8_does_9 ?_
    refine pw_getr 8 9 dX8_does_10 fX8_33 rfl (by decide) rfl h.t h.r9 ?_
    refine pw_iload_1 dX8_does_13 ?_
    refine pw_ialdN dX8_does_14 h.a8 (by omega) (by decide) ?_
    refine pw_top (((congrFun (wC_ne _ _ (show m + 8 ≠ m + 1 by omega)) _).trans mo0)) ?_
    refine pw_lookup (off := 75) 90 dX8_does_15 (by decide) (by decide) (by decide) ?_
    refine pw_aload_0 dX8_does_90 ?_
    refine pw_iload_2 dX8_does_91 ?_
    refine pw_cV1i 8 dX8_does_92 kX8_106 vX8_turnFault iX8_turnFault ⟨by decide, by decide⟩ ⟨rfl, rfl⟩ (by decide) rfl (Nat.le_of_ble_eq_true rfl) h.t (m_turnFault h hz wf hj9 (fun z8 hz8 => ?_))
    refine pw_pop dX8_does_95 ?_
    refine pw_goto 114 dX8_does_96 (by decide) ?_
    refine pw_return dX8_does_114 rfl ?_
    rw [en] at q
    exact q _ _ (fun _ _ => rfl) hz8
  · skip
    have e8 : kd = 98 := e9
    subst e8
    clear e9
    rw [doR98] at hd
    have hp9 := ps_ok hd
    have hp8 := hp9
    obtain ⟨⟨j9, l9, r9, ej9⟩, n9⟩ := hp8
    subst ej9
    have en : doN B (98, nI j9, b9, c9) = (btI j9 B).1 := by rw [doN98]; unfold psN; rw [cif_y hp9, ixN_nI (by omega)]
    have mo0 : μ (m + 8) (4 * k) = (nI 98) := mo.1
    have mo1 : μ (m + 8) ((4 * k) + 1) = (nI j9) := mo.2.1
    refine pw_aload_0 dX8_does_0 ?_
    refine pw_getr 8 9 dX8_does_1 fX8_33 rfl (by decide) rfl h.t h.r9 ?_
    refine pw_iload_1 dX8_does_4 ?_
    refine pw_iconst (v := nI 1) dX8_does_5 (by decide) ?_
    refine pw_iaddN dX8_does_6 ?_
    refine pw_ialdN dX8_does_7 h.a8 (by omega) (by decide) ?_
    refine pw_top (((congrFun (wC_ne _ _ (show m + 8 ≠ m + 1 by omega)) _).trans mo1)) ?_
    refine pw_istore_2 dX8_does_8 (by decide) ?_
    refine pw_aload_0 dX8_does_9 ?_
    refine pw_getr 8 9 dX8_does_10 fX8_33 rfl (by decide) rfl h.t h.r9 ?_
    refine pw_iload_1 dX8_does_13 ?_
    refine pw_ialdN dX8_does_14 h.a8 (by omega) (by decide) ?_
    refine pw_top (((congrFun (wC_ne _ _ (show m + 8 ≠ m + 1 by omega)) _).trans mo0)) ?_
    refine pw_lookup (off := 93) 108 dX8_does_15 (by decide) (by decide) (by decide) ?_
    refine pw_aload_0 dX8_does_108 ?_
    refine pw_iload_2 dX8_does_109 ?_
    refine pw_cV1i 8 dX8_does_110 kX8_159 vX8_beats iX8_beats ⟨by decide, by decide⟩ ⟨rfl, rfl⟩ (by decide) rfl (Nat.le_of_ble_eq_true rfl) h.t (m_beats h hz wf (by omega) (fun ν8 z8 fm8 hz8 => ?_))
    refine pw_pop dX8_does_113 ?_
    refine pw_return dX8_does_114 rfl ?_
    rw [en] at q
    exact q _ _ fm8 hz8
  · skip
    have e8 : kd = 115 := e9
    subst e8
    clear e9
    rw [doR115] at hd
    have hc9 := cm_ok hd
    have h8 := wf.n8
    have en : doN B (115, a9, b9, c9) = cmB B a9 := by rw [doN115]; exact cif_y hc9
    have mo0 : μ (m + 8) (4 * k) = (nI 115) := mo.1
    have mo1 : μ (m + 8) ((4 * k) + 1) = a9 := mo.2.1
    refine pw_aload_0 dX8_does_0 ?_
    refine pw_getr 8 9 dX8_does_1 fX8_33 rfl (by decide) rfl h.t h.r9 ?_
    refine pw_iload_1 dX8_does_4 ?_
    refine pw_iconst (v := nI 1) dX8_does_5 (by decide) ?_
    refine pw_iaddN dX8_does_6 ?_
    refine pw_ialdN dX8_does_7 h.a8 (by omega) (by decide) ?_
    refine pw_top (((congrFun (wC_ne _ _ (show m + 8 ≠ m + 1 by omega)) _).trans mo1)) ?_
    refine pw_istore_2 dX8_does_8 (by decide) ?_
    refine pw_aload_0 dX8_does_9 ?_
    refine pw_getr 8 9 dX8_does_10 fX8_33 rfl (by decide) rfl h.t h.r9 ?_
    refine pw_iload_1 dX8_does_13 ?_
    refine pw_ialdN dX8_does_14 h.a8 (by omega) (by decide) ?_
    refine pw_top (((congrFun (wC_ne _ _ (show m + 8 ≠ m + 1 by omega)) _).trans mo0)) ?_
    refine pw_lookup (off := 41) 56 dX8_does_15 (by decide) (by decide) (by decide) ?_
    refine pw_aload_0 dX8_does_56 ?_
    refine pw_iload_2 dX8_does_57 ?_
    refine pw_cV1i 8 dX8_does_58 kX8_63 vX8_comes iX8_comes ⟨by decide, by decide⟩ ⟨rfl, rfl⟩ (by decide) rfl (Nat.le_of_ble_eq_true rfl) h.t (m_comes h hz wf (by omega) (fun z8 hz8 => ?_))
    refine pw_pop dX8_does_61 ?_
    refine pw_goto 114 dX8_does_62 (by decide) ?_
    refine pw_return dX8_does_114 rfl ?_
    rw [en] at q
    exact q _ _ (fun _ _ => rfl) hz8
  · skip
    have e8 : kd = 119 := e9
    subst e8
    clear e9
    rw [doR119] at hd
    have hw8 := wd_ok hd
    have hw7 := hw8
    obtain ⟨⟨⟨j9, hj9, ej9⟩, v9, hv9, ev9⟩, ⟨t9, ht9, et9⟩, at9, h49⟩ := hw7
    have h8 := wf.n8
    subst ej9
    subst ev9
    subst et9
    rw [ixN_nI (by omega)] at at9 h49
    have en : doN B (119, nI j9, nI v9, nI t9) = setS B j9 (gtF (bS B j9) (nwF (bS B j9)) (nI t9) (nI v9)) := by rw [doN119]; unfold wdN; rw [cif_y hw8, ixN_nI (by omega)]
    have mo0 : μ (m + 8) (4 * k) = (nI 119) := mo.1
    have mo1 : μ (m + 8) ((4 * k) + 1) = (nI j9) := mo.2.1
    have mo2 : μ (m + 8) ((4 * k) + 2) = (nI v9) := (mo.2.2 rfl).1
    have mo3 : μ (m + 8) ((4 * k) + 3) = (nI t9) := (mo.2.2 rfl).2
    refine pw_aload_0 dX8_does_0 ?_
    refine pw_getr 8 9 dX8_does_1 fX8_33 rfl (by decide) rfl h.t h.r9 ?_
    refine pw_iload_1 dX8_does_4 ?_
    refine pw_iconst (v := nI 1) dX8_does_5 (by decide) ?_
    refine pw_iaddN dX8_does_6 ?_
    refine pw_ialdN dX8_does_7 h.a8 (by omega) (by decide) ?_
    refine pw_top (((congrFun (wC_ne _ _ (show m + 8 ≠ m + 1 by omega)) _).trans mo1)) ?_
    refine pw_istore_2 dX8_does_8 (by decide) ?_
    refine pw_aload_0 dX8_does_9 ?_
    refine pw_getr 8 9 dX8_does_10 fX8_33 rfl (by decide) rfl h.t h.r9 ?_
    refine pw_iload_1 dX8_does_13 ?_
    refine pw_ialdN dX8_does_14 h.a8 (by omega) (by decide) ?_
    refine pw_top (((congrFun (wC_ne _ _ (show m + 8 ≠ m + 1 by omega)) _).trans mo0)) ?_
    refine pw_lookup (off := 50) 65 dX8_does_15 (by decide) (by decide) (by decide) ?_
    refine pw_aload_0 dX8_does_65 ?_
    refine pw_iload_2 dX8_does_66 ?_
    refine pw_aload_0 dX8_does_67 ?_
    refine pw_getr 8 9 dX8_does_68 fX8_33 rfl (by decide) rfl h.t h.r9 ?_
    refine pw_iload_1 dX8_does_71 ?_
    refine pw_iconst (v := nI 2) dX8_does_72 (by decide) ?_
    refine pw_iaddN dX8_does_73 ?_
    refine pw_ialdN dX8_does_74 h.a8 (by omega) (by decide) ?_
    refine pw_top (((congrFun (wC_ne _ _ (show m + 8 ≠ m + 1 by omega)) _).trans mo2)) ?_
    refine pw_aload_0 dX8_does_75 ?_
    refine pw_getr 8 9 dX8_does_76 fX8_33 rfl (by decide) rfl h.t h.r9 ?_
    refine pw_iload_1 dX8_does_79 ?_
    refine pw_iconst (v := nI 3) dX8_does_80 (by decide) ?_
    refine pw_iaddN dX8_does_81 ?_
    refine pw_ialdN dX8_does_82 h.a8 (by omega) (by decide) ?_
    refine pw_top (((congrFun (wC_ne _ _ (show m + 8 ≠ m + 1 by omega)) _).trans mo3)) ?_
    refine pw_cV3i 8 dX8_does_83 kX8_83 vX8_gets iX8_gets ⟨by decide, by decide⟩ ⟨rfl, rfl⟩ (by decide) rfl (Nat.le_of_ble_eq_true rfl) h.t (m_gets h hz wf hj9 h49 (fun z8 hz8 => ?_))
    refine pw_pop dX8_does_86 ?_
    refine pw_goto 114 dX8_does_87 (by decide) ?_
    refine pw_return dX8_does_114 rfl ?_
    rw [en] at q
    exact q _ _ (fun _ _ => rfl) hz8
  · skip
    have e8 : kd = 122 := e9
    subst e8
    clear e9
    rw [doR122] at hd
    obtain ⟨j9, hj9, ej9⟩ := dz_ok hd
    have h8 := wf.n8
    subst ej9
    have en : doN B (122, nI j9, b9, c9) = dzB B j9 := by rw [doN122]; unfold dzN; rw [cif_y (inN_ok hj9), ixN_nI (by omega)]
    have mo0 : μ (m + 8) (4 * k) = (nI 122) := mo.1
    have mo1 : μ (m + 8) ((4 * k) + 1) = (nI j9) := mo.2.1
    refine pw_aload_0 dX8_does_0 ?_
    refine pw_getr 8 9 dX8_does_1 fX8_33 rfl (by decide) rfl h.t h.r9 ?_
    refine pw_iload_1 dX8_does_4 ?_
    refine pw_iconst (v := nI 1) dX8_does_5 (by decide) ?_
    refine pw_iaddN dX8_does_6 ?_
    refine pw_ialdN dX8_does_7 h.a8 (by omega) (by decide) ?_
    refine pw_top (((congrFun (wC_ne _ _ (show m + 8 ≠ m + 1 by omega)) _).trans mo1)) ?_
    refine pw_istore_2 dX8_does_8 (by decide) ?_
    refine pw_aload_0 dX8_does_9 ?_
    refine pw_getr 8 9 dX8_does_10 fX8_33 rfl (by decide) rfl h.t h.r9 ?_
    refine pw_iload_1 dX8_does_13 ?_
    refine pw_ialdN dX8_does_14 h.a8 (by omega) (by decide) ?_
    refine pw_top (((congrFun (wC_ne _ _ (show m + 8 ≠ m + 1 by omega)) _).trans mo0)) ?_
    refine pw_lookup (off := 84) 99 dX8_does_15 (by decide) (by decide) (by decide) ?_
    refine pw_aload_0 dX8_does_99 ?_
    refine pw_iload_2 dX8_does_100 ?_
    refine pw_cV1i 8 dX8_does_101 kX8_118 vX8_turnSleep iX8_turnSleep ⟨by decide, by decide⟩ ⟨rfl, rfl⟩ (by decide) rfl (Nat.le_of_ble_eq_true rfl) h.t (m_turnSleep h hz wf hj9 (fun z8 hz8 => ?_))
    refine pw_pop dX8_does_104 ?_
    refine pw_goto 114 dX8_does_105 (by decide) ?_
    refine pw_return dX8_does_114 rfl ?_
    rw [en] at q
    exact q _ _ (fun _ _ => rfl) hz8
