/-! Texts: an order carried out (class) -/
abbrev Od := Nat × Int32 × Int32 × Int32
noncomputable def doR (B : Bs) (o : Od) : Int32 := cif (o.1 = 33) (skR B o.2.1) (cif (o.1 = 98) (psR B o.2.1) (cif (o.1 = 115) (cmR B o.2.1) (cif (o.1 = 119) (wdR B o.2.1 o.2.2.1 o.2.2.2) (cif (o.1 = 122) (dzR B o.2.1) (-3)))))
noncomputable def doN (B : Bs) (o : Od) : Bs := cif (o.1 = 33) (skN B o.2.1) (cif (o.1 = 98) (psN B o.2.1) (cif (o.1 = 115) (cmN B o.2.1) (cif (o.1 = 119) (wdN B o.2.1 o.2.2.1 o.2.2.2) (cif (o.1 = 122) (dzN B o.2.1) B))))
set_option maxRecDepth 100000 in
set_option maxHeartbeats 4000000 in
theorem k_carryOrder {X : Cx} {σ : Sp} {μ : Mm} {Q : Int32 → Sp → Mm → Prop} {μ0 : Mm} {o k : Nat} {B : Bs} {a9 b9 c9 : Int32} (hs : ShX σ o) (hb : BU μ0 (o + 1) B μ) (wf : WF B) (hk : k ≤ 1000) (ro : RO (o + 562) μ (k, a9, b9, c9)) (q : ∀ μ', BU μ0 (o + 1) (doN B (k, a9, b9, c9)) μ' → Q (doR B (k, a9, b9, c9)) σ μ') : CTi X mX7_carryOrder [.ref o] σ μ Q := by
  refine CT.of (by decide +kernel) (Nat.le_of_ble_eq_true rfl) ?_
  show PW X mX7_carryOrder 0 0 0 [some (.ref o)] [] σ μ (LI Q)
  have e33 : nI k = nI 33 → k = 33 := fun h95 => (nI_eq (by omega) (by omega)).mp h95
  have e98 : nI k = nI 98 → k = 98 := fun h95 => (nI_eq (by omega) (by omega)).mp h95
  have e115 : nI k = nI 115 → k = 115 := fun h95 => (nI_eq (by omega) (by omega)).mp h95
  have e119 : nI k = nI 119 → k = 119 := fun h95 => (nI_eq (by omega) (by omega)).mp h95
  have e122 : nI k = nI 122 → k = 122 := fun h95 => (nI_eq (by omega) (by omega)).mp h95
  refine pw_aload_0 dX7_carryOrder_0 ?_
  refine pw_getr 7 5 dX7_carryOrder_1 fX7_42 rfl (by decide) rfl hs.t hs.r5 ?_
  refine pw_getI 4 2 dX7_carryOrder_4 fX7_221 rfl (by decide) rfl hs.rd.t ?_
  refine pw_top ro.1 ?_
  rcases Classical.em ((nI k) = nI 33) with l33 | l33
  · skip
    refine pw_lookup (off := 93) 100 dX7_carryOrder_7 (by decide) (by rw [l33]; decide) (by decide) ?_
    refine pw_aload_0 dX7_carryOrder_100 ?_
    refine pw_getr 7 0 dX7_carryOrder_101 fX7_10 rfl (by decide) rfl hs.t hs.r0 ?_
    refine pw_aload_0 dX7_carryOrder_104 ?_
    refine pw_getr 7 5 dX7_carryOrder_105 fX7_42 rfl (by decide) rfl hs.t hs.r5 ?_
    refine pw_getI 4 4 dX7_carryOrder_108 fX7_230 rfl (by decide) rfl hs.rd.t ?_
    refine pw_top (ro.2.1 (e33 l33)) ?_
    refine pw_cV1i 0 dX7_carryOrder_111 kX7_68 vX0_toggleFault iX0_toggleFault ⟨by decide, by decide⟩ ⟨rfl, rfl⟩ (by decide) rfl (Nat.le_of_ble_eq_true rfl) hs.now.t (k_stick hs.now hb wf rfl (fun μ9 hb9 => ?_))
    refine pw_ireturn dX7_carryOrder_114 rfl ?_
    have x9 : doR B (k, a9, b9, c9) = skR B a9 := cif_y (e33 l33)
    have x8 : doN B (k, a9, b9, c9) = skN B a9 := cif_y (e33 l33)
    rw [x9, x8] at q
    exact q μ9 hb9
  rcases Classical.em ((nI k) = nI 98) with l98 | l98
  · skip
    refine pw_lookup (off := 123) 130 dX7_carryOrder_7 (by decide) (by rw [l98]; decide) (by decide) ?_
    refine pw_aload_0 dX7_carryOrder_130 ?_
    refine pw_getr 7 0 dX7_carryOrder_131 fX7_10 rfl (by decide) rfl hs.t hs.r0 ?_
    refine pw_aload_0 dX7_carryOrder_134 ?_
    refine pw_getr 7 5 dX7_carryOrder_135 fX7_42 rfl (by decide) rfl hs.t hs.r5 ?_
    refine pw_getI 4 6 dX7_carryOrder_138 fX7_233 rfl (by decide) rfl hs.rd.t ?_
    refine pw_top (ro.2.2.1 (e98 l98)) ?_
    refine pw_cV1i 0 dX7_carryOrder_141 kX7_74 vX0_passBeats iX0_passBeats ⟨by decide, by decide⟩ ⟨rfl, rfl⟩ (by decide) rfl (Nat.le_of_ble_eq_true rfl) hs.now.t (k_pass hs.now hb wf rfl (fun μ9 hb9 => ?_))
    refine pw_ireturn dX7_carryOrder_144 rfl ?_
    have x9 : doR B (k, a9, b9, c9) = psR B a9 := (cif_n (fun h95 : k = 33 => l33 (by rw [h95]))).trans (cif_y (e98 l98))
    have x8 : doN B (k, a9, b9, c9) = psN B a9 := (cif_n (fun h95 : k = 33 => l33 (by rw [h95]))).trans (cif_y (e98 l98))
    rw [x9, x8] at q
    exact q μ9 hb9
  rcases Classical.em ((nI k) = nI 115) with l115 | l115
  · skip
    refine pw_lookup (off := 49) 56 dX7_carryOrder_7 (by decide) (by rw [l115]; decide) (by decide) ?_
    refine pw_aload_0 dX7_carryOrder_56 ?_
    refine pw_getr 7 0 dX7_carryOrder_57 fX7_10 rfl (by decide) rfl hs.t hs.r0 ?_
    refine pw_aload_0 dX7_carryOrder_60 ?_
    refine pw_getr 7 5 dX7_carryOrder_61 fX7_42 rfl (by decide) rfl hs.t hs.r5 ?_
    refine pw_getI 4 5 dX7_carryOrder_64 fX7_224 rfl (by decide) rfl hs.rd.t ?_
    refine pw_top (ro.2.2.2.1 (e115 l115)) ?_
    refine pw_cV1i 0 dX7_carryOrder_67 kX7_58 vX0_addStation iX0_addStation ⟨by decide, by decide⟩ ⟨rfl, rfl⟩ (by decide) rfl (Nat.le_of_ble_eq_true rfl) hs.now.t (k_station hs.now hb wf rfl (fun μ9 hb9 => ?_))
    refine pw_ireturn dX7_carryOrder_70 rfl ?_
    have x9 : doR B (k, a9, b9, c9) = cmR B a9 := (cif_n (fun h95 : k = 33 => l33 (by rw [h95]))).trans ((cif_n (fun h95 : k = 98 => l98 (by rw [h95]))).trans (cif_y (e115 l115)))
    have x8 : doN B (k, a9, b9, c9) = cmN B a9 := (cif_n (fun h95 : k = 33 => l33 (by rw [h95]))).trans ((cif_n (fun h95 : k = 98 => l98 (by rw [h95]))).trans (cif_y (e115 l115)))
    rw [x9, x8] at q
    exact q μ9 hb9
  rcases Classical.em ((nI k) = nI 119) with l119 | l119
  · skip
    refine pw_lookup (off := 64) 71 dX7_carryOrder_7 (by decide) (by rw [l119]; decide) (by decide) ?_
    refine pw_aload_0 dX7_carryOrder_71 ?_
    refine pw_getr 7 0 dX7_carryOrder_72 fX7_10 rfl (by decide) rfl hs.t hs.r0 ?_
    refine pw_aload_0 dX7_carryOrder_75 ?_
    refine pw_getr 7 5 dX7_carryOrder_76 fX7_42 rfl (by decide) rfl hs.t hs.r5 ?_
    refine pw_getI 4 3 dX7_carryOrder_79 fX7_227 rfl (by decide) rfl hs.rd.t ?_
    refine pw_top (ro.2.2.2.2.1 (e119 l119)).1 ?_
    refine pw_aload_0 dX7_carryOrder_82 ?_
    refine pw_getr 7 5 dX7_carryOrder_83 fX7_42 rfl (by decide) rfl hs.t hs.r5 ?_
    refine pw_getI 4 4 dX7_carryOrder_86 fX7_230 rfl (by decide) rfl hs.rd.t ?_
    refine pw_top (ro.2.2.2.2.1 (e119 l119)).2.1 ?_
    refine pw_aload_0 dX7_carryOrder_89 ?_
    refine pw_getr 7 5 dX7_carryOrder_90 fX7_42 rfl (by decide) rfl hs.t hs.r5 ?_
    refine pw_getI 4 6 dX7_carryOrder_93 fX7_233 rfl (by decide) rfl hs.rd.t ?_
    refine pw_top (ro.2.2.2.2.1 (e119 l119)).2.2 ?_
    refine pw_cV3i 0 dX7_carryOrder_96 kX7_61 vX0_addWord iX0_addWord ⟨by decide, by decide⟩ ⟨rfl, rfl⟩ (by decide) rfl (Nat.le_of_ble_eq_true rfl) hs.now.t (k_word hs.now hb wf rfl (fun μ9 hb9 => ?_))
    refine pw_ireturn dX7_carryOrder_99 rfl ?_
    have x9 : doR B (k, a9, b9, c9) = wdR B a9 b9 c9 := (cif_n (fun h95 : k = 33 => l33 (by rw [h95]))).trans ((cif_n (fun h95 : k = 98 => l98 (by rw [h95]))).trans ((cif_n (fun h95 : k = 115 => l115 (by rw [h95]))).trans (cif_y (e119 l119))))
    have x8 : doN B (k, a9, b9, c9) = wdN B a9 b9 c9 := (cif_n (fun h95 : k = 33 => l33 (by rw [h95]))).trans ((cif_n (fun h95 : k = 98 => l98 (by rw [h95]))).trans ((cif_n (fun h95 : k = 115 => l115 (by rw [h95]))).trans (cif_y (e119 l119))))
    rw [x9, x8] at q
    exact q μ9 hb9
  rcases Classical.em ((nI k) = nI 122) with l122 | l122
  · skip
    refine pw_lookup (off := 108) 115 dX7_carryOrder_7 (by decide) (by rw [l122]; decide) (by decide) ?_
    refine pw_aload_0 dX7_carryOrder_115 ?_
    refine pw_getr 7 0 dX7_carryOrder_116 fX7_10 rfl (by decide) rfl hs.t hs.r0 ?_
    refine pw_aload_0 dX7_carryOrder_119 ?_
    refine pw_getr 7 5 dX7_carryOrder_120 fX7_42 rfl (by decide) rfl hs.t hs.r5 ?_
    refine pw_getI 4 3 dX7_carryOrder_123 fX7_227 rfl (by decide) rfl hs.rd.t ?_
    refine pw_top (ro.2.2.2.2.2 (e122 l122)) ?_
    refine pw_cV1i 0 dX7_carryOrder_126 kX7_71 vX0_toggleDoze iX0_toggleDoze ⟨by decide, by decide⟩ ⟨rfl, rfl⟩ (by decide) rfl (Nat.le_of_ble_eq_true rfl) hs.now.t (k_doze hs.now hb wf rfl (fun μ9 hb9 => ?_))
    refine pw_ireturn dX7_carryOrder_129 rfl ?_
    have x9 : doR B (k, a9, b9, c9) = dzR B a9 := (cif_n (fun h95 : k = 33 => l33 (by rw [h95]))).trans ((cif_n (fun h95 : k = 98 => l98 (by rw [h95]))).trans ((cif_n (fun h95 : k = 115 => l115 (by rw [h95]))).trans ((cif_n (fun h95 : k = 119 => l119 (by rw [h95]))).trans (cif_y (e122 l122)))))
    have x8 : doN B (k, a9, b9, c9) = dzN B a9 := (cif_n (fun h95 : k = 33 => l33 (by rw [h95]))).trans ((cif_n (fun h95 : k = 98 => l98 (by rw [h95]))).trans ((cif_n (fun h95 : k = 115 => l115 (by rw [h95]))).trans ((cif_n (fun h95 : k = 119 => l119 (by rw [h95]))).trans (cif_y (e122 l122)))))
    rw [x9, x8] at q
    exact q μ9 hb9
  refine pw_lookup (off := 138) 145 dX7_carryOrder_7 (by decide) (show Op.lookupswitch.offset [(33, 93), (98, 123), (115, 49), (119, 64), (122, 108)] 138 ((nI k)).toInt = 138 by rw [lv_osw l33 (by decide), lv_osw l98 (by decide), lv_osw l115 (by decide), lv_osw l119 (by decide), lv_osw l122 (by decide)] <;> rfl) (by decide) ?_
  refine pw_bipush (v := -3) dX7_carryOrder_145 (by decide) ?_
  refine pw_ireturn dX7_carryOrder_147 rfl ?_
  have x9 : doR B (k, a9, b9, c9) = -3 := (cif_n (fun h95 : k = 33 => l33 (by rw [h95]))).trans ((cif_n (fun h95 : k = 98 => l98 (by rw [h95]))).trans ((cif_n (fun h95 : k = 115 => l115 (by rw [h95]))).trans ((cif_n (fun h95 : k = 119 => l119 (by rw [h95]))).trans (cif_n (fun h95 : k = 122 => l122 (by rw [h95]))))))
  have x8 : doN B (k, a9, b9, c9) = B := (cif_n (fun h95 : k = 33 => l33 (by rw [h95]))).trans ((cif_n (fun h95 : k = 98 => l98 (by rw [h95]))).trans ((cif_n (fun h95 : k = 115 => l115 (by rw [h95]))).trans ((cif_n (fun h95 : k = 119 => l119 (by rw [h95]))).trans (cif_n (fun h95 : k = 122 => l122 (by rw [h95]))))))
  rw [x9, x8] at q
  exact q _ hb
theorem do_wf {B : Bs} {o : Od} (wf : WF B) : WF (doN B o) := by
  unfold doN
  rcases Classical.em (o.1 = 33) with c | c
  · rw [cif_y c]
    exact wf_sk wf
  rw [cif_n c]
  rcases Classical.em (o.1 = 98) with c | c
  · rw [cif_y c]
    exact wf_ps wf
  rw [cif_n c]
  rcases Classical.em (o.1 = 115) with c | c
  · rw [cif_y c]
    exact wf_cm wf
  rw [cif_n c]
  rcases Classical.em (o.1 = 119) with c | c
  · rw [cif_y c]
    exact wf_wd wf
  rw [cif_n c]
  rcases Classical.em (o.1 = 122) with c | c
  · rw [cif_y c]
    exact wf_dz wf
  rw [cif_n c]
  exact wf
