/-! Texts: one order -/
noncomputable def orG (P : Pd) (i : Nat) : Option (Nat × Int32 × Int32 × Int32) × Nat :=
  cif (chT P i 33) (cif (wrT P (i + 1)) (some (33, nI (wrV P (i + 1)), 0, 0), i + 1 + 1) (none, i + 1)) (
  cif (chT P i 98) (cif (dgT P (i + 1)) (some (98, nI (nmG P 3 (dgV P (i + 1)) (i + 1 + 1)).1, 0, 0), (nmG P 3 (dgV P (i + 1)) (i + 1 + 1)).2) (none, i + 1)) (
  cif (chT P i 115) (cif (∃ w, w < 6 ∧ (wsG P 6 (fun _ => False) (i + 1)).1 w) (some (115, msk (wsG P 6 (fun _ => False) (i + 1)).1 6, 0, 0), (wsG P 6 (fun _ => False) (i + 1)).2) (none, (wsG P 6 (fun _ => False) (i + 1)).2)) (
  cif (chT P i 119) (cif (dgT P (i + 1)) (cif (wrT P (i + 1 + 1)) (cif (chT P (i + 1 + 1 + 1) 61) (cif (dgT P (i + 1 + 1 + 1 + 1)) (some (119, nI (dgV P (i + 1)), nI (wrV P (i + 1 + 1)), nI (nmG P 3 (dgV P (i + 1 + 1 + 1 + 1)) (i + 1 + 1 + 1 + 1 + 1)).1), (nmG P 3 (dgV P (i + 1 + 1 + 1 + 1)) (i + 1 + 1 + 1 + 1 + 1)).2) (none, i + 1 + 1 + 1 + 1)) (none, i + 1 + 1 + 1)) (none, i + 1 + 1)) (none, i + 1)) (
  cif (chT P i 122) (cif (dgT P (i + 1)) (some (122, nI (dgV P (i + 1)), 0, 0), i + 1 + 1) (none, i + 1)) (none, i)))))
def RO (p : Nat) (ν : Mm) (o : Nat × Int32 × Int32 × Int32) : Prop := ν (p + 2) 2 = nI o.1 ∧ (o.1 = 33 → ν (p + 2) 4 = o.2.1) ∧ (o.1 = 98 → ν (p + 2) 6 = o.2.1) ∧ (o.1 = 115 → ν (p + 2) 5 = o.2.1) ∧ (o.1 = 119 → ν (p + 2) 3 = o.2.1 ∧ ν (p + 2) 4 = o.2.2.1 ∧ ν (p + 2) 6 = o.2.2.2) ∧ (o.1 = 122 → ν (p + 2) 3 = o.2.1)
set_option maxRecDepth 100000 in
set_option maxHeartbeats 4000000 in
theorem k_readOrder {X : Cx} {σ : Sp} {μ : Mm} {Q : Int32 → Sp → Mm → Prop} {μ0 : Mm} {p i : Nat} {P : Pd} (hr : ShRd σ (p + 2) p) (hd : PD μ0 p P) (rx : RX p μ0 μ) (ha : μ (p + 2) 1 = nI i) (hi : i ≤ 80) (q1 : ∀ o j, orG P i = (some o, j) → ∀ ν, RX p μ0 ν → ν (p + 2) 1 = nI j → RO p ν o → Q (nI 1) σ ν) (q0 : ∀ j, orG P i = (none, j) → ∀ ν, RX p μ0 ν → ν (p + 2) 1 = nI j → Q (nI 0) σ ν) : CTi X mX4_readOrder [.ref (p + 2)] σ μ Q := by
  refine CT.of (by decide +kernel) (Nat.le_of_ble_eq_true rfl) ?_
  show PW X mX4_readOrder 0 0 0 [some (.ref (p + 2))] [] σ μ (LI Q)
  have h80 := hd.2.1
  have kp0 : KP p [1, 2, 3, 4, 5, 6] μ μ := KP.rf
  refine pw_aload_0 dX4_readOrder_0 ?_
  refine pw_aload_0 dX4_readOrder_1 ?_
  refine pw_getr 4 0 dX4_readOrder_2 fX4_9 rfl (by decide) rfl hr.t hr.r0 ?_
  refine pw_aload_0 dX4_readOrder_5 ?_
  refine pw_getI 4 1 dX4_readOrder_6 fX4_15 rfl (by decide) rfl hr.t ?_
  refine pw_top ha ?_
  refine pw_cV1i 3 dX4_readOrder_9 kX4_28 vX3_codeAt iX3_codeAt ⟨by decide, by decide⟩ ⟨rfl, rfl⟩ (by decide) rfl (Nat.le_of_ble_eq_true rfl) hr.p.t (k_codeAt hr.p hd rx (by omega) ?_)
  refine pw_putI 4 2 dX4_readOrder_12 fX4_32 rfl (by decide) rfl (Or.inl rfl) rfl (by decide) hr.t ?_
  refine pw_gen (P := fun ν => RX p μ0 ν ∧ KP p [1, 2, 3, 4, 5, 6] μ ν ∧ ν (p + 2) 1 = (nI i) ∧ ν (p + 2) 2 = (cdG P i)) ⟨rx.w, kp0.w (by decide), rdN ha (by decide), rdS⟩ (fun μ1 ⟨rx1, kp1, rh1c1, rh1c2⟩ => ?_)
  refine pw_aload_0 dX4_readOrder_15 ?_
  refine pw_getI 4 2 dX4_readOrder_16 fX4_32 rfl (by decide) rfl hr.t ?_
  refine pw_top rh1c2 ?_
  rcases Classical.em ((cdG P i) = nI 33) with l33 | l33
  · skip
    refine pw_lookup (off := 116) 135 dX4_readOrder_19 (by decide) (by rw [l33]; decide) (by decide) ?_
    refine pw_aload_0 dX4_readOrder_135 ?_
    refine pw_bipush (v := nI 33) dX4_readOrder_136 (by decide) ?_
    refine pw_cV1i 4 dX4_readOrder_138 kX4_35 vX4_readSign iX4_readSign ⟨by decide, by decide⟩ ⟨rfl, rfl⟩ (by decide) rfl (Nat.le_of_ble_eq_true rfl) hr.t (k_readSign hr hd rx1 rh1c1 (by omega) (c := 33) (by decide) (by decide) (fun hs2 μw2 rxw2 kq2 g1_2 => ?_) (fun hs2 => ?_))
    · skip
      have hb2 := hs2.1
      refine pw_if_eq 155 dX4_readOrder_141 (by decide) (fun hh => absurd hh (by decide)) (fun _ => ?_)
      refine pw_aload_0 dX4_readOrder_144 ?_
      refine pw_cV0i 4 dX4_readOrder_145 kX4_45 vX4_readWire iX4_readWire ⟨by decide, by decide⟩ ⟨rfl, rfl⟩ (by decide) rfl (Nat.le_of_ble_eq_true rfl) hr.t (k_readWire hr hd rxw2 g1_2 (by omega) (fun d1 hd1 d1c μw3 rxw3 kq3 g1_3 g4_3 => ?_) (fun hd1 μw3 rxw3 kq3 g1_3 => ?_))
      · skip
        have hb3 := d1c.1
        refine pw_if_eq 155 dX4_readOrder_148 (by decide) (fun hh => absurd hh (by decide)) (fun _ => ?_)
        refine pw_iconst (v := nI 1) dX4_readOrder_151 (by decide) ?_
        refine pw_goto 156 dX4_readOrder_152 (by decide) ?_
        refine pw_zreturn dX4_readOrder_156 rfl (by decide) ?_
        have e9 : orG P i = (some (33, (nI d1), 0, 0), i + 1 + 1) := by
          unfold orG
          rw [cif_y (p := chT P i 33) (cd_y (by omega) (by omega) l33), cif_y (p := wrT P (i + 1)) (wr_y hd1 d1c).1, (wr_y hd1 d1c).2]
        exact q1 _ _ e9 _ rxw3 g1_3 ⟨((kq3 2 (by decide)).trans ((kq2 2 (by decide)).trans rh1c2)).trans l33, fun _ => g4_3, fun h95 => absurd (show (33 : Nat) = 98 from h95) (by decide), fun h95 => absurd (show (33 : Nat) = 115 from h95) (by decide), fun h95 => absurd (show (33 : Nat) = 119 from h95) (by decide), fun h95 => absurd (show (33 : Nat) = 122 from h95) (by decide)⟩
      · skip
        refine pw_if_eq 155 dX4_readOrder_148 (by decide) (fun _ => ?_) (fun hh => absurd (by decide) hh)
        refine pw_iconst (v := nI 0) dX4_readOrder_155 (by decide) ?_
        refine pw_zreturn dX4_readOrder_156 rfl (by decide) ?_
        have e9 : orG P i = (none, i + 1) := by
          unfold orG
          rw [cif_y (p := chT P i 33) (cd_y (by omega) (by omega) l33), cif_n (p := wrT P (i + 1)) hd1]
        exact q0 _ e9 _ rxw3 g1_3
    · skip
      refine pw_if_eq 155 dX4_readOrder_141 (by decide) (fun _ => ?_) (fun hh => absurd (by decide) hh)
      refine pw_iconst (v := nI 0) dX4_readOrder_155 (by decide) ?_
      refine pw_zreturn dX4_readOrder_156 rfl (by decide) ?_
      exact absurd (cd_y (by omega) (by omega) l33) hs2
  rcases Classical.em ((cdG P i) = nI 98) with l98 | l98
  · skip
    refine pw_lookup (off := 160) 179 dX4_readOrder_19 (by decide) (by rw [l98]; decide) (by decide) ?_
    refine pw_aload_0 dX4_readOrder_179 ?_
    refine pw_bipush (v := nI 98) dX4_readOrder_180 (by decide) ?_
    refine pw_cV1i 4 dX4_readOrder_182 kX4_35 vX4_readSign iX4_readSign ⟨by decide, by decide⟩ ⟨rfl, rfl⟩ (by decide) rfl (Nat.le_of_ble_eq_true rfl) hr.t (k_readSign hr hd rx1 rh1c1 (by omega) (c := 98) (by decide) (by decide) (fun hs4 μw4 rxw4 kq4 g1_4 => ?_) (fun hs4 => ?_))
    · skip
      have hb4 := hs4.1
      refine pw_if_eq 199 dX4_readOrder_185 (by decide) (fun hh => absurd hh (by decide)) (fun _ => ?_)
      refine pw_aload_0 dX4_readOrder_188 ?_
      refine pw_cV0i 4 dX4_readOrder_189 kX4_48 vX4_readNumber iX4_readNumber ⟨by decide, by decide⟩ ⟨rfl, rfl⟩ (by decide) rfl (Nat.le_of_ble_eq_true rfl) hr.t (k_readNumber hr hd rxw4 g1_4 (by omega) (fun d2 hd2 d2c μw5 rxw5 kq5 g1_5 g6_5 => ?_) (fun hd2 μw5 rxw5 kq5 g1_5 => ?_))
      · skip
        have hb5 := d2c.1
        refine pw_if_eq 199 dX4_readOrder_192 (by decide) (fun hh => absurd hh (by decide)) (fun _ => ?_)
        refine pw_iconst (v := nI 1) dX4_readOrder_195 (by decide) ?_
        refine pw_goto 200 dX4_readOrder_196 (by decide) ?_
        refine pw_zreturn dX4_readOrder_200 rfl (by decide) ?_
        have e9 : orG P i = (some (98, (nI ((nmG P 3 d2 (i + 1 + 1)).1)), 0, 0), (nmG P 3 d2 (i + 1 + 1)).2) := by
          unfold orG
          rw [cif_n (p := chT P i 33) (fun h95 => l33 (cd_i h95)), cif_y (p := chT P i 98) (cd_y (by omega) (by omega) l98), cif_y (p := dgT P (i + 1)) (dg_y hd2 d2c).1, (dg_y hd2 d2c).2]
        exact q1 _ _ e9 _ rxw5 g1_5 ⟨((kq5 2 (by decide)).trans ((kq4 2 (by decide)).trans rh1c2)).trans l98, fun h95 => absurd (show (98 : Nat) = 33 from h95) (by decide), fun _ => g6_5, fun h95 => absurd (show (98 : Nat) = 115 from h95) (by decide), fun h95 => absurd (show (98 : Nat) = 119 from h95) (by decide), fun h95 => absurd (show (98 : Nat) = 122 from h95) (by decide)⟩
      · skip
        refine pw_if_eq 199 dX4_readOrder_192 (by decide) (fun _ => ?_) (fun hh => absurd (by decide) hh)
        refine pw_iconst (v := nI 0) dX4_readOrder_199 (by decide) ?_
        refine pw_zreturn dX4_readOrder_200 rfl (by decide) ?_
        have e9 : orG P i = (none, i + 1) := by
          unfold orG
          rw [cif_n (p := chT P i 33) (fun h95 => l33 (cd_i h95)), cif_y (p := chT P i 98) (cd_y (by omega) (by omega) l98), cif_n (p := dgT P (i + 1)) hd2]
        exact q0 _ e9 _ rxw5 g1_5
    · skip
      refine pw_if_eq 199 dX4_readOrder_185 (by decide) (fun _ => ?_) (fun hh => absurd (by decide) hh)
      refine pw_iconst (v := nI 0) dX4_readOrder_199 (by decide) ?_
      refine pw_zreturn dX4_readOrder_200 rfl (by decide) ?_
      exact absurd (cd_y (by omega) (by omega) l98) hs4
  rcases Classical.em ((cdG P i) = nI 115) with l115 | l115
  · skip
    refine pw_lookup (off := 49) 68 dX4_readOrder_19 (by decide) (by rw [l115]; decide) (by decide) ?_
    refine pw_aload_0 dX4_readOrder_68 ?_
    refine pw_bipush (v := nI 115) dX4_readOrder_69 (by decide) ?_
    refine pw_cV1i 4 dX4_readOrder_71 kX4_35 vX4_readSign iX4_readSign ⟨by decide, by decide⟩ ⟨rfl, rfl⟩ (by decide) rfl (Nat.le_of_ble_eq_true rfl) hr.t (k_readSign hr hd rx1 rh1c1 (by omega) (c := 115) (by decide) (by decide) (fun hs6 μw6 rxw6 kq6 g1_6 => ?_) (fun hs6 => ?_))
    · skip
      have hb6 := hs6.1
      refine pw_if_eq 88 dX4_readOrder_74 (by decide) (fun hh => absurd hh (by decide)) (fun _ => ?_)
      refine pw_aload_0 dX4_readOrder_77 ?_
      refine pw_cV0i 4 dX4_readOrder_78 kX4_39 vX4_readWires iX4_readWires ⟨by decide, by decide⟩ ⟨rfl, rfl⟩ (by decide) rfl (Nat.le_of_ble_eq_true rfl) hr.t (k_readWires hr hd rxw6 g1_6 (by omega) (fun hs7 μw7 rxw7 kq7 g1_7 g5_7 => ?_) (fun hs7 μw7 rxw7 kq7 g1_7 => ?_))
      · skip
        refine pw_if_eq 88 dX4_readOrder_81 (by decide) (fun hh => absurd hh (by decide)) (fun _ => ?_)
        refine pw_iconst (v := nI 1) dX4_readOrder_84 (by decide) ?_
        refine pw_goto 89 dX4_readOrder_85 (by decide) ?_
        refine pw_zreturn dX4_readOrder_89 rfl (by decide) ?_
        have e9 : orG P i = (some (115, (msk (wsG P 6 (fun _ => False) (i + 1)).1 6), 0, 0), (wsG P 6 (fun _ => False) (i + 1)).2) := by
          unfold orG
          rw [cif_n (p := chT P i 33) (fun h95 => l33 (cd_i h95)), cif_n (p := chT P i 98) (fun h95 => l98 (cd_i h95)), cif_y (p := chT P i 115) (cd_y (by omega) (by omega) l115), cif_y hs7]
        exact q1 _ _ e9 _ rxw7 g1_7 ⟨((kq7 2 (by decide)).trans ((kq6 2 (by decide)).trans rh1c2)).trans l115, fun h95 => absurd (show (115 : Nat) = 33 from h95) (by decide), fun h95 => absurd (show (115 : Nat) = 98 from h95) (by decide), fun _ => g5_7, fun h95 => absurd (show (115 : Nat) = 119 from h95) (by decide), fun h95 => absurd (show (115 : Nat) = 122 from h95) (by decide)⟩
      · skip
        refine pw_if_eq 88 dX4_readOrder_81 (by decide) (fun _ => ?_) (fun hh => absurd (by decide) hh)
        refine pw_iconst (v := nI 0) dX4_readOrder_88 (by decide) ?_
        refine pw_zreturn dX4_readOrder_89 rfl (by decide) ?_
        have e9 : orG P i = (none, (wsG P 6 (fun _ => False) (i + 1)).2) := by
          unfold orG
          rw [cif_n (p := chT P i 33) (fun h95 => l33 (cd_i h95)), cif_n (p := chT P i 98) (fun h95 => l98 (cd_i h95)), cif_y (p := chT P i 115) (cd_y (by omega) (by omega) l115), cif_n hs7]
        exact q0 _ e9 _ rxw7 g1_7
    · skip
      refine pw_if_eq 88 dX4_readOrder_74 (by decide) (fun _ => ?_) (fun hh => absurd (by decide) hh)
      refine pw_iconst (v := nI 0) dX4_readOrder_88 (by decide) ?_
      refine pw_zreturn dX4_readOrder_89 rfl (by decide) ?_
      exact absurd (cd_y (by omega) (by omega) l115) hs6
  rcases Classical.em ((cdG P i) = nI 119) with l119 | l119
  · skip
    refine pw_lookup (off := 71) 90 dX4_readOrder_19 (by decide) (by rw [l119]; decide) (by decide) ?_
    refine pw_aload_0 dX4_readOrder_90 ?_
    refine pw_bipush (v := nI 119) dX4_readOrder_91 (by decide) ?_
    refine pw_cV1i 4 dX4_readOrder_93 kX4_35 vX4_readSign iX4_readSign ⟨by decide, by decide⟩ ⟨rfl, rfl⟩ (by decide) rfl (Nat.le_of_ble_eq_true rfl) hr.t (k_readSign hr hd rx1 rh1c1 (by omega) (c := 119) (by decide) (by decide) (fun hs8 μw8 rxw8 kq8 g1_8 => ?_) (fun hs8 => ?_))
    · skip
      have hb8 := hs8.1
      refine pw_if_eq 133 dX4_readOrder_96 (by decide) (fun hh => absurd hh (by decide)) (fun _ => ?_)
      refine pw_aload_0 dX4_readOrder_99 ?_
      refine pw_cV0i 4 dX4_readOrder_100 kX4_42 vX4_readStation iX4_readStation ⟨by decide, by decide⟩ ⟨rfl, rfl⟩ (by decide) rfl (Nat.le_of_ble_eq_true rfl) hr.t (k_readStation hr hd rxw8 g1_8 (by omega) (fun d3 hd3 d3c μw9 rxw9 kq9 g1_9 g3_9 => ?_) (fun hd3 μw9 rxw9 kq9 g1_9 => ?_))
      · skip
        have hb9 := d3c.1
        refine pw_if_eq 133 dX4_readOrder_103 (by decide) (fun hh => absurd hh (by decide)) (fun _ => ?_)
        refine pw_aload_0 dX4_readOrder_106 ?_
        refine pw_cV0i 4 dX4_readOrder_107 kX4_45 vX4_readWire iX4_readWire ⟨by decide, by decide⟩ ⟨rfl, rfl⟩ (by decide) rfl (Nat.le_of_ble_eq_true rfl) hr.t (k_readWire hr hd rxw9 g1_9 (by omega) (fun d4 hd4 d4c μw10 rxw10 kq10 g1_10 g4_10 => ?_) (fun hd4 μw10 rxw10 kq10 g1_10 => ?_))
        · skip
          have hb10 := d4c.1
          refine pw_if_eq 133 dX4_readOrder_110 (by decide) (fun hh => absurd hh (by decide)) (fun _ => ?_)
          refine pw_aload_0 dX4_readOrder_113 ?_
          refine pw_bipush (v := nI 61) dX4_readOrder_114 (by decide) ?_
          refine pw_cV1i 4 dX4_readOrder_116 kX4_35 vX4_readSign iX4_readSign ⟨by decide, by decide⟩ ⟨rfl, rfl⟩ (by decide) rfl (Nat.le_of_ble_eq_true rfl) hr.t (k_readSign hr hd rxw10 g1_10 (by omega) (c := 61) (by decide) (by decide) (fun hs11 μw11 rxw11 kq11 g1_11 => ?_) (fun hs11 => ?_))
          · skip
            have hb11 := hs11.1
            refine pw_if_eq 133 dX4_readOrder_119 (by decide) (fun hh => absurd hh (by decide)) (fun _ => ?_)
            refine pw_aload_0 dX4_readOrder_122 ?_
            refine pw_cV0i 4 dX4_readOrder_123 kX4_48 vX4_readNumber iX4_readNumber ⟨by decide, by decide⟩ ⟨rfl, rfl⟩ (by decide) rfl (Nat.le_of_ble_eq_true rfl) hr.t (k_readNumber hr hd rxw11 g1_11 (by omega) (fun d5 hd5 d5c μw12 rxw12 kq12 g1_12 g6_12 => ?_) (fun hd5 μw12 rxw12 kq12 g1_12 => ?_))
            · skip
              have hb12 := d5c.1
              refine pw_if_eq 133 dX4_readOrder_126 (by decide) (fun hh => absurd hh (by decide)) (fun _ => ?_)
              refine pw_iconst (v := nI 1) dX4_readOrder_129 (by decide) ?_
              refine pw_goto 134 dX4_readOrder_130 (by decide) ?_
              refine pw_zreturn dX4_readOrder_134 rfl (by decide) ?_
              have e9 : orG P i = (some (119, (nI d3), (nI d4), (nI ((nmG P 3 d5 (i + 1 + 1 + 1 + 1 + 1)).1))), (nmG P 3 d5 (i + 1 + 1 + 1 + 1 + 1)).2) := by
                unfold orG
                rw [cif_n (p := chT P i 33) (fun h95 => l33 (cd_i h95)), cif_n (p := chT P i 98) (fun h95 => l98 (cd_i h95)), cif_n (p := chT P i 115) (fun h95 => l115 (cd_i h95)), cif_y (p := chT P i 119) (cd_y (by omega) (by omega) l119), cif_y (p := dgT P (i + 1)) (dg_y hd3 d3c).1, (dg_y hd3 d3c).2, cif_y (p := wrT P (i + 1 + 1)) (wr_y hd4 d4c).1, (wr_y hd4 d4c).2, cif_y (p := chT P (i + 1 + 1 + 1) 61) hs11, cif_y (p := dgT P (i + 1 + 1 + 1 + 1)) (dg_y hd5 d5c).1, (dg_y hd5 d5c).2]
              exact q1 _ _ e9 _ rxw12 g1_12 ⟨((kq12 2 (by decide)).trans ((kq11 2 (by decide)).trans ((kq10 2 (by decide)).trans ((kq9 2 (by decide)).trans ((kq8 2 (by decide)).trans rh1c2))))).trans l119, fun h95 => absurd (show (119 : Nat) = 33 from h95) (by decide), fun h95 => absurd (show (119 : Nat) = 98 from h95) (by decide), fun h95 => absurd (show (119 : Nat) = 115 from h95) (by decide), fun _ => ⟨((kq12 3 (by decide)).trans ((kq11 3 (by decide)).trans ((kq10 3 (by decide)).trans g3_9))), ((kq12 4 (by decide)).trans ((kq11 4 (by decide)).trans g4_10)), g6_12⟩, fun h95 => absurd (show (119 : Nat) = 122 from h95) (by decide)⟩
            · skip
              refine pw_if_eq 133 dX4_readOrder_126 (by decide) (fun _ => ?_) (fun hh => absurd (by decide) hh)
              refine pw_iconst (v := nI 0) dX4_readOrder_133 (by decide) ?_
              refine pw_zreturn dX4_readOrder_134 rfl (by decide) ?_
              have e9 : orG P i = (none, i + 1 + 1 + 1 + 1) := by
                unfold orG
                rw [cif_n (p := chT P i 33) (fun h95 => l33 (cd_i h95)), cif_n (p := chT P i 98) (fun h95 => l98 (cd_i h95)), cif_n (p := chT P i 115) (fun h95 => l115 (cd_i h95)), cif_y (p := chT P i 119) (cd_y (by omega) (by omega) l119), cif_y (p := dgT P (i + 1)) (dg_y hd3 d3c).1, (dg_y hd3 d3c).2, cif_y (p := wrT P (i + 1 + 1)) (wr_y hd4 d4c).1, (wr_y hd4 d4c).2, cif_y (p := chT P (i + 1 + 1 + 1) 61) hs11, cif_n (p := dgT P (i + 1 + 1 + 1 + 1)) hd5]
              exact q0 _ e9 _ rxw12 g1_12
          · skip
            refine pw_if_eq 133 dX4_readOrder_119 (by decide) (fun _ => ?_) (fun hh => absurd (by decide) hh)
            refine pw_iconst (v := nI 0) dX4_readOrder_133 (by decide) ?_
            refine pw_zreturn dX4_readOrder_134 rfl (by decide) ?_
            have e9 : orG P i = (none, i + 1 + 1 + 1) := by
              unfold orG
              rw [cif_n (p := chT P i 33) (fun h95 => l33 (cd_i h95)), cif_n (p := chT P i 98) (fun h95 => l98 (cd_i h95)), cif_n (p := chT P i 115) (fun h95 => l115 (cd_i h95)), cif_y (p := chT P i 119) (cd_y (by omega) (by omega) l119), cif_y (p := dgT P (i + 1)) (dg_y hd3 d3c).1, (dg_y hd3 d3c).2, cif_y (p := wrT P (i + 1 + 1)) (wr_y hd4 d4c).1, (wr_y hd4 d4c).2, cif_n (p := chT P (i + 1 + 1 + 1) 61) hs11]
            exact q0 _ e9 _ rxw10 g1_10
        · skip
          refine pw_if_eq 133 dX4_readOrder_110 (by decide) (fun _ => ?_) (fun hh => absurd (by decide) hh)
          refine pw_iconst (v := nI 0) dX4_readOrder_133 (by decide) ?_
          refine pw_zreturn dX4_readOrder_134 rfl (by decide) ?_
          have e9 : orG P i = (none, i + 1 + 1) := by
            unfold orG
            rw [cif_n (p := chT P i 33) (fun h95 => l33 (cd_i h95)), cif_n (p := chT P i 98) (fun h95 => l98 (cd_i h95)), cif_n (p := chT P i 115) (fun h95 => l115 (cd_i h95)), cif_y (p := chT P i 119) (cd_y (by omega) (by omega) l119), cif_y (p := dgT P (i + 1)) (dg_y hd3 d3c).1, (dg_y hd3 d3c).2, cif_n (p := wrT P (i + 1 + 1)) hd4]
          exact q0 _ e9 _ rxw10 g1_10
      · skip
        refine pw_if_eq 133 dX4_readOrder_103 (by decide) (fun _ => ?_) (fun hh => absurd (by decide) hh)
        refine pw_iconst (v := nI 0) dX4_readOrder_133 (by decide) ?_
        refine pw_zreturn dX4_readOrder_134 rfl (by decide) ?_
        have e9 : orG P i = (none, i + 1) := by
          unfold orG
          rw [cif_n (p := chT P i 33) (fun h95 => l33 (cd_i h95)), cif_n (p := chT P i 98) (fun h95 => l98 (cd_i h95)), cif_n (p := chT P i 115) (fun h95 => l115 (cd_i h95)), cif_y (p := chT P i 119) (cd_y (by omega) (by omega) l119), cif_n (p := dgT P (i + 1)) hd3]
        exact q0 _ e9 _ rxw9 g1_9
    · skip
      refine pw_if_eq 133 dX4_readOrder_96 (by decide) (fun _ => ?_) (fun hh => absurd (by decide) hh)
      refine pw_iconst (v := nI 0) dX4_readOrder_133 (by decide) ?_
      refine pw_zreturn dX4_readOrder_134 rfl (by decide) ?_
      exact absurd (cd_y (by omega) (by omega) l119) hs8
  rcases Classical.em ((cdG P i) = nI 122) with l122 | l122
  · skip
    refine pw_lookup (off := 138) 157 dX4_readOrder_19 (by decide) (by rw [l122]; decide) (by decide) ?_
    refine pw_aload_0 dX4_readOrder_157 ?_
    refine pw_bipush (v := nI 122) dX4_readOrder_158 (by decide) ?_
    refine pw_cV1i 4 dX4_readOrder_160 kX4_35 vX4_readSign iX4_readSign ⟨by decide, by decide⟩ ⟨rfl, rfl⟩ (by decide) rfl (Nat.le_of_ble_eq_true rfl) hr.t (k_readSign hr hd rx1 rh1c1 (by omega) (c := 122) (by decide) (by decide) (fun hs13 μw13 rxw13 kq13 g1_13 => ?_) (fun hs13 => ?_))
    · skip
      have hb13 := hs13.1
      refine pw_if_eq 177 dX4_readOrder_163 (by decide) (fun hh => absurd hh (by decide)) (fun _ => ?_)
      refine pw_aload_0 dX4_readOrder_166 ?_
      refine pw_cV0i 4 dX4_readOrder_167 kX4_42 vX4_readStation iX4_readStation ⟨by decide, by decide⟩ ⟨rfl, rfl⟩ (by decide) rfl (Nat.le_of_ble_eq_true rfl) hr.t (k_readStation hr hd rxw13 g1_13 (by omega) (fun d6 hd6 d6c μw14 rxw14 kq14 g1_14 g3_14 => ?_) (fun hd6 μw14 rxw14 kq14 g1_14 => ?_))
      · skip
        have hb14 := d6c.1
        refine pw_if_eq 177 dX4_readOrder_170 (by decide) (fun hh => absurd hh (by decide)) (fun _ => ?_)
        refine pw_iconst (v := nI 1) dX4_readOrder_173 (by decide) ?_
        refine pw_goto 178 dX4_readOrder_174 (by decide) ?_
        refine pw_zreturn dX4_readOrder_178 rfl (by decide) ?_
        have e9 : orG P i = (some (122, (nI d6), 0, 0), i + 1 + 1) := by
          unfold orG
          rw [cif_n (p := chT P i 33) (fun h95 => l33 (cd_i h95)), cif_n (p := chT P i 98) (fun h95 => l98 (cd_i h95)), cif_n (p := chT P i 115) (fun h95 => l115 (cd_i h95)), cif_n (p := chT P i 119) (fun h95 => l119 (cd_i h95)), cif_y (p := chT P i 122) (cd_y (by omega) (by omega) l122), cif_y (p := dgT P (i + 1)) (dg_y hd6 d6c).1, (dg_y hd6 d6c).2]
        exact q1 _ _ e9 _ rxw14 g1_14 ⟨((kq14 2 (by decide)).trans ((kq13 2 (by decide)).trans rh1c2)).trans l122, fun h95 => absurd (show (122 : Nat) = 33 from h95) (by decide), fun h95 => absurd (show (122 : Nat) = 98 from h95) (by decide), fun h95 => absurd (show (122 : Nat) = 115 from h95) (by decide), fun h95 => absurd (show (122 : Nat) = 119 from h95) (by decide), fun _ => g3_14⟩
      · skip
        refine pw_if_eq 177 dX4_readOrder_170 (by decide) (fun _ => ?_) (fun hh => absurd (by decide) hh)
        refine pw_iconst (v := nI 0) dX4_readOrder_177 (by decide) ?_
        refine pw_zreturn dX4_readOrder_178 rfl (by decide) ?_
        have e9 : orG P i = (none, i + 1) := by
          unfold orG
          rw [cif_n (p := chT P i 33) (fun h95 => l33 (cd_i h95)), cif_n (p := chT P i 98) (fun h95 => l98 (cd_i h95)), cif_n (p := chT P i 115) (fun h95 => l115 (cd_i h95)), cif_n (p := chT P i 119) (fun h95 => l119 (cd_i h95)), cif_y (p := chT P i 122) (cd_y (by omega) (by omega) l122), cif_n (p := dgT P (i + 1)) hd6]
        exact q0 _ e9 _ rxw14 g1_14
    · skip
      refine pw_if_eq 177 dX4_readOrder_163 (by decide) (fun _ => ?_) (fun hh => absurd (by decide) hh)
      refine pw_iconst (v := nI 0) dX4_readOrder_177 (by decide) ?_
      refine pw_zreturn dX4_readOrder_178 rfl (by decide) ?_
      exact absurd (cd_y (by omega) (by omega) l122) hs13
  refine pw_lookup (off := 182) 201 dX4_readOrder_19 (by decide) (show Op.lookupswitch.offset [(33, 116), (98, 160), (115, 49), (119, 71), (122, 138)] 182 ((cdG P i)).toInt = 182 by rw [lv_osw l33 (by decide), lv_osw l98 (by decide), lv_osw l115 (by decide), lv_osw l119 (by decide), lv_osw l122 (by decide)] <;> rfl) (by decide) ?_
  refine pw_iconst (v := nI 0) dX4_readOrder_201 (by decide) ?_
  refine pw_zreturn dX4_readOrder_202 rfl (by decide) ?_
  have e9 : orG P i = (none, i) := by
    unfold orG
    rw [cif_n (p := chT P i 33) (fun h95 => l33 (cd_i h95)), cif_n (p := chT P i 98) (fun h95 => l98 (cd_i h95)), cif_n (p := chT P i 115) (fun h95 => l115 (cd_i h95)), cif_n (p := chT P i 119) (fun h95 => l119 (cd_i h95)), cif_n (p := chT P i 122) (fun h95 => l122 (cd_i h95))]
  exact q0 _ e9 _ rx1 rh1c1
set_option maxRecDepth 100000 in
set_option maxHeartbeats 4000000 in
theorem k_readOut {X : Cx} {σ : Sp} {μ : Mm} {Q : Int32 → Sp → Mm → Prop} {μ0 : Mm} {p i : Nat} {P : Pd} (hr : ShRd σ (p + 2) p) (hd : PD μ0 p P) (rx : RX p μ0 μ) (ha : μ (p + 2) 1 = nI i) (hi : i ≤ 81) (hpi : P.2 ≤ i) (q : ∀ ν, RX p μ0 ν → Q (nI 0) σ ν) : CTi X mX4_readOrder [.ref (p + 2)] σ μ Q := by
  refine CT.of (by decide +kernel) (Nat.le_of_ble_eq_true rfl) ?_
  show PW X mX4_readOrder 0 0 0 [some (.ref (p + 2))] [] σ μ (LI Q)
  have h80 := hd.2.1
  have kp0 : KP p [1, 2, 3, 4, 5, 6] μ μ := KP.rf
  refine pw_aload_0 dX4_readOrder_0 ?_
  refine pw_aload_0 dX4_readOrder_1 ?_
  refine pw_getr 4 0 dX4_readOrder_2 fX4_9 rfl (by decide) rfl hr.t hr.r0 ?_
  refine pw_aload_0 dX4_readOrder_5 ?_
  refine pw_getI 4 1 dX4_readOrder_6 fX4_15 rfl (by decide) rfl hr.t ?_
  refine pw_top ha ?_
  refine pw_cV1i 3 dX4_readOrder_9 kX4_28 vX3_codeAt iX3_codeAt ⟨by decide, by decide⟩ ⟨rfl, rfl⟩ (by decide) rfl (Nat.le_of_ble_eq_true rfl) hr.p.t (k_codeAt hr.p hd rx (by omega) ?_)
  refine pw_putI 4 2 dX4_readOrder_12 fX4_32 rfl (by decide) rfl (Or.inl rfl) rfl (by decide) hr.t ?_
  refine pw_gen (P := fun ν => RX p μ0 ν ∧ KP p [1, 2, 3, 4, 5, 6] μ ν ∧ ν (p + 2) 1 = (nI i) ∧ ν (p + 2) 2 = (cdG P i)) ⟨rx.w, kp0.w (by decide), rdN ha (by decide), rdS⟩ (fun μ1 ⟨rx1, kp1, rh1c1, rh1c2⟩ => ?_)
  refine pw_aload_0 dX4_readOrder_15 ?_
  refine pw_getI 4 2 dX4_readOrder_16 fX4_32 rfl (by decide) rfl hr.t ?_
  refine pw_top rh1c2 ?_
  have z0 : cdG P i = nI 0 := cif_n (Nat.not_lt.mpr hpi)
  refine pw_lookup (off := 182) 201 dX4_readOrder_19 (by decide) (show Op.lookupswitch.offset [(33, 116), (98, 160), (115, 49), (119, 71), (122, 138)] 182 (cdG P i).toInt = 182 by rw [z0]; decide) (by decide) ?_
  refine pw_iconst (v := nI 0) dX4_readOrder_201 (by decide) ?_
  refine pw_zreturn dX4_readOrder_202 rfl (by decide) ?_
  exact q _ rx1
