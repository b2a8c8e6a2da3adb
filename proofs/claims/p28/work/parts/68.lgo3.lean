/-! The law's beat: words go on -/
theorem hr_W (B : Bs) (i w : Nat) : bW (hrB B i) w = bW B w := by
  unfold hrB
  generalize nS B = m
  induction m with
  | zero => rfl
  | succ m ih =>
    show bW (heS B i m (itr (heS B i) m B)) w = _
    unfold heS
    by_cases h : m ≠ i ∧ bi (bS B i 18) (nI m) = nI 1
    · rw [cif_y h, bW_setS]
      exact ih
    · rw [cif_n h]
      exact ih
set_option maxRecDepth 100000 in
set_option maxHeartbeats 4000000 in
theorem bt_go3 {X : Cx} {σ : Sp} {μ : Mm} {Q : Int32 → Sp → Mm → Prop} {κ : Prop} {μ0 : Mm} {p n k m9 : Nat} {R : Bs × Nat} {L A : Nat → Prop} {ml mb : Int32} (hs : ShL σ p) (hl : LU κ μ0 p R.1 μ) (gd : GDn n R.1) (hk : k < n) (ht : WT m9 R.1) (hm9 : m9 < 131072) (sp : spB R.1 k) (hA : ∀ s, s < n → (awB R.1 s ↔ A s)) (ih : ∀ ν, LU κ μ0 p (goP L A n k R).1 ν → PW X mL_beat 0 0 288 [some (.ref p), some (.ref (p + 1)), some (.ref (p + 2)), some (.ref (p + 3)), some (.ref (p + 4)), some (.ref (p + 5)), some (.int ml), none, some (.int (nI ((goP L A n k R).2))), some (.int mb), some (.int (nI (k + 1))), none, none, none, none] [] σ ν (LI Q)) {j o : Nat} (hj : (j = 1 ∧ gvP L A n R.1 k) ∨ (j = 0 ∧ ¬ gvP L A n R.1 k)) (ho : ∀ kk, bS R.1 k 17 = nI kk → kk ≤ 10 → (o = 1 ∧ kk = 10) ∨ (o = 0 ∧ kk ≠ 10)) : PW X mL_beat 0 0 421 [some (.ref p), some (.ref (p + 1)), some (.ref (p + 2)), some (.ref (p + 3)), some (.ref (p + 4)), some (.ref (p + 5)), some (.int ml), none, some (.int (nI R.2)), some (.int mb), some (.int (nI k)), some (.int (nI j)), some (.int (nI o)), none, none] [] σ μ (LI Q) := by
  have h8 := gd.n8
  obtain ⟨h0, kk, kk10, kke, kkv⟩ := gd.sp hk sp
  obtain ⟨v, x, y, hv, hx6, hy, e5, e6, e7⟩ := gd.wd hk h0
  have hfw : fwB R.1 k = x := by unfold fwB; rw [e6, nI_clamp (by omega)]
  have ho := ho kk kke kk10
  rcases hj with ⟨rfl, hg⟩ | ⟨rfl, hg⟩
  · skip
    have eg : goP L A n k R = (guB R.1 k, R.2) := (cif_y sp).trans (cif_y hg)
    rw [eg] at ih
    refine pw_iload_11 dL_beat_421 ?_
    refine pw_if_eq 441 dL_beat_423 (by decide) (fun hh => absurd hh (by decide)) (fun _ => ?_)
    refine pw_aload_0 dL_beat_426 ?_
    refine pw_aload_1 dL_beat_427 ?_
    refine pw_aload_2 dL_beat_428 ?_
    refine pw_aload_4 dL_beat_429 ?_
    refine pw_aload_5 dL_beat_431 ?_
    refine pw_iload_10 dL_beat_433 ?_
    refine pw_cS6v dL_beat_435 kL_24 vL_fails sL_fails ⟨by decide, by decide⟩ ⟨rfl, rfl⟩ (Nat.le_of_ble_eq_true rfl) (k_fails hs hl gd.wf gd.wl (by rw [gd.hn]; omega) h0 (fun μf hlf => ?_))
    refine pw_goto 652 dL_beat_438 (by decide) ?_
    refine pw_iincN_10 dL_beat_652 (by decide) ?_
    refine pw_goto 288 dL_beat_655 (by decide) ?_
    refine pw_fg (ls' := [some (.ref p), some (.ref (p + 1)), some (.ref (p + 2)), some (.ref (p + 3)), some (.ref (p + 4)), some (.ref (p + 5)), some (.int ml), none, _, some (.int mb), some (.int (nI (k + 1))), none, none, none, none]) ⟨Or.inr rfl, Or.inr rfl, Or.inr rfl, Or.inr rfl, Or.inr rfl, Or.inr rfl, Or.inr rfl, Or.inl rfl, Or.inr rfl, Or.inr rfl, Or.inr rfl, Or.inl rfl, Or.inl rfl, Or.inl rfl, Or.inl rfl, trivial⟩ ?_
    exact ih _ hlf
  · skip
    refine pw_iload_11 dL_beat_421 ?_
    refine pw_if_eq 441 dL_beat_423 (by decide) (fun _ => ?_) (fun hh => absurd (by decide) hh)
    rcases ho with ⟨rfl, h10⟩ | ⟨rfl, h10⟩
    · skip
      have eg : goP L A n k R = (hdB R.1 k, R.2 + 1) := (cif_y sp).trans ((cif_n hg).trans (cif_y (by rw [kke, h10])))
      rw [eg] at ih
      refine pw_iload_12 dL_beat_441 ?_
      refine pw_if_ne 460 dL_beat_443 (by decide) (fun _ => ?_) (fun hh => absurd hh (by decide))
      refine pw_iconst (v := nI 0) dL_beat_460 (by decide) ?_
      refine pw_istore_13 dL_beat_461 (by decide) ?_
      refine pw_fg (ls' := [some (.ref p), some (.ref (p + 1)), some (.ref (p + 2)), some (.ref (p + 3)), some (.ref (p + 4)), some (.ref (p + 5)), some (.int ml), none, some (.int (nI R.2)), some (.int mb), some (.int (nI k)), some (.int (nI 0)), some (.int (nI 1)), some (.int (nI 0)), none]) ⟨Or.inr rfl, Or.inr rfl, Or.inr rfl, Or.inr rfl, Or.inr rfl, Or.inr rfl, Or.inr rfl, Or.inl rfl, Or.inr rfl, Or.inr rfl, Or.inr rfl, Or.inr rfl, Or.inr rfl, Or.inr rfl, Or.inl rfl, trivial⟩ ?_
      refine pw_up (P := fun m => ∀ ν, LU κ μ0 p (itr (heS R.1 k) m R.1) ν → PW X mL_beat 0 0 463 [some (.ref p), some (.ref (p + 1)), some (.ref (p + 2)), some (.ref (p + 3)), some (.ref (p + 4)), some (.ref (p + 5)), some (.int ml), none, some (.int (nI R.2)), some (.int mb), some (.int (nI k)), some (.int (nI 0)), some (.int (nI 1)), some (.int (nI m)), none] [] σ ν (LI Q)) n ?_ ?_ 0 (Nat.zero_le _) _ hl
      · intro ν hl1
        have gdD := gd.hrk hk h0 ht hm9 (Nat.le_refl n)
        have hDk : bS (itr (heS R.1 k) n R.1) k = bS R.1 k := hr_st n
        have eD : itr (heS R.1 k) n R.1 = hrB R.1 k := by unfold hrB; rw [gd.hn]
        have hWD : ∀ w, bW (itr (heS R.1 k) n R.1) w = bW R.1 w := fun w => by
          rw [eD]
          exact hr_W R.1 k w
        rw [eD] at hl1 gdD hDk hWD
        generalize hDD : hrB R.1 k = D at hl1 gdD hDk hWD
        have d0 : 0 < nwF (bS D k) := by rw [hDk]; exact h0
        refine pw_iload_13 dL_beat_463 ?_
        refine pw_aload_5 dL_beat_465 ?_
        refine pw_bipush (v := nI 6) dL_beat_467 (by decide) ?_
        refine pw_ialdN dL_beat_469 hs.t (by omega) (by decide) ?_
        refine pw_top ((hl1.t (by omega)).trans gdD.g6) ?_
        refine pw_icmp_ge 615 dL_beat_470 (by decide) (fun _ => ?_) (fun hh => absurd (by rw [nI_leI (by omega) (by omega)]; omega) hh)
        refine pw_iincN_8 dL_beat_615 (by decide) ?_
        refine pw_aload_0 dL_beat_618 ?_
        refine pw_bipush (v := nI 56) dL_beat_619 (by decide) ?_
        refine pw_iload_10 dL_beat_621 ?_
        refine pw_iaddN dL_beat_623 ?_
        refine pw_dup2_11 dL_beat_624 ?_
        refine pw_ialdN dL_beat_625 hs.a (by omega) (by decide) ?_
        refine pw_top ((hl1.a7 (i := k) (by omega) (by omega)).trans (congrFun hDk 19)) ?_
        refine pw_iconst (v := nI 1) dL_beat_626 (by decide) ?_
        refine pw_iadd dL_beat_627 ?_
        refine pw_iastN dL_beat_628 hs.a (by omega) (by decide) ?_
        refine pw_gen (P := LU κ μ0 p (setS D k (upd (bS R.1 k) 19 (bS R.1 k 19 + nI 1)))) (by have h95 := hl1.self k; rw [hDk] at h95; exact h95.wA 7 19 (by omega) (by omega) (by omega) rfl (by omega) (aV_s (d := 7) (by omega))) (fun μ7 hl7 => ?_)
        refine pw_aload_4 dL_beat_629 ?_
        refine pw_bipush (v := nI 12) dL_beat_631 (by decide) ?_
        refine pw_aload_2 dL_beat_633 ?_
        refine pw_iload_10 dL_beat_634 ?_
        refine pw_cS2i dL_beat_636 kL_10 vL_wireOf sL_wireOf ⟨by decide, by decide⟩ ⟨rfl, rfl⟩ (Nat.le_of_ble_eq_true rfl) (c_wireOf (x := x) hs.q (by omega) (hl7.word (by omega) (by rw [bS_setS_s, nwF_n (by omega)]; exact h0) (by rw [bS_setS_s, upd_n _ _ (by omega)]; exact e5) (by rw [bS_setS_s, upd_n _ _ (by omega)]; exact e6) (by rw [bS_setS_s, upd_n _ _ (by omega)]; exact e7)) (by omega) (by omega) ?_)
        refine pw_iaddN dL_beat_639 ?_
        refine pw_dup2_11 dL_beat_640 ?_
        refine pw_ialdN dL_beat_641 hs.w (by omega) (by decide) ?_
        refine pw_top ((hl7.rw x 2 (by omega) (by omega) (by omega)).trans (congrFun (hWD x) 2)) ?_
        refine pw_iconst (v := nI 1) dL_beat_642 (by decide) ?_
        refine pw_iadd dL_beat_643 ?_
        refine pw_iastN dL_beat_644 hs.w (by omega) (by decide) ?_
        refine pw_gen (P := LU κ μ0 p (setW (setS D k (upd (bS R.1 k) 19 (bS R.1 k 19 + nI 1))) x 2 ((bW R.1 x 2) + (nI 1)))) (hl7.wW x 2 (by omega) (by omega) (by omega)) (fun μ1 hl1 => ?_)
        refine pw_aload_0 dL_beat_645 ?_
        refine pw_aload_2 dL_beat_646 ?_
        refine pw_iload_10 dL_beat_647 ?_
        refine pw_cS3v dL_beat_649 kL_16 vL_away sL_away ⟨by decide, by decide⟩ ⟨rfl, rfl⟩ (Nat.le_of_ble_eq_true rfl) (k_away (κ := κ) (μ0 := μ0) (B := setW D x 2 (bW R.1 x 2 + nI 1)) (g := upd (bS R.1 k) 19 (bS R.1 k 19 + nI 1)) (w := nwF (bS R.1 k)) hs hl1 (by omega) ((upd_n _ _ (by omega)).trans (gd.s hk).w.1) (gd.s hk).w.2 h0 (fun μf hlf => ?_))
        refine pw_iincN_10 dL_beat_652 (by decide) ?_
        refine pw_goto 288 dL_beat_655 (by decide) ?_
        refine pw_fg (ls' := [some (.ref p), some (.ref (p + 1)), some (.ref (p + 2)), some (.ref (p + 3)), some (.ref (p + 4)), some (.ref (p + 5)), some (.int ml), none, _, some (.int mb), some (.int (nI (k + 1))), none, none, none, none]) ⟨Or.inr rfl, Or.inr rfl, Or.inr rfl, Or.inr rfl, Or.inr rfl, Or.inr rfl, Or.inr rfl, Or.inl rfl, Or.inr rfl, Or.inr rfl, Or.inr rfl, Or.inl rfl, Or.inl rfl, Or.inl rfl, Or.inl rfl, trivial⟩ ?_
        have eh : hdB R.1 k = setS (setW D x 2 (bW R.1 x 2 + nI 1)) k (lvF (upd (bS R.1 k) 19 (bS R.1 k 19 + nI 1))) := by
          unfold hdB lvB tyB
          rw [hDD, hfw]
          show setS (setW (setS D k (upd (bS R.1 k) 19 (bS R.1 k 19 + nI 1))) x 2 (bW D x 2 + nI 1)) k (lvF (bS (setS D k (upd (bS R.1 k) 19 (bS R.1 k 19 + nI 1))) k)) = _
          rw [bS_setS_s, setS_setW, setS_setS, hWD]
          rfl
        rw [eh] at ih
        exact ih _ hlf
      · intro m hm ihm ν hl1
        have gdD := gd.hrk (k := m) hk h0 ht hm9 (by omega)
        have ih2 : ∀ ν, LU κ μ0 p (heS R.1 k m (itr (heS R.1 k) m R.1)) ν → PW X mL_beat 0 0 463 [some (.ref p), some (.ref (p + 1)), some (.ref (p + 2)), some (.ref (p + 3)), some (.ref (p + 4)), some (.ref (p + 5)), some (.int ml), none, some (.int (nI R.2)), some (.int mb), some (.int (nI k)), some (.int (nI 0)), some (.int (nI 1)), some (.int (nI (m + 1))), none] [] σ ν (LI Q) := ihm
        have hDk : bS (itr (heS R.1 k) m R.1) k = bS R.1 k := hr_st m
        have hDt : bG (itr (heS R.1 k) m R.1) 5 = bG R.1 5 := congrFun (Fr_itr (p := id) (f := heS R.1 k) (fun _ _ => Fr_heS) m R.1).1 5
        clear ihm
        generalize itr (heS R.1 k) m R.1 = D at hl1 gdD hDk hDt ih2
        have d0 : 0 < nwF (bS D k) := by rw [hDk]; exact h0
        obtain ⟨t, ht1, ht2⟩ := ht
        obtain ⟨kn, hkn4, hkn, -⟩ := (gdD.s hm).2.2.1
        have hz : ν (p + 2) k = nI (v + 256 * x + 2048 * y) := hl1.word (by omega) d0 (by rw [hDk]; exact e5) (by rw [hDk]; exact e6) (by rw [hDk]; exact e7)
        have ht5 : ν (p + 5) 5 = nI t := (hl1.t (by omega)).trans (hDt.trans ht2)
        have hb21 : ν (p + 1) (8 + m) = bS D m 21 := hl1.rb 1 21 (i := m) (by omega) rfl (by omega) (by omega)
        have hb23 : ν (p + 1) (24 + m) = nI kn := (hl1.rb 3 23 (i := m) (by omega) rfl (by omega) (by omega)).trans hkn
        refine pw_iload_13 dL_beat_463 ?_
        refine pw_aload_5 dL_beat_465 ?_
        refine pw_bipush (v := nI 6) dL_beat_467 (by decide) ?_
        refine pw_ialdN dL_beat_469 hs.t (by omega) (by decide) ?_
        refine pw_top ((hl1.t (by omega)).trans gdD.g6) ?_
        refine pw_icmp_ge 615 dL_beat_470 (by decide) (fun hh => absurd hh (by rw [nI_leI (by omega) (by omega)]; omega)) (fun _ => ?_)
        refine pw_iload_13 dL_beat_473 ?_
        refine pw_iload_10 dL_beat_475 ?_
        refine pw_icmp_eq 609 dL_beat_477 (by decide) (fun h1 => ?_) (fun h1 => ?_)
        · skip
          refine pw_iincN_13 dL_beat_609 (by decide) ?_
          refine pw_goto 463 dL_beat_612 (by decide) ?_
          refine pw_fg (ls' := [some (.ref p), some (.ref (p + 1)), some (.ref (p + 2)), some (.ref (p + 3)), some (.ref (p + 4)), some (.ref (p + 5)), some (.int ml), none, some (.int (nI R.2)), some (.int mb), some (.int (nI k)), some (.int (nI 0)), some (.int (nI 1)), some (.int (nI (m + 1))), none]) ⟨Or.inr rfl, Or.inr rfl, Or.inr rfl, Or.inr rfl, Or.inr rfl, Or.inr rfl, Or.inr rfl, Or.inl rfl, Or.inr rfl, Or.inr rfl, Or.inr rfl, Or.inr rfl, Or.inr rfl, Or.inr rfl, Or.inl rfl, trivial⟩ ?_
          refine ih2 _ ?_
          have e9 : heS R.1 k m D = D := cif_n (fun hb => hb.1 ((nI_eq (by omega) (by omega)).mp h1))
          rw [e9]
          exact hl1
        · skip
          refine pw_aload_0 dL_beat_480 ?_
          refine pw_bipush (v := nI 48) dL_beat_481 (by decide) ?_
          refine pw_iload_10 dL_beat_483 ?_
          refine pw_iaddN dL_beat_485 ?_
          refine pw_ialdN dL_beat_486 hs.a (by omega) (by decide) ?_
          refine pw_top (hl1.a6 (i := k) (by omega) (by omega)) ?_
          refine pw_iload_13 dL_beat_487 ?_
          refine pw_ishr dL_beat_489 ?_
          refine pw_iconst (v := nI 1) dL_beat_490 (by decide) ?_
          refine pw_iand dL_beat_491 ?_
          refine pw_iconst (v := nI 1) dL_beat_492 (by decide) ?_
          refine pw_icmp_ne 609 dL_beat_493 (by decide) (fun h2 => ?_) (fun h2 => ?_)
          · skip
            refine pw_iincN_13 dL_beat_609 (by decide) ?_
            refine pw_goto 463 dL_beat_612 (by decide) ?_
            refine pw_fg (ls' := [some (.ref p), some (.ref (p + 1)), some (.ref (p + 2)), some (.ref (p + 3)), some (.ref (p + 4)), some (.ref (p + 5)), some (.int ml), none, some (.int (nI R.2)), some (.int mb), some (.int (nI k)), some (.int (nI 0)), some (.int (nI 1)), some (.int (nI (m + 1))), none]) ⟨Or.inr rfl, Or.inr rfl, Or.inr rfl, Or.inr rfl, Or.inr rfl, Or.inr rfl, Or.inr rfl, Or.inl rfl, Or.inr rfl, Or.inr rfl, Or.inr rfl, Or.inr rfl, Or.inr rfl, Or.inr rfl, Or.inl rfl, trivial⟩ ?_
            refine ih2 _ ?_
            have e9 : heS R.1 k m D = D := cif_n (fun hb => h2 (by rw [hDk]; exact hb.2))
            rw [e9]
            exact hl1
          · skip
            refine pw_aload_1 dL_beat_496 ?_
            refine pw_bipush (v := nI 8) dL_beat_497 (by decide) ?_
            refine pw_iload_13 dL_beat_499 ?_
            refine pw_iaddN dL_beat_501 ?_
            refine pw_dup2_11 dL_beat_502 ?_
            refine pw_ialdN dL_beat_503 hs.b (by omega) (by decide) ?_
            refine pw_top hb21 ?_
            refine pw_iconst (v := nI 1) dL_beat_504 (by decide) ?_
            refine pw_iadd dL_beat_505 ?_
            refine pw_iastN dL_beat_506 hs.b (by omega) (by decide) ?_
            refine pw_aload_1 dL_beat_507 ?_
            refine pw_bipush (v := nI 24) dL_beat_508 (by decide) ?_
            refine pw_iload_13 dL_beat_510 ?_
            refine pw_iaddN dL_beat_512 ?_
            refine pw_dup2_11 dL_beat_513 ?_
            refine pw_ialdN dL_beat_514 hs.b (by omega) (by decide) ?_
            refine pw_top ((wr_at (by omega)).trans hb23) ?_
            refine pw_aload_1 dL_beat_515 ?_
            refine pw_bipush (v := nI 24) dL_beat_516 (by decide) ?_
            refine pw_iload_13 dL_beat_518 ?_
            refine pw_iaddN dL_beat_520 ?_
            refine pw_ialdN dL_beat_521 hs.b (by omega) (by decide) ?_
            refine pw_top ((wr_at (by omega)).trans hb23) ?_
            refine pw_iconst (v := nI 4) dL_beat_522 (by decide) ?_
            refine pw_icmp_ge 530 dL_beat_523 (by decide) (fun h3 => ?_) (fun h3 => ?_)
            · skip
              refine pw_iconst (v := nI 0) dL_beat_530 (by decide) ?_
              refine pw_iaddN dL_beat_531 ?_
              refine pw_iastN dL_beat_532 hs.b (by omega) (by decide) ?_
              refine pw_iconst (v := nI 3) dL_beat_533 (by decide) ?_
              refine pw_istore_14 dL_beat_534 (by decide) ?_
              refine pw_iload_14 dL_beat_536 ?_
              refine pw_if_le 570 dL_beat_538 (by decide) (fun hh => absurd hh (by decide)) (fun _ => ?_)
              refine pw_aload_3 dL_beat_541 ?_
              refine pw_bipush (v := nI 8) dL_beat_542 (by decide) ?_
              refine pw_iload_14 dL_beat_544 ?_
              refine pw_imulN dL_beat_546 ?_
              refine pw_iload_13 dL_beat_547 ?_
              refine pw_iaddN dL_beat_549 ?_
              refine pw_aload_3 dL_beat_550 ?_
              refine pw_bipush (v := nI 8) dL_beat_551 (by decide) ?_
              refine pw_iload_14 dL_beat_553 ?_
              refine pw_imulN dL_beat_555 ?_
              refine pw_bipush (v := nI 8) dL_beat_556 (by decide) ?_
              refine pw_isubN dL_beat_558 (by omega) ?_
              refine pw_iload_13 dL_beat_559 ?_
              refine pw_iaddN dL_beat_561 ?_
              refine pw_ialdN dL_beat_562 hs.k (by omega) (by decide) ?_
              refine pw_iastN dL_beat_563 hs.k (by omega) (by decide) ?_
              refine pw_iincM_14 dL_beat_564 (by decide) (by omega) ?_
              refine pw_goto 536 dL_beat_567 (by decide) ?_
              refine pw_iload_14 dL_beat_536 ?_
              refine pw_if_le 570 dL_beat_538 (by decide) (fun hh => absurd hh (by decide)) (fun _ => ?_)
              refine pw_aload_3 dL_beat_541 ?_
              refine pw_bipush (v := nI 8) dL_beat_542 (by decide) ?_
              refine pw_iload_14 dL_beat_544 ?_
              refine pw_imulN dL_beat_546 ?_
              refine pw_iload_13 dL_beat_547 ?_
              refine pw_iaddN dL_beat_549 ?_
              refine pw_aload_3 dL_beat_550 ?_
              refine pw_bipush (v := nI 8) dL_beat_551 (by decide) ?_
              refine pw_iload_14 dL_beat_553 ?_
              refine pw_imulN dL_beat_555 ?_
              refine pw_bipush (v := nI 8) dL_beat_556 (by decide) ?_
              refine pw_isubN dL_beat_558 (by omega) ?_
              refine pw_iload_13 dL_beat_559 ?_
              refine pw_iaddN dL_beat_561 ?_
              refine pw_ialdN dL_beat_562 hs.k (by omega) (by decide) ?_
              refine pw_iastN dL_beat_563 hs.k (by omega) (by decide) ?_
              refine pw_iincM_14 dL_beat_564 (by decide) (by omega) ?_
              refine pw_goto 536 dL_beat_567 (by decide) ?_
              refine pw_iload_14 dL_beat_536 ?_
              refine pw_if_le 570 dL_beat_538 (by decide) (fun hh => absurd hh (by decide)) (fun _ => ?_)
              refine pw_aload_3 dL_beat_541 ?_
              refine pw_bipush (v := nI 8) dL_beat_542 (by decide) ?_
              refine pw_iload_14 dL_beat_544 ?_
              refine pw_imulN dL_beat_546 ?_
              refine pw_iload_13 dL_beat_547 ?_
              refine pw_iaddN dL_beat_549 ?_
              refine pw_aload_3 dL_beat_550 ?_
              refine pw_bipush (v := nI 8) dL_beat_551 (by decide) ?_
              refine pw_iload_14 dL_beat_553 ?_
              refine pw_imulN dL_beat_555 ?_
              refine pw_bipush (v := nI 8) dL_beat_556 (by decide) ?_
              refine pw_isubN dL_beat_558 (by omega) ?_
              refine pw_iload_13 dL_beat_559 ?_
              refine pw_iaddN dL_beat_561 ?_
              refine pw_ialdN dL_beat_562 hs.k (by omega) (by decide) ?_
              refine pw_iastN dL_beat_563 hs.k (by omega) (by decide) ?_
              refine pw_iincM_14 dL_beat_564 (by decide) (by omega) ?_
              refine pw_goto 536 dL_beat_567 (by decide) ?_
              refine pw_iload_14 dL_beat_536 ?_
              refine pw_if_le 570 dL_beat_538 (by decide) (fun _ => ?_) (fun hh => absurd (by decide) hh)
              refine pw_aload_3 dL_beat_570 ?_
              refine pw_iload_13 dL_beat_571 ?_
              refine pw_aload_2 dL_beat_573 ?_
              refine pw_iload_10 dL_beat_574 ?_
              refine pw_ialdN dL_beat_576 hs.q (by omega) (by decide) ?_
              refine pw_top (by simp (disch := omega) only [wr_it, wr_at, lx_o]; exact hz) ?_
              refine pw_sipush (v := nI 256) dL_beat_577 (by decide) ?_
              refine pw_irem dL_beat_580 (by decide) ?_
              refine pw_top ((pk_rem (d := 256) (by omega) (by decide) (by decide)).trans (congrArg nI (show (v + 256 * x + 2048 * y) % 256 = v by omega))) ?_
              refine pw_sipush (v := nI 256) dL_beat_581 (by decide) ?_
              refine pw_iload_10 dL_beat_584 ?_
              refine pw_imulN dL_beat_586 ?_
              refine pw_iaddN dL_beat_587 ?_
              refine pw_sipush (v := nI 2048) dL_beat_588 (by decide) ?_
              refine pw_aload_2 dL_beat_591 ?_
              refine pw_iload_10 dL_beat_592 ?_
              refine pw_cS2i dL_beat_594 kL_10 vL_wireOf sL_wireOf ⟨by decide, by decide⟩ ⟨rfl, rfl⟩ (Nat.le_of_ble_eq_true rfl) (c_wireOf (x := x) hs.q (by omega) (by simp (disch := omega) only [wr_it, wr_at, lx_o]; exact hz) (by omega) (by omega) ?_)
              refine pw_imulN dL_beat_597 ?_
              refine pw_iaddN dL_beat_598 ?_
              refine pw_sipush (v := nI 16384) dL_beat_599 (by decide) ?_
              refine pw_aload_5 dL_beat_602 ?_
              refine pw_iconst (v := nI 5) dL_beat_604 (by decide) ?_
              refine pw_ialdN dL_beat_605 hs.t (by omega) (by decide) ?_
              refine pw_top (by simp (disch := omega) only [wr_it, wr_at, lx_o]; exact ht5) ?_
              refine pw_imulN dL_beat_606 ?_
              refine pw_iaddN dL_beat_607 ?_
              refine pw_iastN dL_beat_608 hs.k (by omega) (by decide) ?_
              refine pw_iincN_13 dL_beat_609 (by decide) ?_
              refine pw_goto 463 dL_beat_612 (by decide) ?_
              refine pw_fg (ls' := [some (.ref p), some (.ref (p + 1)), some (.ref (p + 2)), some (.ref (p + 3)), some (.ref (p + 4)), some (.ref (p + 5)), some (.int ml), none, some (.int (nI R.2)), some (.int mb), some (.int (nI k)), some (.int (nI 0)), some (.int (nI 1)), some (.int (nI (m + 1))), none]) ⟨Or.inr rfl, Or.inr rfl, Or.inr rfl, Or.inr rfl, Or.inr rfl, Or.inr rfl, Or.inr rfl, Or.inl rfl, Or.inr rfl, Or.inr rfl, Or.inr rfl, Or.inr rfl, Or.inr rfl, Or.inr rfl, Or.inl rfl, trivial⟩ ?_
              refine ih2 _ ?_
              have e9 : heS R.1 k m D = setS D m (heF (bS D m) (bS R.1 k 5) (nI k) (bS R.1 k 6) (bG R.1 5)) := cif_y ⟨fun e => h1 (by rw [e]), by rw [← hDk]; exact h2⟩
              rw [e9]
              have ehk : hkF (bS D m) = if kn < 4 then kn + 1 else 4 := by unfold hkF; rw [hkn, nI_clamp (by omega)]
              have h95 := h3
              rw [nI_leI (by omega) (by omega)] at h95
              refine LU.hear hl1 (by omega) hkn hkn4 (fun a a1 a2 => ?_) ?_ ?_ (fun j j1 j2 => ?_) ?_ (fun r hr => ?_) (fun j hj hji r => ?_)
              · rw [wr_n _ _ _ a2, wr_n _ _ _ a2, wr_n _ _ _ a2, wr_n _ _ _ a2, wr_n _ _ _ a1, wr_n _ _ _ a1]
              · simp (disch := omega) only [wr_it, wr_at, lx_o]
              · have e8 : hkF (bS D m) = kn := by rw [ehk]; split <;> omega
                rw [e8]
                simp (disch := omega) only [wr_it, wr_at, lx_o]
                exact rfl
              · simp (disch := omega) only [wr_it, wr_at, lx_o]
              · simp (disch := omega) only [wr_it, wr_at, lx_o]
                rw [e5, e6, ht2, pk_mul, pk_mul, pk_mul, nI_add, nI_add, nI_add]
              · rcases (by omega : r = 0 ∨ r = 1 ∨ r = 2) with e | e | e
                · subst e
                  simp (disch := omega) only [wr_it, wr_at, lx_o]
                · subst e
                  simp (disch := omega) only [wr_it, wr_at, lx_o]
                · subst e
                  simp (disch := omega) only [wr_it, wr_at, lx_o]
              · simp (disch := omega) only [wr_it, wr_at, lx_o]
            · skip
              refine pw_iconst (v := nI 1) dL_beat_526 (by decide) ?_
              refine pw_goto 531 dL_beat_527 (by decide) ?_
              refine pw_iaddN dL_beat_531 ?_
              refine pw_iastN dL_beat_532 hs.b (by omega) (by decide) ?_
              refine pw_iconst (v := nI 3) dL_beat_533 (by decide) ?_
              refine pw_istore_14 dL_beat_534 (by decide) ?_
              refine pw_iload_14 dL_beat_536 ?_
              refine pw_if_le 570 dL_beat_538 (by decide) (fun hh => absurd hh (by decide)) (fun _ => ?_)
              refine pw_aload_3 dL_beat_541 ?_
              refine pw_bipush (v := nI 8) dL_beat_542 (by decide) ?_
              refine pw_iload_14 dL_beat_544 ?_
              refine pw_imulN dL_beat_546 ?_
              refine pw_iload_13 dL_beat_547 ?_
              refine pw_iaddN dL_beat_549 ?_
              refine pw_aload_3 dL_beat_550 ?_
              refine pw_bipush (v := nI 8) dL_beat_551 (by decide) ?_
              refine pw_iload_14 dL_beat_553 ?_
              refine pw_imulN dL_beat_555 ?_
              refine pw_bipush (v := nI 8) dL_beat_556 (by decide) ?_
              refine pw_isubN dL_beat_558 (by omega) ?_
              refine pw_iload_13 dL_beat_559 ?_
              refine pw_iaddN dL_beat_561 ?_
              refine pw_ialdN dL_beat_562 hs.k (by omega) (by decide) ?_
              refine pw_iastN dL_beat_563 hs.k (by omega) (by decide) ?_
              refine pw_iincM_14 dL_beat_564 (by decide) (by omega) ?_
              refine pw_goto 536 dL_beat_567 (by decide) ?_
              refine pw_iload_14 dL_beat_536 ?_
              refine pw_if_le 570 dL_beat_538 (by decide) (fun hh => absurd hh (by decide)) (fun _ => ?_)
              refine pw_aload_3 dL_beat_541 ?_
              refine pw_bipush (v := nI 8) dL_beat_542 (by decide) ?_
              refine pw_iload_14 dL_beat_544 ?_
              refine pw_imulN dL_beat_546 ?_
              refine pw_iload_13 dL_beat_547 ?_
              refine pw_iaddN dL_beat_549 ?_
              refine pw_aload_3 dL_beat_550 ?_
              refine pw_bipush (v := nI 8) dL_beat_551 (by decide) ?_
              refine pw_iload_14 dL_beat_553 ?_
              refine pw_imulN dL_beat_555 ?_
              refine pw_bipush (v := nI 8) dL_beat_556 (by decide) ?_
              refine pw_isubN dL_beat_558 (by omega) ?_
              refine pw_iload_13 dL_beat_559 ?_
              refine pw_iaddN dL_beat_561 ?_
              refine pw_ialdN dL_beat_562 hs.k (by omega) (by decide) ?_
              refine pw_iastN dL_beat_563 hs.k (by omega) (by decide) ?_
              refine pw_iincM_14 dL_beat_564 (by decide) (by omega) ?_
              refine pw_goto 536 dL_beat_567 (by decide) ?_
              refine pw_iload_14 dL_beat_536 ?_
              refine pw_if_le 570 dL_beat_538 (by decide) (fun hh => absurd hh (by decide)) (fun _ => ?_)
              refine pw_aload_3 dL_beat_541 ?_
              refine pw_bipush (v := nI 8) dL_beat_542 (by decide) ?_
              refine pw_iload_14 dL_beat_544 ?_
              refine pw_imulN dL_beat_546 ?_
              refine pw_iload_13 dL_beat_547 ?_
              refine pw_iaddN dL_beat_549 ?_
              refine pw_aload_3 dL_beat_550 ?_
              refine pw_bipush (v := nI 8) dL_beat_551 (by decide) ?_
              refine pw_iload_14 dL_beat_553 ?_
              refine pw_imulN dL_beat_555 ?_
              refine pw_bipush (v := nI 8) dL_beat_556 (by decide) ?_
              refine pw_isubN dL_beat_558 (by omega) ?_
              refine pw_iload_13 dL_beat_559 ?_
              refine pw_iaddN dL_beat_561 ?_
              refine pw_ialdN dL_beat_562 hs.k (by omega) (by decide) ?_
              refine pw_iastN dL_beat_563 hs.k (by omega) (by decide) ?_
              refine pw_iincM_14 dL_beat_564 (by decide) (by omega) ?_
              refine pw_goto 536 dL_beat_567 (by decide) ?_
              refine pw_iload_14 dL_beat_536 ?_
              refine pw_if_le 570 dL_beat_538 (by decide) (fun _ => ?_) (fun hh => absurd (by decide) hh)
              refine pw_aload_3 dL_beat_570 ?_
              refine pw_iload_13 dL_beat_571 ?_
              refine pw_aload_2 dL_beat_573 ?_
              refine pw_iload_10 dL_beat_574 ?_
              refine pw_ialdN dL_beat_576 hs.q (by omega) (by decide) ?_
              refine pw_top (by simp (disch := omega) only [wr_it, wr_at, lx_o]; exact hz) ?_
              refine pw_sipush (v := nI 256) dL_beat_577 (by decide) ?_
              refine pw_irem dL_beat_580 (by decide) ?_
              refine pw_top ((pk_rem (d := 256) (by omega) (by decide) (by decide)).trans (congrArg nI (show (v + 256 * x + 2048 * y) % 256 = v by omega))) ?_
              refine pw_sipush (v := nI 256) dL_beat_581 (by decide) ?_
              refine pw_iload_10 dL_beat_584 ?_
              refine pw_imulN dL_beat_586 ?_
              refine pw_iaddN dL_beat_587 ?_
              refine pw_sipush (v := nI 2048) dL_beat_588 (by decide) ?_
              refine pw_aload_2 dL_beat_591 ?_
              refine pw_iload_10 dL_beat_592 ?_
              refine pw_cS2i dL_beat_594 kL_10 vL_wireOf sL_wireOf ⟨by decide, by decide⟩ ⟨rfl, rfl⟩ (Nat.le_of_ble_eq_true rfl) (c_wireOf (x := x) hs.q (by omega) (by simp (disch := omega) only [wr_it, wr_at, lx_o]; exact hz) (by omega) (by omega) ?_)
              refine pw_imulN dL_beat_597 ?_
              refine pw_iaddN dL_beat_598 ?_
              refine pw_sipush (v := nI 16384) dL_beat_599 (by decide) ?_
              refine pw_aload_5 dL_beat_602 ?_
              refine pw_iconst (v := nI 5) dL_beat_604 (by decide) ?_
              refine pw_ialdN dL_beat_605 hs.t (by omega) (by decide) ?_
              refine pw_top (by simp (disch := omega) only [wr_it, wr_at, lx_o]; exact ht5) ?_
              refine pw_imulN dL_beat_606 ?_
              refine pw_iaddN dL_beat_607 ?_
              refine pw_iastN dL_beat_608 hs.k (by omega) (by decide) ?_
              refine pw_iincN_13 dL_beat_609 (by decide) ?_
              refine pw_goto 463 dL_beat_612 (by decide) ?_
              refine pw_fg (ls' := [some (.ref p), some (.ref (p + 1)), some (.ref (p + 2)), some (.ref (p + 3)), some (.ref (p + 4)), some (.ref (p + 5)), some (.int ml), none, some (.int (nI R.2)), some (.int mb), some (.int (nI k)), some (.int (nI 0)), some (.int (nI 1)), some (.int (nI (m + 1))), none]) ⟨Or.inr rfl, Or.inr rfl, Or.inr rfl, Or.inr rfl, Or.inr rfl, Or.inr rfl, Or.inr rfl, Or.inl rfl, Or.inr rfl, Or.inr rfl, Or.inr rfl, Or.inr rfl, Or.inr rfl, Or.inr rfl, Or.inl rfl, trivial⟩ ?_
              refine ih2 _ ?_
              have e9 : heS R.1 k m D = setS D m (heF (bS D m) (bS R.1 k 5) (nI k) (bS R.1 k 6) (bG R.1 5)) := cif_y ⟨fun e => h1 (by rw [e]), by rw [← hDk]; exact h2⟩
              rw [e9]
              have ehk : hkF (bS D m) = if kn < 4 then kn + 1 else 4 := by unfold hkF; rw [hkn, nI_clamp (by omega)]
              have h95 := h3
              rw [nI_leI (by omega) (by omega)] at h95
              refine LU.hear hl1 (by omega) hkn hkn4 (fun a a1 a2 => ?_) ?_ ?_ (fun j j1 j2 => ?_) ?_ (fun r hr => ?_) (fun j hj hji r => ?_)
              · rw [wr_n _ _ _ a2, wr_n _ _ _ a2, wr_n _ _ _ a2, wr_n _ _ _ a2, wr_n _ _ _ a1, wr_n _ _ _ a1]
              · simp (disch := omega) only [wr_it, wr_at, lx_o]
              · have e8 : hkF (bS D m) = kn + 1 := by rw [ehk]; split <;> omega
                rw [e8]
                simp (disch := omega) only [wr_it, wr_at, lx_o]
              · simp (disch := omega) only [wr_it, wr_at, lx_o]
              · simp (disch := omega) only [wr_it, wr_at, lx_o]
                rw [e5, e6, ht2, pk_mul, pk_mul, pk_mul, nI_add, nI_add, nI_add]
              · rcases (by omega : r = 0 ∨ r = 1 ∨ r = 2) with e | e | e
                · subst e
                  simp (disch := omega) only [wr_it, wr_at, lx_o]
                · subst e
                  simp (disch := omega) only [wr_it, wr_at, lx_o]
                · subst e
                  simp (disch := omega) only [wr_it, wr_at, lx_o]
              · simp (disch := omega) only [wr_it, wr_at, lx_o]
    · skip
      have eg : goP L A n k R = (setS R.1 k (upd (bS R.1 k) 17 (bS R.1 k 17 + nI 1)), R.2) := (cif_y sp).trans ((cif_n hg).trans (cif_n (by rw [kke]; exact fun e => h10 ((nI_eq (by omega) (by omega)).mp e))))
      rw [eg, kke, nI_add] at ih
      refine pw_iload_12 dL_beat_441 ?_
      refine pw_if_ne 460 dL_beat_443 (by decide) (fun hh => absurd hh (by decide)) (fun _ => ?_)
      refine pw_aload_0 dL_beat_446 ?_
      refine pw_bipush (v := nI 40) dL_beat_447 (by decide) ?_
      refine pw_iload_10 dL_beat_449 ?_
      refine pw_iaddN dL_beat_451 ?_
      refine pw_dup2_11 dL_beat_452 ?_
      refine pw_ialdN dL_beat_453 hs.a (by omega) (by decide) ?_
      refine pw_top ((hl.a5 (i := k) (by omega) (by omega)).trans kkv) ?_
      refine pw_iconst (v := nI 1) dL_beat_454 (by decide) ?_
      refine pw_iaddN dL_beat_455 ?_
      refine pw_iastN dL_beat_456 hs.a (by omega) (by decide) ?_
      refine pw_gen (P := LU κ μ0 p (setS R.1 k (upd (bS R.1 k) 17 (nI (kk + 1))))) ((hl.self k).wA 5 17 (by omega) (by omega) (by omega) rfl (by omega) (aV_5.trans (spV_n (lx_m6 (by omega))))) (fun μ2 hl2 => ?_)
      refine pw_goto 652 dL_beat_457 (by decide) ?_
      refine pw_iincN_10 dL_beat_652 (by decide) ?_
      refine pw_goto 288 dL_beat_655 (by decide) ?_
      refine pw_fg (ls' := [some (.ref p), some (.ref (p + 1)), some (.ref (p + 2)), some (.ref (p + 3)), some (.ref (p + 4)), some (.ref (p + 5)), some (.int ml), none, _, some (.int mb), some (.int (nI (k + 1))), none, none, none, none]) ⟨Or.inr rfl, Or.inr rfl, Or.inr rfl, Or.inr rfl, Or.inr rfl, Or.inr rfl, Or.inr rfl, Or.inl rfl, Or.inr rfl, Or.inr rfl, Or.inr rfl, Or.inl rfl, Or.inl rfl, Or.inl rfl, Or.inl rfl, trivial⟩ ?_
      exact ih _ hl2
