/-! The law's stations: each number told anew -/
theorem of_0 {B : Bs} {i : Nat} (hi : i < nS B) (h8 : i < 8) : ofR B (nI i) (nI 0) = bS B i 0 := by
  unfold ofR
  rw [cif_y (inN_ok hi), ixN_nI (by omega)]
  unfold faF
  rw [if_pos rfl]
theorem of_1 {B : Bs} {i : Nat} (hi : i < nS B) (h8 : i < 8) : ofR B (nI i) (nI 1) = bS B i 1 := by
  unfold ofR
  rw [cif_y (inN_ok hi), ixN_nI (by omega)]
  unfold faF
  rw [if_neg (by decide), if_pos rfl]
theorem of_2 {B : Bs} {i : Nat} (hi : i < nS B) (h8 : i < 8) : ofR B (nI i) (nI 2) = (if bS B i 3 = nI 1 then nI 2 else bS B i 2) := by
  unfold ofR
  rw [cif_y (inN_ok hi), ixN_nI (by omega)]
  unfold faF
  rw [if_neg (by decide), if_neg (by decide), if_pos rfl]
theorem of_3 {B : Bs} {i : Nat} (hi : i < nS B) (h8 : i < 8) : ofR B (nI i) (nI 3) = bS B i 4 := by
  unfold ofR
  rw [cif_y (inN_ok hi), ixN_nI (by omega)]
  unfold faF
  rw [if_neg (by decide), if_neg (by decide), if_neg (by decide), if_pos rfl]
theorem of_4 {B : Bs} {i : Nat} (hi : i < nS B) (h8 : i < 8) : ofR B (nI i) (nI 4) = bS B i 17 := by
  unfold ofR
  rw [cif_y (inN_ok hi), ixN_nI (by omega)]
  unfold faF
  rw [if_neg (by decide), if_neg (by decide), if_neg (by decide), if_neg (by decide), if_pos rfl]
theorem of_5 {B : Bs} {i : Nat} (hi : i < nS B) (h8 : i < 8) : ofR B (nI i) (nI 5) = bS B i 18 := by
  unfold ofR
  rw [cif_y (inN_ok hi), ixN_nI (by omega)]
  unfold faF
  rw [if_neg (by decide), if_neg (by decide), if_neg (by decide), if_neg (by decide), if_neg (by decide), if_pos rfl]
theorem of_6 {B : Bs} {i : Nat} (hi : i < nS B) (h8 : i < 8) : ofR B (nI i) (nI 6) = bS B i 19 := by
  unfold ofR
  rw [cif_y (inN_ok hi), ixN_nI (by omega)]
  unfold faF
  rw [if_neg (by decide), if_neg (by decide), if_neg (by decide), if_neg (by decide), if_neg (by decide), if_neg (by decide), if_pos rfl]
theorem of_7 {B : Bs} {i : Nat} (hi : i < nS B) (h8 : i < 8) : ofR B (nI i) (nI 7) = bS B i 20 := by
  unfold ofR
  rw [cif_y (inN_ok hi), ixN_nI (by omega)]
  unfold faF
  rw [if_neg (by decide), if_neg (by decide), if_neg (by decide), if_neg (by decide), if_neg (by decide), if_neg (by decide), if_neg (by decide), if_pos rfl]
theorem of_8 {B : Bs} {i : Nat} (hi : i < nS B) (h8 : i < 8) : ofR B (nI i) (nI 8) = bS B i 21 := by
  unfold ofR
  rw [cif_y (inN_ok hi), ixN_nI (by omega)]
  unfold faF
  rw [if_neg (by decide), if_neg (by decide), if_neg (by decide), if_neg (by decide), if_neg (by decide), if_neg (by decide), if_neg (by decide), if_neg (by decide), if_pos rfl]
theorem of_9 {B : Bs} {i : Nat} (hi : i < nS B) (h8 : i < 8) : ofR B (nI i) (nI 9) = bS B i 22 := by
  unfold ofR
  rw [cif_y (inN_ok hi), ixN_nI (by omega)]
  unfold faF
  rw [if_neg (by decide), if_neg (by decide), if_neg (by decide), if_neg (by decide), if_neg (by decide), if_neg (by decide), if_neg (by decide), if_neg (by decide), if_neg (by decide), if_pos rfl]
theorem ro_y {B : Bs} {i r y : Nat} (hi : i < nS B) (h8 : i < 8) (hr : r < nwF (bS B i)) (r4 : r < 5) (hy : y < 3) : roR B (nI i) (nI r) (nI y) = bS B i (5 + 3 * r + y) := by
  unfold roR
  rw [cif_y ⟨inN_ok hi, by rw [ixN_nI (by omega)]; exact inN_ok hr⟩, cif_y (inN_ok hy), ixN_nI (by omega), ixN_nI (by omega), ixN_nI (by omega)]
theorem inN_n {n r : Nat} (h : ¬ r < n) (hr : r < 2 ^ 31) (hn : n ≤ 8) : ¬ inN n (nI r) := fun ⟨j, h1, h2⟩ => h (by rw [(nI_eq hr (by omega)).mp h2]; exact h1)
theorem ro_n {B : Bs} {i r y : Nat} (h8 : i < 8) (hr : ¬ r < nwF (bS B i)) (r4 : r < 5) (hn : nwF (bS B i) ≤ 8) : roR B (nI i) (nI r) (nI y) = -1 := by
  unfold roR
  exact cif_n (fun h => inN_n hr (by omega) hn (by have h9 := h.2; rw [ixN_nI (by omega)] at h9; exact h9))
theorem he_y {B : Bs} {i r y : Nat} (hi : i < nS B) (h8 : i < 8) (hr : r < nkF (bS B i)) (r4 : r < 5) (hy : y < 4) : heR B (nI i) (nI r) (nI y) = bS B i (24 + 4 * r + y) := by
  unfold heR
  rw [cif_y ⟨inN_ok hi, by rw [ixN_nI (by omega)]; exact inN_ok hr⟩, cif_y (inN_ok hy), ixN_nI (by omega), ixN_nI (by omega), ixN_nI (by omega)]
theorem he_n {B : Bs} {i r y : Nat} (h8 : i < 8) (hr : ¬ r < nkF (bS B i)) (r4 : r < 5) (hn : nkF (bS B i) ≤ 8) : heR B (nI i) (nI r) (nI y) = -1 := by
  unfold heR
  exact cif_n (fun h => inN_n hr (by omega) hn (by have h9 := h.2; rw [ixN_nI (by omega)] at h9; exact h9))
theorem wh_v {B : Bs} {i : Nat} (hi : i < nS B) (h8 : i < 8) : whR B (nI i) = whF B i := by
  unfold whR
  rw [cif_y (inN_ok hi), ixN_nI (by omega)]
theorem WS.kn {n : Nat} {f : Nat → Int32} (h : WS n f) : f 23 = nI (nkF f) ∧ nkF f ≤ 4 := by
  obtain ⟨k, h1, h2, -⟩ := h.2.2.1
  have e : nkF f = k := by
    unfold nkF
    rw [h2, nI_clamp (by omega)]
  rw [e]
  exact ⟨h2, h1⟩
set_option maxRecDepth 100000 in
set_option maxHeartbeats 4000000 in
theorem st_540 {X : Cx} {σ : Sp} {μ : Mm} {Q : Int32 → Sp → Mm → Prop} {κ : Prop} {μ0 : Mm} {o x p n i : Nat} {A : Aw} (hc : CX σ μ o x A) (wa : WA A) (hs : ShL σ p) (hl : LU κ μ0 p (aB A) μ) (kk : κ) (gd : GDn n (aB A)) (hi : i < n) (ih : PW X mL_stations 0 0 3 [some (.ref o), some (.ref p), some (.ref (p + 1)), some (.ref (p + 2)), some (.ref (p + 3)), some (.ref (p + 4)), some (.ref (p + 5)), some (.int (nI (i + 1))), none, none, none, none, none] [] σ μ (LI Q))  : PW X mL_stations 0 0 540 [some (.ref o), some (.ref p), some (.ref (p + 1)), some (.ref (p + 2)), some (.ref (p + 3)), some (.ref (p + 4)), some (.ref (p + 5)), some (.int (nI i)), some (.int ((if bS (aB A) i 3 = nI 1 then nI 2 else bS (aB A) i 2))), some (.int (nI 1)), none, none, none] [] σ μ (LI Q) := by
  have h8 := gd.n8
  have hiS : i < nS (aB A) := by rw [gd.hn]; exact hi
  have hi8 : i < 8 := by omega
  refine pw_aload_1 dL_stations_540 ?_
  refine pw_bipush (v := nI 32) dL_stations_541 (by decide) ?_
  refine pw_iload_7 dL_stations_543 ?_
  refine pw_iaddN dL_stations_545 ?_
  refine pw_ialdN dL_stations_546 hs.a (by omega) (by decide) ?_
  refine pw_top ((hl.a4 (i := i) (by omega) (by omega)).trans ((gd.s (i := i) (by omega)).w).1) ?_
  refine pw_if_le 562 dL_stations_547 (by decide) (fun nw1 => ?_) (fun nw1 => ?_)
  · skip
    have nw1z := nz_le (by have := (gd.s (i := i) (by omega)).w.2; omega) nw1
    refine pw_iconst (v := nI 0) dL_stations_562 (by decide) ?_
    refine pw_istore_10 dL_stations_563 (by decide) ?_
    refine pw_aload_1 dL_stations_565 ?_
    refine pw_bipush (v := nI 40) dL_stations_566 (by decide) ?_
    refine pw_iload_7 dL_stations_568 ?_
    refine pw_iaddN dL_stations_570 ?_
    refine pw_ialdN dL_stations_571 hs.a (by omega) (by decide) ?_
    refine pw_top (hl.a5 (i := i) (by omega) (by omega)) ?_
    rcases Classical.em (spB (aB A) i) with sp2 | sp2
    · skip
      obtain ⟨sp20, kk3, kk310, kk3e, kk3v⟩ := gd.sp (by omega) sp2
      refine pw_top kk3v ?_
      refine pw_if_lt 579 dL_stations_572 (by decide) (fun hh => absurd hh (nI_pos (by omega))) (fun _ => ?_)
      refine pw_iconst (v := nI 1) dL_stations_575 (by decide) ?_
      refine pw_goto 648 dL_stations_576 (by decide) ?_
      refine pw_istore_11 dL_stations_648 (by decide) ?_
      refine pw_iload_9 dL_stations_650 ?_
      refine pw_if_eq 666 dL_stations_652 (by decide) (fun hh => absurd hh (by decide)) (fun _ => ?_)
      refine pw_aload_0 dL_stations_655 ?_
      refine pw_iload_7 dL_stations_656 ?_
      refine pw_cV1i 7 dL_stations_658 kL_41 vX7_why iX7_why ⟨by decide, by decide⟩ ⟨rfl, rfl⟩ (by decide) rfl (Nat.le_of_ble_eq_true rfl) hc.1.t (kf_why hc wa ?_)
      refine pw_top (y := nI 1) ((wh_v hiS hi8).trans (by unfold whF; rw [cif_y sp2])) ?_
      refine pw_iload_11 dL_stations_661 ?_
      refine pw_icmp_eq 668 dL_stations_663 (by decide) (fun _ => ?_) (fun hh => absurd rfl hh)
      refine pw_iincN_7 dL_stations_668 (by decide) ?_
      refine pw_goto 3 dL_stations_671 (by decide) ?_
      refine pw_fg (ls' := [some (.ref o), some (.ref p), some (.ref (p + 1)), some (.ref (p + 2)), some (.ref (p + 3)), some (.ref (p + 4)), some (.ref (p + 5)), some (.int (nI (i + 1))), none, none, none, none, none]) ⟨Or.inr rfl, Or.inr rfl, Or.inr rfl, Or.inr rfl, Or.inr rfl, Or.inr rfl, Or.inr rfl, Or.inr rfl, Or.inl rfl, Or.inl rfl, Or.inl rfl, Or.inl rfl, Or.inl rfl, trivial⟩ ?_
      exact ih
    · skip
      refine pw_top (spV_no sp2) ?_
      refine pw_if_lt 579 dL_stations_572 (by decide) (fun _ => ?_) (fun hh => absurd m1_lt hh)
      rcases (gd.s hi).2.1.2 with g3 | g3
      · skip
        have e8 : (if bS (aB A) i 3 = nI 1 then nI 2 else bS (aB A) i 2) = bS (aB A) i 2 := if_neg (by rw [g3]; decide)
        rcases (gd.s hi).2.1.1 with g2 | g2
        · skip
          rw [e8, g2]
          refine pw_iload_8 dL_stations_579 ?_
          refine pw_iconst (v := nI 2) dL_stations_581 (by decide) ?_
          refine pw_icmp_ne 589 dL_stations_582 (by decide) (fun _ => ?_) (fun hh => absurd hh (by decide))
          refine pw_iload_8 dL_stations_589 ?_
          refine pw_iconst (v := nI 1) dL_stations_591 (by decide) ?_
          refine pw_icmp_ne 599 dL_stations_592 (by decide) (fun _ => ?_) (fun hh => absurd hh (by decide))
          refine pw_aload_1 dL_stations_599 ?_
          refine pw_bipush (v := nI 32) dL_stations_600 (by decide) ?_
          refine pw_iload_7 dL_stations_602 ?_
          refine pw_iaddN dL_stations_604 ?_
          refine pw_ialdN dL_stations_605 hs.a (by omega) (by decide) ?_
          refine pw_top ((hl.a4 (i := i) (by omega) (by omega)).trans ((gd.s (i := i) (by omega)).w).1) ?_
          refine pw_if_ne 613 dL_stations_606 (by decide) (fun hh => absurd (by rw [nw1z]; rfl) hh) (fun _ => ?_)
          refine pw_iconst (v := nI 4) dL_stations_609 (by decide) ?_
          refine pw_goto 648 dL_stations_610 (by decide) ?_
          refine pw_istore_11 dL_stations_648 (by decide) ?_
          refine pw_iload_9 dL_stations_650 ?_
          refine pw_if_eq 666 dL_stations_652 (by decide) (fun hh => absurd hh (by decide)) (fun _ => ?_)
          refine pw_aload_0 dL_stations_655 ?_
          refine pw_iload_7 dL_stations_656 ?_
          refine pw_cV1i 7 dL_stations_658 kL_41 vX7_why iX7_why ⟨by decide, by decide⟩ ⟨rfl, rfl⟩ (by decide) rfl (Nat.le_of_ble_eq_true rfl) hc.1.t (kf_why hc wa ?_)
          refine pw_top (y := nI 4) ((wh_v hiS hi8).trans (by unfold whF; rw [cif_n sp2, cif_n (fun h95 => absurd (g3.symm.trans h95) (by decide)), cif_n (fun h95 => absurd (g2.symm.trans h95) (by decide)), cif_y nw1z])) ?_
          refine pw_iload_11 dL_stations_661 ?_
          refine pw_icmp_eq 668 dL_stations_663 (by decide) (fun _ => ?_) (fun hh => absurd rfl hh)
          refine pw_iincN_7 dL_stations_668 (by decide) ?_
          refine pw_goto 3 dL_stations_671 (by decide) ?_
          refine pw_fg (ls' := [some (.ref o), some (.ref p), some (.ref (p + 1)), some (.ref (p + 2)), some (.ref (p + 3)), some (.ref (p + 4)), some (.ref (p + 5)), some (.int (nI (i + 1))), none, none, none, none, none]) ⟨Or.inr rfl, Or.inr rfl, Or.inr rfl, Or.inr rfl, Or.inr rfl, Or.inr rfl, Or.inr rfl, Or.inr rfl, Or.inl rfl, Or.inl rfl, Or.inl rfl, Or.inl rfl, Or.inl rfl, trivial⟩ ?_
          exact ih
        · skip
          rw [e8, g2]
          refine pw_iload_8 dL_stations_579 ?_
          refine pw_iconst (v := nI 2) dL_stations_581 (by decide) ?_
          refine pw_icmp_ne 589 dL_stations_582 (by decide) (fun _ => ?_) (fun hh => absurd hh (by decide))
          refine pw_iload_8 dL_stations_589 ?_
          refine pw_iconst (v := nI 1) dL_stations_591 (by decide) ?_
          refine pw_icmp_ne 599 dL_stations_592 (by decide) (fun hh => absurd hh (by decide)) (fun _ => ?_)
          refine pw_iconst (v := nI 3) dL_stations_595 (by decide) ?_
          refine pw_goto 648 dL_stations_596 (by decide) ?_
          refine pw_istore_11 dL_stations_648 (by decide) ?_
          refine pw_iload_9 dL_stations_650 ?_
          refine pw_if_eq 666 dL_stations_652 (by decide) (fun hh => absurd hh (by decide)) (fun _ => ?_)
          refine pw_aload_0 dL_stations_655 ?_
          refine pw_iload_7 dL_stations_656 ?_
          refine pw_cV1i 7 dL_stations_658 kL_41 vX7_why iX7_why ⟨by decide, by decide⟩ ⟨rfl, rfl⟩ (by decide) rfl (Nat.le_of_ble_eq_true rfl) hc.1.t (kf_why hc wa ?_)
          refine pw_top (y := nI 3) ((wh_v hiS hi8).trans (by unfold whF; rw [cif_n sp2, cif_n (fun h95 => absurd (g3.symm.trans h95) (by decide)), cif_y g2])) ?_
          refine pw_iload_11 dL_stations_661 ?_
          refine pw_icmp_eq 668 dL_stations_663 (by decide) (fun _ => ?_) (fun hh => absurd rfl hh)
          refine pw_iincN_7 dL_stations_668 (by decide) ?_
          refine pw_goto 3 dL_stations_671 (by decide) ?_
          refine pw_fg (ls' := [some (.ref o), some (.ref p), some (.ref (p + 1)), some (.ref (p + 2)), some (.ref (p + 3)), some (.ref (p + 4)), some (.ref (p + 5)), some (.int (nI (i + 1))), none, none, none, none, none]) ⟨Or.inr rfl, Or.inr rfl, Or.inr rfl, Or.inr rfl, Or.inr rfl, Or.inr rfl, Or.inr rfl, Or.inr rfl, Or.inl rfl, Or.inl rfl, Or.inl rfl, Or.inl rfl, Or.inl rfl, trivial⟩ ?_
          exact ih
      · skip
        have e8 : (if bS (aB A) i 3 = nI 1 then nI 2 else bS (aB A) i 2) = nI 2 := if_pos g3
        rw [e8]
        refine pw_iload_8 dL_stations_579 ?_
        refine pw_iconst (v := nI 2) dL_stations_581 (by decide) ?_
        refine pw_icmp_ne 589 dL_stations_582 (by decide) (fun hh => absurd hh (by decide)) (fun _ => ?_)
        refine pw_iconst (v := nI 2) dL_stations_585 (by decide) ?_
        refine pw_goto 648 dL_stations_586 (by decide) ?_
        refine pw_istore_11 dL_stations_648 (by decide) ?_
        refine pw_iload_9 dL_stations_650 ?_
        refine pw_if_eq 666 dL_stations_652 (by decide) (fun hh => absurd hh (by decide)) (fun _ => ?_)
        refine pw_aload_0 dL_stations_655 ?_
        refine pw_iload_7 dL_stations_656 ?_
        refine pw_cV1i 7 dL_stations_658 kL_41 vX7_why iX7_why ⟨by decide, by decide⟩ ⟨rfl, rfl⟩ (by decide) rfl (Nat.le_of_ble_eq_true rfl) hc.1.t (kf_why hc wa ?_)
        refine pw_top (y := nI 2) ((wh_v hiS hi8).trans (by unfold whF; rw [cif_n sp2, cif_y g3])) ?_
        refine pw_iload_11 dL_stations_661 ?_
        refine pw_icmp_eq 668 dL_stations_663 (by decide) (fun _ => ?_) (fun hh => absurd rfl hh)
        refine pw_iincN_7 dL_stations_668 (by decide) ?_
        refine pw_goto 3 dL_stations_671 (by decide) ?_
        refine pw_fg (ls' := [some (.ref o), some (.ref p), some (.ref (p + 1)), some (.ref (p + 2)), some (.ref (p + 3)), some (.ref (p + 4)), some (.ref (p + 5)), some (.int (nI (i + 1))), none, none, none, none, none]) ⟨Or.inr rfl, Or.inr rfl, Or.inr rfl, Or.inr rfl, Or.inr rfl, Or.inr rfl, Or.inr rfl, Or.inr rfl, Or.inl rfl, Or.inl rfl, Or.inl rfl, Or.inl rfl, Or.inl rfl, trivial⟩ ?_
        exact ih
  · skip
    have nw1p := nz_nle nw1
    obtain ⟨v4, x5, y6, v4b, x5b, y6b, v4e, x5e, y6e⟩ := gd.wd (i := i) (by omega) nw1p
    refine pw_aload_5 dL_stations_550 ?_
    refine pw_aload_3 dL_stations_552 ?_
    refine pw_iload_7 dL_stations_553 ?_
    refine pw_cS2i dL_stations_555 kL_10 vL_wireOf sL_wireOf ⟨by decide, by decide⟩ ⟨rfl, rfl⟩ (Nat.le_of_ble_eq_true rfl) (c_wireOf (x := x5) hs.q (by omega) (hl.word (by omega) nw1p v4e x5e y6e) (by omega) (by omega) ?_)
    refine pw_ialdN dL_stations_558 hs.w (by omega) (by decide) ?_
    refine pw_top (hl.rw x5 0 (by omega) (by omega) (by omega)) ?_
    refine pw_goto 563 dL_stations_559 (by decide) ?_
    refine pw_istore_10 dL_stations_563 (by decide) ?_
    refine pw_aload_1 dL_stations_565 ?_
    refine pw_bipush (v := nI 40) dL_stations_566 (by decide) ?_
    refine pw_iload_7 dL_stations_568 ?_
    refine pw_iaddN dL_stations_570 ?_
    refine pw_ialdN dL_stations_571 hs.a (by omega) (by decide) ?_
    refine pw_top (hl.a5 (i := i) (by omega) (by omega)) ?_
    rcases Classical.em (spB (aB A) i) with sp7 | sp7
    · skip
      obtain ⟨sp70, kk8, kk810, kk8e, kk8v⟩ := gd.sp (by omega) sp7
      refine pw_top kk8v ?_
      refine pw_if_lt 579 dL_stations_572 (by decide) (fun hh => absurd hh (nI_pos (by omega))) (fun _ => ?_)
      refine pw_iconst (v := nI 1) dL_stations_575 (by decide) ?_
      refine pw_goto 648 dL_stations_576 (by decide) ?_
      refine pw_istore_11 dL_stations_648 (by decide) ?_
      refine pw_iload_9 dL_stations_650 ?_
      refine pw_if_eq 666 dL_stations_652 (by decide) (fun hh => absurd hh (by decide)) (fun _ => ?_)
      refine pw_aload_0 dL_stations_655 ?_
      refine pw_iload_7 dL_stations_656 ?_
      refine pw_cV1i 7 dL_stations_658 kL_41 vX7_why iX7_why ⟨by decide, by decide⟩ ⟨rfl, rfl⟩ (by decide) rfl (Nat.le_of_ble_eq_true rfl) hc.1.t (kf_why hc wa ?_)
      refine pw_top (y := nI 1) ((wh_v hiS hi8).trans (by unfold whF; rw [cif_y sp7])) ?_
      refine pw_iload_11 dL_stations_661 ?_
      refine pw_icmp_eq 668 dL_stations_663 (by decide) (fun _ => ?_) (fun hh => absurd rfl hh)
      refine pw_iincN_7 dL_stations_668 (by decide) ?_
      refine pw_goto 3 dL_stations_671 (by decide) ?_
      refine pw_fg (ls' := [some (.ref o), some (.ref p), some (.ref (p + 1)), some (.ref (p + 2)), some (.ref (p + 3)), some (.ref (p + 4)), some (.ref (p + 5)), some (.int (nI (i + 1))), none, none, none, none, none]) ⟨Or.inr rfl, Or.inr rfl, Or.inr rfl, Or.inr rfl, Or.inr rfl, Or.inr rfl, Or.inr rfl, Or.inr rfl, Or.inl rfl, Or.inl rfl, Or.inl rfl, Or.inl rfl, Or.inl rfl, trivial⟩ ?_
      exact ih
    · skip
      refine pw_top (spV_no sp7) ?_
      refine pw_if_lt 579 dL_stations_572 (by decide) (fun _ => ?_) (fun hh => absurd m1_lt hh)
      rcases (gd.s hi).2.1.2 with g3 | g3
      · skip
        have e8 : (if bS (aB A) i 3 = nI 1 then nI 2 else bS (aB A) i 2) = bS (aB A) i 2 := if_neg (by rw [g3]; decide)
        rcases (gd.s hi).2.1.1 with g2 | g2
        · skip
          rw [e8, g2]
          refine pw_iload_8 dL_stations_579 ?_
          refine pw_iconst (v := nI 2) dL_stations_581 (by decide) ?_
          refine pw_icmp_ne 589 dL_stations_582 (by decide) (fun _ => ?_) (fun hh => absurd hh (by decide))
          refine pw_iload_8 dL_stations_589 ?_
          refine pw_iconst (v := nI 1) dL_stations_591 (by decide) ?_
          refine pw_icmp_ne 599 dL_stations_592 (by decide) (fun _ => ?_) (fun hh => absurd hh (by decide))
          refine pw_aload_1 dL_stations_599 ?_
          refine pw_bipush (v := nI 32) dL_stations_600 (by decide) ?_
          refine pw_iload_7 dL_stations_602 ?_
          refine pw_iaddN dL_stations_604 ?_
          refine pw_ialdN dL_stations_605 hs.a (by omega) (by decide) ?_
          refine pw_top ((hl.a4 (i := i) (by omega) (by omega)).trans ((gd.s (i := i) (by omega)).w).1) ?_
          refine pw_if_ne 613 dL_stations_606 (by decide) (fun _ => ?_) (fun hh => absurd hh (nI_ne0 nw1p (by have := (gd.s hi).w.2; omega)))
          refine pw_iload_10 dL_stations_613 ?_
          refine pw_aload_6 dL_stations_615 ?_
          refine pw_iconst (v := nI 0) dL_stations_617 (by decide) ?_
          refine pw_ialdN dL_stations_618 hs.t (by omega) (by decide) ?_
          refine pw_top (hl.t (k := 0) (by omega)) ?_
          refine pw_icmp_lt 626 dL_stations_619 (by decide) (fun h9 => ?_) (fun h9 => ?_)
          · skip
            refine pw_aload_5 dL_stations_626 ?_
            refine pw_bipush (v := nI 6) dL_stations_628 (by decide) ?_
            refine pw_aload_3 dL_stations_630 ?_
            refine pw_iload_7 dL_stations_631 ?_
            refine pw_cS2i dL_stations_633 kL_10 vL_wireOf sL_wireOf ⟨by decide, by decide⟩ ⟨rfl, rfl⟩ (Nat.le_of_ble_eq_true rfl) (c_wireOf (x := x5) hs.q (by omega) (hl.word (by omega) nw1p v4e x5e y6e) (by omega) (by omega) ?_)
            refine pw_iaddN dL_stations_636 ?_
            refine pw_ialdN dL_stations_637 hs.w (by omega) (by decide) ?_
            refine pw_top (hl.rw x5 1 (by omega) (by omega) (by omega)) ?_
            refine pw_iconst (v := nI 1) dL_stations_638 (by decide) ?_
            refine pw_icmp_ne 646 dL_stations_639 (by decide) (fun h10 => ?_) (fun h10 => ?_)
            · skip
              refine pw_bipush (v := nI 6) dL_stations_646 (by decide) ?_
              refine pw_istore_11 dL_stations_648 (by decide) ?_
              refine pw_iload_9 dL_stations_650 ?_
              refine pw_if_eq 666 dL_stations_652 (by decide) (fun hh => absurd hh (by decide)) (fun _ => ?_)
              refine pw_aload_0 dL_stations_655 ?_
              refine pw_iload_7 dL_stations_656 ?_
              refine pw_cV1i 7 dL_stations_658 kL_41 vX7_why iX7_why ⟨by decide, by decide⟩ ⟨rfl, rfl⟩ (by decide) rfl (Nat.le_of_ble_eq_true rfl) hc.1.t (kf_why hc wa ?_)
              refine pw_top (y := nI 6) ((wh_v hiS hi8).trans (by unfold whF; rw [show fwB (aB A) i = x5 from by unfold fwB; rw [x5e, nI_clamp (by omega)]]; rw [cif_n sp7, cif_n (fun h95 => absurd (g3.symm.trans h95) (by decide)), cif_n (fun h95 => absurd (g2.symm.trans h95) (by decide)), cif_n (show ¬ nwF (bS (aB A) i) = 0 by omega), cif_n (Int32.not_le.mpr h9), cif_n h10])) ?_
              refine pw_iload_11 dL_stations_661 ?_
              refine pw_icmp_eq 668 dL_stations_663 (by decide) (fun _ => ?_) (fun hh => absurd rfl hh)
              refine pw_iincN_7 dL_stations_668 (by decide) ?_
              refine pw_goto 3 dL_stations_671 (by decide) ?_
              refine pw_fg (ls' := [some (.ref o), some (.ref p), some (.ref (p + 1)), some (.ref (p + 2)), some (.ref (p + 3)), some (.ref (p + 4)), some (.ref (p + 5)), some (.int (nI (i + 1))), none, none, none, none, none]) ⟨Or.inr rfl, Or.inr rfl, Or.inr rfl, Or.inr rfl, Or.inr rfl, Or.inr rfl, Or.inr rfl, Or.inr rfl, Or.inl rfl, Or.inl rfl, Or.inl rfl, Or.inl rfl, Or.inl rfl, trivial⟩ ?_
              exact ih
            · skip
              refine pw_iconst (v := nI 5) dL_stations_642 (by decide) ?_
              refine pw_goto 648 dL_stations_643 (by decide) ?_
              refine pw_istore_11 dL_stations_648 (by decide) ?_
              refine pw_iload_9 dL_stations_650 ?_
              refine pw_if_eq 666 dL_stations_652 (by decide) (fun hh => absurd hh (by decide)) (fun _ => ?_)
              refine pw_aload_0 dL_stations_655 ?_
              refine pw_iload_7 dL_stations_656 ?_
              refine pw_cV1i 7 dL_stations_658 kL_41 vX7_why iX7_why ⟨by decide, by decide⟩ ⟨rfl, rfl⟩ (by decide) rfl (Nat.le_of_ble_eq_true rfl) hc.1.t (kf_why hc wa ?_)
              refine pw_top (y := nI 5) ((wh_v hiS hi8).trans (by unfold whF; rw [show fwB (aB A) i = x5 from by unfold fwB; rw [x5e, nI_clamp (by omega)]]; rw [cif_n sp7, cif_n (fun h95 => absurd (g3.symm.trans h95) (by decide)), cif_n (fun h95 => absurd (g2.symm.trans h95) (by decide)), cif_n (show ¬ nwF (bS (aB A) i) = 0 by omega), cif_n (Int32.not_le.mpr h9), cif_y h10])) ?_
              refine pw_iload_11 dL_stations_661 ?_
              refine pw_icmp_eq 668 dL_stations_663 (by decide) (fun _ => ?_) (fun hh => absurd rfl hh)
              refine pw_iincN_7 dL_stations_668 (by decide) ?_
              refine pw_goto 3 dL_stations_671 (by decide) ?_
              refine pw_fg (ls' := [some (.ref o), some (.ref p), some (.ref (p + 1)), some (.ref (p + 2)), some (.ref (p + 3)), some (.ref (p + 4)), some (.ref (p + 5)), some (.int (nI (i + 1))), none, none, none, none, none]) ⟨Or.inr rfl, Or.inr rfl, Or.inr rfl, Or.inr rfl, Or.inr rfl, Or.inr rfl, Or.inr rfl, Or.inr rfl, Or.inl rfl, Or.inl rfl, Or.inl rfl, Or.inl rfl, Or.inl rfl, trivial⟩ ?_
              exact ih
          · skip
            refine pw_iconst (v := nI 0) dL_stations_622 (by decide) ?_
            refine pw_goto 648 dL_stations_623 (by decide) ?_
            refine pw_istore_11 dL_stations_648 (by decide) ?_
            refine pw_iload_9 dL_stations_650 ?_
            refine pw_if_eq 666 dL_stations_652 (by decide) (fun hh => absurd hh (by decide)) (fun _ => ?_)
            refine pw_aload_0 dL_stations_655 ?_
            refine pw_iload_7 dL_stations_656 ?_
            refine pw_cV1i 7 dL_stations_658 kL_41 vX7_why iX7_why ⟨by decide, by decide⟩ ⟨rfl, rfl⟩ (by decide) rfl (Nat.le_of_ble_eq_true rfl) hc.1.t (kf_why hc wa ?_)
            refine pw_top (y := nI 0) ((wh_v hiS hi8).trans (by unfold whF; rw [show fwB (aB A) i = x5 from by unfold fwB; rw [x5e, nI_clamp (by omega)]]; rw [cif_n sp7, cif_n (fun h95 => absurd (g3.symm.trans h95) (by decide)), cif_n (fun h95 => absurd (g2.symm.trans h95) (by decide)), cif_n (show ¬ nwF (bS (aB A) i) = 0 by omega), cif_y (Int32.not_lt.mp h9)])) ?_
            refine pw_iload_11 dL_stations_661 ?_
            refine pw_icmp_eq 668 dL_stations_663 (by decide) (fun _ => ?_) (fun hh => absurd rfl hh)
            refine pw_iincN_7 dL_stations_668 (by decide) ?_
            refine pw_goto 3 dL_stations_671 (by decide) ?_
            refine pw_fg (ls' := [some (.ref o), some (.ref p), some (.ref (p + 1)), some (.ref (p + 2)), some (.ref (p + 3)), some (.ref (p + 4)), some (.ref (p + 5)), some (.int (nI (i + 1))), none, none, none, none, none]) ⟨Or.inr rfl, Or.inr rfl, Or.inr rfl, Or.inr rfl, Or.inr rfl, Or.inr rfl, Or.inr rfl, Or.inr rfl, Or.inl rfl, Or.inl rfl, Or.inl rfl, Or.inl rfl, Or.inl rfl, trivial⟩ ?_
            exact ih
        · skip
          rw [e8, g2]
          refine pw_iload_8 dL_stations_579 ?_
          refine pw_iconst (v := nI 2) dL_stations_581 (by decide) ?_
          refine pw_icmp_ne 589 dL_stations_582 (by decide) (fun _ => ?_) (fun hh => absurd hh (by decide))
          refine pw_iload_8 dL_stations_589 ?_
          refine pw_iconst (v := nI 1) dL_stations_591 (by decide) ?_
          refine pw_icmp_ne 599 dL_stations_592 (by decide) (fun hh => absurd hh (by decide)) (fun _ => ?_)
          refine pw_iconst (v := nI 3) dL_stations_595 (by decide) ?_
          refine pw_goto 648 dL_stations_596 (by decide) ?_
          refine pw_istore_11 dL_stations_648 (by decide) ?_
          refine pw_iload_9 dL_stations_650 ?_
          refine pw_if_eq 666 dL_stations_652 (by decide) (fun hh => absurd hh (by decide)) (fun _ => ?_)
          refine pw_aload_0 dL_stations_655 ?_
          refine pw_iload_7 dL_stations_656 ?_
          refine pw_cV1i 7 dL_stations_658 kL_41 vX7_why iX7_why ⟨by decide, by decide⟩ ⟨rfl, rfl⟩ (by decide) rfl (Nat.le_of_ble_eq_true rfl) hc.1.t (kf_why hc wa ?_)
          refine pw_top (y := nI 3) ((wh_v hiS hi8).trans (by unfold whF; rw [cif_n sp7, cif_n (fun h95 => absurd (g3.symm.trans h95) (by decide)), cif_y g2])) ?_
          refine pw_iload_11 dL_stations_661 ?_
          refine pw_icmp_eq 668 dL_stations_663 (by decide) (fun _ => ?_) (fun hh => absurd rfl hh)
          refine pw_iincN_7 dL_stations_668 (by decide) ?_
          refine pw_goto 3 dL_stations_671 (by decide) ?_
          refine pw_fg (ls' := [some (.ref o), some (.ref p), some (.ref (p + 1)), some (.ref (p + 2)), some (.ref (p + 3)), some (.ref (p + 4)), some (.ref (p + 5)), some (.int (nI (i + 1))), none, none, none, none, none]) ⟨Or.inr rfl, Or.inr rfl, Or.inr rfl, Or.inr rfl, Or.inr rfl, Or.inr rfl, Or.inr rfl, Or.inr rfl, Or.inl rfl, Or.inl rfl, Or.inl rfl, Or.inl rfl, Or.inl rfl, trivial⟩ ?_
          exact ih
      · skip
        have e8 : (if bS (aB A) i 3 = nI 1 then nI 2 else bS (aB A) i 2) = nI 2 := if_pos g3
        rw [e8]
        refine pw_iload_8 dL_stations_579 ?_
        refine pw_iconst (v := nI 2) dL_stations_581 (by decide) ?_
        refine pw_icmp_ne 589 dL_stations_582 (by decide) (fun hh => absurd hh (by decide)) (fun _ => ?_)
        refine pw_iconst (v := nI 2) dL_stations_585 (by decide) ?_
        refine pw_goto 648 dL_stations_586 (by decide) ?_
        refine pw_istore_11 dL_stations_648 (by decide) ?_
        refine pw_iload_9 dL_stations_650 ?_
        refine pw_if_eq 666 dL_stations_652 (by decide) (fun hh => absurd hh (by decide)) (fun _ => ?_)
        refine pw_aload_0 dL_stations_655 ?_
        refine pw_iload_7 dL_stations_656 ?_
        refine pw_cV1i 7 dL_stations_658 kL_41 vX7_why iX7_why ⟨by decide, by decide⟩ ⟨rfl, rfl⟩ (by decide) rfl (Nat.le_of_ble_eq_true rfl) hc.1.t (kf_why hc wa ?_)
        refine pw_top (y := nI 2) ((wh_v hiS hi8).trans (by unfold whF; rw [cif_n sp7, cif_y g3])) ?_
        refine pw_iload_11 dL_stations_661 ?_
        refine pw_icmp_eq 668 dL_stations_663 (by decide) (fun _ => ?_) (fun hh => absurd rfl hh)
        refine pw_iincN_7 dL_stations_668 (by decide) ?_
        refine pw_goto 3 dL_stations_671 (by decide) ?_
        refine pw_fg (ls' := [some (.ref o), some (.ref p), some (.ref (p + 1)), some (.ref (p + 2)), some (.ref (p + 3)), some (.ref (p + 4)), some (.ref (p + 5)), some (.int (nI (i + 1))), none, none, none, none, none]) ⟨Or.inr rfl, Or.inr rfl, Or.inr rfl, Or.inr rfl, Or.inr rfl, Or.inr rfl, Or.inr rfl, Or.inr rfl, Or.inl rfl, Or.inl rfl, Or.inl rfl, Or.inl rfl, Or.inl rfl, trivial⟩ ?_
        exact ih
set_option maxRecDepth 100000 in
set_option maxHeartbeats 4000000 in
theorem st_222 {X : Cx} {σ : Sp} {μ : Mm} {Q : Int32 → Sp → Mm → Prop} {κ : Prop} {μ0 : Mm} {o x p n i : Nat} {A : Aw} (hc : CX σ μ o x A) (wa : WA A) (hs : ShL σ p) (hl : LU κ μ0 p (aB A) μ) (kk : κ) (gd : GDn n (aB A)) (hi : i < n) (ih : PW X mL_stations 0 0 3 [some (.ref o), some (.ref p), some (.ref (p + 1)), some (.ref (p + 2)), some (.ref (p + 3)), some (.ref (p + 4)), some (.ref (p + 5)), some (.int (nI (i + 1))), none, none, none, none, none] [] σ μ (LI Q))  : PW X mL_stations 0 0 222 [some (.ref o), some (.ref p), some (.ref (p + 1)), some (.ref (p + 2)), some (.ref (p + 3)), some (.ref (p + 4)), some (.ref (p + 5)), some (.int (nI i)), some (.int ((if bS (aB A) i 3 = nI 1 then nI 2 else bS (aB A) i 2))), some (.int (nI 1)), none, none, none] [] σ μ (LI Q) := by
  have h8 := gd.n8
  have hiS : i < nS (aB A) := by rw [gd.hn]; exact hi
  have hi8 : i < 8 := by omega
  refine pw_iconst (v := nI 0) dL_stations_222 (by decide) ?_
  refine pw_istore_10 dL_stations_223 (by decide) ?_
  refine pw_up (P := fun r => PW X mL_stations 0 0 225 [some (.ref o), some (.ref p), some (.ref (p + 1)), some (.ref (p + 2)), some (.ref (p + 3)), some (.ref (p + 4)), some (.ref (p + 5)), some (.int (nI i)), some (.int ((if bS (aB A) i 3 = nI 1 then nI 2 else bS (aB A) i 2))), some (.int (nI 1)), some (.int (nI r)), none, none] [] σ μ (LI Q)) 5 ?_ ?_ 0 (Nat.zero_le _)
  · skip
    refine pw_iload_10 dL_stations_225 ?_
    refine pw_iconst (v := nI 5) dL_stations_227 (by decide) ?_
    refine pw_icmp_ge 540 dL_stations_228 (by decide) (fun _ => ?_) (fun hh => absurd (by decide) hh)
    refine pw_fg (ls' := [some (.ref o), some (.ref p), some (.ref (p + 1)), some (.ref (p + 2)), some (.ref (p + 3)), some (.ref (p + 4)), some (.ref (p + 5)), some (.int (nI i)), some (.int ((if bS (aB A) i 3 = nI 1 then nI 2 else bS (aB A) i 2))), some (.int (nI 1)), none, none, none]) ⟨Or.inr rfl, Or.inr rfl, Or.inr rfl, Or.inr rfl, Or.inr rfl, Or.inr rfl, Or.inr rfl, Or.inr rfl, Or.inr rfl, Or.inr rfl, Or.inl rfl, Or.inl rfl, Or.inl rfl, trivial⟩ ?_
    exact st_540 hc wa hs hl kk gd hi ih
  · intro r hr ihr
    refine pw_iload_10 dL_stations_225 ?_
    refine pw_iconst (v := nI 5) dL_stations_227 (by decide) ?_
    refine pw_icmp_ge 540 dL_stations_228 (by decide) (fun hh => absurd hh (by rw [nI_leI (by omega) (by omega)]; omega)) (fun _ => ?_)
    refine pw_iload_9 dL_stations_231 ?_
    refine pw_if_eq 540 dL_stations_233 (by decide) (fun hh => absurd hh (by decide)) (fun _ => ?_)
    refine pw_iload_10 dL_stations_236 ?_
    refine pw_aload_1 dL_stations_238 ?_
    refine pw_bipush (v := nI 32) dL_stations_239 (by decide) ?_
    refine pw_iload_7 dL_stations_241 ?_
    refine pw_iaddN dL_stations_243 ?_
    refine pw_ialdN dL_stations_244 hs.a (by omega) (by decide) ?_
    refine pw_top ((hl.a4 (i := i) (by omega) (by omega)).trans ((gd.s (i := i) (by omega)).w).1) ?_
    rcases Nat.lt_or_ge r (nwF (bS (aB A) i)) with hw | hw
    · skip
      refine pw_icmp_ge 252 dL_stations_245 (by decide) (fun hh9 => absurd hh9 (by have := (gd.s hi).w.2; rw [nI_leI (by omega) (by omega)]; omega)) (fun _ => ?_)
      have r4 : r < 4 := by have := (gd.s hi).w.2; omega
      obtain ⟨v, xx, y, hv, hx6, hy, e5, e6, e7⟩ := (gd.l hi).wd (r := r) (gd.s hi) r4 hw
      obtain ⟨z, hz⟩ : ∃ z, z = v + 256 * xx + 2048 * y := ⟨_, rfl⟩
      have eq9 : μ (p + 2) (8 * r + i) = nI z := by rw [hl.rq r rfl hi8 r4 hw, qV_of e5 e6 e7, hz]
      refine pw_iconst (v := nI 1) dL_stations_248 (by decide) ?_
      refine pw_goto 253 dL_stations_249 (by decide) ?_
      refine pw_istore_11 dL_stations_253 (by decide) ?_
      refine pw_iload_11 dL_stations_255 ?_
      refine pw_if_eq 273 dL_stations_257 (by decide) (fun hh => absurd hh (by decide)) (fun _ => ?_)
      refine pw_aload_3 dL_stations_260 ?_
      refine pw_bipush (v := nI 8) dL_stations_261 (by decide) ?_
      refine pw_iload_10 dL_stations_263 ?_
      refine pw_imulN dL_stations_265 ?_
      refine pw_iload_7 dL_stations_266 ?_
      refine pw_iaddN dL_stations_268 ?_
      refine pw_ialdN dL_stations_269 hs.q (by omega) (by decide) ?_
      refine pw_top eq9 ?_
      refine pw_goto 274 dL_stations_270 (by decide) ?_
      refine pw_istore_12 dL_stations_274 (by decide) ?_
      refine pw_aload_0 dL_stations_276 ?_
      refine pw_iload_7 dL_stations_277 ?_
      refine pw_iload_10 dL_stations_279 ?_
      refine pw_iconst (v := nI 0) dL_stations_281 (by decide) ?_
      refine pw_cV3i 7 dL_stations_282 kL_34 vX7_row iX7_row ⟨by decide, by decide⟩ ⟨rfl, rfl⟩ (by decide) rfl (Nat.le_of_ble_eq_true rfl) hc.1.t (kf_row hc wa ?_)
      refine pw_top ((ro_y hiS hi8 hw (by omega) (y := 0) (by decide)).trans (e5)) ?_
      refine pw_iload_11 dL_stations_285 ?_
      refine pw_if_eq 299 dL_stations_287 (by decide) (fun hh => absurd hh (by decide)) (fun _ => ?_)
      refine pw_iload_12 dL_stations_290 ?_
      refine pw_sipush (v := nI 256) dL_stations_292 (by decide) ?_
      refine pw_irem dL_stations_295 (by decide) ?_
      refine pw_top (pk_rem (a := z) (d := 256) (by omega) (by decide) (by decide)) ?_
      refine pw_top (congrArg nI (show z % 256 = v by omega)) ?_
      refine pw_goto 300 dL_stations_296 (by decide) ?_
      refine pw_icmp_ne 364 dL_stations_300 (by decide) (fun hh => absurd rfl hh) (fun _ => ?_)
      refine pw_aload_0 dL_stations_303 ?_
      refine pw_iload_7 dL_stations_304 ?_
      refine pw_iload_10 dL_stations_306 ?_
      refine pw_iconst (v := nI 1) dL_stations_308 (by decide) ?_
      refine pw_cV3i 7 dL_stations_309 kL_34 vX7_row iX7_row ⟨by decide, by decide⟩ ⟨rfl, rfl⟩ (by decide) rfl (Nat.le_of_ble_eq_true rfl) hc.1.t (kf_row hc wa ?_)
      refine pw_top ((ro_y hiS hi8 hw (by omega) (y := 1) (by decide)).trans ((congrArg (bS (aB A) i) (show 5 + 3 * r + 1 = 6 + 3 * r by omega)).trans e6)) ?_
      refine pw_iload_11 dL_stations_312 ?_
      refine pw_if_eq 329 dL_stations_314 (by decide) (fun hh => absurd hh (by decide)) (fun _ => ?_)
      refine pw_iload_12 dL_stations_317 ?_
      refine pw_sipush (v := nI 256) dL_stations_319 (by decide) ?_
      refine pw_idiv dL_stations_322 (by decide) ?_
      refine pw_top (pk_div (a := z) (d := 256) (by omega) (by decide) (by decide)) ?_
      refine pw_bipush (v := nI 8) dL_stations_323 (by decide) ?_
      refine pw_irem dL_stations_325 (by decide) ?_
      refine pw_top (pk_rem (a := z / 256) (d := 8) (by omega) (by decide) (by decide)) ?_
      refine pw_top (congrArg nI (show (z / 256) % 8 = xx by omega)) ?_
      refine pw_goto 330 dL_stations_326 (by decide) ?_
      refine pw_icmp_ne 364 dL_stations_330 (by decide) (fun hh => absurd rfl hh) (fun _ => ?_)
      refine pw_aload_0 dL_stations_333 ?_
      refine pw_iload_7 dL_stations_334 ?_
      refine pw_iload_10 dL_stations_336 ?_
      refine pw_iconst (v := nI 2) dL_stations_338 (by decide) ?_
      refine pw_cV3i 7 dL_stations_339 kL_34 vX7_row iX7_row ⟨by decide, by decide⟩ ⟨rfl, rfl⟩ (by decide) rfl (Nat.le_of_ble_eq_true rfl) hc.1.t (kf_row hc wa ?_)
      refine pw_top ((ro_y hiS hi8 hw (by omega) (y := 2) (by decide)).trans ((congrArg (bS (aB A) i) (show 5 + 3 * r + 2 = 7 + 3 * r by omega)).trans e7)) ?_
      refine pw_iload_11 dL_stations_342 ?_
      refine pw_if_eq 356 dL_stations_344 (by decide) (fun hh => absurd hh (by decide)) (fun _ => ?_)
      refine pw_iload_12 dL_stations_347 ?_
      refine pw_sipush (v := nI 2048) dL_stations_349 (by decide) ?_
      refine pw_idiv dL_stations_352 (by decide) ?_
      refine pw_top (pk_div (a := z) (d := 2048) (by omega) (by decide) (by decide)) ?_
      refine pw_top (congrArg nI (show z / 2048 = y by omega)) ?_
      refine pw_goto 357 dL_stations_353 (by decide) ?_
      refine pw_icmp_ne 364 dL_stations_357 (by decide) (fun hh => absurd rfl hh) (fun _ => ?_)
      refine pw_iconst (v := nI 1) dL_stations_360 (by decide) ?_
      refine pw_goto 365 dL_stations_361 (by decide) ?_
      refine pw_istore_9 dL_stations_365 (by decide) ?_
      refine pw_iload_10 dL_stations_367 ?_
      refine pw_aload_2 dL_stations_369 ?_
      refine pw_bipush (v := nI 24) dL_stations_370 (by decide) ?_
      refine pw_iload_7 dL_stations_372 ?_
      refine pw_iaddN dL_stations_374 ?_
      refine pw_ialdN dL_stations_375 hs.b (by omega) (by decide) ?_
      refine pw_top ((hl.rb 3 23 (i := i) (by omega) rfl (by omega) (by omega)).trans (gd.s hi).kn.1) ?_
      rcases Nat.lt_or_ge r (nkF (bS (aB A) i)) with hh | hh
      · skip
        refine pw_icmp_ge 383 dL_stations_376 (by decide) (fun hh9 => absurd hh9 (by have := (gd.s hi).kn.2; rw [nI_leI (by omega) (by omega)]; omega)) (fun _ => ?_)
        have k4 : r < 4 := by have := (gd.s hi).kn.2; omega
        obtain ⟨⟨v2, v2b, v2e⟩, ⟨f2, f2b, f2e⟩, ⟨w2, w2b, w2e⟩, t2, t2b, t2e⟩ := (gd.l hi).2 r k4 hh
        obtain ⟨u, hu⟩ : ∃ u, u = v2 + 256 * f2 + 2048 * w2 + 16384 * t2 := ⟨_, rfl⟩
        have ek9 : μ (p + 3) (8 * r + i) = nI u := by rw [hl.rk kk r rfl hi8 k4 hh, kV_of v2e f2e w2e t2e, hu]
        refine pw_iconst (v := nI 1) dL_stations_379 (by decide) ?_
        refine pw_goto 384 dL_stations_380 (by decide) ?_
        refine pw_istore_11 dL_stations_384 (by decide) ?_
        refine pw_iload_11 dL_stations_386 ?_
        refine pw_if_eq 405 dL_stations_388 (by decide) (fun hh => absurd hh (by decide)) (fun _ => ?_)
        refine pw_aload_4 dL_stations_391 ?_
        refine pw_bipush (v := nI 8) dL_stations_393 (by decide) ?_
        refine pw_iload_10 dL_stations_395 ?_
        refine pw_imulN dL_stations_397 ?_
        refine pw_iload_7 dL_stations_398 ?_
        refine pw_iaddN dL_stations_400 ?_
        refine pw_ialdN dL_stations_401 hs.k (by omega) (by decide) ?_
        refine pw_top ek9 ?_
        refine pw_goto 406 dL_stations_402 (by decide) ?_
        refine pw_istore_12 dL_stations_406 (by decide) ?_
        refine pw_iload_9 dL_stations_408 ?_
        refine pw_if_eq 531 dL_stations_410 (by decide) (fun hh => absurd hh (by decide)) (fun _ => ?_)
        refine pw_aload_0 dL_stations_413 ?_
        refine pw_iload_7 dL_stations_414 ?_
        refine pw_iload_10 dL_stations_416 ?_
        refine pw_iconst (v := nI 0) dL_stations_418 (by decide) ?_
        refine pw_cV3i 7 dL_stations_419 kL_38 vX7_heard iX7_heard ⟨by decide, by decide⟩ ⟨rfl, rfl⟩ (by decide) rfl (Nat.le_of_ble_eq_true rfl) hc.1.t (kf_heard hc wa ?_)
        refine pw_top ((he_y hiS hi8 hh (by omega) (y := 0) (by decide)).trans v2e) ?_
        refine pw_iload_11 dL_stations_422 ?_
        refine pw_if_eq 436 dL_stations_424 (by decide) (fun hh => absurd hh (by decide)) (fun _ => ?_)
        refine pw_iload_12 dL_stations_427 ?_
        refine pw_sipush (v := nI 256) dL_stations_429 (by decide) ?_
        refine pw_irem dL_stations_432 (by decide) ?_
        refine pw_top (pk_rem (a := u) (d := 256) (by omega) (by decide) (by decide)) ?_
        refine pw_top (congrArg nI (show u % 256 = v2 by omega)) ?_
        refine pw_goto 437 dL_stations_433 (by decide) ?_
        refine pw_icmp_ne 531 dL_stations_437 (by decide) (fun hh => absurd rfl hh) (fun _ => ?_)
        refine pw_aload_0 dL_stations_440 ?_
        refine pw_iload_7 dL_stations_441 ?_
        refine pw_iload_10 dL_stations_443 ?_
        refine pw_iconst (v := nI 1) dL_stations_445 (by decide) ?_
        refine pw_cV3i 7 dL_stations_446 kL_38 vX7_heard iX7_heard ⟨by decide, by decide⟩ ⟨rfl, rfl⟩ (by decide) rfl (Nat.le_of_ble_eq_true rfl) hc.1.t (kf_heard hc wa ?_)
        refine pw_top ((he_y hiS hi8 hh (by omega) (y := 1) (by decide)).trans ((congrArg (bS (aB A) i) (show 24 + 4 * r + 1 = 25 + 4 * r by omega)).trans f2e)) ?_
        refine pw_iload_11 dL_stations_449 ?_
        refine pw_if_eq 466 dL_stations_451 (by decide) (fun hh => absurd hh (by decide)) (fun _ => ?_)
        refine pw_iload_12 dL_stations_454 ?_
        refine pw_sipush (v := nI 256) dL_stations_456 (by decide) ?_
        refine pw_idiv dL_stations_459 (by decide) ?_
        refine pw_top (pk_div (a := u) (d := 256) (by omega) (by decide) (by decide)) ?_
        refine pw_bipush (v := nI 8) dL_stations_460 (by decide) ?_
        refine pw_irem dL_stations_462 (by decide) ?_
        refine pw_top (pk_rem (a := u / 256) (d := 8) (by omega) (by decide) (by decide)) ?_
        refine pw_top (congrArg nI (show (u / 256) % 8 = f2 by omega)) ?_
        refine pw_goto 467 dL_stations_463 (by decide) ?_
        refine pw_icmp_ne 531 dL_stations_467 (by decide) (fun hh => absurd rfl hh) (fun _ => ?_)
        refine pw_aload_0 dL_stations_470 ?_
        refine pw_iload_7 dL_stations_471 ?_
        refine pw_iload_10 dL_stations_473 ?_
        refine pw_iconst (v := nI 2) dL_stations_475 (by decide) ?_
        refine pw_cV3i 7 dL_stations_476 kL_38 vX7_heard iX7_heard ⟨by decide, by decide⟩ ⟨rfl, rfl⟩ (by decide) rfl (Nat.le_of_ble_eq_true rfl) hc.1.t (kf_heard hc wa ?_)
        refine pw_top ((he_y hiS hi8 hh (by omega) (y := 2) (by decide)).trans ((congrArg (bS (aB A) i) (show 24 + 4 * r + 2 = 26 + 4 * r by omega)).trans w2e)) ?_
        refine pw_iload_11 dL_stations_479 ?_
        refine pw_if_eq 496 dL_stations_481 (by decide) (fun hh => absurd hh (by decide)) (fun _ => ?_)
        refine pw_iload_12 dL_stations_484 ?_
        refine pw_sipush (v := nI 2048) dL_stations_486 (by decide) ?_
        refine pw_idiv dL_stations_489 (by decide) ?_
        refine pw_top (pk_div (a := u) (d := 2048) (by omega) (by decide) (by decide)) ?_
        refine pw_bipush (v := nI 8) dL_stations_490 (by decide) ?_
        refine pw_irem dL_stations_492 (by decide) ?_
        refine pw_top (pk_rem (a := u / 2048) (d := 8) (by omega) (by decide) (by decide)) ?_
        refine pw_top (congrArg nI (show (u / 2048) % 8 = w2 by omega)) ?_
        refine pw_goto 497 dL_stations_493 (by decide) ?_
        refine pw_icmp_ne 531 dL_stations_497 (by decide) (fun hh => absurd rfl hh) (fun _ => ?_)
        refine pw_aload_0 dL_stations_500 ?_
        refine pw_iload_7 dL_stations_501 ?_
        refine pw_iload_10 dL_stations_503 ?_
        refine pw_iconst (v := nI 3) dL_stations_505 (by decide) ?_
        refine pw_cV3i 7 dL_stations_506 kL_38 vX7_heard iX7_heard ⟨by decide, by decide⟩ ⟨rfl, rfl⟩ (by decide) rfl (Nat.le_of_ble_eq_true rfl) hc.1.t (kf_heard hc wa ?_)
        refine pw_top ((he_y hiS hi8 hh (by omega) (y := 3) (by decide)).trans ((congrArg (bS (aB A) i) (show 24 + 4 * r + 3 = 27 + 4 * r by omega)).trans t2e)) ?_
        refine pw_iload_11 dL_stations_509 ?_
        refine pw_if_eq 523 dL_stations_511 (by decide) (fun hh => absurd hh (by decide)) (fun _ => ?_)
        refine pw_iload_12 dL_stations_514 ?_
        refine pw_sipush (v := nI 16384) dL_stations_516 (by decide) ?_
        refine pw_idiv dL_stations_519 (by decide) ?_
        refine pw_top (pk_div (a := u) (d := 16384) (by omega) (by decide) (by decide)) ?_
        refine pw_top (congrArg nI (show u / 16384 = t2 by omega)) ?_
        refine pw_goto 524 dL_stations_520 (by decide) ?_
        refine pw_icmp_ne 531 dL_stations_524 (by decide) (fun hh => absurd rfl hh) (fun _ => ?_)
        refine pw_iconst (v := nI 1) dL_stations_527 (by decide) ?_
        refine pw_goto 532 dL_stations_528 (by decide) ?_
        refine pw_istore_9 dL_stations_532 (by decide) ?_
        refine pw_iincN_10 dL_stations_534 (by decide) ?_
        refine pw_goto 225 dL_stations_537 (by decide) ?_
        refine pw_fg (ls' := [some (.ref o), some (.ref p), some (.ref (p + 1)), some (.ref (p + 2)), some (.ref (p + 3)), some (.ref (p + 4)), some (.ref (p + 5)), some (.int (nI i)), some (.int ((if bS (aB A) i 3 = nI 1 then nI 2 else bS (aB A) i 2))), some (.int (nI 1)), some (.int (nI (r + 1))), none, none]) ⟨Or.inr rfl, Or.inr rfl, Or.inr rfl, Or.inr rfl, Or.inr rfl, Or.inr rfl, Or.inr rfl, Or.inr rfl, Or.inr rfl, Or.inr rfl, Or.inr rfl, Or.inl rfl, Or.inl rfl, trivial⟩ ?_
        exact ihr
      · skip
        refine pw_icmp_ge 383 dL_stations_376 (by decide) (fun _ => ?_) (fun hh9 => absurd (by rw [nI_leI (by omega) (by omega)]; omega) hh9)
        refine pw_iconst (v := nI 0) dL_stations_383 (by decide) ?_
        refine pw_istore_11 dL_stations_384 (by decide) ?_
        refine pw_iload_11 dL_stations_386 ?_
        refine pw_if_eq 405 dL_stations_388 (by decide) (fun _ => ?_) (fun hh => absurd (by decide) hh)
        refine pw_iconst (v := nI 0) dL_stations_405 (by decide) ?_
        refine pw_istore_12 dL_stations_406 (by decide) ?_
        refine pw_iload_9 dL_stations_408 ?_
        refine pw_if_eq 531 dL_stations_410 (by decide) (fun hh => absurd hh (by decide)) (fun _ => ?_)
        refine pw_aload_0 dL_stations_413 ?_
        refine pw_iload_7 dL_stations_414 ?_
        refine pw_iload_10 dL_stations_416 ?_
        refine pw_iconst (v := nI 0) dL_stations_418 (by decide) ?_
        refine pw_cV3i 7 dL_stations_419 kL_38 vX7_heard iX7_heard ⟨by decide, by decide⟩ ⟨rfl, rfl⟩ (by decide) rfl (Nat.le_of_ble_eq_true rfl) hc.1.t (kf_heard hc wa ?_)
        refine pw_top (he_n hi8 (by omega) (by omega) (by have := (gd.s hi).kn.2; omega)) ?_
        refine pw_iload_11 dL_stations_422 ?_
        refine pw_if_eq 436 dL_stations_424 (by decide) (fun _ => ?_) (fun hh => absurd (by decide) hh)
        refine pw_iconst (v := -1) dL_stations_436 (by decide) ?_
        refine pw_icmp_ne 531 dL_stations_437 (by decide) (fun hh => absurd rfl hh) (fun _ => ?_)
        refine pw_aload_0 dL_stations_440 ?_
        refine pw_iload_7 dL_stations_441 ?_
        refine pw_iload_10 dL_stations_443 ?_
        refine pw_iconst (v := nI 1) dL_stations_445 (by decide) ?_
        refine pw_cV3i 7 dL_stations_446 kL_38 vX7_heard iX7_heard ⟨by decide, by decide⟩ ⟨rfl, rfl⟩ (by decide) rfl (Nat.le_of_ble_eq_true rfl) hc.1.t (kf_heard hc wa ?_)
        refine pw_top (he_n hi8 (by omega) (by omega) (by have := (gd.s hi).kn.2; omega)) ?_
        refine pw_iload_11 dL_stations_449 ?_
        refine pw_if_eq 466 dL_stations_451 (by decide) (fun _ => ?_) (fun hh => absurd (by decide) hh)
        refine pw_iconst (v := -1) dL_stations_466 (by decide) ?_
        refine pw_icmp_ne 531 dL_stations_467 (by decide) (fun hh => absurd rfl hh) (fun _ => ?_)
        refine pw_aload_0 dL_stations_470 ?_
        refine pw_iload_7 dL_stations_471 ?_
        refine pw_iload_10 dL_stations_473 ?_
        refine pw_iconst (v := nI 2) dL_stations_475 (by decide) ?_
        refine pw_cV3i 7 dL_stations_476 kL_38 vX7_heard iX7_heard ⟨by decide, by decide⟩ ⟨rfl, rfl⟩ (by decide) rfl (Nat.le_of_ble_eq_true rfl) hc.1.t (kf_heard hc wa ?_)
        refine pw_top (he_n hi8 (by omega) (by omega) (by have := (gd.s hi).kn.2; omega)) ?_
        refine pw_iload_11 dL_stations_479 ?_
        refine pw_if_eq 496 dL_stations_481 (by decide) (fun _ => ?_) (fun hh => absurd (by decide) hh)
        refine pw_iconst (v := -1) dL_stations_496 (by decide) ?_
        refine pw_icmp_ne 531 dL_stations_497 (by decide) (fun hh => absurd rfl hh) (fun _ => ?_)
        refine pw_aload_0 dL_stations_500 ?_
        refine pw_iload_7 dL_stations_501 ?_
        refine pw_iload_10 dL_stations_503 ?_
        refine pw_iconst (v := nI 3) dL_stations_505 (by decide) ?_
        refine pw_cV3i 7 dL_stations_506 kL_38 vX7_heard iX7_heard ⟨by decide, by decide⟩ ⟨rfl, rfl⟩ (by decide) rfl (Nat.le_of_ble_eq_true rfl) hc.1.t (kf_heard hc wa ?_)
        refine pw_top (he_n hi8 (by omega) (by omega) (by have := (gd.s hi).kn.2; omega)) ?_
        refine pw_iload_11 dL_stations_509 ?_
        refine pw_if_eq 523 dL_stations_511 (by decide) (fun _ => ?_) (fun hh => absurd (by decide) hh)
        refine pw_iconst (v := -1) dL_stations_523 (by decide) ?_
        refine pw_icmp_ne 531 dL_stations_524 (by decide) (fun hh => absurd rfl hh) (fun _ => ?_)
        refine pw_iconst (v := nI 1) dL_stations_527 (by decide) ?_
        refine pw_goto 532 dL_stations_528 (by decide) ?_
        refine pw_istore_9 dL_stations_532 (by decide) ?_
        refine pw_iincN_10 dL_stations_534 (by decide) ?_
        refine pw_goto 225 dL_stations_537 (by decide) ?_
        refine pw_fg (ls' := [some (.ref o), some (.ref p), some (.ref (p + 1)), some (.ref (p + 2)), some (.ref (p + 3)), some (.ref (p + 4)), some (.ref (p + 5)), some (.int (nI i)), some (.int ((if bS (aB A) i 3 = nI 1 then nI 2 else bS (aB A) i 2))), some (.int (nI 1)), some (.int (nI (r + 1))), none, none]) ⟨Or.inr rfl, Or.inr rfl, Or.inr rfl, Or.inr rfl, Or.inr rfl, Or.inr rfl, Or.inr rfl, Or.inr rfl, Or.inr rfl, Or.inr rfl, Or.inr rfl, Or.inl rfl, Or.inl rfl, trivial⟩ ?_
        exact ihr
    · skip
      refine pw_icmp_ge 252 dL_stations_245 (by decide) (fun _ => ?_) (fun hh9 => absurd (by rw [nI_leI (by omega) (by omega)]; omega) hh9)
      refine pw_iconst (v := nI 0) dL_stations_252 (by decide) ?_
      refine pw_istore_11 dL_stations_253 (by decide) ?_
      refine pw_iload_11 dL_stations_255 ?_
      refine pw_if_eq 273 dL_stations_257 (by decide) (fun _ => ?_) (fun hh => absurd (by decide) hh)
      refine pw_iconst (v := nI 0) dL_stations_273 (by decide) ?_
      refine pw_istore_12 dL_stations_274 (by decide) ?_
      refine pw_aload_0 dL_stations_276 ?_
      refine pw_iload_7 dL_stations_277 ?_
      refine pw_iload_10 dL_stations_279 ?_
      refine pw_iconst (v := nI 0) dL_stations_281 (by decide) ?_
      refine pw_cV3i 7 dL_stations_282 kL_34 vX7_row iX7_row ⟨by decide, by decide⟩ ⟨rfl, rfl⟩ (by decide) rfl (Nat.le_of_ble_eq_true rfl) hc.1.t (kf_row hc wa ?_)
      refine pw_top (ro_n hi8 (by omega) (by omega) (by have := (gd.s hi).w.2; omega)) ?_
      refine pw_iload_11 dL_stations_285 ?_
      refine pw_if_eq 299 dL_stations_287 (by decide) (fun _ => ?_) (fun hh => absurd (by decide) hh)
      refine pw_iconst (v := -1) dL_stations_299 (by decide) ?_
      refine pw_icmp_ne 364 dL_stations_300 (by decide) (fun hh => absurd rfl hh) (fun _ => ?_)
      refine pw_aload_0 dL_stations_303 ?_
      refine pw_iload_7 dL_stations_304 ?_
      refine pw_iload_10 dL_stations_306 ?_
      refine pw_iconst (v := nI 1) dL_stations_308 (by decide) ?_
      refine pw_cV3i 7 dL_stations_309 kL_34 vX7_row iX7_row ⟨by decide, by decide⟩ ⟨rfl, rfl⟩ (by decide) rfl (Nat.le_of_ble_eq_true rfl) hc.1.t (kf_row hc wa ?_)
      refine pw_top (ro_n hi8 (by omega) (by omega) (by have := (gd.s hi).w.2; omega)) ?_
      refine pw_iload_11 dL_stations_312 ?_
      refine pw_if_eq 329 dL_stations_314 (by decide) (fun _ => ?_) (fun hh => absurd (by decide) hh)
      refine pw_iconst (v := -1) dL_stations_329 (by decide) ?_
      refine pw_icmp_ne 364 dL_stations_330 (by decide) (fun hh => absurd rfl hh) (fun _ => ?_)
      refine pw_aload_0 dL_stations_333 ?_
      refine pw_iload_7 dL_stations_334 ?_
      refine pw_iload_10 dL_stations_336 ?_
      refine pw_iconst (v := nI 2) dL_stations_338 (by decide) ?_
      refine pw_cV3i 7 dL_stations_339 kL_34 vX7_row iX7_row ⟨by decide, by decide⟩ ⟨rfl, rfl⟩ (by decide) rfl (Nat.le_of_ble_eq_true rfl) hc.1.t (kf_row hc wa ?_)
      refine pw_top (ro_n hi8 (by omega) (by omega) (by have := (gd.s hi).w.2; omega)) ?_
      refine pw_iload_11 dL_stations_342 ?_
      refine pw_if_eq 356 dL_stations_344 (by decide) (fun _ => ?_) (fun hh => absurd (by decide) hh)
      refine pw_iconst (v := -1) dL_stations_356 (by decide) ?_
      refine pw_icmp_ne 364 dL_stations_357 (by decide) (fun hh => absurd rfl hh) (fun _ => ?_)
      refine pw_iconst (v := nI 1) dL_stations_360 (by decide) ?_
      refine pw_goto 365 dL_stations_361 (by decide) ?_
      refine pw_istore_9 dL_stations_365 (by decide) ?_
      refine pw_iload_10 dL_stations_367 ?_
      refine pw_aload_2 dL_stations_369 ?_
      refine pw_bipush (v := nI 24) dL_stations_370 (by decide) ?_
      refine pw_iload_7 dL_stations_372 ?_
      refine pw_iaddN dL_stations_374 ?_
      refine pw_ialdN dL_stations_375 hs.b (by omega) (by decide) ?_
      refine pw_top ((hl.rb 3 23 (i := i) (by omega) rfl (by omega) (by omega)).trans (gd.s hi).kn.1) ?_
      rcases Nat.lt_or_ge r (nkF (bS (aB A) i)) with hh | hh
      · skip
        refine pw_icmp_ge 383 dL_stations_376 (by decide) (fun hh9 => absurd hh9 (by have := (gd.s hi).kn.2; rw [nI_leI (by omega) (by omega)]; omega)) (fun _ => ?_)
        have k4 : r < 4 := by have := (gd.s hi).kn.2; omega
        obtain ⟨⟨v2, v2b, v2e⟩, ⟨f2, f2b, f2e⟩, ⟨w2, w2b, w2e⟩, t2, t2b, t2e⟩ := (gd.l hi).2 r k4 hh
        obtain ⟨u, hu⟩ : ∃ u, u = v2 + 256 * f2 + 2048 * w2 + 16384 * t2 := ⟨_, rfl⟩
        have ek9 : μ (p + 3) (8 * r + i) = nI u := by rw [hl.rk kk r rfl hi8 k4 hh, kV_of v2e f2e w2e t2e, hu]
        refine pw_iconst (v := nI 1) dL_stations_379 (by decide) ?_
        refine pw_goto 384 dL_stations_380 (by decide) ?_
        refine pw_istore_11 dL_stations_384 (by decide) ?_
        refine pw_iload_11 dL_stations_386 ?_
        refine pw_if_eq 405 dL_stations_388 (by decide) (fun hh => absurd hh (by decide)) (fun _ => ?_)
        refine pw_aload_4 dL_stations_391 ?_
        refine pw_bipush (v := nI 8) dL_stations_393 (by decide) ?_
        refine pw_iload_10 dL_stations_395 ?_
        refine pw_imulN dL_stations_397 ?_
        refine pw_iload_7 dL_stations_398 ?_
        refine pw_iaddN dL_stations_400 ?_
        refine pw_ialdN dL_stations_401 hs.k (by omega) (by decide) ?_
        refine pw_top ek9 ?_
        refine pw_goto 406 dL_stations_402 (by decide) ?_
        refine pw_istore_12 dL_stations_406 (by decide) ?_
        refine pw_iload_9 dL_stations_408 ?_
        refine pw_if_eq 531 dL_stations_410 (by decide) (fun hh => absurd hh (by decide)) (fun _ => ?_)
        refine pw_aload_0 dL_stations_413 ?_
        refine pw_iload_7 dL_stations_414 ?_
        refine pw_iload_10 dL_stations_416 ?_
        refine pw_iconst (v := nI 0) dL_stations_418 (by decide) ?_
        refine pw_cV3i 7 dL_stations_419 kL_38 vX7_heard iX7_heard ⟨by decide, by decide⟩ ⟨rfl, rfl⟩ (by decide) rfl (Nat.le_of_ble_eq_true rfl) hc.1.t (kf_heard hc wa ?_)
        refine pw_top ((he_y hiS hi8 hh (by omega) (y := 0) (by decide)).trans v2e) ?_
        refine pw_iload_11 dL_stations_422 ?_
        refine pw_if_eq 436 dL_stations_424 (by decide) (fun hh => absurd hh (by decide)) (fun _ => ?_)
        refine pw_iload_12 dL_stations_427 ?_
        refine pw_sipush (v := nI 256) dL_stations_429 (by decide) ?_
        refine pw_irem dL_stations_432 (by decide) ?_
        refine pw_top (pk_rem (a := u) (d := 256) (by omega) (by decide) (by decide)) ?_
        refine pw_top (congrArg nI (show u % 256 = v2 by omega)) ?_
        refine pw_goto 437 dL_stations_433 (by decide) ?_
        refine pw_icmp_ne 531 dL_stations_437 (by decide) (fun hh => absurd rfl hh) (fun _ => ?_)
        refine pw_aload_0 dL_stations_440 ?_
        refine pw_iload_7 dL_stations_441 ?_
        refine pw_iload_10 dL_stations_443 ?_
        refine pw_iconst (v := nI 1) dL_stations_445 (by decide) ?_
        refine pw_cV3i 7 dL_stations_446 kL_38 vX7_heard iX7_heard ⟨by decide, by decide⟩ ⟨rfl, rfl⟩ (by decide) rfl (Nat.le_of_ble_eq_true rfl) hc.1.t (kf_heard hc wa ?_)
        refine pw_top ((he_y hiS hi8 hh (by omega) (y := 1) (by decide)).trans ((congrArg (bS (aB A) i) (show 24 + 4 * r + 1 = 25 + 4 * r by omega)).trans f2e)) ?_
        refine pw_iload_11 dL_stations_449 ?_
        refine pw_if_eq 466 dL_stations_451 (by decide) (fun hh => absurd hh (by decide)) (fun _ => ?_)
        refine pw_iload_12 dL_stations_454 ?_
        refine pw_sipush (v := nI 256) dL_stations_456 (by decide) ?_
        refine pw_idiv dL_stations_459 (by decide) ?_
        refine pw_top (pk_div (a := u) (d := 256) (by omega) (by decide) (by decide)) ?_
        refine pw_bipush (v := nI 8) dL_stations_460 (by decide) ?_
        refine pw_irem dL_stations_462 (by decide) ?_
        refine pw_top (pk_rem (a := u / 256) (d := 8) (by omega) (by decide) (by decide)) ?_
        refine pw_top (congrArg nI (show (u / 256) % 8 = f2 by omega)) ?_
        refine pw_goto 467 dL_stations_463 (by decide) ?_
        refine pw_icmp_ne 531 dL_stations_467 (by decide) (fun hh => absurd rfl hh) (fun _ => ?_)
        refine pw_aload_0 dL_stations_470 ?_
        refine pw_iload_7 dL_stations_471 ?_
        refine pw_iload_10 dL_stations_473 ?_
        refine pw_iconst (v := nI 2) dL_stations_475 (by decide) ?_
        refine pw_cV3i 7 dL_stations_476 kL_38 vX7_heard iX7_heard ⟨by decide, by decide⟩ ⟨rfl, rfl⟩ (by decide) rfl (Nat.le_of_ble_eq_true rfl) hc.1.t (kf_heard hc wa ?_)
        refine pw_top ((he_y hiS hi8 hh (by omega) (y := 2) (by decide)).trans ((congrArg (bS (aB A) i) (show 24 + 4 * r + 2 = 26 + 4 * r by omega)).trans w2e)) ?_
        refine pw_iload_11 dL_stations_479 ?_
        refine pw_if_eq 496 dL_stations_481 (by decide) (fun hh => absurd hh (by decide)) (fun _ => ?_)
        refine pw_iload_12 dL_stations_484 ?_
        refine pw_sipush (v := nI 2048) dL_stations_486 (by decide) ?_
        refine pw_idiv dL_stations_489 (by decide) ?_
        refine pw_top (pk_div (a := u) (d := 2048) (by omega) (by decide) (by decide)) ?_
        refine pw_bipush (v := nI 8) dL_stations_490 (by decide) ?_
        refine pw_irem dL_stations_492 (by decide) ?_
        refine pw_top (pk_rem (a := u / 2048) (d := 8) (by omega) (by decide) (by decide)) ?_
        refine pw_top (congrArg nI (show (u / 2048) % 8 = w2 by omega)) ?_
        refine pw_goto 497 dL_stations_493 (by decide) ?_
        refine pw_icmp_ne 531 dL_stations_497 (by decide) (fun hh => absurd rfl hh) (fun _ => ?_)
        refine pw_aload_0 dL_stations_500 ?_
        refine pw_iload_7 dL_stations_501 ?_
        refine pw_iload_10 dL_stations_503 ?_
        refine pw_iconst (v := nI 3) dL_stations_505 (by decide) ?_
        refine pw_cV3i 7 dL_stations_506 kL_38 vX7_heard iX7_heard ⟨by decide, by decide⟩ ⟨rfl, rfl⟩ (by decide) rfl (Nat.le_of_ble_eq_true rfl) hc.1.t (kf_heard hc wa ?_)
        refine pw_top ((he_y hiS hi8 hh (by omega) (y := 3) (by decide)).trans ((congrArg (bS (aB A) i) (show 24 + 4 * r + 3 = 27 + 4 * r by omega)).trans t2e)) ?_
        refine pw_iload_11 dL_stations_509 ?_
        refine pw_if_eq 523 dL_stations_511 (by decide) (fun hh => absurd hh (by decide)) (fun _ => ?_)
        refine pw_iload_12 dL_stations_514 ?_
        refine pw_sipush (v := nI 16384) dL_stations_516 (by decide) ?_
        refine pw_idiv dL_stations_519 (by decide) ?_
        refine pw_top (pk_div (a := u) (d := 16384) (by omega) (by decide) (by decide)) ?_
        refine pw_top (congrArg nI (show u / 16384 = t2 by omega)) ?_
        refine pw_goto 524 dL_stations_520 (by decide) ?_
        refine pw_icmp_ne 531 dL_stations_524 (by decide) (fun hh => absurd rfl hh) (fun _ => ?_)
        refine pw_iconst (v := nI 1) dL_stations_527 (by decide) ?_
        refine pw_goto 532 dL_stations_528 (by decide) ?_
        refine pw_istore_9 dL_stations_532 (by decide) ?_
        refine pw_iincN_10 dL_stations_534 (by decide) ?_
        refine pw_goto 225 dL_stations_537 (by decide) ?_
        refine pw_fg (ls' := [some (.ref o), some (.ref p), some (.ref (p + 1)), some (.ref (p + 2)), some (.ref (p + 3)), some (.ref (p + 4)), some (.ref (p + 5)), some (.int (nI i)), some (.int ((if bS (aB A) i 3 = nI 1 then nI 2 else bS (aB A) i 2))), some (.int (nI 1)), some (.int (nI (r + 1))), none, none]) ⟨Or.inr rfl, Or.inr rfl, Or.inr rfl, Or.inr rfl, Or.inr rfl, Or.inr rfl, Or.inr rfl, Or.inr rfl, Or.inr rfl, Or.inr rfl, Or.inr rfl, Or.inl rfl, Or.inl rfl, trivial⟩ ?_
        exact ihr
      · skip
        refine pw_icmp_ge 383 dL_stations_376 (by decide) (fun _ => ?_) (fun hh9 => absurd (by rw [nI_leI (by omega) (by omega)]; omega) hh9)
        refine pw_iconst (v := nI 0) dL_stations_383 (by decide) ?_
        refine pw_istore_11 dL_stations_384 (by decide) ?_
        refine pw_iload_11 dL_stations_386 ?_
        refine pw_if_eq 405 dL_stations_388 (by decide) (fun _ => ?_) (fun hh => absurd (by decide) hh)
        refine pw_iconst (v := nI 0) dL_stations_405 (by decide) ?_
        refine pw_istore_12 dL_stations_406 (by decide) ?_
        refine pw_iload_9 dL_stations_408 ?_
        refine pw_if_eq 531 dL_stations_410 (by decide) (fun hh => absurd hh (by decide)) (fun _ => ?_)
        refine pw_aload_0 dL_stations_413 ?_
        refine pw_iload_7 dL_stations_414 ?_
        refine pw_iload_10 dL_stations_416 ?_
        refine pw_iconst (v := nI 0) dL_stations_418 (by decide) ?_
        refine pw_cV3i 7 dL_stations_419 kL_38 vX7_heard iX7_heard ⟨by decide, by decide⟩ ⟨rfl, rfl⟩ (by decide) rfl (Nat.le_of_ble_eq_true rfl) hc.1.t (kf_heard hc wa ?_)
        refine pw_top (he_n hi8 (by omega) (by omega) (by have := (gd.s hi).kn.2; omega)) ?_
        refine pw_iload_11 dL_stations_422 ?_
        refine pw_if_eq 436 dL_stations_424 (by decide) (fun _ => ?_) (fun hh => absurd (by decide) hh)
        refine pw_iconst (v := -1) dL_stations_436 (by decide) ?_
        refine pw_icmp_ne 531 dL_stations_437 (by decide) (fun hh => absurd rfl hh) (fun _ => ?_)
        refine pw_aload_0 dL_stations_440 ?_
        refine pw_iload_7 dL_stations_441 ?_
        refine pw_iload_10 dL_stations_443 ?_
        refine pw_iconst (v := nI 1) dL_stations_445 (by decide) ?_
        refine pw_cV3i 7 dL_stations_446 kL_38 vX7_heard iX7_heard ⟨by decide, by decide⟩ ⟨rfl, rfl⟩ (by decide) rfl (Nat.le_of_ble_eq_true rfl) hc.1.t (kf_heard hc wa ?_)
        refine pw_top (he_n hi8 (by omega) (by omega) (by have := (gd.s hi).kn.2; omega)) ?_
        refine pw_iload_11 dL_stations_449 ?_
        refine pw_if_eq 466 dL_stations_451 (by decide) (fun _ => ?_) (fun hh => absurd (by decide) hh)
        refine pw_iconst (v := -1) dL_stations_466 (by decide) ?_
        refine pw_icmp_ne 531 dL_stations_467 (by decide) (fun hh => absurd rfl hh) (fun _ => ?_)
        refine pw_aload_0 dL_stations_470 ?_
        refine pw_iload_7 dL_stations_471 ?_
        refine pw_iload_10 dL_stations_473 ?_
        refine pw_iconst (v := nI 2) dL_stations_475 (by decide) ?_
        refine pw_cV3i 7 dL_stations_476 kL_38 vX7_heard iX7_heard ⟨by decide, by decide⟩ ⟨rfl, rfl⟩ (by decide) rfl (Nat.le_of_ble_eq_true rfl) hc.1.t (kf_heard hc wa ?_)
        refine pw_top (he_n hi8 (by omega) (by omega) (by have := (gd.s hi).kn.2; omega)) ?_
        refine pw_iload_11 dL_stations_479 ?_
        refine pw_if_eq 496 dL_stations_481 (by decide) (fun _ => ?_) (fun hh => absurd (by decide) hh)
        refine pw_iconst (v := -1) dL_stations_496 (by decide) ?_
        refine pw_icmp_ne 531 dL_stations_497 (by decide) (fun hh => absurd rfl hh) (fun _ => ?_)
        refine pw_aload_0 dL_stations_500 ?_
        refine pw_iload_7 dL_stations_501 ?_
        refine pw_iload_10 dL_stations_503 ?_
        refine pw_iconst (v := nI 3) dL_stations_505 (by decide) ?_
        refine pw_cV3i 7 dL_stations_506 kL_38 vX7_heard iX7_heard ⟨by decide, by decide⟩ ⟨rfl, rfl⟩ (by decide) rfl (Nat.le_of_ble_eq_true rfl) hc.1.t (kf_heard hc wa ?_)
        refine pw_top (he_n hi8 (by omega) (by omega) (by have := (gd.s hi).kn.2; omega)) ?_
        refine pw_iload_11 dL_stations_509 ?_
        refine pw_if_eq 523 dL_stations_511 (by decide) (fun _ => ?_) (fun hh => absurd (by decide) hh)
        refine pw_iconst (v := -1) dL_stations_523 (by decide) ?_
        refine pw_icmp_ne 531 dL_stations_524 (by decide) (fun hh => absurd rfl hh) (fun _ => ?_)
        refine pw_iconst (v := nI 1) dL_stations_527 (by decide) ?_
        refine pw_goto 532 dL_stations_528 (by decide) ?_
        refine pw_istore_9 dL_stations_532 (by decide) ?_
        refine pw_iincN_10 dL_stations_534 (by decide) ?_
        refine pw_goto 225 dL_stations_537 (by decide) ?_
        refine pw_fg (ls' := [some (.ref o), some (.ref p), some (.ref (p + 1)), some (.ref (p + 2)), some (.ref (p + 3)), some (.ref (p + 4)), some (.ref (p + 5)), some (.int (nI i)), some (.int ((if bS (aB A) i 3 = nI 1 then nI 2 else bS (aB A) i 2))), some (.int (nI 1)), some (.int (nI (r + 1))), none, none]) ⟨Or.inr rfl, Or.inr rfl, Or.inr rfl, Or.inr rfl, Or.inr rfl, Or.inr rfl, Or.inr rfl, Or.inr rfl, Or.inr rfl, Or.inr rfl, Or.inr rfl, Or.inl rfl, Or.inl rfl, trivial⟩ ?_
        exact ihr
set_option maxRecDepth 100000 in
set_option maxHeartbeats 4000000 in
theorem st_129 {X : Cx} {σ : Sp} {μ : Mm} {Q : Int32 → Sp → Mm → Prop} {κ : Prop} {μ0 : Mm} {o x p n i : Nat} {A : Aw} (hc : CX σ μ o x A) (wa : WA A) (hs : ShL σ p) (hl : LU κ μ0 p (aB A) μ) (kk : κ) (gd : GDn n (aB A)) (hi : i < n) (ih : PW X mL_stations 0 0 3 [some (.ref o), some (.ref p), some (.ref (p + 1)), some (.ref (p + 2)), some (.ref (p + 3)), some (.ref (p + 4)), some (.ref (p + 5)), some (.int (nI (i + 1))), none, none, none, none, none] [] σ μ (LI Q))  : PW X mL_stations 0 0 129 [some (.ref o), some (.ref p), some (.ref (p + 1)), some (.ref (p + 2)), some (.ref (p + 3)), some (.ref (p + 4)), some (.ref (p + 5)), some (.int (nI i)), some (.int ((if bS (aB A) i 3 = nI 1 then nI 2 else bS (aB A) i 2))), none, none, none, none] [] σ μ (LI Q) := by
  have h8 := gd.n8
  have hiS : i < nS (aB A) := by rw [gd.hn]; exact hi
  have hi8 : i < 8 := by omega
  refine pw_aload_0 dL_stations_129 ?_
  refine pw_iload_7 dL_stations_130 ?_
  refine pw_iconst (v := nI 5) dL_stations_132 (by decide) ?_
  refine pw_cV2i 7 dL_stations_133 kL_28 vX7_of iX7_of ⟨by decide, by decide⟩ ⟨rfl, rfl⟩ (by decide) rfl (Nat.le_of_ble_eq_true rfl) hc.1.t (kf_of hc wa ?_)
  refine pw_top (of_5 hiS hi8) ?_
  refine pw_aload_1 dL_stations_136 ?_
  refine pw_bipush (v := nI 48) dL_stations_137 (by decide) ?_
  refine pw_iload_7 dL_stations_139 ?_
  refine pw_iaddN dL_stations_141 ?_
  refine pw_ialdN dL_stations_142 hs.a (by omega) (by decide) ?_
  refine pw_top (hl.a6 (i := i) (by omega) (by omega)) ?_
  refine pw_icmp_ne 219 dL_stations_143 (by decide) (fun hh => absurd rfl hh) (fun _ => ?_)
  refine pw_aload_0 dL_stations_146 ?_
  refine pw_iload_7 dL_stations_147 ?_
  refine pw_bipush (v := nI 6) dL_stations_149 (by decide) ?_
  refine pw_cV2i 7 dL_stations_151 kL_28 vX7_of iX7_of ⟨by decide, by decide⟩ ⟨rfl, rfl⟩ (by decide) rfl (Nat.le_of_ble_eq_true rfl) hc.1.t (kf_of hc wa ?_)
  refine pw_top (of_6 hiS hi8) ?_
  refine pw_aload_1 dL_stations_154 ?_
  refine pw_bipush (v := nI 56) dL_stations_155 (by decide) ?_
  refine pw_iload_7 dL_stations_157 ?_
  refine pw_iaddN dL_stations_159 ?_
  refine pw_ialdN dL_stations_160 hs.a (by omega) (by decide) ?_
  refine pw_top (hl.a7 (i := i) (by omega) (by omega)) ?_
  refine pw_icmp_ne 219 dL_stations_161 (by decide) (fun hh => absurd rfl hh) (fun _ => ?_)
  refine pw_aload_0 dL_stations_164 ?_
  refine pw_iload_7 dL_stations_165 ?_
  refine pw_bipush (v := nI 7) dL_stations_167 (by decide) ?_
  refine pw_cV2i 7 dL_stations_169 kL_28 vX7_of iX7_of ⟨by decide, by decide⟩ ⟨rfl, rfl⟩ (by decide) rfl (Nat.le_of_ble_eq_true rfl) hc.1.t (kf_of hc wa ?_)
  refine pw_top (of_7 hiS hi8) ?_
  refine pw_aload_2 dL_stations_172 ?_
  refine pw_iload_7 dL_stations_173 ?_
  refine pw_ialdN dL_stations_175 hs.b (by omega) (by decide) ?_
  refine pw_top (hl.rb 0 20 (i := i) (by omega) rfl (by omega) (by omega)) ?_
  refine pw_icmp_ne 219 dL_stations_176 (by decide) (fun hh => absurd rfl hh) (fun _ => ?_)
  refine pw_aload_0 dL_stations_179 ?_
  refine pw_iload_7 dL_stations_180 ?_
  refine pw_bipush (v := nI 8) dL_stations_182 (by decide) ?_
  refine pw_cV2i 7 dL_stations_184 kL_28 vX7_of iX7_of ⟨by decide, by decide⟩ ⟨rfl, rfl⟩ (by decide) rfl (Nat.le_of_ble_eq_true rfl) hc.1.t (kf_of hc wa ?_)
  refine pw_top (of_8 hiS hi8) ?_
  refine pw_aload_2 dL_stations_187 ?_
  refine pw_bipush (v := nI 8) dL_stations_188 (by decide) ?_
  refine pw_iload_7 dL_stations_190 ?_
  refine pw_iaddN dL_stations_192 ?_
  refine pw_ialdN dL_stations_193 hs.b (by omega) (by decide) ?_
  refine pw_top (hl.rb 1 21 (i := i) (by omega) rfl (by omega) (by omega)) ?_
  refine pw_icmp_ne 219 dL_stations_194 (by decide) (fun hh => absurd rfl hh) (fun _ => ?_)
  refine pw_aload_0 dL_stations_197 ?_
  refine pw_iload_7 dL_stations_198 ?_
  refine pw_bipush (v := nI 9) dL_stations_200 (by decide) ?_
  refine pw_cV2i 7 dL_stations_202 kL_28 vX7_of iX7_of ⟨by decide, by decide⟩ ⟨rfl, rfl⟩ (by decide) rfl (Nat.le_of_ble_eq_true rfl) hc.1.t (kf_of hc wa ?_)
  refine pw_top (of_9 hiS hi8) ?_
  refine pw_aload_2 dL_stations_205 ?_
  refine pw_bipush (v := nI 16) dL_stations_206 (by decide) ?_
  refine pw_iload_7 dL_stations_208 ?_
  refine pw_iaddN dL_stations_210 ?_
  refine pw_ialdN dL_stations_211 hs.b (by omega) (by decide) ?_
  refine pw_top (hl.rb 2 22 (i := i) (by omega) rfl (by omega) (by omega)) ?_
  refine pw_icmp_ne 219 dL_stations_212 (by decide) (fun hh => absurd rfl hh) (fun _ => ?_)
  refine pw_iconst (v := nI 1) dL_stations_215 (by decide) ?_
  refine pw_goto 220 dL_stations_216 (by decide) ?_
  refine pw_istore_9 dL_stations_220 (by decide) ?_
  refine pw_fg (ls' := [some (.ref o), some (.ref p), some (.ref (p + 1)), some (.ref (p + 2)), some (.ref (p + 3)), some (.ref (p + 4)), some (.ref (p + 5)), some (.int (nI i)), some (.int ((if bS (aB A) i 3 = nI 1 then nI 2 else bS (aB A) i 2))), some (.int (nI 1)), none, none, none]) ⟨Or.inr rfl, Or.inr rfl, Or.inr rfl, Or.inr rfl, Or.inr rfl, Or.inr rfl, Or.inr rfl, Or.inr rfl, Or.inr rfl, Or.inr rfl, Or.inl rfl, Or.inl rfl, Or.inl rfl, trivial⟩ ?_
  exact st_222 hc wa hs hl kk gd hi ih
set_option maxRecDepth 100000 in
set_option maxHeartbeats 4000000 in
theorem st_37 {X : Cx} {σ : Sp} {μ : Mm} {Q : Int32 → Sp → Mm → Prop} {κ : Prop} {μ0 : Mm} {o x p n i : Nat} {A : Aw} (hc : CX σ μ o x A) (wa : WA A) (hs : ShL σ p) (hl : LU κ μ0 p (aB A) μ) (kk : κ) (gd : GDn n (aB A)) (hi : i < n) (ih : PW X mL_stations 0 0 3 [some (.ref o), some (.ref p), some (.ref (p + 1)), some (.ref (p + 2)), some (.ref (p + 3)), some (.ref (p + 4)), some (.ref (p + 5)), some (.int (nI (i + 1))), none, none, none, none, none] [] σ μ (LI Q))  : PW X mL_stations 0 0 37 [some (.ref o), some (.ref p), some (.ref (p + 1)), some (.ref (p + 2)), some (.ref (p + 3)), some (.ref (p + 4)), some (.ref (p + 5)), some (.int (nI i)), some (.int ((if bS (aB A) i 3 = nI 1 then nI 2 else bS (aB A) i 2))), none, none, none, none] [] σ μ (LI Q) := by
  have h8 := gd.n8
  have hiS : i < nS (aB A) := by rw [gd.hn]; exact hi
  have hi8 : i < 8 := by omega
  refine pw_aload_0 dL_stations_37 ?_
  refine pw_iload_7 dL_stations_38 ?_
  refine pw_iconst (v := nI 0) dL_stations_40 (by decide) ?_
  refine pw_cV2i 7 dL_stations_41 kL_28 vX7_of iX7_of ⟨by decide, by decide⟩ ⟨rfl, rfl⟩ (by decide) rfl (Nat.le_of_ble_eq_true rfl) hc.1.t (kf_of hc wa ?_)
  refine pw_top (of_0 hiS hi8) ?_
  refine pw_aload_1 dL_stations_44 ?_
  refine pw_iload_7 dL_stations_45 ?_
  refine pw_ialdN dL_stations_47 hs.a (by omega) (by decide) ?_
  refine pw_top (hl.a0 (i := i) (by omega) (by omega)) ?_
  refine pw_icmp_ne 219 dL_stations_48 (by decide) (fun hh => absurd rfl hh) (fun _ => ?_)
  refine pw_aload_0 dL_stations_51 ?_
  refine pw_iload_7 dL_stations_52 ?_
  refine pw_iconst (v := nI 1) dL_stations_54 (by decide) ?_
  refine pw_cV2i 7 dL_stations_55 kL_28 vX7_of iX7_of ⟨by decide, by decide⟩ ⟨rfl, rfl⟩ (by decide) rfl (Nat.le_of_ble_eq_true rfl) hc.1.t (kf_of hc wa ?_)
  refine pw_top (of_1 hiS hi8) ?_
  refine pw_aload_1 dL_stations_58 ?_
  refine pw_bipush (v := nI 8) dL_stations_59 (by decide) ?_
  refine pw_iload_7 dL_stations_61 ?_
  refine pw_iaddN dL_stations_63 ?_
  refine pw_ialdN dL_stations_64 hs.a (by omega) (by decide) ?_
  refine pw_top (hl.a1 (i := i) (by omega) (by omega)) ?_
  refine pw_icmp_ne 219 dL_stations_65 (by decide) (fun hh => absurd rfl hh) (fun _ => ?_)
  refine pw_aload_0 dL_stations_68 ?_
  refine pw_iload_7 dL_stations_69 ?_
  refine pw_iconst (v := nI 2) dL_stations_71 (by decide) ?_
  refine pw_cV2i 7 dL_stations_72 kL_28 vX7_of iX7_of ⟨by decide, by decide⟩ ⟨rfl, rfl⟩ (by decide) rfl (Nat.le_of_ble_eq_true rfl) hc.1.t (kf_of hc wa ?_)
  refine pw_top (of_2 hiS hi8) ?_
  refine pw_iload_8 dL_stations_75 ?_
  refine pw_icmp_ne 219 dL_stations_77 (by decide) (fun hh => absurd rfl hh) (fun _ => ?_)
  refine pw_aload_0 dL_stations_80 ?_
  refine pw_iload_7 dL_stations_81 ?_
  refine pw_iconst (v := nI 3) dL_stations_83 (by decide) ?_
  refine pw_cV2i 7 dL_stations_84 kL_28 vX7_of iX7_of ⟨by decide, by decide⟩ ⟨rfl, rfl⟩ (by decide) rfl (Nat.le_of_ble_eq_true rfl) hc.1.t (kf_of hc wa ?_)
  refine pw_top ((of_3 hiS hi8).trans (gd.s hi).w.1) ?_
  refine pw_aload_1 dL_stations_87 ?_
  refine pw_bipush (v := nI 32) dL_stations_88 (by decide) ?_
  refine pw_iload_7 dL_stations_90 ?_
  refine pw_iaddN dL_stations_92 ?_
  refine pw_ialdN dL_stations_93 hs.a (by omega) (by decide) ?_
  refine pw_top ((hl.a4 (i := i) (by omega) (by omega)).trans ((gd.s (i := i) (by omega)).w).1) ?_
  refine pw_icmp_ne 219 dL_stations_94 (by decide) (fun hh => absurd rfl hh) (fun _ => ?_)
  refine pw_aload_0 dL_stations_97 ?_
  refine pw_iload_7 dL_stations_98 ?_
  refine pw_iconst (v := nI 4) dL_stations_100 (by decide) ?_
  refine pw_cV2i 7 dL_stations_101 kL_28 vX7_of iX7_of ⟨by decide, by decide⟩ ⟨rfl, rfl⟩ (by decide) rfl (Nat.le_of_ble_eq_true rfl) hc.1.t (kf_of hc wa ?_)
  refine pw_top (of_4 hiS hi8) ?_
  refine pw_aload_1 dL_stations_104 ?_
  refine pw_bipush (v := nI 40) dL_stations_105 (by decide) ?_
  refine pw_iload_7 dL_stations_107 ?_
  refine pw_iaddN dL_stations_109 ?_
  refine pw_ialdN dL_stations_110 hs.a (by omega) (by decide) ?_
  refine pw_top (hl.a5 (i := i) (by omega) (by omega)) ?_
  rcases Classical.em (spB (aB A) i) with sp1 | sp1
  · skip
    obtain ⟨sp10, kk2, kk210, kk2e, kk2v⟩ := gd.sp (by omega) sp1
    refine pw_top kk2v ?_
    refine pw_if_ge 119 dL_stations_111 (by decide) (fun _ => ?_) (fun hh => absurd (nI_pos' (by omega)) hh)
    refine pw_aload_1 dL_stations_119 ?_
    refine pw_bipush (v := nI 40) dL_stations_120 (by decide) ?_
    refine pw_iload_7 dL_stations_122 ?_
    refine pw_iaddN dL_stations_124 ?_
    refine pw_ialdN dL_stations_125 hs.a (by omega) (by decide) ?_
    refine pw_top ((hl.a5 (i := i) (by omega) (by omega)).trans kk2v) ?_
    refine pw_top (y := bS (aB A) i 17) ((kk2e).symm) ?_
    refine pw_icmp_ne 219 dL_stations_126 (by decide) (fun hh => absurd rfl hh) (fun _ => ?_)
    refine pw_fg (ls' := [some (.ref o), some (.ref p), some (.ref (p + 1)), some (.ref (p + 2)), some (.ref (p + 3)), some (.ref (p + 4)), some (.ref (p + 5)), some (.int (nI i)), some (.int ((if bS (aB A) i 3 = nI 1 then nI 2 else bS (aB A) i 2))), none, none, none, none]) ⟨Or.inr rfl, Or.inr rfl, Or.inr rfl, Or.inr rfl, Or.inr rfl, Or.inr rfl, Or.inr rfl, Or.inr rfl, Or.inr rfl, Or.inl rfl, Or.inl rfl, Or.inl rfl, Or.inl rfl, trivial⟩ ?_
    exact st_129 hc wa hs hl kk gd hi ih
  · skip
    refine pw_top (spV_no sp1) ?_
    refine pw_if_ge 119 dL_stations_111 (by decide) (fun hh => absurd hh m1_neg) (fun _ => ?_)
    refine pw_bipush (v := -6) dL_stations_114 (by decide) ?_
    refine pw_goto 126 dL_stations_116 (by decide) ?_
    refine pw_top (y := bS (aB A) i 17) (Classical.not_not.mp sp1).symm ?_
    refine pw_icmp_ne 219 dL_stations_126 (by decide) (fun hh => absurd rfl hh) (fun _ => ?_)
    refine pw_fg (ls' := [some (.ref o), some (.ref p), some (.ref (p + 1)), some (.ref (p + 2)), some (.ref (p + 3)), some (.ref (p + 4)), some (.ref (p + 5)), some (.int (nI i)), some (.int ((if bS (aB A) i 3 = nI 1 then nI 2 else bS (aB A) i 2))), none, none, none, none]) ⟨Or.inr rfl, Or.inr rfl, Or.inr rfl, Or.inr rfl, Or.inr rfl, Or.inr rfl, Or.inr rfl, Or.inr rfl, Or.inr rfl, Or.inl rfl, Or.inl rfl, Or.inl rfl, Or.inl rfl, trivial⟩ ?_
    exact st_129 hc wa hs hl kk gd hi ih
set_option maxRecDepth 100000 in
set_option maxHeartbeats 4000000 in
theorem k_stations {X : Cx} {σ : Sp} {μ : Mm} {Q : Int32 → Sp → Mm → Prop} {κ : Prop} {μ0 : Mm} {o x p n : Nat} {A : Aw} (hc : CX σ μ o x A) (wa : WA A) (hs : ShL σ p) (hl : LU κ μ0 p (aB A) μ) (kk : κ) (gd : GDn n (aB A)) (q : Q (nI 1) σ μ) : CTi X mL_stations [.ref o, .ref p, .ref (p + 1), .ref (p + 2), .ref (p + 3), .ref (p + 4), .ref (p + 5)] σ μ Q := by
  refine CT.of (by decide +kernel) (Nat.le_of_ble_eq_true rfl) ?_
  show PW X mL_stations 0 0 0 [some (.ref o), some (.ref p), some (.ref (p + 1)), some (.ref (p + 2)), some (.ref (p + 3)), some (.ref (p + 4)), some (.ref (p + 5)), none, none, none, none, none, none] [] σ μ (LI Q)
  have h8 := gd.n8
  refine pw_iconst (v := nI 0) dL_stations_0 (by decide) ?_
  refine pw_istore_7 dL_stations_1 (by decide) ?_
  refine pw_up (P := fun i => PW X mL_stations 0 0 3 [some (.ref o), some (.ref p), some (.ref (p + 1)), some (.ref (p + 2)), some (.ref (p + 3)), some (.ref (p + 4)), some (.ref (p + 5)), some (.int (nI i)), none, none, none, none, none] [] σ μ (LI Q)) n ?_ ?_ 0 (Nat.zero_le _)
  · skip
    refine pw_iload_7 dL_stations_3 ?_
    refine pw_aload_6 dL_stations_5 ?_
    refine pw_bipush (v := nI 6) dL_stations_7 (by decide) ?_
    refine pw_ialdN dL_stations_9 hs.t (by omega) (by decide) ?_
    refine pw_top ((hl.t (by omega)).trans gd.g6) ?_
    refine pw_icmp_ge 674 dL_stations_10 (by decide) (fun _ => ?_) (fun hh => absurd (by rw [nI_leI (by omega) (by omega)]; omega) hh)
    refine pw_iconst (v := nI 1) dL_stations_674 (by decide) ?_
    refine pw_zreturn dL_stations_675 rfl (by decide) ?_
    exact q
  · intro i hi ih
    refine pw_iload_7 dL_stations_3 ?_
    refine pw_aload_6 dL_stations_5 ?_
    refine pw_bipush (v := nI 6) dL_stations_7 (by decide) ?_
    refine pw_ialdN dL_stations_9 hs.t (by omega) (by decide) ?_
    refine pw_top ((hl.t (by omega)).trans gd.g6) ?_
    refine pw_icmp_ge 674 dL_stations_10 (by decide) (fun hh => absurd hh (by rw [nI_leI (by omega) (by omega)]; omega)) (fun _ => ?_)
    refine pw_aload_1 dL_stations_13 ?_
    refine pw_bipush (v := nI 24) dL_stations_14 (by decide) ?_
    refine pw_iload_7 dL_stations_16 ?_
    refine pw_iaddN dL_stations_18 ?_
    refine pw_ialdN dL_stations_19 hs.a (by omega) (by decide) ?_
    refine pw_top (hl.a3 (i := i) (by omega) (by omega)) ?_
    refine pw_iconst (v := nI 1) dL_stations_20 (by decide) ?_
    refine pw_icmp_ne 28 dL_stations_21 (by decide) (fun h1 => ?_) (fun h1 => ?_)
    · skip
      refine pw_aload_1 dL_stations_28 ?_
      refine pw_bipush (v := nI 16) dL_stations_29 (by decide) ?_
      refine pw_iload_7 dL_stations_31 ?_
      refine pw_iaddN dL_stations_33 ?_
      refine pw_ialdN dL_stations_34 hs.a (by omega) (by decide) ?_
      refine pw_top (hl.a2 (i := i) (by omega) (by omega)) ?_
      refine pw_top (y := (if bS (aB A) i 3 = nI 1 then nI 2 else bS (aB A) i 2)) (if_neg h1).symm ?_
      refine pw_istore_8 dL_stations_35 (by decide) ?_
      refine pw_fg (ls' := [some (.ref o), some (.ref p), some (.ref (p + 1)), some (.ref (p + 2)), some (.ref (p + 3)), some (.ref (p + 4)), some (.ref (p + 5)), some (.int (nI i)), some (.int ((if bS (aB A) i 3 = nI 1 then nI 2 else bS (aB A) i 2))), none, none, none, none]) ⟨Or.inr rfl, Or.inr rfl, Or.inr rfl, Or.inr rfl, Or.inr rfl, Or.inr rfl, Or.inr rfl, Or.inr rfl, Or.inr rfl, Or.inl rfl, Or.inl rfl, Or.inl rfl, Or.inl rfl, trivial⟩ ?_
      exact st_37 hc wa hs hl kk gd hi ih
    · skip
      refine pw_iconst (v := nI 2) dL_stations_24 (by decide) ?_
      refine pw_goto 35 dL_stations_25 (by decide) ?_
      refine pw_top (y := (if bS (aB A) i 3 = nI 1 then nI 2 else bS (aB A) i 2)) (if_pos h1).symm ?_
      refine pw_istore_8 dL_stations_35 (by decide) ?_
      refine pw_fg (ls' := [some (.ref o), some (.ref p), some (.ref (p + 1)), some (.ref (p + 2)), some (.ref (p + 3)), some (.ref (p + 4)), some (.ref (p + 5)), some (.int (nI i)), some (.int ((if bS (aB A) i 3 = nI 1 then nI 2 else bS (aB A) i 2))), none, none, none, none]) ⟨Or.inr rfl, Or.inr rfl, Or.inr rfl, Or.inr rfl, Or.inr rfl, Or.inr rfl, Or.inr rfl, Or.inr rfl, Or.inr rfl, Or.inl rfl, Or.inl rfl, Or.inl rfl, Or.inl rfl, trivial⟩ ?_
      exact st_37 hc wa hs hl kk gd hi ih
