/-! The law's beat: words go on, the loops ahead -/
set_option maxRecDepth 100000 in
set_option maxHeartbeats 4000000 in
theorem bt_go2 {X : Cx} {σ : Sp} {μ : Mm} {Q : Int32 → Sp → Mm → Prop} {κ : Prop} {μ0 : Mm} {p n k m9 : Nat} {R : Bs × Nat} {L A : Nat → Prop} {ml mb : Int32} (hs : ShL σ p) (hl : LU κ μ0 p R.1 μ) (gd : GDn n R.1) (hk : k < n) (ht : WT m9 R.1) (hm9 : m9 < 131072) (sp : spB R.1 k) (hA : ∀ s, s < n → (awB R.1 s ↔ A s)) (ih : ∀ ν, LU κ μ0 p (goP L A n k R).1 ν → PW X mL_beat 0 0 288 [some (.ref p), some (.ref (p + 1)), some (.ref (p + 2)), some (.ref (p + 3)), some (.ref (p + 4)), some (.ref (p + 5)), some (.int ml), none, some (.int (nI ((goP L A n k R).2))), some (.int mb), some (.int (nI (k + 1))), none, none, none, none] [] σ ν (LI Q)) {j : Nat} (hj : (j = 1 ∧ (btB R.1 k = nI 1 ∧ L (fwB R.1 k))) ∨ (j = 0 ∧ ¬ (btB R.1 k = nI 1 ∧ L (fwB R.1 k)))) : PW X mL_beat 0 0 341 [some (.ref p), some (.ref (p + 1)), some (.ref (p + 2)), some (.ref (p + 3)), some (.ref (p + 4)), some (.ref (p + 5)), some (.int ml), none, some (.int (nI R.2)), some (.int mb), some (.int (nI k)), some (.int (nI j)), none, none, none] [] σ μ (LI Q) := by
  have h8 := gd.n8
  obtain ⟨h0, kk, kk10, kke, kkv⟩ := gd.sp hk sp
  obtain ⟨v, x, y, hv, hx6, hy, e5, e6, e7⟩ := gd.wd hk h0
  have hfw : fwB R.1 k = x := by unfold fwB; rw [e6, nI_clamp (by omega)]
  refine pw_aload_0 dL_beat_341 ?_
  refine pw_bipush (v := nI 40) dL_beat_342 (by decide) ?_
  refine pw_iload_10 dL_beat_344 ?_
  refine pw_iaddN dL_beat_346 ?_
  refine pw_ialdN dL_beat_347 hs.a (by omega) (by decide) ?_
  refine pw_top ((hl.a5 (i := k) (by omega) (by omega)).trans kkv) ?_
  refine pw_bipush (v := nI 10) dL_beat_348 (by decide) ?_
  refine pw_icmp_ne 357 dL_beat_350 (by decide) (fun h10 => ?_) (fun h10 => ?_)
  · skip
    have h11 : kk ≠ 10 := fun e => h10 (by rw [e])
    refine pw_iconst (v := nI 0) dL_beat_357 (by decide) ?_
    refine pw_istore_12 dL_beat_358 (by decide) ?_
    refine pw_iconst (v := nI 0) dL_beat_360 (by decide) ?_
    refine pw_istore_13 dL_beat_361 (by decide) ?_
    refine pw_iload_13 dL_beat_363 ?_
    refine pw_aload_5 dL_beat_365 ?_
    refine pw_bipush (v := nI 6) dL_beat_367 (by decide) ?_
    refine pw_ialdN dL_beat_369 hs.t (by omega) (by decide) ?_
    refine pw_top ((hl.t (by omega)).trans gd.g6) ?_
    refine pw_icmp_ge 421 dL_beat_370 (by decide) (fun hh => absurd hh (by rw [nI_leI (by omega) (by omega)]; omega)) (fun _ => ?_)
    refine pw_iload_12 dL_beat_373 ?_
    refine pw_if_eq 421 dL_beat_375 (by decide) (fun _ => ?_) (fun hh => absurd (by decide) hh)
    refine pw_fg (ls' := [some (.ref p), some (.ref (p + 1)), some (.ref (p + 2)), some (.ref (p + 3)), some (.ref (p + 4)), some (.ref (p + 5)), some (.int ml), none, some (.int (nI R.2)), some (.int mb), some (.int (nI k)), some (.int (nI j)), some (.int (nI 0)), none, none]) ⟨Or.inr rfl, Or.inr rfl, Or.inr rfl, Or.inr rfl, Or.inr rfl, Or.inr rfl, Or.inr rfl, Or.inl rfl, Or.inr rfl, Or.inr rfl, Or.inr rfl, Or.inr rfl, Or.inr rfl, Or.inl rfl, Or.inl rfl, trivial⟩ ?_
    exact bt_go3 hs hl gd hk ht hm9 sp hA ih (j := j) (o := 0) (hj.imp (fun h => ⟨h.1, Or.inl h.2⟩) (fun h => ⟨h.1, fun hg => hg.elim h.2 (fun hg2 => h11 ((nI_eq (by omega) (by omega)).mp (kke.symm.trans hg2.1)))⟩)) (fun k2 h2 h3 => Or.inr ⟨rfl, fun e => h11 ((nI_eq (by omega) (by omega)).mp (kke.symm.trans (h2.trans (by rw [e]))))⟩)
  · skip
    have h11 : kk = 10 := (nI_eq (by omega) (by omega)).mp h10
    refine pw_iconst (v := nI 1) dL_beat_353 (by decide) ?_
    refine pw_goto 358 dL_beat_354 (by decide) ?_
    refine pw_istore_12 dL_beat_358 (by decide) ?_
    refine pw_iconst (v := nI 0) dL_beat_360 (by decide) ?_
    refine pw_istore_13 dL_beat_361 (by decide) ?_
    refine pw_fg (ls' := [some (.ref p), some (.ref (p + 1)), some (.ref (p + 2)), some (.ref (p + 3)), some (.ref (p + 4)), some (.ref (p + 5)), some (.int ml), none, some (.int (nI R.2)), some (.int mb), some (.int (nI k)), some (.int (nI j)), some (.int (nI 1)), some (.int (nI 0)), none]) ⟨Or.inr rfl, Or.inr rfl, Or.inr rfl, Or.inr rfl, Or.inr rfl, Or.inr rfl, Or.inr rfl, Or.inl rfl, Or.inr rfl, Or.inr rfl, Or.inr rfl, Or.inr rfl, Or.inr rfl, Or.inr rfl, Or.inl rfl, trivial⟩ ?_
    refine pw_up (P := fun m => ∀ jm, (jm = 1 ∧ ((btB R.1 k = nI 1 ∧ L (fwB R.1 k)) ∨ ∃ s, s < m ∧ bi (bS R.1 k 18) (nI s) = nI 1 ∧ ¬ awB R.1 s)) ∨ (jm = 0 ∧ ¬ ((btB R.1 k = nI 1 ∧ L (fwB R.1 k)) ∨ ∃ s, s < m ∧ bi (bS R.1 k 18) (nI s) = nI 1 ∧ ¬ awB R.1 s)) → PW X mL_beat 0 0 363 [some (.ref p), some (.ref (p + 1)), some (.ref (p + 2)), some (.ref (p + 3)), some (.ref (p + 4)), some (.ref (p + 5)), some (.int ml), none, some (.int (nI R.2)), some (.int mb), some (.int (nI k)), some (.int (nI jm)), some (.int (nI 1)), some (.int (nI m)), none] [] σ μ (LI Q)) n ?_ ?_ 0 (Nat.zero_le _) j (hj.imp (fun h => ⟨h.1, Or.inl h.2⟩) (fun h => ⟨h.1, fun hg => hg.elim h.2 (fun ⟨s, h5, _⟩ => absurd h5 (Nat.not_lt_zero s))⟩))
    · intro jm hjm
      refine pw_iload_13 dL_beat_363 ?_
      refine pw_aload_5 dL_beat_365 ?_
      refine pw_bipush (v := nI 6) dL_beat_367 (by decide) ?_
      refine pw_ialdN dL_beat_369 hs.t (by omega) (by decide) ?_
      refine pw_top ((hl.t (by omega)).trans gd.g6) ?_
      refine pw_icmp_ge 421 dL_beat_370 (by decide) (fun _ => ?_) (fun hh => absurd (by rw [nI_leI (by omega) (by omega)]; omega) hh)
      refine pw_fg (ls' := [some (.ref p), some (.ref (p + 1)), some (.ref (p + 2)), some (.ref (p + 3)), some (.ref (p + 4)), some (.ref (p + 5)), some (.int ml), none, some (.int (nI R.2)), some (.int mb), some (.int (nI k)), some (.int (nI jm)), some (.int (nI 1)), none, none]) ⟨Or.inr rfl, Or.inr rfl, Or.inr rfl, Or.inr rfl, Or.inr rfl, Or.inr rfl, Or.inr rfl, Or.inl rfl, Or.inr rfl, Or.inr rfl, Or.inr rfl, Or.inr rfl, Or.inr rfl, Or.inl rfl, Or.inl rfl, trivial⟩ ?_
      exact bt_go3 hs hl gd hk ht hm9 sp hA ih (j := jm) (o := 1) (hjm.imp (fun h => ⟨h.1, h.2.imp id (fun ⟨s, h5, h6, h7⟩ => ⟨by rw [kke, h11], fun hall => h7 ((hA s h5).mpr (hall s h5 h6))⟩)⟩) (fun h => ⟨h.1, fun hg => h.2 (hg.imp id (fun hg2 => Classical.byContradiction fun hno => hg2.2 (fun s h5 h6 => (hA s h5).mp (Classical.byContradiction fun h7 => hno ⟨s, h5, h6, h7⟩))))⟩)) (fun k2 h2 h3 => Or.inl ⟨rfl, (nI_eq (by omega) (by omega)).mp (h2.symm.trans (kke.trans (by rw [h11])))⟩)
    · intro m hm ihm jm hjm
      refine pw_iload_13 dL_beat_363 ?_
      refine pw_aload_5 dL_beat_365 ?_
      refine pw_bipush (v := nI 6) dL_beat_367 (by decide) ?_
      refine pw_ialdN dL_beat_369 hs.t (by omega) (by decide) ?_
      refine pw_top ((hl.t (by omega)).trans gd.g6) ?_
      refine pw_icmp_ge 421 dL_beat_370 (by decide) (fun hh => absurd hh (by rw [nI_leI (by omega) (by omega)]; omega)) (fun _ => ?_)
      refine pw_iload_12 dL_beat_373 ?_
      refine pw_if_eq 421 dL_beat_375 (by decide) (fun hh => absurd hh (by decide)) (fun _ => ?_)
      rcases hjm with ⟨rfl, hp⟩ | ⟨rfl, hp⟩
      · skip
        refine pw_iload_11 dL_beat_378 ?_
        refine pw_if_ne 408 dL_beat_380 (by decide) (fun _ => ?_) (fun hh => absurd hh (by decide))
        refine pw_iconst (v := nI 1) dL_beat_408 (by decide) ?_
        refine pw_goto 413 dL_beat_409 (by decide) ?_
        refine pw_istore_11 dL_beat_413 (by decide) ?_
        refine pw_iincN_13 dL_beat_415 (by decide) ?_
        refine pw_goto 363 dL_beat_418 (by decide) ?_
        refine pw_fg (ls' := [some (.ref p), some (.ref (p + 1)), some (.ref (p + 2)), some (.ref (p + 3)), some (.ref (p + 4)), some (.ref (p + 5)), some (.int ml), none, some (.int (nI R.2)), some (.int mb), some (.int (nI k)), some (.int (nI 1)), some (.int (nI 1)), some (.int (nI (m + 1))), none]) ⟨Or.inr rfl, Or.inr rfl, Or.inr rfl, Or.inr rfl, Or.inr rfl, Or.inr rfl, Or.inr rfl, Or.inl rfl, Or.inr rfl, Or.inr rfl, Or.inr rfl, Or.inr rfl, Or.inr rfl, Or.inr rfl, Or.inl rfl, trivial⟩ ?_
        exact ihm _ (Or.inl ⟨rfl, hp.imp id (fun ⟨s, h5, h6⟩ => ⟨s, by omega, h6⟩)⟩)
      · skip
        refine pw_iload_11 dL_beat_378 ?_
        refine pw_if_ne 408 dL_beat_380 (by decide) (fun hh => absurd hh (by decide)) (fun _ => ?_)
        refine pw_aload_0 dL_beat_383 ?_
        refine pw_bipush (v := nI 48) dL_beat_384 (by decide) ?_
        refine pw_iload_10 dL_beat_386 ?_
        refine pw_iaddN dL_beat_388 ?_
        refine pw_ialdN dL_beat_389 hs.a (by omega) (by decide) ?_
        refine pw_top (hl.a6 (i := k) (by omega) (by omega)) ?_
        refine pw_iload_13 dL_beat_390 ?_
        refine pw_ishr dL_beat_392 ?_
        refine pw_iconst (v := nI 1) dL_beat_393 (by decide) ?_
        refine pw_iand dL_beat_394 ?_
        refine pw_iconst (v := nI 1) dL_beat_395 (by decide) ?_
        refine pw_icmp_ne 412 dL_beat_396 (by decide) (fun h1 => ?_) (fun h1 => ?_)
        · skip
          refine pw_iconst (v := nI 0) dL_beat_412 (by decide) ?_
          refine pw_istore_11 dL_beat_413 (by decide) ?_
          refine pw_iincN_13 dL_beat_415 (by decide) ?_
          refine pw_goto 363 dL_beat_418 (by decide) ?_
          refine pw_fg (ls' := [some (.ref p), some (.ref (p + 1)), some (.ref (p + 2)), some (.ref (p + 3)), some (.ref (p + 4)), some (.ref (p + 5)), some (.int ml), none, some (.int (nI R.2)), some (.int mb), some (.int (nI k)), some (.int (nI 0)), some (.int (nI 1)), some (.int (nI (m + 1))), none]) ⟨Or.inr rfl, Or.inr rfl, Or.inr rfl, Or.inr rfl, Or.inr rfl, Or.inr rfl, Or.inr rfl, Or.inl rfl, Or.inr rfl, Or.inr rfl, Or.inr rfl, Or.inr rfl, Or.inr rfl, Or.inr rfl, Or.inl rfl, trivial⟩ ?_
          exact ihm _ (Or.inr ⟨rfl, fun hg => hg.elim (fun h => hp (Or.inl h)) (fun ⟨s, h5, h6, h7⟩ => (Nat.lt_or_ge s m).elim (fun g => hp (Or.inr ⟨s, g, h6, h7⟩)) (fun g => h1 (by rw [← (show s = m by omega)]; exact h6)))⟩)
        · skip
          refine pw_aload_0 dL_beat_399 ?_
          refine pw_iload_13 dL_beat_400 ?_
          refine pw_cS2i dL_beat_402 kL_20 vL_up sL_up ⟨by decide, by decide⟩ ⟨rfl, rfl⟩ (Nat.le_of_ble_eq_true rfl) (k_up hs hl gd.wf (by rw [gd.hn]; omega) (fun a2 => ?_) (fun a2 => ?_))
          · skip
            refine pw_if_ne 412 dL_beat_405 (by decide) (fun _ => ?_) (fun hh => absurd hh (by decide))
            refine pw_iconst (v := nI 0) dL_beat_412 (by decide) ?_
            refine pw_istore_11 dL_beat_413 (by decide) ?_
            refine pw_iincN_13 dL_beat_415 (by decide) ?_
            refine pw_goto 363 dL_beat_418 (by decide) ?_
            refine pw_fg (ls' := [some (.ref p), some (.ref (p + 1)), some (.ref (p + 2)), some (.ref (p + 3)), some (.ref (p + 4)), some (.ref (p + 5)), some (.int ml), none, some (.int (nI R.2)), some (.int mb), some (.int (nI k)), some (.int (nI 0)), some (.int (nI 1)), some (.int (nI (m + 1))), none]) ⟨Or.inr rfl, Or.inr rfl, Or.inr rfl, Or.inr rfl, Or.inr rfl, Or.inr rfl, Or.inr rfl, Or.inl rfl, Or.inr rfl, Or.inr rfl, Or.inr rfl, Or.inr rfl, Or.inr rfl, Or.inr rfl, Or.inl rfl, trivial⟩ ?_
            exact ihm _ (Or.inr ⟨rfl, fun hg => hg.elim (fun h => hp (Or.inl h)) (fun ⟨s, h5, h6, h7⟩ => (Nat.lt_or_ge s m).elim (fun g => hp (Or.inr ⟨s, g, h6, h7⟩)) (fun g => h7 (by rw [show s = m by omega]; exact a2)))⟩)
          · skip
            refine pw_if_ne 412 dL_beat_405 (by decide) (fun hh => absurd hh (by decide)) (fun _ => ?_)
            refine pw_iconst (v := nI 1) dL_beat_408 (by decide) ?_
            refine pw_goto 413 dL_beat_409 (by decide) ?_
            refine pw_istore_11 dL_beat_413 (by decide) ?_
            refine pw_iincN_13 dL_beat_415 (by decide) ?_
            refine pw_goto 363 dL_beat_418 (by decide) ?_
            refine pw_fg (ls' := [some (.ref p), some (.ref (p + 1)), some (.ref (p + 2)), some (.ref (p + 3)), some (.ref (p + 4)), some (.ref (p + 5)), some (.int ml), none, some (.int (nI R.2)), some (.int mb), some (.int (nI k)), some (.int (nI 1)), some (.int (nI 1)), some (.int (nI (m + 1))), none]) ⟨Or.inr rfl, Or.inr rfl, Or.inr rfl, Or.inr rfl, Or.inr rfl, Or.inr rfl, Or.inr rfl, Or.inl rfl, Or.inr rfl, Or.inr rfl, Or.inr rfl, Or.inr rfl, Or.inr rfl, Or.inr rfl, Or.inl rfl, trivial⟩ ?_
            exact ihm _ (Or.inl ⟨rfl, Or.inr ⟨m, by omega, h1, a2⟩⟩)
set_option maxRecDepth 100000 in
set_option maxHeartbeats 4000000 in
theorem bt_go {X : Cx} {σ : Sp} {μ : Mm} {Q : Int32 → Sp → Mm → Prop} {κ : Prop} {μ0 : Mm} {p n m9 : Nat} {B : Bs} {L : Nat → Prop} (hs : ShL σ p) (hl : LU κ μ0 p B μ) (gd : GDn n B) (ht : WT m9 B) (hm9 : m9 < 131072) (K : ∀ ν, LU κ μ0 p (itr (goP L (awB B) n) n (B, 0)).1 ν → PW X mL_beat 0 0 658 [some (.ref p), some (.ref (p + 1)), some (.ref (p + 2)), some (.ref (p + 3)), some (.ref (p + 4)), some (.ref (p + 5)), some (.int (msk L 6)), none, some (.int (nI ((itr (goP L (awB B) n) n (B, 0)).2))), none, none, none, none, none, none] [] σ ν (LI Q)) : PW X mL_beat 0 0 285 [some (.ref p), some (.ref (p + 1)), some (.ref (p + 2)), some (.ref (p + 3)), some (.ref (p + 4)), some (.ref (p + 5)), some (.int (msk L 6)), none, some (.int (nI 0)), some (.int (msk (btK B) n)), none, none, none, none, none] [] σ μ (LI Q) := by
  have h8 := gd.n8
  refine pw_iconst (v := nI 0) dL_beat_285 (by decide) ?_
  refine pw_istore_10 dL_beat_286 (by decide) ?_
  refine pw_fg (ls' := [some (.ref p), some (.ref (p + 1)), some (.ref (p + 2)), some (.ref (p + 3)), some (.ref (p + 4)), some (.ref (p + 5)), some (.int (msk L 6)), none, some (.int (nI ((itr (goP L (awB B) n) 0 (B, 0)).2))), some (.int (msk (btK B) n)), some (.int (nI 0)), none, none, none, none]) ⟨Or.inr rfl, Or.inr rfl, Or.inr rfl, Or.inr rfl, Or.inr rfl, Or.inr rfl, Or.inr rfl, Or.inl rfl, Or.inr rfl, Or.inr rfl, Or.inr rfl, Or.inl rfl, Or.inl rfl, Or.inl rfl, Or.inl rfl, trivial⟩ ?_
  refine pw_up (P := fun k => ∀ ν, LU κ μ0 p (itr (goP L (awB B) n) k (B, 0)).1 ν → PW X mL_beat 0 0 288 [some (.ref p), some (.ref (p + 1)), some (.ref (p + 2)), some (.ref (p + 3)), some (.ref (p + 4)), some (.ref (p + 5)), some (.int (msk L 6)), none, some (.int (nI ((itr (goP L (awB B) n) k (B, 0)).2))), some (.int (msk (btK B) n)), some (.int (nI k)), none, none, none, none] [] σ ν (LI Q)) n ?_ ?_ 0 (Nat.zero_le _) _ hl
  · intro ν hl1
    have gd1 := gd.gok (L := L) (A := awB B) ht hm9 n (Nat.le_refl n)
    refine pw_iload_10 dL_beat_288 ?_
    refine pw_aload_5 dL_beat_290 ?_
    refine pw_bipush (v := nI 6) dL_beat_292 (by decide) ?_
    refine pw_ialdN dL_beat_294 hs.t (by omega) (by decide) ?_
    refine pw_top ((hl1.t (by omega)).trans gd1.g6) ?_
    refine pw_icmp_ge 658 dL_beat_295 (by decide) (fun _ => ?_) (fun hh => absurd (by rw [nI_leI (by omega) (by omega)]; omega) hh)
    refine pw_fg (ls' := [some (.ref p), some (.ref (p + 1)), some (.ref (p + 2)), some (.ref (p + 3)), some (.ref (p + 4)), some (.ref (p + 5)), some (.int (msk L 6)), none, some (.int (nI ((itr (goP L (awB B) n) n (B, 0)).2))), none, none, none, none, none, none]) ⟨Or.inr rfl, Or.inr rfl, Or.inr rfl, Or.inr rfl, Or.inr rfl, Or.inr rfl, Or.inr rfl, Or.inl rfl, Or.inr rfl, Or.inl rfl, Or.inl rfl, Or.inl rfl, Or.inl rfl, Or.inl rfl, Or.inl rfl, trivial⟩ ?_
    exact K _ hl1
  · intro k hk ihk ν hl1
    have gd1 := gd.gok (L := L) (A := awB B) ht hm9 k (by omega)
    have ht1 : WT m9 (itr (goP L (awB B) n) k (B, 0)).1 := ht.eq (by rw [show bG (itr (goP L (awB B) n) k (B, 0)).1 = bG B from Fr_goN.1])
    have hA1 : ∀ s, s < n → (awB (itr (goP L (awB B) n) k (B, 0)).1 s ↔ awB B s) := fun s _ => (Fr_goN (L := L) (A := awB B) (n := n) (k := k) (P := (B, 0))).aw s
    have hlo : ∀ q, q < 21 → bS (itr (goP L (awB B) n) k (B, 0)).1 k q = bS B k q := go_lo k k (Nat.le_refl k)
    have ih2 : ∀ ν, LU κ μ0 p (goP L (awB B) n k (itr (goP L (awB B) n) k (B, 0))).1 ν → PW X mL_beat 0 0 288 [some (.ref p), some (.ref (p + 1)), some (.ref (p + 2)), some (.ref (p + 3)), some (.ref (p + 4)), some (.ref (p + 5)), some (.int (msk L 6)), none, some (.int (nI ((goP L (awB B) n k (itr (goP L (awB B) n) k (B, 0))).2))), some (.int (msk (btK B) n)), some (.int (nI (k + 1))), none, none, none, none] [] σ ν (LI Q) := ihk
    clear ihk
    generalize itr (goP L (awB B) n) k (B, 0) = R at hl1 gd1 ht1 hA1 hlo ih2
    refine pw_iload_10 dL_beat_288 ?_
    refine pw_aload_5 dL_beat_290 ?_
    refine pw_bipush (v := nI 6) dL_beat_292 (by decide) ?_
    refine pw_ialdN dL_beat_294 hs.t (by omega) (by decide) ?_
    refine pw_top ((hl1.t (by omega)).trans gd1.g6) ?_
    refine pw_icmp_ge 658 dL_beat_295 (by decide) (fun hh => absurd hh (by rw [nI_leI (by omega) (by omega)]; omega)) (fun _ => ?_)
    refine pw_aload_0 dL_beat_298 ?_
    refine pw_bipush (v := nI 40) dL_beat_299 (by decide) ?_
    refine pw_iload_10 dL_beat_301 ?_
    refine pw_iaddN dL_beat_303 ?_
    refine pw_ialdN dL_beat_304 hs.a (by omega) (by decide) ?_
    refine pw_top (hl1.a5 (i := k) (by omega) (by omega)) ?_
    rcases Classical.em (spB R.1 k) with sp1 | sp1
    · skip
      obtain ⟨sp10, kk2, kk210, kk2e, kk2v⟩ := gd1.sp (by omega) sp1
      refine pw_top kk2v ?_
      refine pw_if_lt 652 dL_beat_305 (by decide) (fun hh => absurd hh (nI_pos (by omega))) (fun _ => ?_)
      have h0 := sp10
      obtain ⟨v, x, y, hv, hx6, hy, e5, e6, e7⟩ := gd1.wd hk h0
      have hfw : fwB R.1 k = x := by unfold fwB; rw [e6, nI_clamp (by omega)]
      have hbt : btB R.1 k = btB B k := by unfold btB; rw [hlo 17 (by omega), hlo 5 (by omega)]
      have hspB : spB B k := by have h95 := sp1; unfold spB at h95 ⊢; rw [← hlo 17 (by omega)]; exact h95
      have hbit : bi (msk (btK B) n) (nI k) = nI 1 ↔ btB R.1 k = nI 1 := (msk_bi (by omega) hk).trans ⟨fun h95 => by rw [hbt]; exact h95 hspB, fun h95 _ => by rw [← hbt]; exact h95⟩
      have hlw : bi (msk L 6) (nI x) = nI 1 ↔ L x := msk_bi (by decide) hx6
      refine pw_iload_9 dL_beat_308 ?_
      refine pw_iload_10 dL_beat_310 ?_
      refine pw_ishr dL_beat_312 ?_
      refine pw_iconst (v := nI 1) dL_beat_313 (by decide) ?_
      refine pw_iand dL_beat_314 ?_
      refine pw_iconst (v := nI 1) dL_beat_315 (by decide) ?_
      refine pw_icmp_ne 338 dL_beat_316 (by decide) (fun h3 => ?_) (fun h3 => ?_)
      · skip
        refine pw_iconst (v := nI 0) dL_beat_338 (by decide) ?_
        refine pw_istore_11 dL_beat_339 (by decide) ?_
        refine pw_fg (ls' := [some (.ref p), some (.ref (p + 1)), some (.ref (p + 2)), some (.ref (p + 3)), some (.ref (p + 4)), some (.ref (p + 5)), some (.int (msk L 6)), none, some (.int (nI R.2)), some (.int (msk (btK B) n)), some (.int (nI k)), some (.int (nI 0)), none, none, none]) ⟨Or.inr rfl, Or.inr rfl, Or.inr rfl, Or.inr rfl, Or.inr rfl, Or.inr rfl, Or.inr rfl, Or.inl rfl, Or.inr rfl, Or.inr rfl, Or.inr rfl, Or.inr rfl, Or.inl rfl, Or.inl rfl, Or.inl rfl, trivial⟩ ?_
        exact bt_go2 hs hl1 gd1 hk ht1 hm9 sp1 hA1 ih2 (Or.inr ⟨rfl, fun h95 => h3 (hbit.mpr h95.1)⟩)
      · skip
        refine pw_iload_6 dL_beat_319 ?_
        refine pw_aload_2 dL_beat_321 ?_
        refine pw_iload_10 dL_beat_322 ?_
        refine pw_cS2i dL_beat_324 kL_10 vL_wireOf sL_wireOf ⟨by decide, by decide⟩ ⟨rfl, rfl⟩ (Nat.le_of_ble_eq_true rfl) (c_wireOf (x := x) hs.q (by omega) (hl1.word (by omega) h0 e5 e6 e7) (by omega) (by omega) ?_)
        refine pw_ishr dL_beat_327 ?_
        refine pw_iconst (v := nI 1) dL_beat_328 (by decide) ?_
        refine pw_iand dL_beat_329 ?_
        refine pw_iconst (v := nI 1) dL_beat_330 (by decide) ?_
        refine pw_icmp_ne 338 dL_beat_331 (by decide) (fun h4 => ?_) (fun h4 => ?_)
        · skip
          refine pw_iconst (v := nI 0) dL_beat_338 (by decide) ?_
          refine pw_istore_11 dL_beat_339 (by decide) ?_
          refine pw_fg (ls' := [some (.ref p), some (.ref (p + 1)), some (.ref (p + 2)), some (.ref (p + 3)), some (.ref (p + 4)), some (.ref (p + 5)), some (.int (msk L 6)), none, some (.int (nI R.2)), some (.int (msk (btK B) n)), some (.int (nI k)), some (.int (nI 0)), none, none, none]) ⟨Or.inr rfl, Or.inr rfl, Or.inr rfl, Or.inr rfl, Or.inr rfl, Or.inr rfl, Or.inr rfl, Or.inl rfl, Or.inr rfl, Or.inr rfl, Or.inr rfl, Or.inr rfl, Or.inl rfl, Or.inl rfl, Or.inl rfl, trivial⟩ ?_
          exact bt_go2 hs hl1 gd1 hk ht1 hm9 sp1 hA1 ih2 (Or.inr ⟨rfl, fun h95 => h4 (hlw.mpr (by rw [← hfw]; exact h95.2))⟩)
        · skip
          refine pw_iconst (v := nI 1) dL_beat_334 (by decide) ?_
          refine pw_goto 339 dL_beat_335 (by decide) ?_
          refine pw_istore_11 dL_beat_339 (by decide) ?_
          refine pw_fg (ls' := [some (.ref p), some (.ref (p + 1)), some (.ref (p + 2)), some (.ref (p + 3)), some (.ref (p + 4)), some (.ref (p + 5)), some (.int (msk L 6)), none, some (.int (nI R.2)), some (.int (msk (btK B) n)), some (.int (nI k)), some (.int (nI 1)), none, none, none]) ⟨Or.inr rfl, Or.inr rfl, Or.inr rfl, Or.inr rfl, Or.inr rfl, Or.inr rfl, Or.inr rfl, Or.inl rfl, Or.inr rfl, Or.inr rfl, Or.inr rfl, Or.inr rfl, Or.inl rfl, Or.inl rfl, Or.inl rfl, trivial⟩ ?_
          exact bt_go2 hs hl1 gd1 hk ht1 hm9 sp1 hA1 ih2 (Or.inl ⟨rfl, hbit.mp h3, by rw [hfw]; exact hlw.mp h4⟩)
    · skip
      refine pw_top (spV_no sp1) ?_
      refine pw_if_lt 652 dL_beat_305 (by decide) (fun _ => ?_) (fun hh => absurd m1_lt hh)
      refine pw_iincN_10 dL_beat_652 (by decide) ?_
      refine pw_goto 288 dL_beat_655 (by decide) ?_
      refine pw_fg (ls' := [some (.ref p), some (.ref (p + 1)), some (.ref (p + 2)), some (.ref (p + 3)), some (.ref (p + 4)), some (.ref (p + 5)), some (.int (msk L 6)), none, some (.int (nI R.2)), some (.int (msk (btK B) n)), some (.int (nI (k + 1))), none, none, none, none]) ⟨Or.inr rfl, Or.inr rfl, Or.inr rfl, Or.inr rfl, Or.inr rfl, Or.inr rfl, Or.inr rfl, Or.inl rfl, Or.inr rfl, Or.inr rfl, Or.inr rfl, Or.inl rfl, Or.inl rfl, Or.inl rfl, Or.inl rfl, trivial⟩ ?_
      have e9 : goP L (awB B) n k R = R := cif_n sp1
      rw [e9] at ih2
      exact ih2 _ hl1
