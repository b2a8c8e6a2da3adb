/-! The law's look ahead: the class asked, the best rest -/
theorem CX.mv {σ : Sp} {μ ν : Mm} {o x : Nat} {A : Aw} (h : CX σ μ o x A) (hno : ∀ k, aS A k = none) (e : ∀ a, a < o + 565 → ν a = μ a) : CX σ ν o x A := h.o hno (fun c hc => ⟨SEq.rfl', e c hc⟩) (Nat.le_refl _)
theorem sl_v {B : Bs} {i : Nat} (hi : i < nS B) (h8 : i < 8) : slR B (nI i) = ssR (slP B i) 600 := by
  unfold slR
  rw [cif_y (inN_ok hi), ixN_nI (by omega)]
theorem en_v {B : Bs} {i y : Nat} (hi : i < nS B) (h8 : i < 8) (hy : y < 2) : enR B (nI i) (nI y) = if nwF (bS B i) = 0 then -5 else enF B i (nI y) := by
  unfold enR
  rw [cif_y (inN_ok hi), cif_y (inN_ok hy), ixN_nI (by omega)]
theorem br_v0 {B : Bs} {b : Nat} (h1 : 1 ≤ b) (h2 : b ≤ 200) : brR B (nI b) (nI 0) = (brI B b 20).1 := by
  unfold brR
  rw [cif_y ⟨⟨b, h1, h2, rfl⟩, inN_ok (by omega)⟩, if_pos rfl, ixN_nI (by omega)]
theorem br_v1 {B : Bs} {b : Nat} (h1 : 1 ≤ b) (h2 : b ≤ 200) : brR B (nI b) (nI 1) = nI (brI B b 20).2 := by
  unfold brR
  rw [cif_y ⟨⟨b, h1, h2, rfl⟩, inN_ok (by omega)⟩, if_neg (by decide), ixN_nI (by omega)]
theorem GDn.g0 {n r : Nat} {B : Bs} (h : GDn n B) (hr : r < 100) : GDn n (setG B 0 (nI r)) := ⟨wf_g0 h.1 hr, h.2.1.sG (by omega), (nS_setG _ _ (by omega)).trans h.2.2⟩
set_option maxRecDepth 100000 in
set_option maxHeartbeats 4000000 in
theorem ah_520 {X : Cx} {σ : Sp} {μ : Mm} {Q : Int32 → Sp → Mm → Prop} {κ : Prop} {o x9 p p2 n N9 m9 : Nat} {hx : Int32} {A : Aw} (hc : CX σ μ o x9 A) (hno : ∀ k, aS A k = none) (wa : WA A) (hs : ShL σ p) (hs2 : ShL σ p2) (hl : LU κ μ p (aB A) μ) (gd : GDn n (aB A)) (ht : WT m9 (aB A)) (hm9 : m9 ≤ 4000) (hop : p = o + 565) (h12 : p + 6 ≤ p2) (hnn : nn σ = N9) {b bb mm : Nat} (hb1 : 1 ≤ b) (hb2 : b ≤ 100) (hd : DN (brN (aB A) b) 0 bb mm) (q : ∀ σ' μ', CX σ' μ' o x9 A → LU κ μ' p (aB A) μ' → ShL σ' p → nn σ' = N9 → Q (nI 1) σ' μ') : PW X mL_ahead 0 0 520 [some (.ref o), some (.ref p), some (.ref (p + 1)), some (.ref (p + 2)), some (.ref (p + 3)), some (.ref (p + 4)), some (.ref (p + 5)), some (.int hx), some (.ref p2), some (.ref (p2 + 1)), some (.ref (p2 + 2)), some (.ref (p2 + 3)), some (.ref (p2 + 4)), some (.ref (p2 + 5)), none, none, none, none, none, none, some (.int (nI 1)), some (.int (nI b)), some (.int (nI bb)), some (.int (nI mm)), none, none, none] [] σ μ (LI Q) := by
  refine pw_iload_20 dL_ahead_520 ?_
  refine pw_if_eq 553 dL_ahead_522 (by decide) (fun hh => absurd hh (by decide)) (fun _ => ?_)
  refine pw_aload_0 dL_ahead_525 ?_
  refine pw_iload_21 dL_ahead_526 ?_
  refine pw_iconst (v := nI 0) dL_ahead_528 (by decide) ?_
  refine pw_cV2i 7 dL_ahead_529 kL_79 vX7_bestRest iX7_bestRest ⟨by decide, by decide⟩ ⟨rfl, rfl⟩ (by decide) rfl (Nat.le_of_ble_eq_true rfl) hc.1.t (kf_bestRest hc wa (fun μ1 hc1 fx1 => ?_))
  refine pw_top ((br_v0 hb1 (by omega)).trans hd.br.1) ?_
  refine pw_iload_22 dL_ahead_532 ?_
  refine pw_icmp_ne 553 dL_ahead_534 (by decide) (fun hh => absurd rfl hh) (fun _ => ?_)
  refine pw_aload_0 dL_ahead_537 ?_
  refine pw_iload_21 dL_ahead_538 ?_
  refine pw_iconst (v := nI 1) dL_ahead_540 (by decide) ?_
  refine pw_cV2i 7 dL_ahead_541 kL_79 vX7_bestRest iX7_bestRest ⟨by decide, by decide⟩ ⟨rfl, rfl⟩ (by decide) rfl (Nat.le_of_ble_eq_true rfl) hc1.1.t (kf_bestRest hc1 wa (fun μ2 hc2 fx2 => ?_))
  refine pw_top ((br_v1 hb1 (by omega)).trans (congrArg nI hd.br.2)) ?_
  refine pw_iload_23 dL_ahead_544 ?_
  refine pw_icmp_ne 553 dL_ahead_546 (by decide) (fun hh => absurd rfl hh) (fun _ => ?_)
  refine pw_iconst (v := nI 1) dL_ahead_549 (by decide) ?_
  refine pw_goto 554 dL_ahead_550 (by decide) ?_
  refine pw_zreturn dL_ahead_554 rfl (by decide) ?_
  exact q _ _ hc2 (hl.mv (fun a a1 a2 => (fx2 a (by omega) (by omega)).trans (fx1 a (by omega) (by omega)))) hs hnn
theorem nz_gt {a : Nat} (h : a < 2 ^ 30) : ¬ nI (a + 1) ≤ 0 := nI_nle (by omega) (by omega)
theorem DN.le {h : Nat → Nat} {r bb mm c : Nat} (x : DN h r bb mm) (hc : ∀ s, s ≤ 20 → h s ≤ c) : mm ≤ c ∧ bb ≤ 20 := by
  rcases x with ⟨-, e1, e2⟩ | ⟨-, -, a2, a3, -⟩
  · omega
  · have := hc bb a2
    omega
set_option maxRecDepth 100000 in
set_option maxHeartbeats 4000000 in
theorem ah_395 {X : Cx} {σ : Sp} {μ : Mm} {Q : Int32 → Sp → Mm → Prop} {κ : Prop} {o x9 p p2 n N9 m9 : Nat} {hx : Int32} {A : Aw} (hc : CX σ μ o x9 A) (hno : ∀ k, aS A k = none) (wa : WA A) (hs : ShL σ p) (hs2 : ShL σ p2) (hl : LU κ μ p (aB A) μ) (gd : GDn n (aB A)) (ht : WT m9 (aB A)) (hm9 : m9 ≤ 4000) (hop : p = o + 565) (h12 : p + 6 ≤ p2) (hnn : nn σ = N9) {b : Nat} (hb1 : 1 ≤ b) (hb2 : b ≤ 100) (q : ∀ σ' μ', CX σ' μ' o x9 A → LU κ μ' p (aB A) μ' → ShL σ' p → nn σ' = N9 → Q (nI 1) σ' μ') : PW X mL_ahead 0 0 395 [some (.ref o), some (.ref p), some (.ref (p + 1)), some (.ref (p + 2)), some (.ref (p + 3)), some (.ref (p + 4)), some (.ref (p + 5)), some (.int hx), some (.ref p2), some (.ref (p2 + 1)), some (.ref (p2 + 2)), some (.ref (p2 + 3)), some (.ref (p2 + 4)), some (.ref (p2 + 5)), none, none, none, none, none, none, some (.int (nI 1)), some (.int (nI b)), some (.int (nI 0)), some (.int (nI 0)), some (.int (nI 20)), none, none] [] σ μ (LI Q) := by
  have h8 := gd.n8
  have loop : ∀ r, r ≤ 20 → ∀ bb mm ν, (∀ a, (a < p2 ∨ p2 + 6 ≤ a) → ν a = μ a) → DN (brN (aB A) b) r bb mm → PW X mL_ahead 0 0 395 [some (.ref o), some (.ref p), some (.ref (p + 1)), some (.ref (p + 2)), some (.ref (p + 3)), some (.ref (p + 4)), some (.ref (p + 5)), some (.int hx), some (.ref p2), some (.ref (p2 + 1)), some (.ref (p2 + 2)), some (.ref (p2 + 3)), some (.ref (p2 + 4)), some (.ref (p2 + 5)), none, none, none, none, none, none, some (.int (nI 1)), some (.int (nI b)), some (.int (nI bb)), some (.int (nI mm)), some (.int (nI r)), none, none] [] σ ν (LI Q) := by
    intro r
    induction r with
    | zero =>
      intro hr bb mm ν fz hd
      refine pw_iload_24 dL_ahead_395 ?_
      refine pw_if_le 520 dL_ahead_397 (by decide) (fun _ => ?_) (fun hh => absurd (by decide) hh)
      refine pw_fg (ls' := [some (.ref o), some (.ref p), some (.ref (p + 1)), some (.ref (p + 2)), some (.ref (p + 3)), some (.ref (p + 4)), some (.ref (p + 5)), some (.int hx), some (.ref p2), some (.ref (p2 + 1)), some (.ref (p2 + 2)), some (.ref (p2 + 3)), some (.ref (p2 + 4)), some (.ref (p2 + 5)), none, none, none, none, none, none, some (.int (nI 1)), some (.int (nI b)), some (.int (nI bb)), some (.int (nI mm)), none, none, none]) ⟨Or.inr rfl, Or.inr rfl, Or.inr rfl, Or.inr rfl, Or.inr rfl, Or.inr rfl, Or.inr rfl, Or.inr rfl, Or.inr rfl, Or.inr rfl, Or.inr rfl, Or.inr rfl, Or.inr rfl, Or.inr rfl, Or.inl rfl, Or.inl rfl, Or.inl rfl, Or.inl rfl, Or.inl rfl, Or.inl rfl, Or.inr rfl, Or.inr rfl, Or.inr rfl, Or.inr rfl, Or.inl rfl, Or.inl rfl, Or.inl rfl, trivial⟩ ?_
      exact ah_520 (hc.mv hno (fun a ha => fz a (by omega))) hno wa hs hs2 (hl.mv (fun a a1 a2 => fz a (by omega))) gd ht hm9 hop h12 hnn hb1 hb2 hd q
    | succ r ih =>
      intro hr bb mm ν fz hd
      have hlv : LU κ ν p (aB A) ν := hl.mv (fun a a1 a2 => fz a (by omega))
      have gd0 := gd.g0 (r := r + 1) (by omega)
      have ht0 : WT m9 (setG (aB A) 0 (nI (r + 1))) := ht.eq rfl
      have hbl : brN (aB A) b (r + 1) ≤ 8 * b := brN_le gd.wf (by omega)
      refine pw_iload_24 dL_ahead_395 ?_
      refine pw_if_le 520 dL_ahead_397 (by decide) (fun hh => absurd hh (nz_gt (by omega))) (fun _ => ?_)
      refine pw_aload_1 dL_ahead_400 ?_
      refine pw_aload_8 dL_ahead_401 ?_
      refine pw_cS2v dL_ahead_403 kL_62 vL_copy sL_copy ⟨by decide, by decide⟩ ⟨rfl, rfl⟩ (Nat.le_of_ble_eq_true rfl) (c_copy hs.a hs2.a (by omega) (by decide) (fun f0 ef0 => ?_))
      refine pw_aload_2 dL_ahead_406 ?_
      refine pw_aload_9 dL_ahead_407 ?_
      refine pw_cS2v dL_ahead_409 kL_62 vL_copy sL_copy ⟨by decide, by decide⟩ ⟨rfl, rfl⟩ (Nat.le_of_ble_eq_true rfl) (c_copy hs.b hs2.b (by omega) (by decide) (fun f1 ef1 => ?_))
      refine pw_aload_3 dL_ahead_412 ?_
      refine pw_aload_10 dL_ahead_413 ?_
      refine pw_cS2v dL_ahead_415 kL_62 vL_copy sL_copy ⟨by decide, by decide⟩ ⟨rfl, rfl⟩ (Nat.le_of_ble_eq_true rfl) (c_copy hs.q hs2.q (by omega) (by decide) (fun f2 ef2 => ?_))
      refine pw_aload_5 dL_ahead_418 ?_
      refine pw_aload_12 dL_ahead_420 ?_
      refine pw_cS2v dL_ahead_422 kL_62 vL_copy sL_copy ⟨by decide, by decide⟩ ⟨rfl, rfl⟩ (Nat.le_of_ble_eq_true rfl) (c_copy hs.w hs2.w (by omega) (by decide) (fun f3 ef3 => ?_))
      refine pw_aload_6 dL_ahead_425 ?_
      refine pw_aload_13 dL_ahead_427 ?_
      refine pw_cS2v dL_ahead_429 kL_62 vL_copy sL_copy ⟨by decide, by decide⟩ ⟨rfl, rfl⟩ (Nat.le_of_ble_eq_true rfl) (c_copy hs.t hs2.t (by omega) (by decide) (fun f4 ef4 => ?_))
      refine pw_aload_13 dL_ahead_432 ?_
      refine pw_iconst (v := nI 0) dL_ahead_434 (by decide) ?_
      refine pw_iload_24 dL_ahead_435 ?_
      refine pw_iastN dL_ahead_437 hs2.t (by omega) (by decide) ?_
      refine pw_gen (P := fun ν' => (∀ a, (a < p2 ∨ p2 + 6 ≤ a) → ν' a = μ a) ∧ LU False ν' p2 (setG (aB A) 0 (nI (r + 1))) ν') ⟨fun a ha => ?_, ?_⟩ (fun ν1 ⟨fz1, hl1⟩ => ?_)
      · rw [wr_n _ _ _ (by omega), wC_ne _ _ (by omega), wC_ne _ _ (by omega), wC_ne _ _ (by omega), wC_ne _ _ (by omega), wC_ne _ _ (by omega)]
        exact fz a ha
      · have h9 : LU False (wC (wC (wC (wC (wC ν p2 f0) (p2 + 1) f1) (p2 + 2) f2) (p2 + 4) f3) (p2 + 5) f4) p2 (aB A) (wC (wC (wC (wC (wC ν p2 f0) (p2 + 1) f1) (p2 + 2) f2) (p2 + 4) f3) (p2 + 5) f4) := by
          refine hlv.cpy (κ' := False) (fun h95 => h95.elim) (fun j hj => ?_) (fun j hj => ?_) (fun j hj => ?_) (fun h95 => h95.elim) (fun j hj => ?_) (fun j hj => ?_)
          · simp (disch := omega) only [wC_self, wC_ne]
            exact ef0 j hj
          · simp (disch := omega) only [wC_self, wC_ne]
            have h96 := ef1 j hj
            simp (disch := omega) only [wC_self, wC_ne] at h96
            exact h96
          · simp (disch := omega) only [wC_self, wC_ne]
            have h96 := ef2 j hj
            simp (disch := omega) only [wC_self, wC_ne] at h96
            exact h96
          · simp (disch := omega) only [wC_self, wC_ne]
            have h96 := ef3 j hj
            simp (disch := omega) only [wC_self, wC_ne] at h96
            exact h96
          · simp (disch := omega) only [wC_self, wC_ne]
            have h96 := ef4 j hj
            simp (disch := omega) only [wC_self, wC_ne] at h96
            exact h96
        exact (h9.wT 0 (x := nI (r + 1)) (by omega)).mv (fun _ _ _ => rfl)
      refine pw_iconst (v := nI 0) dL_ahead_438 (by decide) ?_
      refine pw_istore_25 dL_ahead_439 (by decide) ?_
      refine pw_iconst (v := nI 0) dL_ahead_441 (by decide) ?_
      refine pw_istore_26 dL_ahead_442 (by decide) ?_
      refine pw_fg (ls' := [some (.ref o), some (.ref p), some (.ref (p + 1)), some (.ref (p + 2)), some (.ref (p + 3)), some (.ref (p + 4)), some (.ref (p + 5)), some (.int hx), some (.ref p2), some (.ref (p2 + 1)), some (.ref (p2 + 2)), some (.ref (p2 + 3)), some (.ref (p2 + 4)), some (.ref (p2 + 5)), none, none, none, none, none, none, some (.int (nI 1)), some (.int (nI b)), some (.int (nI bb)), some (.int (nI mm)), some (.int (nI (r + 1))), some (.int (nI ((btI 0 (setG (aB A) 0 (nI (r + 1)))).2))), some (.int (nI 0))]) ⟨Or.inr rfl, Or.inr rfl, Or.inr rfl, Or.inr rfl, Or.inr rfl, Or.inr rfl, Or.inr rfl, Or.inr rfl, Or.inr rfl, Or.inr rfl, Or.inr rfl, Or.inr rfl, Or.inr rfl, Or.inr rfl, Or.inl rfl, Or.inl rfl, Or.inl rfl, Or.inl rfl, Or.inl rfl, Or.inl rfl, Or.inr rfl, Or.inr rfl, Or.inr rfl, Or.inr rfl, Or.inr rfl, Or.inr rfl, Or.inr rfl, trivial⟩ ?_
      refine pw_up (P := fun k => ∀ ν', (∀ a, (a < p2 ∨ p2 + 6 ≤ a) → ν' a = μ a) → LU False ν' p2 (bk (setG (aB A) 0 (nI (r + 1))) k) ν' → PW X mL_ahead 0 0 444 [some (.ref o), some (.ref p), some (.ref (p + 1)), some (.ref (p + 2)), some (.ref (p + 3)), some (.ref (p + 4)), some (.ref (p + 5)), some (.int hx), some (.ref p2), some (.ref (p2 + 1)), some (.ref (p2 + 2)), some (.ref (p2 + 3)), some (.ref (p2 + 4)), some (.ref (p2 + 5)), none, none, none, none, none, none, some (.int (nI 1)), some (.int (nI b)), some (.int (nI bb)), some (.int (nI mm)), some (.int (nI (r + 1))), some (.int (nI ((btI k (setG (aB A) 0 (nI (r + 1)))).2))), some (.int (nI k))] [] σ ν' (LI Q)) b ?_ ?_ 0 (Nat.zero_le _) ν1 fz1 hl1
      · intro ν' fz2 hl2
        have hmb : mm ≤ 8 * b ∧ bb ≤ 20 := hd.le (fun r9 h95 => brN_le gd.wf (by omega))
        have ehb : (btI b (setG (aB A) 0 (nI (r + 1)))).2 = brN (aB A) b (r + 1) := rfl
        rw [ehb]
        have du := hd.up (by omega)
        refine pw_iload_26 dL_ahead_444 ?_
        refine pw_iload_21 dL_ahead_446 ?_
        refine pw_icmp_ge 477 dL_ahead_448 (by decide) (fun _ => ?_) (fun hh => absurd (by rw [nI_leI (by omega) (by omega)]; omega) hh)
        refine pw_iload_22 dL_ahead_477 ?_
        rcases Nat.eq_zero_or_pos bb with z1 | z1
        · skip
          refine pw_if_eq 489 dL_ahead_479 (by decide) (fun _ => ?_) (fun hh => absurd (by rw [z1]; rfl) hh)
          refine pw_iload_24 dL_ahead_489 ?_
          refine pw_goto 496 dL_ahead_491 (by decide) ?_
          refine pw_istore_22 dL_ahead_496 (by decide) ?_
          refine pw_iload_25 dL_ahead_498 ?_
          refine pw_iload_23 dL_ahead_500 ?_
          rcases Nat.lt_or_ge mm (brN (aB A) b (r + 1)) with g1 | g1
          · skip
            refine pw_icmp_le 510 dL_ahead_502 (by decide) (fun hh => absurd hh (nI_ge g1 (by omega))) (fun _ => ?_)
            refine pw_iload_25 dL_ahead_505 ?_
            refine pw_goto 512 dL_ahead_507 (by decide) ?_
            refine pw_istore_23 dL_ahead_512 (by decide) ?_
            refine pw_iincM_24 dL_ahead_514 (by decide) (by omega) ?_
            refine pw_goto 395 dL_ahead_517 (by decide) ?_
            have u1 : (if bb = 0 ∨ mm < brN (aB A) b (r + 1) then r + 1 else bb) = r + 1 := if_pos (Or.inl z1)
            have u2 : (if mm < brN (aB A) b (r + 1) then brN (aB A) b (r + 1) else mm) = brN (aB A) b (r + 1) := if_pos g1
            rw [u1, u2] at du
            refine pw_fg (ls' := [some (.ref o), some (.ref p), some (.ref (p + 1)), some (.ref (p + 2)), some (.ref (p + 3)), some (.ref (p + 4)), some (.ref (p + 5)), some (.int hx), some (.ref p2), some (.ref (p2 + 1)), some (.ref (p2 + 2)), some (.ref (p2 + 3)), some (.ref (p2 + 4)), some (.ref (p2 + 5)), none, none, none, none, none, none, some (.int (nI 1)), some (.int (nI b)), some (.int (nI (r + 1))), some (.int (nI (brN (aB A) b (r + 1)))), some (.int (nI r)), none, none]) ⟨Or.inr rfl, Or.inr rfl, Or.inr rfl, Or.inr rfl, Or.inr rfl, Or.inr rfl, Or.inr rfl, Or.inr rfl, Or.inr rfl, Or.inr rfl, Or.inr rfl, Or.inr rfl, Or.inr rfl, Or.inr rfl, Or.inl rfl, Or.inl rfl, Or.inl rfl, Or.inl rfl, Or.inl rfl, Or.inl rfl, Or.inr rfl, Or.inr rfl, Or.inr rfl, Or.inr rfl, Or.inr rfl, Or.inl rfl, Or.inl rfl, trivial⟩ ?_
            exact ih (by omega) _ _ ν' fz2 du
          · skip
            refine pw_icmp_le 510 dL_ahead_502 (by decide) (fun _ => ?_) (fun hh => absurd (nI_le g1 (by omega)) hh)
            refine pw_iload_23 dL_ahead_510 ?_
            refine pw_istore_23 dL_ahead_512 (by decide) ?_
            refine pw_iincM_24 dL_ahead_514 (by decide) (by omega) ?_
            refine pw_goto 395 dL_ahead_517 (by decide) ?_
            have u1 : (if bb = 0 ∨ mm < brN (aB A) b (r + 1) then r + 1 else bb) = r + 1 := if_pos (Or.inl z1)
            have u2 : (if mm < brN (aB A) b (r + 1) then brN (aB A) b (r + 1) else mm) = mm := if_neg (by omega)
            rw [u1, u2] at du
            refine pw_fg (ls' := [some (.ref o), some (.ref p), some (.ref (p + 1)), some (.ref (p + 2)), some (.ref (p + 3)), some (.ref (p + 4)), some (.ref (p + 5)), some (.int hx), some (.ref p2), some (.ref (p2 + 1)), some (.ref (p2 + 2)), some (.ref (p2 + 3)), some (.ref (p2 + 4)), some (.ref (p2 + 5)), none, none, none, none, none, none, some (.int (nI 1)), some (.int (nI b)), some (.int (nI (r + 1))), some (.int (nI mm)), some (.int (nI r)), none, none]) ⟨Or.inr rfl, Or.inr rfl, Or.inr rfl, Or.inr rfl, Or.inr rfl, Or.inr rfl, Or.inr rfl, Or.inr rfl, Or.inr rfl, Or.inr rfl, Or.inr rfl, Or.inr rfl, Or.inr rfl, Or.inr rfl, Or.inl rfl, Or.inl rfl, Or.inl rfl, Or.inl rfl, Or.inl rfl, Or.inl rfl, Or.inr rfl, Or.inr rfl, Or.inr rfl, Or.inr rfl, Or.inr rfl, Or.inl rfl, Or.inl rfl, trivial⟩ ?_
            exact ih (by omega) _ _ ν' fz2 du
        · skip
          refine pw_if_eq 489 dL_ahead_479 (by decide) (fun hh => absurd hh (nI_ne0 z1 (by omega))) (fun _ => ?_)
          refine pw_iload_25 dL_ahead_482 ?_
          refine pw_iload_23 dL_ahead_484 ?_
          rcases Nat.lt_or_ge mm (brN (aB A) b (r + 1)) with g2 | g2
          · skip
            refine pw_icmp_le 494 dL_ahead_486 (by decide) (fun hh => absurd hh (nI_ge g2 (by omega))) (fun _ => ?_)
            refine pw_iload_24 dL_ahead_489 ?_
            refine pw_goto 496 dL_ahead_491 (by decide) ?_
            refine pw_istore_22 dL_ahead_496 (by decide) ?_
            refine pw_iload_25 dL_ahead_498 ?_
            refine pw_iload_23 dL_ahead_500 ?_
            rcases Nat.lt_or_ge mm (brN (aB A) b (r + 1)) with g3 | g3
            · skip
              refine pw_icmp_le 510 dL_ahead_502 (by decide) (fun hh => absurd hh (nI_ge g3 (by omega))) (fun _ => ?_)
              refine pw_iload_25 dL_ahead_505 ?_
              refine pw_goto 512 dL_ahead_507 (by decide) ?_
              refine pw_istore_23 dL_ahead_512 (by decide) ?_
              refine pw_iincM_24 dL_ahead_514 (by decide) (by omega) ?_
              refine pw_goto 395 dL_ahead_517 (by decide) ?_
              have u1 : (if bb = 0 ∨ mm < brN (aB A) b (r + 1) then r + 1 else bb) = r + 1 := if_pos (Or.inr g3)
              have u2 : (if mm < brN (aB A) b (r + 1) then brN (aB A) b (r + 1) else mm) = brN (aB A) b (r + 1) := if_pos g3
              rw [u1, u2] at du
              refine pw_fg (ls' := [some (.ref o), some (.ref p), some (.ref (p + 1)), some (.ref (p + 2)), some (.ref (p + 3)), some (.ref (p + 4)), some (.ref (p + 5)), some (.int hx), some (.ref p2), some (.ref (p2 + 1)), some (.ref (p2 + 2)), some (.ref (p2 + 3)), some (.ref (p2 + 4)), some (.ref (p2 + 5)), none, none, none, none, none, none, some (.int (nI 1)), some (.int (nI b)), some (.int (nI (r + 1))), some (.int (nI (brN (aB A) b (r + 1)))), some (.int (nI r)), none, none]) ⟨Or.inr rfl, Or.inr rfl, Or.inr rfl, Or.inr rfl, Or.inr rfl, Or.inr rfl, Or.inr rfl, Or.inr rfl, Or.inr rfl, Or.inr rfl, Or.inr rfl, Or.inr rfl, Or.inr rfl, Or.inr rfl, Or.inl rfl, Or.inl rfl, Or.inl rfl, Or.inl rfl, Or.inl rfl, Or.inl rfl, Or.inr rfl, Or.inr rfl, Or.inr rfl, Or.inr rfl, Or.inr rfl, Or.inl rfl, Or.inl rfl, trivial⟩ ?_
              exact ih (by omega) _ _ ν' fz2 du
            · skip
              refine pw_icmp_le 510 dL_ahead_502 (by decide) (fun _ => ?_) (fun hh => absurd (nI_le g3 (by omega)) hh)
              refine pw_iload_23 dL_ahead_510 ?_
              refine pw_istore_23 dL_ahead_512 (by decide) ?_
              refine pw_iincM_24 dL_ahead_514 (by decide) (by omega) ?_
              refine pw_goto 395 dL_ahead_517 (by decide) ?_
              exfalso
              omega
          · skip
            refine pw_icmp_le 494 dL_ahead_486 (by decide) (fun _ => ?_) (fun hh => absurd (nI_le g2 (by omega)) hh)
            refine pw_iload_22 dL_ahead_494 ?_
            refine pw_istore_22 dL_ahead_496 (by decide) ?_
            refine pw_iload_25 dL_ahead_498 ?_
            refine pw_iload_23 dL_ahead_500 ?_
            rcases Nat.lt_or_ge mm (brN (aB A) b (r + 1)) with g4 | g4
            · skip
              refine pw_icmp_le 510 dL_ahead_502 (by decide) (fun hh => absurd hh (nI_ge g4 (by omega))) (fun _ => ?_)
              refine pw_iload_25 dL_ahead_505 ?_
              refine pw_goto 512 dL_ahead_507 (by decide) ?_
              refine pw_istore_23 dL_ahead_512 (by decide) ?_
              refine pw_iincM_24 dL_ahead_514 (by decide) (by omega) ?_
              refine pw_goto 395 dL_ahead_517 (by decide) ?_
              exfalso
              omega
            · skip
              refine pw_icmp_le 510 dL_ahead_502 (by decide) (fun _ => ?_) (fun hh => absurd (nI_le g4 (by omega)) hh)
              refine pw_iload_23 dL_ahead_510 ?_
              refine pw_istore_23 dL_ahead_512 (by decide) ?_
              refine pw_iincM_24 dL_ahead_514 (by decide) (by omega) ?_
              refine pw_goto 395 dL_ahead_517 (by decide) ?_
              have u1 : (if bb = 0 ∨ mm < brN (aB A) b (r + 1) then r + 1 else bb) = bb := if_neg (by omega)
              have u2 : (if mm < brN (aB A) b (r + 1) then brN (aB A) b (r + 1) else mm) = mm := if_neg (by omega)
              rw [u1, u2] at du
              refine pw_fg (ls' := [some (.ref o), some (.ref p), some (.ref (p + 1)), some (.ref (p + 2)), some (.ref (p + 3)), some (.ref (p + 4)), some (.ref (p + 5)), some (.int hx), some (.ref p2), some (.ref (p2 + 1)), some (.ref (p2 + 2)), some (.ref (p2 + 3)), some (.ref (p2 + 4)), some (.ref (p2 + 5)), none, none, none, none, none, none, some (.int (nI 1)), some (.int (nI b)), some (.int (nI bb)), some (.int (nI mm)), some (.int (nI r)), none, none]) ⟨Or.inr rfl, Or.inr rfl, Or.inr rfl, Or.inr rfl, Or.inr rfl, Or.inr rfl, Or.inr rfl, Or.inr rfl, Or.inr rfl, Or.inr rfl, Or.inr rfl, Or.inr rfl, Or.inr rfl, Or.inr rfl, Or.inl rfl, Or.inl rfl, Or.inl rfl, Or.inl rfl, Or.inl rfl, Or.inl rfl, Or.inr rfl, Or.inr rfl, Or.inr rfl, Or.inr rfl, Or.inr rfl, Or.inl rfl, Or.inl rfl, trivial⟩ ?_
              exact ih (by omega) _ _ ν' fz2 du
      · intro k hk ihk ν' fz2 hl2
        obtain ⟨gdk, htk⟩ := gd0.bkk ht0 k (by omega)
        refine pw_iload_26 dL_ahead_444 ?_
        refine pw_iload_21 dL_ahead_446 ?_
        refine pw_icmp_ge 477 dL_ahead_448 (by decide) (fun hh => absurd hh (by rw [nI_leI (by omega) (by omega)]; omega)) (fun _ => ?_)
        refine pw_iload_25 dL_ahead_451 ?_
        refine pw_aload_8 dL_ahead_453 ?_
        refine pw_aload_9 dL_ahead_455 ?_
        refine pw_aload_10 dL_ahead_457 ?_
        refine pw_aload_11 dL_ahead_459 ?_
        refine pw_aload_12 dL_ahead_461 ?_
        refine pw_aload_13 dL_ahead_463 ?_
        refine pw_cS6i dL_ahead_465 kL_66 vL_beat sL_beat ⟨by decide, by decide⟩ ⟨rfl, rfl⟩ (Nat.le_of_ble_eq_true rfl) (k_beat hs2 hl2 gdk htk (by omega) (fun ν3 hl3 => ?_))
        refine pw_iaddN dL_ahead_468 ?_
        refine pw_istore_25 dL_ahead_469 (by decide) ?_
        refine pw_iincN_26 dL_ahead_471 (by decide) ?_
        refine pw_goto 444 dL_ahead_474 (by decide) ?_
        exact ihk ν3 (fun a ha => (hl3.out ha).trans (fz2 a ha)) (hl3.mv (fun _ _ _ => rfl))
  exact loop 20 (Nat.le_refl _) 0 0 μ (fun _ _ => rfl) (Or.inl ⟨rfl, rfl, rfl⟩)
