/-! The law's look ahead, whole -/
set_option maxRecDepth 100000 in
set_option maxHeartbeats 4000000 in
theorem ah_284 {X : Cx} {σ : Sp} {μ : Mm} {Q : Int32 → Sp → Mm → Prop} {κ : Prop} {o x9 p p2 n N9 m9 : Nat} {hx : Int32} {A : Aw} (hc : CX σ μ o x9 A) (hno : ∀ k, aS A k = none) (wa : WA A) (hs : ShL σ p) (hs2 : ShL σ p2) (hl : LU κ μ p (aB A) μ) (gd : GDn n (aB A)) (ht : WT m9 (aB A)) (hm9 : m9 ≤ 4000) (hop : p = o + 565) (h12 : p + 6 ≤ p2) (hnn : nn σ = N9) {i : Nat} {e hw qv sv : Int32} (hi : i < n) (he : EH (aB A) i 901 e hw) (hqu : ssR (quP (aB A)) 900 = qv) (hsl : ssR (slP (aB A) i) 600 = sv) (q : ∀ σ' μ', CX σ' μ' o x9 A → LU κ μ' p (aB A) μ' → ShL σ' p → nn σ' = N9 → Q (nI 1) σ' μ') : PW X mL_ahead 0 0 284 [some (.ref o), some (.ref p), some (.ref (p + 1)), some (.ref (p + 2)), some (.ref (p + 3)), some (.ref (p + 4)), some (.ref (p + 5)), some (.int hx), some (.ref p2), some (.ref (p2 + 1)), some (.ref (p2 + 2)), some (.ref (p2 + 3)), some (.ref (p2 + 4)), some (.ref (p2 + 5)), some (.int (nI i)), some (.int e), some (.int hw), some (.int qv), some (.int sv), none, none, none, none, none, none, none, none] [] σ μ (LI Q) := by
  have h8 := gd.n8
  have hiS : i < nS (aB A) := by rw [gd.hn]; exact hi
  have hi8 : i < 8 := by omega
  have hEn := he.en (by omega)
  refine pw_aload_1 dL_ahead_284 ?_
  refine pw_bipush (v := nI 32) dL_ahead_285 (by decide) ?_
  refine pw_iload_14 dL_ahead_287 ?_
  refine pw_iaddN dL_ahead_289 ?_
  refine pw_ialdN dL_ahead_290 hs.a (by omega) (by decide) ?_
  refine pw_top ((hl.a4 (i := i) (by omega) (by omega)).trans ((gd.s (i := i) (by omega)).w).1) ?_
  rcases Nat.eq_zero_or_pos (nwF (bS (aB A) i)) with nz1 | nz1
  · skip
    refine pw_if_ne 298 dL_ahead_291 (by decide) (fun hh => absurd (by rw [nz1]; rfl) hh) (fun _ => ?_)
    refine pw_iconst (v := nI 1) dL_ahead_294 (by decide) ?_
    refine pw_goto 299 dL_ahead_295 (by decide) ?_
    refine pw_istore_19 dL_ahead_299 (by decide) ?_
    refine pw_aload_0 dL_ahead_301 ?_
    refine pw_cV0i 7 dL_ahead_302 kL_70 vX7_quietIn iX7_quietIn ⟨by decide, by decide⟩ ⟨rfl, rfl⟩ (by decide) rfl (Nat.le_of_ble_eq_true rfl) hc.1.t (kf_quietIn hc wa (fun μ1 hc1 fx1 => ?_))
    refine pw_top (show quR (aB A) = qv from hqu) ?_
    refine pw_iload_17 dL_ahead_305 ?_
    refine pw_icmp_ne 369 dL_ahead_307 (by decide) (fun hh => absurd rfl hh) (fun _ => ?_)
    refine pw_aload_0 dL_ahead_310 ?_
    refine pw_iload_14 dL_ahead_311 ?_
    refine pw_cV1i 7 dL_ahead_313 kL_73 vX7_sleepsIn iX7_sleepsIn ⟨by decide, by decide⟩ ⟨rfl, rfl⟩ (by decide) rfl (Nat.le_of_ble_eq_true rfl) hc1.1.t (kf_sleepsIn hc1 wa (fun μ2 hc2 fx2 => ?_))
    refine pw_top ((sl_v hiS hi8).trans hsl) ?_
    refine pw_iload_18 dL_ahead_316 ?_
    refine pw_icmp_ne 369 dL_ahead_318 (by decide) (fun hh => absurd rfl hh) (fun _ => ?_)
    refine pw_aload_0 dL_ahead_321 ?_
    refine pw_iload_14 dL_ahead_322 ?_
    refine pw_iconst (v := nI 0) dL_ahead_324 (by decide) ?_
    refine pw_cV2i 7 dL_ahead_325 kL_76 vX7_endsIn iX7_endsIn ⟨by decide, by decide⟩ ⟨rfl, rfl⟩ (by decide) rfl (Nat.le_of_ble_eq_true rfl) hc2.1.t (kf_endsIn hc2 wa (fun μ3 hc3 fx3 => ?_))
    refine pw_top ((en_v hiS hi8 (y := 0) (by decide)).trans (if_pos nz1)) ?_
    refine pw_iload_19 dL_ahead_328 ?_
    refine pw_if_eq 338 dL_ahead_330 (by decide) (fun hh => absurd hh (by decide)) (fun _ => ?_)
    refine pw_bipush (v := -5) dL_ahead_333 (by decide) ?_
    refine pw_goto 340 dL_ahead_335 (by decide) ?_
    refine pw_icmp_ne 369 dL_ahead_340 (by decide) (fun hh => absurd rfl hh) (fun _ => ?_)
    refine pw_aload_0 dL_ahead_343 ?_
    refine pw_iload_14 dL_ahead_344 ?_
    refine pw_iconst (v := nI 1) dL_ahead_346 (by decide) ?_
    refine pw_cV2i 7 dL_ahead_347 kL_76 vX7_endsIn iX7_endsIn ⟨by decide, by decide⟩ ⟨rfl, rfl⟩ (by decide) rfl (Nat.le_of_ble_eq_true rfl) hc3.1.t (kf_endsIn hc3 wa (fun μ4 hc4 fx4 => ?_))
    refine pw_top ((en_v hiS hi8 (y := 1) (by decide)).trans (if_pos nz1)) ?_
    refine pw_iload_19 dL_ahead_350 ?_
    refine pw_if_eq 360 dL_ahead_352 (by decide) (fun hh => absurd hh (by decide)) (fun _ => ?_)
    refine pw_bipush (v := -5) dL_ahead_355 (by decide) ?_
    refine pw_goto 362 dL_ahead_357 (by decide) ?_
    refine pw_icmp_ne 369 dL_ahead_362 (by decide) (fun hh => absurd rfl hh) (fun _ => ?_)
    refine pw_iconst (v := nI 1) dL_ahead_365 (by decide) ?_
    refine pw_goto 370 dL_ahead_366 (by decide) ?_
    refine pw_istore_20 dL_ahead_370 (by decide) ?_
    refine pw_iconst (v := nI 1) dL_ahead_372 (by decide) ?_
    refine pw_iload_7 dL_ahead_373 ?_
    refine pw_iconst (v := nI 4) dL_ahead_375 (by decide) ?_
    refine pw_ishr dL_ahead_376 ?_
    refine pw_bipush (v := nI 100) dL_ahead_377 (by decide) ?_
    refine pw_cS2i dL_ahead_379 kL_59 vL_low sL_low ⟨by decide, by decide⟩ ⟨rfl, rfl⟩ (Nat.le_of_ble_eq_true rfl) (c_low (by omega) (by omega) (fun j hj => ?_))
    refine pw_iaddN dL_ahead_382 ?_
    refine pw_istore_21 dL_ahead_383 (by decide) ?_
    refine pw_iconst (v := nI 0) dL_ahead_385 (by decide) ?_
    refine pw_istore_22 dL_ahead_386 (by decide) ?_
    refine pw_iconst (v := nI 0) dL_ahead_388 (by decide) ?_
    refine pw_istore_23 dL_ahead_389 (by decide) ?_
    refine pw_bipush (v := nI 20) dL_ahead_391 (by decide) ?_
    refine pw_istore_24 dL_ahead_393 (by decide) ?_
    refine pw_fg (ls' := [some (.ref o), some (.ref p), some (.ref (p + 1)), some (.ref (p + 2)), some (.ref (p + 3)), some (.ref (p + 4)), some (.ref (p + 5)), some (.int hx), some (.ref p2), some (.ref (p2 + 1)), some (.ref (p2 + 2)), some (.ref (p2 + 3)), some (.ref (p2 + 4)), some (.ref (p2 + 5)), none, none, none, none, none, none, some (.int (nI 1)), some (.int (nI (1 + j))), some (.int (nI 0)), some (.int (nI 0)), some (.int (nI 20)), none, none]) ⟨Or.inr rfl, Or.inr rfl, Or.inr rfl, Or.inr rfl, Or.inr rfl, Or.inr rfl, Or.inr rfl, Or.inr rfl, Or.inr rfl, Or.inr rfl, Or.inr rfl, Or.inr rfl, Or.inr rfl, Or.inr rfl, Or.inl rfl, Or.inl rfl, Or.inl rfl, Or.inl rfl, Or.inl rfl, Or.inl rfl, Or.inr rfl, Or.inr rfl, Or.inr rfl, Or.inr rfl, Or.inr rfl, Or.inl rfl, Or.inl rfl, trivial⟩ ?_
    exact ah_395 hc4 hno wa hs hs2 (hl.mv (fun a a1 a2 => (fx4 a (by omega) (by omega)).trans ((fx3 a (by omega) (by omega)).trans ((fx2 a (by omega) (by omega)).trans (fx1 a (by omega) (by omega)))))) gd ht hm9 hop h12 hnn (by omega) (by omega) q
  · skip
    refine pw_if_ne 298 dL_ahead_291 (by decide) (fun _ => ?_) (fun hh => absurd hh (nI_ne0 nz1 (by have := (gd.s hi).w.2; omega)))
    refine pw_iconst (v := nI 0) dL_ahead_298 (by decide) ?_
    refine pw_istore_19 dL_ahead_299 (by decide) ?_
    refine pw_aload_0 dL_ahead_301 ?_
    refine pw_cV0i 7 dL_ahead_302 kL_70 vX7_quietIn iX7_quietIn ⟨by decide, by decide⟩ ⟨rfl, rfl⟩ (by decide) rfl (Nat.le_of_ble_eq_true rfl) hc.1.t (kf_quietIn hc wa (fun μ1 hc1 fx1 => ?_))
    refine pw_top (show quR (aB A) = qv from hqu) ?_
    refine pw_iload_17 dL_ahead_305 ?_
    refine pw_icmp_ne 369 dL_ahead_307 (by decide) (fun hh => absurd rfl hh) (fun _ => ?_)
    refine pw_aload_0 dL_ahead_310 ?_
    refine pw_iload_14 dL_ahead_311 ?_
    refine pw_cV1i 7 dL_ahead_313 kL_73 vX7_sleepsIn iX7_sleepsIn ⟨by decide, by decide⟩ ⟨rfl, rfl⟩ (by decide) rfl (Nat.le_of_ble_eq_true rfl) hc1.1.t (kf_sleepsIn hc1 wa (fun μ2 hc2 fx2 => ?_))
    refine pw_top ((sl_v hiS hi8).trans hsl) ?_
    refine pw_iload_18 dL_ahead_316 ?_
    refine pw_icmp_ne 369 dL_ahead_318 (by decide) (fun hh => absurd rfl hh) (fun _ => ?_)
    refine pw_aload_0 dL_ahead_321 ?_
    refine pw_iload_14 dL_ahead_322 ?_
    refine pw_iconst (v := nI 0) dL_ahead_324 (by decide) ?_
    refine pw_cV2i 7 dL_ahead_325 kL_76 vX7_endsIn iX7_endsIn ⟨by decide, by decide⟩ ⟨rfl, rfl⟩ (by decide) rfl (Nat.le_of_ble_eq_true rfl) hc2.1.t (kf_endsIn hc2 wa (fun μ3 hc3 fx3 => ?_))
    refine pw_top ((en_v hiS hi8 (y := 0) (by decide)).trans ((if_neg (show ¬ nwF (bS (aB A) i) = 0 by omega)).trans hEn.1)) ?_
    refine pw_iload_19 dL_ahead_328 ?_
    refine pw_if_eq 338 dL_ahead_330 (by decide) (fun _ => ?_) (fun hh => absurd (by decide) hh)
    refine pw_iload_15 dL_ahead_338 ?_
    refine pw_icmp_ne 369 dL_ahead_340 (by decide) (fun hh => absurd rfl hh) (fun _ => ?_)
    refine pw_aload_0 dL_ahead_343 ?_
    refine pw_iload_14 dL_ahead_344 ?_
    refine pw_iconst (v := nI 1) dL_ahead_346 (by decide) ?_
    refine pw_cV2i 7 dL_ahead_347 kL_76 vX7_endsIn iX7_endsIn ⟨by decide, by decide⟩ ⟨rfl, rfl⟩ (by decide) rfl (Nat.le_of_ble_eq_true rfl) hc3.1.t (kf_endsIn hc3 wa (fun μ4 hc4 fx4 => ?_))
    refine pw_top ((en_v hiS hi8 (y := 1) (by decide)).trans ((if_neg (show ¬ nwF (bS (aB A) i) = 0 by omega)).trans hEn.2)) ?_
    refine pw_iload_19 dL_ahead_350 ?_
    refine pw_if_eq 360 dL_ahead_352 (by decide) (fun _ => ?_) (fun hh => absurd (by decide) hh)
    refine pw_iload_16 dL_ahead_360 ?_
    refine pw_icmp_ne 369 dL_ahead_362 (by decide) (fun hh => absurd rfl hh) (fun _ => ?_)
    refine pw_iconst (v := nI 1) dL_ahead_365 (by decide) ?_
    refine pw_goto 370 dL_ahead_366 (by decide) ?_
    refine pw_istore_20 dL_ahead_370 (by decide) ?_
    refine pw_iconst (v := nI 1) dL_ahead_372 (by decide) ?_
    refine pw_iload_7 dL_ahead_373 ?_
    refine pw_iconst (v := nI 4) dL_ahead_375 (by decide) ?_
    refine pw_ishr dL_ahead_376 ?_
    refine pw_bipush (v := nI 100) dL_ahead_377 (by decide) ?_
    refine pw_cS2i dL_ahead_379 kL_59 vL_low sL_low ⟨by decide, by decide⟩ ⟨rfl, rfl⟩ (Nat.le_of_ble_eq_true rfl) (c_low (by omega) (by omega) (fun j hj => ?_))
    refine pw_iaddN dL_ahead_382 ?_
    refine pw_istore_21 dL_ahead_383 (by decide) ?_
    refine pw_iconst (v := nI 0) dL_ahead_385 (by decide) ?_
    refine pw_istore_22 dL_ahead_386 (by decide) ?_
    refine pw_iconst (v := nI 0) dL_ahead_388 (by decide) ?_
    refine pw_istore_23 dL_ahead_389 (by decide) ?_
    refine pw_bipush (v := nI 20) dL_ahead_391 (by decide) ?_
    refine pw_istore_24 dL_ahead_393 (by decide) ?_
    refine pw_fg (ls' := [some (.ref o), some (.ref p), some (.ref (p + 1)), some (.ref (p + 2)), some (.ref (p + 3)), some (.ref (p + 4)), some (.ref (p + 5)), some (.int hx), some (.ref p2), some (.ref (p2 + 1)), some (.ref (p2 + 2)), some (.ref (p2 + 3)), some (.ref (p2 + 4)), some (.ref (p2 + 5)), none, none, none, none, none, none, some (.int (nI 1)), some (.int (nI (1 + j))), some (.int (nI 0)), some (.int (nI 0)), some (.int (nI 20)), none, none]) ⟨Or.inr rfl, Or.inr rfl, Or.inr rfl, Or.inr rfl, Or.inr rfl, Or.inr rfl, Or.inr rfl, Or.inr rfl, Or.inr rfl, Or.inr rfl, Or.inr rfl, Or.inr rfl, Or.inr rfl, Or.inr rfl, Or.inl rfl, Or.inl rfl, Or.inl rfl, Or.inl rfl, Or.inl rfl, Or.inl rfl, Or.inr rfl, Or.inr rfl, Or.inr rfl, Or.inr rfl, Or.inr rfl, Or.inl rfl, Or.inl rfl, trivial⟩ ?_
    exact ah_395 hc4 hno wa hs hs2 (hl.mv (fun a a1 a2 => (fx4 a (by omega) (by omega)).trans ((fx3 a (by omega) (by omega)).trans ((fx2 a (by omega) (by omega)).trans (fx1 a (by omega) (by omega)))))) gd ht hm9 hop h12 hnn (by omega) (by omega) q
theorem ShA.n {σ : Sp} {a t l B t' l' : Nat} (h : ShA σ a t l) (ha : a ≠ B + nn σ) : ShA (wN σ B t' l') a t l := ⟨(wN_tg_ne ha).trans h.1, (wN_ln_ne ha).trans h.2⟩
set_option maxRecDepth 100000 in
set_option maxHeartbeats 4000000 in
theorem k_ahead {X : Cx} {σ : Sp} {μ : Mm} {Q : Int32 → Sp → Mm → Prop} {κ : Prop} {μ0 : Mm} {o x9 p n m9 : Nat} {hx : Int32} {A : Aw} (hc : CX σ μ o x9 A) (hno : ∀ k, aS A k = none) (wa : WA A) (hs : ShL σ p) (hl : LU κ μ0 p (aB A) μ) (gd : GDn n (aB A)) (ht : WT m9 (aB A)) (hm9 : m9 ≤ 4000) (hn0 : 0 < n) (hop : p = o + 565) (hN : p + 6 ≤ cxB X + nn σ) (q : ∀ σ' μ', CX σ' μ' o x9 A → LU κ μ' p (aB A) μ' → ShL σ' p → nn σ' = nn σ + 6 → Q (nI 1) σ' μ') : CTi X mL_ahead [.ref o, .ref p, .ref (p + 1), .ref (p + 2), .ref (p + 3), .ref (p + 4), .ref (p + 5), .int hx] σ μ Q := by
  refine CT.of (by decide +kernel) (Nat.le_of_ble_eq_true rfl) ?_
  show PW X mL_ahead 6 191 0 [some (.ref o), some (.ref p), some (.ref (p + 1)), some (.ref (p + 2)), some (.ref (p + 3)), some (.ref (p + 4)), some (.ref (p + 5)), some (.int hx), none, none, none, none, none, none, none, none, none, none, none, none, none, none, none, none, none, none, none] [] σ μ (LI Q)
  have h8 := gd.n8
  obtain ⟨p2, hp2⟩ : ∃ p2, p2 = cxB X + nn σ := ⟨_, rfl⟩
  refine pw_bipush (v := nI 64) dL_ahead_0 (by decide) ?_
  refine pw_newaI (N := 64) dL_ahead_2 ta_int (nI_pos (by omega)) (nI_clamp (by omega)) (by omega) (a := p2 + 0) (b1' := 5) (b2' := 127) (by show p2 + 0 = cxB X + (nn σ); omega) (by decide) (by decide) ?_
  refine pw_astore_8 dL_ahead_4 (by decide) ?_
  refine pw_bipush (v := nI 32) dL_ahead_6 (by decide) ?_
  refine pw_newaI (N := 32) dL_ahead_8 ta_int (nI_pos (by omega)) (nI_clamp (by omega)) (by omega) (a := p2 + 1) (b1' := 4) (b2' := 95) (by show p2 + 1 = cxB X + (nn σ + 1); omega) (by decide) (by decide) ?_
  refine pw_astore_9 dL_ahead_10 (by decide) ?_
  refine pw_bipush (v := nI 32) dL_ahead_12 (by decide) ?_
  refine pw_newaI (N := 32) dL_ahead_14 ta_int (nI_pos (by omega)) (nI_clamp (by omega)) (by omega) (a := p2 + 2) (b1' := 3) (b2' := 63) (by show p2 + 2 = cxB X + (nn σ + 1 + 1); omega) (by decide) (by decide) ?_
  refine pw_astore_10 dL_ahead_16 (by decide) ?_
  refine pw_bipush (v := nI 32) dL_ahead_18 (by decide) ?_
  refine pw_newaI (N := 32) dL_ahead_20 ta_int (nI_pos (by omega)) (nI_clamp (by omega)) (by omega) (a := p2 + 3) (b1' := 2) (b2' := 31) (by show p2 + 3 = cxB X + (nn σ + 1 + 1 + 1); omega) (by decide) (by decide) ?_
  refine pw_astore_11 dL_ahead_22 (by decide) ?_
  refine pw_bipush (v := nI 24) dL_ahead_24 (by decide) ?_
  refine pw_newaI (N := 24) dL_ahead_26 ta_int (nI_pos (by omega)) (nI_clamp (by omega)) (by omega) (a := p2 + 4) (b1' := 1) (b2' := 7) (by show p2 + 4 = cxB X + (nn σ + 1 + 1 + 1 + 1); omega) (by decide) (by decide) ?_
  refine pw_astore_12 dL_ahead_28 (by decide) ?_
  refine pw_bipush (v := nI 7) dL_ahead_30 (by decide) ?_
  refine pw_newaI (N := 7) dL_ahead_32 ta_int (nI_pos (by omega)) (nI_clamp (by omega)) (by omega) (a := p2 + 5) (b1' := 0) (b2' := 0) (by show p2 + 5 = cxB X + (nn σ + 1 + 1 + 1 + 1 + 1); omega) (by decide) (by decide) ?_
  refine pw_astore_13 dL_ahead_34 (by decide) ?_
  have old0 : OLD (cxB X + nn σ) σ μ σ μ := OLD.rf
  have old1 := old0.n (B := cxB X) (b := p2 + 0) (t := 11) (l := 64) (f := fun _ => 0) (show p2 + 0 = cxB X + (nn σ) by omega) (by omega)
  have old2 := old1.n (B := cxB X) (b := p2 + 1) (t := 11) (l := 32) (f := fun _ => 0) (show p2 + 1 = cxB X + (nn σ + 1) by omega) (by omega)
  have old3 := old2.n (B := cxB X) (b := p2 + 2) (t := 11) (l := 32) (f := fun _ => 0) (show p2 + 2 = cxB X + (nn σ + 1 + 1) by omega) (by omega)
  have old4 := old3.n (B := cxB X) (b := p2 + 3) (t := 11) (l := 32) (f := fun _ => 0) (show p2 + 3 = cxB X + (nn σ + 1 + 1 + 1) by omega) (by omega)
  have old5 := old4.n (B := cxB X) (b := p2 + 4) (t := 11) (l := 24) (f := fun _ => 0) (show p2 + 4 = cxB X + (nn σ + 1 + 1 + 1 + 1) by omega) (by omega)
  have old6 := old5.n (B := cxB X) (b := p2 + 5) (t := 11) (l := 7) (f := fun _ => 0) (show p2 + 5 = cxB X + (nn σ + 1 + 1 + 1 + 1 + 1) by omega) (by omega)
  have sh0 := (ShA.n (B := cxB X) (t' := 11) (l' := 7) (ShA.n (B := cxB X) (t' := 11) (l' := 24) (ShA.n (B := cxB X) (t' := 11) (l' := 32) (ShA.n (B := cxB X) (t' := 11) (l' := 32) (ShA.n (B := cxB X) (t' := 11) (l' := 32) (⟨wN_tg (show p2 + 0 = cxB X + (nn σ) by omega), wN_ln (show p2 + 0 = cxB X + (nn σ) by omega)⟩ : ShA (wN σ (cxB X) 11 64) (p2 + 0) 11 64) (show p2 + 0 ≠ cxB X + (nn σ + 1) by omega)) (show p2 + 0 ≠ cxB X + (nn σ + 1 + 1) by omega)) (show p2 + 0 ≠ cxB X + (nn σ + 1 + 1 + 1) by omega)) (show p2 + 0 ≠ cxB X + (nn σ + 1 + 1 + 1 + 1) by omega)) (show p2 + 0 ≠ cxB X + (nn σ + 1 + 1 + 1 + 1 + 1) by omega))
  have sh1 := (ShA.n (B := cxB X) (t' := 11) (l' := 7) (ShA.n (B := cxB X) (t' := 11) (l' := 24) (ShA.n (B := cxB X) (t' := 11) (l' := 32) (ShA.n (B := cxB X) (t' := 11) (l' := 32) (⟨wN_tg (show p2 + 1 = cxB X + (nn σ + 1) by omega), wN_ln (show p2 + 1 = cxB X + (nn σ + 1) by omega)⟩ : ShA (wN (wN σ (cxB X) 11 64) (cxB X) 11 32) (p2 + 1) 11 32) (show p2 + 1 ≠ cxB X + (nn σ + 1 + 1) by omega)) (show p2 + 1 ≠ cxB X + (nn σ + 1 + 1 + 1) by omega)) (show p2 + 1 ≠ cxB X + (nn σ + 1 + 1 + 1 + 1) by omega)) (show p2 + 1 ≠ cxB X + (nn σ + 1 + 1 + 1 + 1 + 1) by omega))
  have sh2 := (ShA.n (B := cxB X) (t' := 11) (l' := 7) (ShA.n (B := cxB X) (t' := 11) (l' := 24) (ShA.n (B := cxB X) (t' := 11) (l' := 32) (⟨wN_tg (show p2 + 2 = cxB X + (nn σ + 1 + 1) by omega), wN_ln (show p2 + 2 = cxB X + (nn σ + 1 + 1) by omega)⟩ : ShA (wN (wN (wN σ (cxB X) 11 64) (cxB X) 11 32) (cxB X) 11 32) (p2 + 2) 11 32) (show p2 + 2 ≠ cxB X + (nn σ + 1 + 1 + 1) by omega)) (show p2 + 2 ≠ cxB X + (nn σ + 1 + 1 + 1 + 1) by omega)) (show p2 + 2 ≠ cxB X + (nn σ + 1 + 1 + 1 + 1 + 1) by omega))
  have sh3 := (ShA.n (B := cxB X) (t' := 11) (l' := 7) (ShA.n (B := cxB X) (t' := 11) (l' := 24) (⟨wN_tg (show p2 + 3 = cxB X + (nn σ + 1 + 1 + 1) by omega), wN_ln (show p2 + 3 = cxB X + (nn σ + 1 + 1 + 1) by omega)⟩ : ShA (wN (wN (wN (wN σ (cxB X) 11 64) (cxB X) 11 32) (cxB X) 11 32) (cxB X) 11 32) (p2 + 3) 11 32) (show p2 + 3 ≠ cxB X + (nn σ + 1 + 1 + 1 + 1) by omega)) (show p2 + 3 ≠ cxB X + (nn σ + 1 + 1 + 1 + 1 + 1) by omega))
  have sh4 := (ShA.n (B := cxB X) (t' := 11) (l' := 7) (⟨wN_tg (show p2 + 4 = cxB X + (nn σ + 1 + 1 + 1 + 1) by omega), wN_ln (show p2 + 4 = cxB X + (nn σ + 1 + 1 + 1 + 1) by omega)⟩ : ShA (wN (wN (wN (wN (wN σ (cxB X) 11 64) (cxB X) 11 32) (cxB X) 11 32) (cxB X) 11 32) (cxB X) 11 24) (p2 + 4) 11 24) (show p2 + 4 ≠ cxB X + (nn σ + 1 + 1 + 1 + 1 + 1) by omega))
  have sh5 := (⟨wN_tg (show p2 + 5 = cxB X + (nn σ + 1 + 1 + 1 + 1 + 1) by omega), wN_ln (show p2 + 5 = cxB X + (nn σ + 1 + 1 + 1 + 1 + 1) by omega)⟩ : ShA (wN (wN (wN (wN (wN (wN σ (cxB X) 11 64) (cxB X) 11 32) (cxB X) 11 32) (cxB X) 11 32) (cxB X) 11 24) (cxB X) 11 7) (p2 + 5) 11 7)
  have hs2 : ShL (wN (wN (wN (wN (wN (wN σ (cxB X) 11 64) (cxB X) 11 32) (cxB X) 11 32) (cxB X) 11 32) (cxB X) 11 24) (cxB X) 11 7) p2 := ⟨sh0, sh1, sh2, sh3, sh4, sh5⟩
  have nn6 : nn (wN (wN (wN (wN (wN (wN σ (cxB X) 11 64) (cxB X) 11 32) (cxB X) 11 32) (cxB X) 11 32) (cxB X) 11 24) (cxB X) 11 7) = nn σ + 6 := rfl
  have hs6 := hs.o old6 hN
  have hc6 := hc.o hno old6 (show o + 565 ≤ cxB X + nn σ by omega)
  have hl6 := hl.o old6 hN
  clear sh0 sh1 sh2 sh3 sh4 sh5 old0 old1 old2 old3 old4 old5 old6 hc hl hs
  revert hs2 nn6 hs6 hc6 hl6
  generalize (wN (wN (wN (wN (wN (wN σ (cxB X) 11 64) (cxB X) 11 32) (cxB X) 11 32) (cxB X) 11 32) (cxB X) 11 24) (cxB X) 11 7) = σ6
  generalize (wC (wC (wC (wC (wC (wC μ (p2 + 0) (fun _ => 0)) (p2 + 1) (fun _ => 0)) (p2 + 2) (fun _ => 0)) (p2 + 3) (fun _ => 0)) (p2 + 4) (fun _ => 0)) (p2 + 5) (fun _ => 0)) = μ6
  intro hs2 nn6 hs hc hl
  refine pw_fg (ls' := [some (.ref o), some (.ref p), some (.ref (p + 1)), some (.ref (p + 2)), some (.ref (p + 3)), some (.ref (p + 4)), some (.ref (p + 5)), some (.int hx), some (.ref p2), some (.ref (p2 + 1)), some (.ref (p2 + 2)), some (.ref (p2 + 3)), some (.ref (p2 + 4)), some (.ref (p2 + 5)), none, none, none, none, none, none, none, none, none, none, none, none, none]) ⟨Or.inr rfl, Or.inr rfl, Or.inr rfl, Or.inr rfl, Or.inr rfl, Or.inr rfl, Or.inr rfl, Or.inr rfl, Or.inr rfl, Or.inr rfl, Or.inr rfl, Or.inr rfl, Or.inr rfl, Or.inr rfl, Or.inl rfl, Or.inl rfl, Or.inl rfl, Or.inl rfl, Or.inl rfl, Or.inl rfl, Or.inl rfl, Or.inl rfl, Or.inl rfl, Or.inl rfl, Or.inl rfl, Or.inl rfl, Or.inl rfl, trivial⟩ ?_
  refine pw_iload_7 dL_ahead_36 ?_
  refine pw_aload_6 dL_ahead_38 ?_
  refine pw_bipush (v := nI 6) dL_ahead_40 (by decide) ?_
  refine pw_ialdN dL_ahead_42 hs.t (by omega) (by decide) ?_
  refine pw_top ((hl.t (by omega)).trans gd.g6) ?_
  refine pw_cS2i dL_ahead_43 kL_59 vL_low sL_low ⟨by decide, by decide⟩ ⟨rfl, rfl⟩ (Nat.le_of_ble_eq_true rfl) (c_low hn0 (by omega) (fun i hi => ?_))
  refine pw_istore_14 dL_ahead_46 (by decide) ?_
  refine pw_aload_1 dL_ahead_48 ?_
  refine pw_aload_8 dL_ahead_49 ?_
  refine pw_cS2v dL_ahead_51 kL_62 vL_copy sL_copy ⟨by decide, by decide⟩ ⟨rfl, rfl⟩ (Nat.le_of_ble_eq_true rfl) (c_copy hs.a hs2.a (by omega) (by decide) (fun f0 ef0 => ?_))
  refine pw_aload_2 dL_ahead_54 ?_
  refine pw_aload_9 dL_ahead_55 ?_
  refine pw_cS2v dL_ahead_57 kL_62 vL_copy sL_copy ⟨by decide, by decide⟩ ⟨rfl, rfl⟩ (Nat.le_of_ble_eq_true rfl) (c_copy hs.b hs2.b (by omega) (by decide) (fun f1 ef1 => ?_))
  refine pw_aload_3 dL_ahead_60 ?_
  refine pw_aload_10 dL_ahead_61 ?_
  refine pw_cS2v dL_ahead_63 kL_62 vL_copy sL_copy ⟨by decide, by decide⟩ ⟨rfl, rfl⟩ (Nat.le_of_ble_eq_true rfl) (c_copy hs.q hs2.q (by omega) (by decide) (fun f2 ef2 => ?_))
  refine pw_aload_4 dL_ahead_66 ?_
  refine pw_aload_11 dL_ahead_68 ?_
  refine pw_cS2v dL_ahead_70 kL_62 vL_copy sL_copy ⟨by decide, by decide⟩ ⟨rfl, rfl⟩ (Nat.le_of_ble_eq_true rfl) (c_copy hs.k hs2.k (by omega) (by decide) (fun f3 ef3 => ?_))
  refine pw_aload_5 dL_ahead_73 ?_
  refine pw_aload_12 dL_ahead_75 ?_
  refine pw_cS2v dL_ahead_77 kL_62 vL_copy sL_copy ⟨by decide, by decide⟩ ⟨rfl, rfl⟩ (Nat.le_of_ble_eq_true rfl) (c_copy hs.w hs2.w (by omega) (by decide) (fun f4 ef4 => ?_))
  refine pw_aload_6 dL_ahead_80 ?_
  refine pw_aload_13 dL_ahead_82 ?_
  refine pw_cS2v dL_ahead_84 kL_62 vL_copy sL_copy ⟨by decide, by decide⟩ ⟨rfl, rfl⟩ (Nat.le_of_ble_eq_true rfl) (c_copy hs.t hs2.t (by omega) (by decide) (fun f5 ef5 => ?_))
  refine pw_bipush (v := -6) dL_ahead_87 (by decide) ?_
  refine pw_istore_15 dL_ahead_89 (by decide) ?_
  refine pw_bipush (v := -6) dL_ahead_91 (by decide) ?_
  refine pw_istore_16 dL_ahead_93 (by decide) ?_
  refine pw_bipush (v := -6) dL_ahead_95 (by decide) ?_
  refine pw_istore_17 dL_ahead_97 (by decide) ?_
  refine pw_bipush (v := -6) dL_ahead_99 (by decide) ?_
  refine pw_istore_18 dL_ahead_101 (by decide) ?_
  refine pw_iconst (v := nI 0) dL_ahead_103 (by decide) ?_
  refine pw_istore_19 dL_ahead_104 (by decide) ?_
  have h9 : LU κ (wC (wC (wC (wC (wC (wC μ6 (p2) f0) (p2 + 1) f1) (p2 + 2) f2) (p2 + 3) f3) (p2 + 4) f4) (p2 + 5) f5) p2 (aB A) (wC (wC (wC (wC (wC (wC μ6 (p2) f0) (p2 + 1) f1) (p2 + 2) f2) (p2 + 3) f3) (p2 + 4) f4) (p2 + 5) f5) := by
    refine hl.cpy (κ' := κ) id (fun j hj => ?_) (fun j hj => ?_) (fun j hj => ?_) (fun _ j hj => ?_) (fun j hj => ?_) (fun j hj => ?_)
    · simp (disch := omega) only [wC_self, wC_ne]
      have h96 := ef0 j hj
      try simp (disch := omega) only [wC_self, wC_ne] at h96
      exact h96
    · simp (disch := omega) only [wC_self, wC_ne]
      have h96 := ef1 j hj
      try simp (disch := omega) only [wC_self, wC_ne] at h96
      exact h96
    · simp (disch := omega) only [wC_self, wC_ne]
      have h96 := ef2 j hj
      try simp (disch := omega) only [wC_self, wC_ne] at h96
      exact h96
    · simp (disch := omega) only [wC_self, wC_ne]
      have h96 := ef3 j hj
      try simp (disch := omega) only [wC_self, wC_ne] at h96
      exact h96
    · simp (disch := omega) only [wC_self, wC_ne]
      have h96 := ef4 j hj
      try simp (disch := omega) only [wC_self, wC_ne] at h96
      exact h96
    · simp (disch := omega) only [wC_self, wC_ne]
      have h96 := ef5 j hj
      try simp (disch := omega) only [wC_self, wC_ne] at h96
      exact h96
  have h8p : ∀ a, a < p2 → (wC (wC (wC (wC (wC (wC μ6 (p2) f0) (p2 + 1) f1) (p2 + 2) f2) (p2 + 3) f3) (p2 + 4) f4) (p2 + 5) f5) a = μ6 a := fun a ha => by rw [wC_ne _ _ (by omega), wC_ne _ _ (by omega), wC_ne _ _ (by omega), wC_ne _ _ (by omega), wC_ne _ _ (by omega), wC_ne _ _ (by omega)]
  revert h9 h8p
  generalize (wC (wC (wC (wC (wC (wC μ6 (p2) f0) (p2 + 1) f1) (p2 + 2) f2) (p2 + 3) f3) (p2 + 4) f4) (p2 + 5) f5) = ν0
  intro h9 h8p
  have hlp : LU κ ν0 p (aB A) ν0 := hl.mv (fun a a1 a2 => h8p a (by omega))
  refine pw_fg (ls' := [some (.ref o), some (.ref p), some (.ref (p + 1)), some (.ref (p + 2)), some (.ref (p + 3)), some (.ref (p + 4)), some (.ref (p + 5)), some (.int hx), some (.ref p2), some (.ref (p2 + 1)), some (.ref (p2 + 2)), some (.ref (p2 + 3)), some (.ref (p2 + 4)), some (.ref (p2 + 5)), some (.int (nI i)), some (.int ((-6))), some (.int ((-6))), some (.int ((-6))), some (.int ((-6))), some (.int (nI 0)), none, none, none, none, none, none, none]) ⟨Or.inr rfl, Or.inr rfl, Or.inr rfl, Or.inr rfl, Or.inr rfl, Or.inr rfl, Or.inr rfl, Or.inr rfl, Or.inr rfl, Or.inr rfl, Or.inr rfl, Or.inr rfl, Or.inr rfl, Or.inr rfl, Or.inr rfl, Or.inr rfl, Or.inr rfl, Or.inr rfl, Or.inr rfl, Or.inr rfl, Or.inl rfl, Or.inl rfl, Or.inl rfl, Or.inl rfl, Or.inl rfl, Or.inl rfl, Or.inl rfl, trivial⟩ ?_
  refine ah_103 (o := o) hs hs2 h9 hlp (by omega) gd ht hm9 hi (fun e hw qv sv ν fz he hqu hsl => ?_)
  exact ah_284 (hc.mv hno (fun a ha => (fz a (by omega)).trans (h8p a (by omega)))) hno wa hs hs2 (hlp.mv (fun a a1 a2 => fz a (by omega))) gd ht hm9 hop (by omega) nn6 hi he hqu hsl q
