/-! The law's tells, whole -/
theorem LU.mv {κ : Prop} {μ0 μ ν : Mm} {p : Nat} {B : Bs} (h : LU κ μ0 p B μ) (e : ∀ a, p ≤ a → a < p + 6 → ν a = μ a) : LU κ ν p B ν := by
  obtain ⟨-, ha, hb, hq, hk, hw, ht⟩ := h
  exact ⟨fun _ _ => rfl, fun i hi c hc => by rw [e p (by omega) (by omega)]; exact ha i hi c hc, fun i hi c hc => by rw [e (p + 1) (by omega) (by omega)]; exact hb i hi c hc, fun i hi r h4 hr => by rw [e (p + 2) (by omega) (by omega)]; exact hq i hi r h4 hr, fun kk i hi r h4 hr => by rw [e (p + 3) (by omega) (by omega)]; exact hk kk i hi r h4 hr, fun v hv k hk => by rw [e (p + 4) (by omega) (by omega)]; exact hw v hv k hk, fun k hk => by rw [e (p + 5) (by omega) (by omega)]; exact ht k hk⟩
theorem ShA.o {σ σ' : Sp} {μ μ' : Mm} {a t l b : Nat} (h : ShA σ a t l) (o : OLD b σ μ σ' μ') (hb : a < b) : ShA σ' a t l := ⟨(o a hb).1.1.trans h.1, (o a hb).1.2.1.trans h.2⟩
theorem ShL.o {σ σ' : Sp} {μ μ' : Mm} {p b : Nat} (h : ShL σ p) (o : OLD b σ μ σ' μ') (hb : p + 6 ≤ b) : ShL σ' p := ⟨h.a.o o (by omega), h.b.o o (by omega), h.q.o o (by omega), h.k.o o (by omega), h.w.o o (by omega), h.t.o o (by omega)⟩
theorem LU.o {κ : Prop} {σ σ' : Sp} {μ0 μ μ' : Mm} {p b : Nat} {B : Bs} (h : LU κ μ0 p B μ) (o : OLD b σ μ σ' μ') (hb : p + 6 ≤ b) : LU κ μ' p B μ' := h.mv (fun a _ a2 => (o a (by omega)).2)
set_option maxRecDepth 100000 in
set_option maxHeartbeats 4000000 in
theorem k_tells {X : Cx} {σ : Sp} {μ : Mm} {Q : Int32 → Sp → Mm → Prop} {κ : Prop} {μ0 : Mm} {o x9 p n : Nat} {A : Aw} (hc : CX σ μ o x9 A) (hno : ∀ k, aS A k = none) (wa : WA A) (hs : ShL σ p) (hl : LU κ μ0 p (aB A) μ) (kk : κ) (gd : GDn n (aB A)) (hop : o + 565 ≤ p) (hN : p + 6 ≤ cxB X + nn σ) (q : ∀ σ' μ', OLD (cxB X + nn σ) σ μ σ' μ' → nn σ' = nn σ + 1 → Q (nI 1) σ' μ') : CTi X mL_tells [.ref o, .ref p, .ref (p + 1), .ref (p + 2), .ref (p + 3), .ref (p + 4), .ref (p + 5)] σ μ Q := by
  refine CT.of (by decide +kernel) (Nat.le_of_ble_eq_true rfl) ?_
  show PW X mL_tells 1 10 0 [some (.ref o), some (.ref p), some (.ref (p + 1)), some (.ref (p + 2)), some (.ref (p + 3)), some (.ref (p + 4)), some (.ref (p + 5)), none, none, none, none, none, none, none, none, none] [] σ μ (LI Q)
  have h8 := gd.n8
  refine pw_bipush (v := nI 10) dL_tells_0 (by decide) ?_
  refine pw_newaI (N := 10) dL_tells_2 ta_int (nI_pos (by omega)) (nI_clamp (by omega)) (by omega) (a := cxB X + nn σ) (b1' := 0) (b2' := 0) rfl (by decide) (by decide) ?_
  obtain ⟨s9, hs9⟩ : ∃ s9, s9 = cxB X + nn σ := ⟨_, rfl⟩
  rw [← hs9]
  have old : ∀ f, OLD (cxB X + nn σ) σ μ (wN σ (cxB X) 11 10) (wC μ s9 f) := fun f => OLD.rf.n hs9 (by omega)
  have nn1 : nn (wN σ (cxB X) 11 10) = nn σ + 1 := rfl
  have hsm : ShA (wN σ (cxB X) 11 10) s9 11 10 := ⟨wN_tg hs9, wN_ln hs9⟩
  have hs1 := hs.o (old (fun _ => 0)) hN
  have hcf : ∀ f, CX (wN σ (cxB X) 11 10) (wC μ s9 f) o x9 A := fun f => hc.o hno (old f) (by omega)
  have hlf : ∀ f, LU κ (wC μ s9 f) p (aB A) (wC μ s9 f) := fun f => hl.o (old f) hN
  clear hs hl hc
  revert nn1 hsm hs1 hcf hlf old
  generalize wN σ (cxB X) 11 10 = σ1
  intro old nn1 hsm hs1 hcf hlf
  refine pw_astore_7 dL_tells_4 (by decide) ?_
  refine pw_bipush (v := -6) dL_tells_6 (by decide) ?_
  refine pw_istore_8 dL_tells_8 (by decide) ?_
  refine pw_iconst (v := nI 0) dL_tells_10 (by decide) ?_
  refine pw_istore_9 dL_tells_11 (by decide) ?_
  refine pw_iconst (v := nI 0) dL_tells_13 (by decide) ?_
  refine pw_istore_10 dL_tells_14 (by decide) ?_
  refine pw_fg (ls' := [some (.ref o), some (.ref p), some (.ref (p + 1)), some (.ref (p + 2)), some (.ref (p + 3)), some (.ref (p + 4)), some (.ref (p + 5)), some (.ref s9), some (.int ((itr (buS (aB A)) 0 (-6, 0)).1)), some (.int (nI ((itr (buS (aB A)) 0 (-6, 0)).2))), some (.int (nI 0)), none, none, none, none, none]) ⟨Or.inr rfl, Or.inr rfl, Or.inr rfl, Or.inr rfl, Or.inr rfl, Or.inr rfl, Or.inr rfl, Or.inr rfl, Or.inr rfl, Or.inr rfl, Or.inr rfl, Or.inl rfl, Or.inl rfl, Or.inl rfl, Or.inl rfl, Or.inl rfl, trivial⟩ ?_
  refine pw_up (P := fun x => ∀ f, (f 8 = msk (fun v => bW (aB A) v 1 = nI 1) (x) ∧ ∀ k, k ≠ 8 → f k = 0) → PW X mL_tells 0 0 16 [some (.ref o), some (.ref p), some (.ref (p + 1)), some (.ref (p + 2)), some (.ref (p + 3)), some (.ref (p + 4)), some (.ref (p + 5)), some (.ref s9), some (.int ((itr (buS (aB A)) x (-6, 0)).1)), some (.int (nI ((itr (buS (aB A)) x (-6, 0)).2))), some (.int (nI x)), none, none, none, none, none] [] σ1 (wC μ s9 f) (LI Q)) 6 ?_ ?_ 0 (Nat.zero_le _) _ ⟨(msk_0 (fun _ h95 => absurd h95 (Nat.not_lt_zero _))).symm, fun _ _ => rfl⟩
  · intro f hf
    refine pw_iload_10 dL_tells_16 ?_
    refine pw_bipush (v := nI 6) dL_tells_18 (by decide) ?_
    refine pw_icmp_ge 320 dL_tells_20 (by decide) (fun _ => ?_) (fun hh => absurd (by decide) hh)
    exact te_sum hcf wa hs1 hlf kk gd hsm hf (fun g hg => te_end hcf wa hs1 hlf kk gd hsm hg (q _ _ (old g) nn1))
  · intro x hx ih f hf
    have hP := lt_bu gd x
    have ih2 : ∀ g, (g 8 = msk (fun v => bW (aB A) v 1 = nI 1) (x + 1) ∧ ∀ k, k ≠ 8 → g k = 0) → PW X mL_tells 0 0 16 [some (.ref o), some (.ref p), some (.ref (p + 1)), some (.ref (p + 2)), some (.ref (p + 3)), some (.ref (p + 4)), some (.ref (p + 5)), some (.ref s9), some (.int ((buS (aB A) x (itr (buS (aB A)) x (-6, 0))).1)), some (.int (nI ((buS (aB A) x (itr (buS (aB A)) x (-6, 0))).2))), some (.int (nI (x + 1))), none, none, none, none, none] [] σ1 (wC μ s9 g) (LI Q) := ih
    clear ih
    generalize itr (buS (aB A)) x (-6, 0) = Pr at ih2 hP
    refine pw_iload_10 dL_tells_16 ?_
    refine pw_bipush (v := nI 6) dL_tells_18 (by decide) ?_
    refine pw_icmp_ge 320 dL_tells_20 (by decide) (fun hh => absurd hh (by rw [nI_leI (by omega) (by omega)]; omega)) (fun _ => ?_)
    exact te_in (o := o) hs1 (hlf f) gd hx (te_ow hcf wa hs1 hlf kk gd hsm hx hP hf ih2)
