/-! Texts: fault and wipe of the face -/
theorem CX.rd {σ : Sp} {μ ν : Mm} {o x : Nat} {A : Aw} (h : CX σ μ o x A) (k : RX (o + 562) μ ν) : CX σ ν o x A ∧ FX μ o ν := by
  obtain ⟨c1, c2, c3, c4, c5, c6⟩ := h
  exact ⟨⟨c1, c2.at fun a a1 a2 => k a (by omega), c3.at fun a a1 a2 => k a (by omega), c4.at fun a a1 a2 => k a (by omega), c5.at fun a a1 => k a (by omega), PD.fr (p := o + 562) c6 k⟩, fun a a1 a2 => k a (by omega)⟩
theorem CX.pd {σ : Sp} {μ ν : Mm} {o x : Nat} {A : Aw} {P : Pd} (h : CX σ μ o x A) (k : ∀ a, a ≠ o + 562 → a ≠ o + 563 → ν a = μ a) (hp : PD ν (o + 562) P) : CX σ ν o x (aB A, aH A, aS A, P) ∧ FX μ o ν := by
  obtain ⟨c1, c2, c3, c4, c5, c6⟩ := h
  exact ⟨⟨c1, c2.at fun a a1 a2 => k a (by omega) (by omega), c3.at fun a a1 a2 => k a (by omega) (by omega), c4.at fun a a1 a2 => k a (by omega) (by omega), c5.at fun a a1 => k a (by omega) (by omega), hp⟩, fun a a1 a2 => k a (by omega) (by omega)⟩
set_option maxRecDepth 100000 in
set_option maxHeartbeats 4000000 in
theorem kf_fault {X : Cx} {σ : Sp} {μ : Mm} {Q : Int32 → Sp → Mm → Prop} {o x : Nat} {A : Aw} (hc : CX σ μ o x A) (wa : WA A) (q : ∀ μ', CX σ μ' o x A → FX μ o μ' → Q (flG (aP A) 80 0) σ μ') : CTi X mX7_fault [.ref o] σ μ Q := by
  refine CT.of (by decide +kernel) (Nat.le_of_ble_eq_true rfl) ?_
  show PW X mX7_fault 0 0 0 [some (.ref o)] [] σ μ (LI Q)
  have wf := wa.1.1
  have h8 := wf.n8
  have hb : BU μ (o + 1) (aB A) μ := hc.2.1
  have h : ShBus σ (o + 1) := hc.1.now
  refine pw_aload_0 dX7_fault_0 ?_
  refine pw_getr 7 5 dX7_fault_1 fX7_42 rfl (by decide) rfl hc.1.t hc.1.r5 ?_
  refine pw_cV0i 4 dX7_fault_4 kX7_209 vX4_findFault iX4_findFault ⟨by decide, by decide⟩ ⟨rfl, rfl⟩ (by decide) rfl (Nat.le_of_ble_eq_true rfl) hc.1.rd.t (k_findFault (p := o + 562) hc.1.rd hc.2.2.2.2.2 RX.rf (fun μ9 rx9 => ?_))
  refine pw_ireturn dX7_fault_7 rfl ?_
  have k9 := hc.rd rx9
  exact q _ k9.1 k9.2
set_option maxRecDepth 100000 in
set_option maxHeartbeats 4000000 in
theorem kf_wipe {X : Cx} {σ : Sp} {μ : Mm} {Q : Int32 → Sp → Mm → Prop} {o x : Nat} {A : Aw} (hc : CX σ μ o x A) (q : ∀ μ', CX σ μ' o x (aB A, aH A, aS A, ((aP A).1, 0)) → FX μ o μ' → Q (nI (aP A).2) σ μ') : CTi X mX7_wipe [.ref o] σ μ Q := by
  refine CT.of (by decide +kernel) (Nat.le_of_ble_eq_true rfl) ?_
  show PW X mX7_wipe 0 0 0 [some (.ref o)] [] σ μ (LI Q)
  refine pw_aload_0 dX7_wipe_0 ?_
  refine pw_getr 7 4 dX7_wipe_1 fX7_33 rfl (by decide) rfl hc.1.t hc.1.r4 ?_
  refine pw_cV0i 3 dX7_wipe_4 kX7_206 vX3_clear iX3_clear ⟨by decide, by decide⟩ ⟨rfl, rfl⟩ (by decide) rfl (Nat.le_of_ble_eq_true rfl) hc.1.pad.t (k_clear (p := o + 562) hc.1.pad ?_)
  refine pw_ireturn dX7_wipe_7 rfl ?_
  have k9 := hc.pd (ν := wr μ (o + 562) 1 (nI 0)) (P := ((aP A).1, 0)) (fun a a1 a2 => wr_n _ _ _ a1) ⟨rdS, Nat.zero_le _, fun j hj => absurd hj (Nat.not_lt_zero j)⟩
  rw [show μ (o + 562) 1 = nI (aP A).2 from hc.2.2.2.2.2.1]
  exact q _ k9.1 k9.2
