/-! The class as a whole -/
def HX (μ : Mm) (hh x : Nat) (H : (Nat → Bs) × Nat) : Prop := μ hh 1 = nI x ∧ x < 7 ∧ μ hh 2 = nI H.2 ∧ H.2 ≤ 6 ∧ (∀ j, j < 7 → NU μ (hb hh j)) ∧ ∀ k, k < H.2 → BU μ (hb hh ((x + 7 - H.2 + k) % 7)) (H.1 k) μ
theorem hb_in {hh j : Nat} (hj : j < 7) : hh + 2 ≤ hb hh j ∧ hb hh j + 62 ≤ hh + 436 := by
  unfold hb
  omega
theorem hb_ne {hh i j : Nat} (h : i ≠ j) : hb hh i + 62 ≤ hb hh j ∨ hb hh j + 62 ≤ hb hh i := by
  unfold hb
  rcases Nat.lt_or_gt_of_ne h with h | h <;> omega
theorem HX.at {μ μ' : Mm} {hh x : Nat} {H : (Nat → Bs) × Nat} (h : HX μ hh x H) (e : ∀ a, hh ≤ a → a < hh + 436 → μ' a = μ a) : HX μ' hh x H := by
  obtain ⟨h1, h2, h3, h4, h5, h6⟩ := h
  refine ⟨by rw [e hh (by omega) (by omega)]; exact h1, h2, by rw [e hh (by omega) (by omega)]; exact h3, h4, fun j hj => (h5 j hj).at fun a a1 a2 => ?_, fun k hk => (h6 k hk).at fun a a1 a2 => ?_⟩
  · have := hb_in (hh := hh) hj
    exact e a (by omega) (by omega)
  · have := hb_in (hh := hh) (show (x + 7 - H.2 + k) % 7 < 7 by omega)
    exact e a (by omega) (by omega)
/-- the place that waits has another state -/
theorem HX.wait {μ μ' : Mm} {hh x : Nat} {H : (Nat → Bs) × Nat} {B : Bs} (h : HX μ hh x H) (hB : BU μ' (hb hh x) B μ') (e : ∀ a, hh ≤ a → a < hh + 436 → (a < hb hh x ∨ hb hh x + 62 ≤ a) → μ' a = μ a) : HX μ' hh x H := by
  obtain ⟨h1, h2, h3, h4, h5, h6⟩ := h
  have e0 := e hh (by omega) (by omega) (Or.inl (by have := hb_in (hh := hh) h2; omega))
  refine ⟨by rw [e0]; exact h1, h2, by rw [e0]; exact h3, h4, fun j hj => ?_, fun k hk => (h6 k hk).at fun a a1 a2 => ?_⟩
  · by_cases ej : j = x
    · subst ej
      exact hB.nu
    · refine (h5 j hj).at fun a a1 a2 => ?_
      have := hb_in (hh := hh) hj
      have := hb_ne (hh := hh) ej
      exact e a (by omega) (by omega) (by omega)
  · have := hb_in (hh := hh) (show (x + 7 - H.2 + k) % 7 < 7 by omega)
    have := hb_ne (hh := hh) (show (x + 7 - H.2 + k) % 7 ≠ x by omega)
    exact e a (by omega) (by omega) (by omega)
theorem HX.push {μ μ' : Mm} {hh x : Nat} {H : (Nat → Bs) × Nat} {B : Bs} (h : HX μ hh x H) (hB : BU μ' (hb hh x) B μ') (e : ∀ a, hh < a → a < hh + 436 → (a < hb hh x ∨ hb hh x + 62 ≤ a) → μ' a = μ a) (e1 : μ' hh 1 = nI (if x < 6 then x + 1 else 0)) (e2 : μ' hh 2 = nI (if H.2 < 6 then H.2 + 1 else 6)) : HX μ' hh (if x < 6 then x + 1 else 0) (pushH H B) := by
  obtain ⟨h1, h2, h3, h4, h5, h6⟩ := h
  have hN : ∀ j, j < 7 → NU μ' (hb hh j) := fun j hj => by
    by_cases ej : j = x
    · subst ej
      exact hB.nu
    · refine (h5 j hj).at fun a a1 a2 => ?_
      have := hb_in (hh := hh) hj
      have := hb_ne (hh := hh) ej
      exact e a (by omega) (by omega) (by omega)
  have hO : ∀ k, k < H.2 → BU μ' (hb hh ((x + 7 - H.2 + k) % 7)) (H.1 k) μ' := fun k hk => (h6 k hk).at fun a a1 a2 => by
    have := hb_in (hh := hh) (show (x + 7 - H.2 + k) % 7 < 7 by omega)
    have := hb_ne (hh := hh) (show (x + 7 - H.2 + k) % 7 ≠ x by omega)
    exact e a (by omega) (by omega) (by omega)
  unfold pushH
  by_cases q6 : H.2 = 6
  · rw [if_pos q6]
    rw [if_neg (by omega)] at e2
    refine ⟨e1, by split <;> omega, e2, Nat.le_refl 6, hN, fun k hk => ?_⟩
    have hk' : k < 6 := hk
    show BU μ' (hb hh (((if x < 6 then x + 1 else 0) + 7 - 6 + k) % 7)) (if k = 5 then B else H.1 (k + 1)) μ'
    by_cases e5 : k = 5
    · subst e5
      rw [if_pos rfl, show ((if x < 6 then x + 1 else 0) + 7 - 6 + 5) % 7 = x by split <;> omega]
      exact hB
    · rw [if_neg e5, show ((if x < 6 then x + 1 else 0) + 7 - 6 + k) % 7 = (x + 7 - H.2 + (k + 1)) % 7 by split <;> omega]
      exact hO (k + 1) (by omega)
  · rw [if_neg q6]
    rw [if_pos (by omega)] at e2
    refine ⟨e1, by split <;> omega, e2, by show H.2 + 1 ≤ 6; omega, hN, fun k hk => ?_⟩
    have hk' : k < H.2 + 1 := hk
    show BU μ' (hb hh (((if x < 6 then x + 1 else 0) + 7 - (H.2 + 1) + k) % 7)) (if k = H.2 then B else H.1 k) μ'
    by_cases e5 : k = H.2
    · subst e5
      rw [if_pos rfl, show ((if x < 6 then x + 1 else 0) + 7 - (H.2 + 1) + H.2) % 7 = x by split <;> omega]
      exact hB
    · rw [if_neg e5, show ((if x < 6 then x + 1 else 0) + 7 - (H.2 + 1) + k) % 7 = (x + 7 - H.2 + k) % 7 by split <;> omega]
      exact hO k (by omega)
/-- slots, pad -/
def SLX (σ : Sp) (μ : Mm) (o : Nat) (S : Nat → Option Bs) : Prop := (∀ k, k < 2 → S k = none → rf σ (o + 561) k = none) ∧ (∀ k C, k < 2 → S k = some C → ∃ a, rf σ (o + 561) k = some a ∧ o + 574 ≤ a ∧ ShBus σ a ∧ BU μ a C μ) ∧ ∀ a c, rf σ (o + 561) 0 = some a → rf σ (o + 561) 1 = some c → a + 62 ≤ c ∨ c + 62 ≤ a
def CPd (μ : Mm) (o : Nat) (P : (Nat → Int32) × Nat) : Prop := μ (o + 562) 1 = nI P.2 ∧ P.2 ≤ 80 ∧ ∀ j, j < P.2 → μ (o + 563) j = P.1 j
def CX (σ : Sp) (μ : Mm) (o x : Nat) (A : Aw) : Prop := ShX σ o ∧ BU μ (o + 1) (aB A) μ ∧ NU μ (o + 63) ∧ HX μ (o + 125) x (aH A) ∧ SLX σ μ o (aS A) ∧ CPd μ o (aP A)
def FX (μ : Mm) (o : Nat) (μ' : Mm) : Prop := ∀ a, o + 565 ≤ a → a < o + 574 → μ' a = μ a
theorem SLX.at {σ : Sp} {μ μ' : Mm} {o : Nat} {S : Nat → Option Bs} (h : SLX σ μ o S) (e : ∀ a, o + 574 ≤ a → μ' a = μ a) : SLX σ μ' o S := by
  refine ⟨h.1, fun k C hk hS => ?_, h.2.2⟩
  obtain ⟨a, h1, h2, h3, h4⟩ := h.2.1 k C hk hS
  exact ⟨a, h1, h2, h3, h4.at fun c c1 c2 => e c (by omega)⟩
theorem CPd.at {μ μ' : Mm} {o : Nat} {P : (Nat → Int32) × Nat} (h : CPd μ o P) (e : ∀ a, o + 562 ≤ a → a < o + 564 → μ' a = μ a) : CPd μ' o P :=
  ⟨by rw [e _ (by omega) (by omega)]; exact h.1, h.2.1, by rw [e _ (by omega) (by omega)]; exact h.2.2⟩
theorem CX.shm {σ : Sp} {μ : Mm} {o x : Nat} {A : Aw} (h : CX σ μ o x A) : ShX σ o := h.1
/-- a change of now behind prepare: with an error, without one -/
theorem CX.opE {σ : Sp} {μ μ1 μ2 : Mm} {o x : Nat} {A : Aw} (h : CX σ μ o x A) (h1 : BU μ (hb (o + 125) x) (aB A) μ1) (h2 : BU μ1 (o + 1) (aB A) μ2) : CX σ μ2 o x A ∧ FX μ o μ2 := by
  obtain ⟨c1, c2, c3, c4, c5, c6⟩ := h
  have hin := hb_in (hh := o + 125) c4.2.1
  have f : ∀ a, (a < o + 1 ∨ o + 63 ≤ a) → (a < hb (o + 125) x ∨ hb (o + 125) x + 62 ≤ a) → μ2 a = μ a := fun a a1 a2 => (h2.1 a (by omega)).trans (h1.1 a a2)
  refine ⟨⟨c1, h2.self.at (fun a _ _ => rfl), c3.at fun a a1 a2 => f a (by omega) (by omega), c4.wait ((h1.self).at fun a a1 a2 => h2.1 a (by omega)) fun a a1 a2 a3 => f a (by omega) a3, c5.at fun a a1 => f a (by omega) (by omega), c6.at fun a a1 a2 => f a (by omega) (by omega)⟩, fun a a1 a2 => f a (by omega) (by omega)⟩
theorem CX.opO {σ : Sp} {μ μ1 μ2 μ3 : Mm} {o x : Nat} {A : Aw} {B' : Bs} (h : CX σ μ o x A) (h1 : BU μ (hb (o + 125) x) (aB A) μ1) (h2 : BU μ1 (o + 1) B' μ2) (e3 : ∀ a, a ≠ o + 125 → μ3 a = μ2 a) (e1 : μ3 (o + 125) 1 = nI (if x < 6 then x + 1 else 0)) (e2 : μ3 (o + 125) 2 = nI (if (aH A).2 < 6 then (aH A).2 + 1 else 6)) : CX σ μ3 o (if x < 6 then x + 1 else 0) (B', pushH (aH A) (aB A), aS A, aP A) ∧ FX μ o μ3 := by
  obtain ⟨c1, c2, c3, c4, c5, c6⟩ := h
  have hin := hb_in (hh := o + 125) c4.2.1
  have f : ∀ a, a ≠ o + 125 → (a < o + 1 ∨ o + 63 ≤ a) → (a < hb (o + 125) x ∨ hb (o + 125) x + 62 ≤ a) → μ3 a = μ a := fun a a0 a1 a2 => (e3 a a0).trans ((h2.1 a (by omega)).trans (h1.1 a a2))
  refine ⟨⟨c1, h2.self.at fun a _ _ => e3 a (by omega), c3.at fun a a1 a2 => f a (by omega) (by omega) (by omega), c4.push ((h1.self).at fun a a1 a2 => (e3 a (by omega)).trans (h2.1 a (by omega))) (fun a a1 a2 a3 => f a (by omega) (by omega) a3) e1 e2, c5.at fun a a1 => f a (by omega) (by omega) (by omega), c6.at fun a a1 a2 => f a (by omega) (by omega) (by omega)⟩, fun a a1 a2 => f a (by omega) (by omega) (by omega)⟩
theorem min6 {n : Nat} (h : n ≤ 6) : (if nI 6 < nI (n + 1) then nI 6 else nI (n + 1)) = nI (if n < 6 then n + 1 else 6) := by
  rcases Nat.lt_or_ge n 6 with h5 | h5
  · rw [if_pos h5, if_neg (by rw [nI_ltI (by omega) (by omega)]; omega)]
  · have h6 : n = 6 := by omega
    subst h6
    decide
set_option maxRecDepth 100000 in
set_option maxHeartbeats 4000000 in
theorem k_prepare {X : Cx} {σ : Sp} {μ : Mm} {Q : Sp → Mm → Prop} {μ0 : Mm} {hh b x : Nat} {B : Bs} (h : ShHist σ hh) (h2 : ShBus σ b) (hd : b + 62 ≤ hh ∨ hh + 436 ≤ b) (hb9 : BU μ0 b B μ) (wf : WF B) (hx : μ hh 1 = nI x) (hx7 : x < 7) (hN : NU μ (hb hh x)) (q : ∀ μ', BU μ (hb hh x) B μ' → Q σ μ') : CTv X mX1_prepare [.ref hh, .ref b] σ μ Q := by
  refine CT.of (by decide +kernel) (Nat.le_of_ble_eq_true rfl) ?_
  show PW X mX1_prepare 0 0 0 [some (.ref hh), some (.ref b)] [] σ μ (LV Q)
  refine pw_aload_0 dX1_prepare_0 ?_
  refine pw_getr 1 0 dX1_prepare_1 fX1_11 rfl (by decide) rfl h.t h.r0 ?_
  refine pw_aload_0 dX1_prepare_4 ?_
  refine pw_getI 1 1 dX1_prepare_5 fX1_18 rfl (by decide) rfl h.t ?_
  refine pw_top hx ?_
  refine pw_aaldBr dX1_prepare_8 h.a (by omega) (by decide) (h.s (by omega)) ?_
  refine pw_aload_1 dX1_prepare_9 ?_
  refine pw_cV1v 0 dX1_prepare_10 kX1_22 vX0_copyFrom iX0_copyFrom ⟨by decide, by decide⟩ ⟨rfl, rfl⟩ (by decide) rfl (Nat.le_of_ble_eq_true rfl) ((h.B (by omega))).t (k_copyFrom (h.B hx7) h2 (by have := hb_in (hh := hh) hx7; omega) hb9 wf hN (fun μ1 hb1 => ?_))
  refine pw_return dX1_prepare_13 rfl ?_
  exact q _ hb1
set_option maxRecDepth 100000 in
set_option maxHeartbeats 4000000 in
theorem k_keep {X : Cx} {σ : Sp} {μ : Mm} {Q : Int32 → Sp → Mm → Prop} {hh x l : Nat} {y : Int32} (h : ShHist σ hh) (hx : μ hh 1 = nI x) (hx7 : x < 7) (hl : μ hh 2 = nI l) (hl6 : l ≤ 6) (q0 : y < 0 → Q y σ μ) (q1 : ¬ y < 0 → Q y σ (wr (wr μ hh 1 (nI (if x < 6 then x + 1 else 0))) hh 2 (nI (if l < 6 then l + 1 else 6)))) : CTi X mX1_keep [.ref hh, .int y] σ μ Q := by
  refine CT.of (by decide +kernel) (Nat.le_of_ble_eq_true rfl) ?_
  show PW X mX1_keep 0 0 0 [some (.ref hh), some (.int y)] [] σ μ (LI Q)
  refine pw_iload_1 dX1_keep_0 ?_
  refine pw_if_ge 6 dX1_keep_1 (by decide) (fun h1 => ?_) (fun h1 => ?_)
  · skip
    refine pw_aload_0 dX1_keep_6 ?_
    refine pw_aload_0 dX1_keep_7 ?_
    refine pw_getI 1 1 dX1_keep_8 fX1_18 rfl (by decide) rfl h.t ?_
    refine pw_top hx ?_
    refine pw_bipush (v := nI 6) dX1_keep_11 (by decide) ?_
    refine pw_icmp_ge 25 dX1_keep_13 (by decide) (fun h2 => ?_) (fun h2 => ?_)
    · skip
      refine pw_iconst (v := nI 0) dX1_keep_25 (by decide) ?_
      refine pw_putI 1 1 dX1_keep_26 fX1_18 rfl (by decide) rfl (Or.inl rfl) rfl (by decide) h.t ?_
      refine pw_aload_0 dX1_keep_29 ?_
      refine pw_aload_0 dX1_keep_30 ?_
      refine pw_getI 1 2 dX1_keep_31 fX1_26 rfl (by decide) rfl h.t ?_
      refine pw_top (show _ = nI l by rw [wr_s, upd_n _ _ (by omega)]; exact hl) ?_
      refine pw_iconst (v := nI 1) dX1_keep_34 (by decide) ?_
      refine pw_iaddN dX1_keep_35 ?_
      refine pw_bipush (v := nI 6) dX1_keep_36 (by decide) ?_
      refine pw_min dX1_keep_38 kX1_29 tm_mins tm_i tm_minc (by decide) (Nat.le_of_ble_eq_true rfl) ?_
      refine pw_top (min6 hl6) ?_
      refine pw_putI 1 2 dX1_keep_41 fX1_26 rfl (by decide) rfl (Or.inl rfl) rfl (by decide) h.t ?_
      refine pw_iload_1 dX1_keep_44 ?_
      refine pw_ireturn dX1_keep_45 rfl ?_
      have ex : (if x < 6 then x + 1 else 0) = 0 := if_neg (by have h5 := h2; rw [nI_leI (by omega) (by omega)] at h5; omega)
      have q2 := q1 (Int32.not_lt.mpr h1)
      rw [ex] at q2
      exact q2
    · skip
      refine pw_aload_0 dX1_keep_16 ?_
      refine pw_getI 1 1 dX1_keep_17 fX1_18 rfl (by decide) rfl h.t ?_
      refine pw_top hx ?_
      refine pw_iconst (v := nI 1) dX1_keep_20 (by decide) ?_
      refine pw_iaddN dX1_keep_21 ?_
      refine pw_goto 26 dX1_keep_22 (by decide) ?_
      refine pw_putI 1 1 dX1_keep_26 fX1_18 rfl (by decide) rfl (Or.inl rfl) rfl (by decide) h.t ?_
      refine pw_aload_0 dX1_keep_29 ?_
      refine pw_aload_0 dX1_keep_30 ?_
      refine pw_getI 1 2 dX1_keep_31 fX1_26 rfl (by decide) rfl h.t ?_
      refine pw_top (show _ = nI l by rw [wr_s, upd_n _ _ (by omega)]; exact hl) ?_
      refine pw_iconst (v := nI 1) dX1_keep_34 (by decide) ?_
      refine pw_iaddN dX1_keep_35 ?_
      refine pw_bipush (v := nI 6) dX1_keep_36 (by decide) ?_
      refine pw_min dX1_keep_38 kX1_29 tm_mins tm_i tm_minc (by decide) (Nat.le_of_ble_eq_true rfl) ?_
      refine pw_top (min6 hl6) ?_
      refine pw_putI 1 2 dX1_keep_41 fX1_26 rfl (by decide) rfl (Or.inl rfl) rfl (by decide) h.t ?_
      refine pw_iload_1 dX1_keep_44 ?_
      refine pw_ireturn dX1_keep_45 rfl ?_
      have ex : (if x < 6 then x + 1 else 0) = x + 1 := if_pos (by have h5 := h2; rw [nI_leI (by omega) (by omega)] at h5; omega)
      have q2 := q1 (Int32.not_lt.mpr h1)
      rw [ex] at q2
      exact q2
  · skip
    refine pw_iload_1 dX1_keep_4 ?_
    refine pw_ireturn dX1_keep_5 rfl ?_
    exact q0 (Int32.not_le.mp h1)
/-- an error leaves the bus as it is -/
theorem se_neg {B : Bs} {x v : Int32} (wf : WF B) (h : seR B x v < 0) : seN B x v = B := by
  by_cases hy : seP x v
  · have hy9 := hy
    obtain ⟨k, k5, e, -⟩ := hy9
    obtain ⟨s, s9, hs⟩ := wf.2.1 k k5
    have e1 : seR B x v = nI s := by
      unfold seR
      rw [cif_y hy, e, ixN_nI (by omega), hs]
    rw [e1] at h
    exact absurd h (nnI (by omega))
  · exact cif_n hy
theorem cm_neg {B : Bs} {x : Int32} (wf : WF B) (h : cmR B x < 0) : cmN B x = B := by
  have h8 := wf.n8
  by_cases hy : cmP x ∧ nS B ≠ 8
  · have e1 : cmR B x = nI (nS B) := (cif_y hy.1).trans (if_neg hy.2)
    rw [e1] at h
    exact absurd h (nnI (by omega))
  · exact cif_n hy
theorem wd_neg {B : Bs} {x y u : Int32} (wf : WF B) (h : wdR B x y u < 0) : wdN B x y u = B := by
  by_cases hy : (inN (nS B) x ∧ inN 6 y) ∧ inN 256 u ∧ atB B (ixN x) y ∧ nwF (bS B (ixN x)) ≠ 4
  · have h8 := wf.n8
    have hi := (inN_ix (by omega) hy.1.1).1
    have hw := (wf.w (i := ixN x) (by omega)).2
    have e1 : wdR B x y u = nI (nwF (bS B (ixN x)) + 1) := by
      unfold wdR
      rw [cif_y hy.1, cif_y hy.2.1, cif_y hy.2.2.1, if_neg hy.2.2.2]
    rw [e1] at h
    exact absurd h (nnI (by omega))
  · exact cif_n hy
theorem fg_neg {B : Bs} {x : Int32} (wf : WF B) (h : fgR B x < 0) : fgN B x = B := by
  by_cases hy : inN (nS B) x ∧ nwF (bS B (ixN x)) ≠ 0
  · have h8 := wf.n8
    have hi := (inN_ix (by omega) hy.1).1
    obtain ⟨⟨t, t9, ht⟩, -⟩ := (wf.s hi).word (r := 0) (by omega)
    have ht : bS B (ixN x) 5 = nI t := ht
    have e1 : fgR B x = nI t := by
      unfold fgR
      rw [cif_y hy.1, if_neg hy.2, ht]
    rw [e1] at h
    exact absurd h (nnI (by omega))
  · exact cif_n hy
theorem z_nn {x : Int32} (h : x = nI 0 ∨ x = nI 1) : ¬ nI 1 - x < 0 := by rcases h with rfl | rfl <;> decide
theorem sk_neg {B : Bs} {x : Int32} (wf : WF B) (h : skR B x < 0) : skN B x = B := by
  by_cases hy : inN 6 x
  · have e1 : skR B x = nI 1 - bW B (ixN x) 1 := cif_y hy
    rw [e1] at h
    exact absurd h (z_nn (wf.2.2.1 _ (inN_ix (by omega) hy).1).2)
  · exact cif_n hy
theorem dz_neg {B : Bs} {x : Int32} (wf : WF B) (h : dzR B x < 0) : dzN B x = B := by
  by_cases hy : inN (nS B) x
  · have h8 := wf.n8
    have e1 : dzR B x = nI 1 - bS B (ixN x) 3 := cif_y hy
    rw [e1] at h
    exact absurd h (z_nn (wf.s (inN_ix (by omega) hy).1).2.1.2)
  · exact cif_n hy
theorem ps_neg {B : Bs} {x : Int32} (wf : WF B) (h : psR B x < 0) : psN B x = B := by
  by_cases hy : psP x ∧ ¬ nI 99999 < bG B 5 + x
  · have hle := bI_le wf (ixN x)
    have e1 : psR B x = nI (btI (ixN x) B).2 := (cif_y hy.1).trans (if_neg hy.2)
    obtain ⟨c, c1, c9, e⟩ := hy.1
    rw [e1] at h
    rw [e, ixN_nI (by omega)] at h hle
    exact absurd h (nnI (by omega))
  · exact cif_n hy
set_option maxRecDepth 100000 in
set_option maxHeartbeats 4000000 in
theorem kf_set {X : Cx} {σ : Sp} {μ : Mm} {Q : Int32 → Sp → Mm → Prop} {o x : Nat} {u v : Int32} {A : Aw} (hc : CX σ μ o x A) (wa : WA A) (q : ∀ μ' x', CX σ μ' o x' (upA A (seR (aB A) u v) (seN (aB A) u v)) → FX μ o μ' → Q (seR (aB A) u v) σ μ') : CTi X mX7_set [.ref o, .int u, .int v] σ μ Q := by
  refine CT.of (by decide +kernel) (Nat.le_of_ble_eq_true rfl) ?_
  show PW X mX7_set 0 0 0 [some (.ref o), some (.int u), some (.int v)] [] σ μ (LI Q)
  have wf := wa.1.1
  have hx := hc.2.2.2.1.1
  have hx7 := hc.2.2.2.1.2.1
  have hin := hb_in (hh := o + 125) hx7
  refine pw_aload_0 dX7_set_0 ?_
  refine pw_getr 7 2 dX7_set_1 fX7_22 rfl (by decide) rfl hc.1.t hc.1.r2 ?_
  refine pw_aload_0 dX7_set_4 ?_
  refine pw_getr 7 0 dX7_set_5 fX7_10 rfl (by decide) rfl hc.1.t hc.1.r0 ?_
  refine pw_cV1v 1 dX7_set_8 kX7_46 vX1_prepare iX1_prepare ⟨by decide, by decide⟩ ⟨rfl, rfl⟩ (by decide) rfl (Nat.le_of_ble_eq_true rfl) hc.1.hist.t (k_prepare hc.1.hist hc.1.now (by omega) hc.2.1 wf hx hx7 (hc.2.2.2.1.2.2.2.2.1 x hx7) (fun μ1 hb1 => ?_))
  have hbn : BU μ1 (o + 1) (aB A) μ1 := hb1.mv hc.2.1 (by omega)
  refine pw_aload_0 dX7_set_11 ?_
  refine pw_getr 7 2 dX7_set_12 fX7_22 rfl (by decide) rfl hc.1.t hc.1.r2 ?_
  refine pw_aload_0 dX7_set_15 ?_
  refine pw_getr 7 0 dX7_set_16 fX7_10 rfl (by decide) rfl hc.1.t hc.1.r0 ?_
  refine pw_iload_1 dX7_set_19 ?_
  refine pw_iload_2 dX7_set_20 ?_
  refine pw_cV2i 0 dX7_set_21 kX7_50 vX0_changeSetting iX0_changeSetting ⟨by decide, by decide⟩ ⟨rfl, rfl⟩ (by decide) rfl (Nat.le_of_ble_eq_true rfl) hc.1.now.t (k_set hc.1.now hbn wf rfl (fun μ2 hb2 => ?_))
  have ef : μ2 (o + 125) = μ (o + 125) := (hb2.1 _ (by omega)).trans (hb1.1 _ (by omega))
  refine pw_cV1i 1 dX7_set_24 kX7_54 vX1_keep iX1_keep ⟨by decide, by decide⟩ ⟨rfl, rfl⟩ (by decide) rfl (Nat.le_of_ble_eq_true rfl) hc.1.hist.t (k_keep hc.1.hist (x := x) (l := (aH A).2) (by rw [ef]; exact hx) hx7 (by rw [ef]; exact hc.2.2.2.1.2.2.1) hc.2.2.2.1.2.2.2.1 (fun hneg => ?_) (fun hok => ?_))
  · skip
    refine pw_ireturn dX7_set_27 rfl ?_
    rw [se_neg wf hneg] at hb2
    rw [upA_e hneg] at q
    obtain ⟨g1, g2⟩ := hc.opE hb1 hb2
    exact q _ _ g1 g2
  · skip
    refine pw_ireturn dX7_set_27 rfl ?_
    rw [upA_o hok] at q
    obtain ⟨g1, g2⟩ := hc.opO (μ3 := wr (wr μ2 (o + 125) 1 (nI (if x < 6 then x + 1 else 0))) (o + 125) 2 (nI (if (aH A).2 < 6 then (aH A).2 + 1 else 6))) hb1 hb2 (fun a ha => by rw [wr_n _ _ _ ha, wr_n _ _ _ ha]) (by rw [wr_s, upd_n _ _ (by omega), wr_s, upd_s]) (by rw [wr_s, upd_s])
    exact q _ _ g1 g2
set_option maxRecDepth 100000 in
set_option maxHeartbeats 4000000 in
theorem kf_station {X : Cx} {σ : Sp} {μ : Mm} {Q : Int32 → Sp → Mm → Prop} {o x : Nat} {u : Int32} {A : Aw} (hc : CX σ μ o x A) (wa : WA A) (q : ∀ μ' x', CX σ μ' o x' (upA A (cmR (aB A) u) (cmN (aB A) u)) → FX μ o μ' → Q (cmR (aB A) u) σ μ') : CTi X mX7_station [.ref o, .int u] σ μ Q := by
  refine CT.of (by decide +kernel) (Nat.le_of_ble_eq_true rfl) ?_
  show PW X mX7_station 0 0 0 [some (.ref o), some (.int u)] [] σ μ (LI Q)
  have wf := wa.1.1
  have hx := hc.2.2.2.1.1
  have hx7 := hc.2.2.2.1.2.1
  have hin := hb_in (hh := o + 125) hx7
  refine pw_aload_0 dX7_station_0 ?_
  refine pw_getr 7 2 dX7_station_1 fX7_22 rfl (by decide) rfl hc.1.t hc.1.r2 ?_
  refine pw_aload_0 dX7_station_4 ?_
  refine pw_getr 7 0 dX7_station_5 fX7_10 rfl (by decide) rfl hc.1.t hc.1.r0 ?_
  refine pw_cV1v 1 dX7_station_8 kX7_46 vX1_prepare iX1_prepare ⟨by decide, by decide⟩ ⟨rfl, rfl⟩ (by decide) rfl (Nat.le_of_ble_eq_true rfl) hc.1.hist.t (k_prepare hc.1.hist hc.1.now (by omega) hc.2.1 wf hx hx7 (hc.2.2.2.1.2.2.2.2.1 x hx7) (fun μ1 hb1 => ?_))
  have hbn : BU μ1 (o + 1) (aB A) μ1 := hb1.mv hc.2.1 (by omega)
  refine pw_aload_0 dX7_station_11 ?_
  refine pw_getr 7 2 dX7_station_12 fX7_22 rfl (by decide) rfl hc.1.t hc.1.r2 ?_
  refine pw_aload_0 dX7_station_15 ?_
  refine pw_getr 7 0 dX7_station_16 fX7_10 rfl (by decide) rfl hc.1.t hc.1.r0 ?_
  refine pw_iload_1 dX7_station_19 ?_
  refine pw_cV1i 0 dX7_station_20 kX7_58 vX0_addStation iX0_addStation ⟨by decide, by decide⟩ ⟨rfl, rfl⟩ (by decide) rfl (Nat.le_of_ble_eq_true rfl) hc.1.now.t (k_station hc.1.now hbn wf rfl (fun μ2 hb2 => ?_))
  have ef : μ2 (o + 125) = μ (o + 125) := (hb2.1 _ (by omega)).trans (hb1.1 _ (by omega))
  refine pw_cV1i 1 dX7_station_23 kX7_54 vX1_keep iX1_keep ⟨by decide, by decide⟩ ⟨rfl, rfl⟩ (by decide) rfl (Nat.le_of_ble_eq_true rfl) hc.1.hist.t (k_keep hc.1.hist (x := x) (l := (aH A).2) (by rw [ef]; exact hx) hx7 (by rw [ef]; exact hc.2.2.2.1.2.2.1) hc.2.2.2.1.2.2.2.1 (fun hneg => ?_) (fun hok => ?_))
  · skip
    refine pw_ireturn dX7_station_26 rfl ?_
    rw [cm_neg wf hneg] at hb2
    rw [upA_e hneg] at q
    obtain ⟨g1, g2⟩ := hc.opE hb1 hb2
    exact q _ _ g1 g2
  · skip
    refine pw_ireturn dX7_station_26 rfl ?_
    rw [upA_o hok] at q
    obtain ⟨g1, g2⟩ := hc.opO (μ3 := wr (wr μ2 (o + 125) 1 (nI (if x < 6 then x + 1 else 0))) (o + 125) 2 (nI (if (aH A).2 < 6 then (aH A).2 + 1 else 6))) hb1 hb2 (fun a ha => by rw [wr_n _ _ _ ha, wr_n _ _ _ ha]) (by rw [wr_s, upd_n _ _ (by omega), wr_s, upd_s]) (by rw [wr_s, upd_s])
    exact q _ _ g1 g2
set_option maxRecDepth 100000 in
set_option maxHeartbeats 4000000 in
theorem kf_word {X : Cx} {σ : Sp} {μ : Mm} {Q : Int32 → Sp → Mm → Prop} {o x : Nat} {u v y : Int32} {A : Aw} (hc : CX σ μ o x A) (wa : WA A) (q : ∀ μ' x', CX σ μ' o x' (upA A (wdR (aB A) u v y) (wdN (aB A) u v y)) → FX μ o μ' → Q (wdR (aB A) u v y) σ μ') : CTi X mX7_word [.ref o, .int u, .int v, .int y] σ μ Q := by
  refine CT.of (by decide +kernel) (Nat.le_of_ble_eq_true rfl) ?_
  show PW X mX7_word 0 0 0 [some (.ref o), some (.int u), some (.int v), some (.int y)] [] σ μ (LI Q)
  have wf := wa.1.1
  have hx := hc.2.2.2.1.1
  have hx7 := hc.2.2.2.1.2.1
  have hin := hb_in (hh := o + 125) hx7
  refine pw_aload_0 dX7_word_0 ?_
  refine pw_getr 7 2 dX7_word_1 fX7_22 rfl (by decide) rfl hc.1.t hc.1.r2 ?_
  refine pw_aload_0 dX7_word_4 ?_
  refine pw_getr 7 0 dX7_word_5 fX7_10 rfl (by decide) rfl hc.1.t hc.1.r0 ?_
  refine pw_cV1v 1 dX7_word_8 kX7_46 vX1_prepare iX1_prepare ⟨by decide, by decide⟩ ⟨rfl, rfl⟩ (by decide) rfl (Nat.le_of_ble_eq_true rfl) hc.1.hist.t (k_prepare hc.1.hist hc.1.now (by omega) hc.2.1 wf hx hx7 (hc.2.2.2.1.2.2.2.2.1 x hx7) (fun μ1 hb1 => ?_))
  have hbn : BU μ1 (o + 1) (aB A) μ1 := hb1.mv hc.2.1 (by omega)
  refine pw_aload_0 dX7_word_11 ?_
  refine pw_getr 7 2 dX7_word_12 fX7_22 rfl (by decide) rfl hc.1.t hc.1.r2 ?_
  refine pw_aload_0 dX7_word_15 ?_
  refine pw_getr 7 0 dX7_word_16 fX7_10 rfl (by decide) rfl hc.1.t hc.1.r0 ?_
  refine pw_iload_1 dX7_word_19 ?_
  refine pw_iload_2 dX7_word_20 ?_
  refine pw_iload_3 dX7_word_21 ?_
  refine pw_cV3i 0 dX7_word_22 kX7_61 vX0_addWord iX0_addWord ⟨by decide, by decide⟩ ⟨rfl, rfl⟩ (by decide) rfl (Nat.le_of_ble_eq_true rfl) hc.1.now.t (k_word hc.1.now hbn wf rfl (fun μ2 hb2 => ?_))
  have ef : μ2 (o + 125) = μ (o + 125) := (hb2.1 _ (by omega)).trans (hb1.1 _ (by omega))
  refine pw_cV1i 1 dX7_word_25 kX7_54 vX1_keep iX1_keep ⟨by decide, by decide⟩ ⟨rfl, rfl⟩ (by decide) rfl (Nat.le_of_ble_eq_true rfl) hc.1.hist.t (k_keep hc.1.hist (x := x) (l := (aH A).2) (by rw [ef]; exact hx) hx7 (by rw [ef]; exact hc.2.2.2.1.2.2.1) hc.2.2.2.1.2.2.2.1 (fun hneg => ?_) (fun hok => ?_))
  · skip
    refine pw_ireturn dX7_word_28 rfl ?_
    rw [wd_neg wf hneg] at hb2
    rw [upA_e hneg] at q
    obtain ⟨g1, g2⟩ := hc.opE hb1 hb2
    exact q _ _ g1 g2
  · skip
    refine pw_ireturn dX7_word_28 rfl ?_
    rw [upA_o hok] at q
    obtain ⟨g1, g2⟩ := hc.opO (μ3 := wr (wr μ2 (o + 125) 1 (nI (if x < 6 then x + 1 else 0))) (o + 125) 2 (nI (if (aH A).2 < 6 then (aH A).2 + 1 else 6))) hb1 hb2 (fun a ha => by rw [wr_n _ _ _ ha, wr_n _ _ _ ha]) (by rw [wr_s, upd_n _ _ (by omega), wr_s, upd_s]) (by rw [wr_s, upd_s])
    exact q _ _ g1 g2
set_option maxRecDepth 100000 in
set_option maxHeartbeats 4000000 in
theorem kf_forget {X : Cx} {σ : Sp} {μ : Mm} {Q : Int32 → Sp → Mm → Prop} {o x : Nat} {u : Int32} {A : Aw} (hc : CX σ μ o x A) (wa : WA A) (q : ∀ μ' x', CX σ μ' o x' (upA A (fgR (aB A) u) (fgN (aB A) u)) → FX μ o μ' → Q (fgR (aB A) u) σ μ') : CTi X mX7_forget [.ref o, .int u] σ μ Q := by
  refine CT.of (by decide +kernel) (Nat.le_of_ble_eq_true rfl) ?_
  show PW X mX7_forget 0 0 0 [some (.ref o), some (.int u)] [] σ μ (LI Q)
  have wf := wa.1.1
  have hx := hc.2.2.2.1.1
  have hx7 := hc.2.2.2.1.2.1
  have hin := hb_in (hh := o + 125) hx7
  refine pw_aload_0 dX7_forget_0 ?_
  refine pw_getr 7 2 dX7_forget_1 fX7_22 rfl (by decide) rfl hc.1.t hc.1.r2 ?_
  refine pw_aload_0 dX7_forget_4 ?_
  refine pw_getr 7 0 dX7_forget_5 fX7_10 rfl (by decide) rfl hc.1.t hc.1.r0 ?_
  refine pw_cV1v 1 dX7_forget_8 kX7_46 vX1_prepare iX1_prepare ⟨by decide, by decide⟩ ⟨rfl, rfl⟩ (by decide) rfl (Nat.le_of_ble_eq_true rfl) hc.1.hist.t (k_prepare hc.1.hist hc.1.now (by omega) hc.2.1 wf hx hx7 (hc.2.2.2.1.2.2.2.2.1 x hx7) (fun μ1 hb1 => ?_))
  have hbn : BU μ1 (o + 1) (aB A) μ1 := hb1.mv hc.2.1 (by omega)
  refine pw_aload_0 dX7_forget_11 ?_
  refine pw_getr 7 2 dX7_forget_12 fX7_22 rfl (by decide) rfl hc.1.t hc.1.r2 ?_
  refine pw_aload_0 dX7_forget_15 ?_
  refine pw_getr 7 0 dX7_forget_16 fX7_10 rfl (by decide) rfl hc.1.t hc.1.r0 ?_
  refine pw_iload_1 dX7_forget_19 ?_
  refine pw_cV1i 0 dX7_forget_20 kX7_65 vX0_forgetWord iX0_forgetWord ⟨by decide, by decide⟩ ⟨rfl, rfl⟩ (by decide) rfl (Nat.le_of_ble_eq_true rfl) hc.1.now.t (k_forget hc.1.now hbn wf rfl (fun μ2 hb2 => ?_))
  have ef : μ2 (o + 125) = μ (o + 125) := (hb2.1 _ (by omega)).trans (hb1.1 _ (by omega))
  refine pw_cV1i 1 dX7_forget_23 kX7_54 vX1_keep iX1_keep ⟨by decide, by decide⟩ ⟨rfl, rfl⟩ (by decide) rfl (Nat.le_of_ble_eq_true rfl) hc.1.hist.t (k_keep hc.1.hist (x := x) (l := (aH A).2) (by rw [ef]; exact hx) hx7 (by rw [ef]; exact hc.2.2.2.1.2.2.1) hc.2.2.2.1.2.2.2.1 (fun hneg => ?_) (fun hok => ?_))
  · skip
    refine pw_ireturn dX7_forget_26 rfl ?_
    rw [fg_neg wf hneg] at hb2
    rw [upA_e hneg] at q
    obtain ⟨g1, g2⟩ := hc.opE hb1 hb2
    exact q _ _ g1 g2
  · skip
    refine pw_ireturn dX7_forget_26 rfl ?_
    rw [upA_o hok] at q
    obtain ⟨g1, g2⟩ := hc.opO (μ3 := wr (wr μ2 (o + 125) 1 (nI (if x < 6 then x + 1 else 0))) (o + 125) 2 (nI (if (aH A).2 < 6 then (aH A).2 + 1 else 6))) hb1 hb2 (fun a ha => by rw [wr_n _ _ _ ha, wr_n _ _ _ ha]) (by rw [wr_s, upd_n _ _ (by omega), wr_s, upd_s]) (by rw [wr_s, upd_s])
    exact q _ _ g1 g2
set_option maxRecDepth 100000 in
set_option maxHeartbeats 4000000 in
theorem kf_stick {X : Cx} {σ : Sp} {μ : Mm} {Q : Int32 → Sp → Mm → Prop} {o x : Nat} {u : Int32} {A : Aw} (hc : CX σ μ o x A) (wa : WA A) (q : ∀ μ' x', CX σ μ' o x' (upA A (skR (aB A) u) (skN (aB A) u)) → FX μ o μ' → Q (skR (aB A) u) σ μ') : CTi X mX7_stick [.ref o, .int u] σ μ Q := by
  refine CT.of (by decide +kernel) (Nat.le_of_ble_eq_true rfl) ?_
  show PW X mX7_stick 0 0 0 [some (.ref o), some (.int u)] [] σ μ (LI Q)
  have wf := wa.1.1
  have hx := hc.2.2.2.1.1
  have hx7 := hc.2.2.2.1.2.1
  have hin := hb_in (hh := o + 125) hx7
  refine pw_aload_0 dX7_stick_0 ?_
  refine pw_getr 7 2 dX7_stick_1 fX7_22 rfl (by decide) rfl hc.1.t hc.1.r2 ?_
  refine pw_aload_0 dX7_stick_4 ?_
  refine pw_getr 7 0 dX7_stick_5 fX7_10 rfl (by decide) rfl hc.1.t hc.1.r0 ?_
  refine pw_cV1v 1 dX7_stick_8 kX7_46 vX1_prepare iX1_prepare ⟨by decide, by decide⟩ ⟨rfl, rfl⟩ (by decide) rfl (Nat.le_of_ble_eq_true rfl) hc.1.hist.t (k_prepare hc.1.hist hc.1.now (by omega) hc.2.1 wf hx hx7 (hc.2.2.2.1.2.2.2.2.1 x hx7) (fun μ1 hb1 => ?_))
  have hbn : BU μ1 (o + 1) (aB A) μ1 := hb1.mv hc.2.1 (by omega)
  refine pw_aload_0 dX7_stick_11 ?_
  refine pw_getr 7 2 dX7_stick_12 fX7_22 rfl (by decide) rfl hc.1.t hc.1.r2 ?_
  refine pw_aload_0 dX7_stick_15 ?_
  refine pw_getr 7 0 dX7_stick_16 fX7_10 rfl (by decide) rfl hc.1.t hc.1.r0 ?_
  refine pw_iload_1 dX7_stick_19 ?_
  refine pw_cV1i 0 dX7_stick_20 kX7_68 vX0_toggleFault iX0_toggleFault ⟨by decide, by decide⟩ ⟨rfl, rfl⟩ (by decide) rfl (Nat.le_of_ble_eq_true rfl) hc.1.now.t (k_stick hc.1.now hbn wf rfl (fun μ2 hb2 => ?_))
  have ef : μ2 (o + 125) = μ (o + 125) := (hb2.1 _ (by omega)).trans (hb1.1 _ (by omega))
  refine pw_cV1i 1 dX7_stick_23 kX7_54 vX1_keep iX1_keep ⟨by decide, by decide⟩ ⟨rfl, rfl⟩ (by decide) rfl (Nat.le_of_ble_eq_true rfl) hc.1.hist.t (k_keep hc.1.hist (x := x) (l := (aH A).2) (by rw [ef]; exact hx) hx7 (by rw [ef]; exact hc.2.2.2.1.2.2.1) hc.2.2.2.1.2.2.2.1 (fun hneg => ?_) (fun hok => ?_))
  · skip
    refine pw_ireturn dX7_stick_26 rfl ?_
    rw [sk_neg wf hneg] at hb2
    rw [upA_e hneg] at q
    obtain ⟨g1, g2⟩ := hc.opE hb1 hb2
    exact q _ _ g1 g2
  · skip
    refine pw_ireturn dX7_stick_26 rfl ?_
    rw [upA_o hok] at q
    obtain ⟨g1, g2⟩ := hc.opO (μ3 := wr (wr μ2 (o + 125) 1 (nI (if x < 6 then x + 1 else 0))) (o + 125) 2 (nI (if (aH A).2 < 6 then (aH A).2 + 1 else 6))) hb1 hb2 (fun a ha => by rw [wr_n _ _ _ ha, wr_n _ _ _ ha]) (by rw [wr_s, upd_n _ _ (by omega), wr_s, upd_s]) (by rw [wr_s, upd_s])
    exact q _ _ g1 g2
set_option maxRecDepth 100000 in
set_option maxHeartbeats 4000000 in
theorem kf_doze {X : Cx} {σ : Sp} {μ : Mm} {Q : Int32 → Sp → Mm → Prop} {o x : Nat} {u : Int32} {A : Aw} (hc : CX σ μ o x A) (wa : WA A) (q : ∀ μ' x', CX σ μ' o x' (upA A (dzR (aB A) u) (dzN (aB A) u)) → FX μ o μ' → Q (dzR (aB A) u) σ μ') : CTi X mX7_doze [.ref o, .int u] σ μ Q := by
  refine CT.of (by decide +kernel) (Nat.le_of_ble_eq_true rfl) ?_
  show PW X mX7_doze 0 0 0 [some (.ref o), some (.int u)] [] σ μ (LI Q)
  have wf := wa.1.1
  have hx := hc.2.2.2.1.1
  have hx7 := hc.2.2.2.1.2.1
  have hin := hb_in (hh := o + 125) hx7
  refine pw_aload_0 dX7_doze_0 ?_
  refine pw_getr 7 2 dX7_doze_1 fX7_22 rfl (by decide) rfl hc.1.t hc.1.r2 ?_
  refine pw_aload_0 dX7_doze_4 ?_
  refine pw_getr 7 0 dX7_doze_5 fX7_10 rfl (by decide) rfl hc.1.t hc.1.r0 ?_
  refine pw_cV1v 1 dX7_doze_8 kX7_46 vX1_prepare iX1_prepare ⟨by decide, by decide⟩ ⟨rfl, rfl⟩ (by decide) rfl (Nat.le_of_ble_eq_true rfl) hc.1.hist.t (k_prepare hc.1.hist hc.1.now (by omega) hc.2.1 wf hx hx7 (hc.2.2.2.1.2.2.2.2.1 x hx7) (fun μ1 hb1 => ?_))
  have hbn : BU μ1 (o + 1) (aB A) μ1 := hb1.mv hc.2.1 (by omega)
  refine pw_aload_0 dX7_doze_11 ?_
  refine pw_getr 7 2 dX7_doze_12 fX7_22 rfl (by decide) rfl hc.1.t hc.1.r2 ?_
  refine pw_aload_0 dX7_doze_15 ?_
  refine pw_getr 7 0 dX7_doze_16 fX7_10 rfl (by decide) rfl hc.1.t hc.1.r0 ?_
  refine pw_iload_1 dX7_doze_19 ?_
  refine pw_cV1i 0 dX7_doze_20 kX7_71 vX0_toggleDoze iX0_toggleDoze ⟨by decide, by decide⟩ ⟨rfl, rfl⟩ (by decide) rfl (Nat.le_of_ble_eq_true rfl) hc.1.now.t (k_doze hc.1.now hbn wf rfl (fun μ2 hb2 => ?_))
  have ef : μ2 (o + 125) = μ (o + 125) := (hb2.1 _ (by omega)).trans (hb1.1 _ (by omega))
  refine pw_cV1i 1 dX7_doze_23 kX7_54 vX1_keep iX1_keep ⟨by decide, by decide⟩ ⟨rfl, rfl⟩ (by decide) rfl (Nat.le_of_ble_eq_true rfl) hc.1.hist.t (k_keep hc.1.hist (x := x) (l := (aH A).2) (by rw [ef]; exact hx) hx7 (by rw [ef]; exact hc.2.2.2.1.2.2.1) hc.2.2.2.1.2.2.2.1 (fun hneg => ?_) (fun hok => ?_))
  · skip
    refine pw_ireturn dX7_doze_26 rfl ?_
    rw [dz_neg wf hneg] at hb2
    rw [upA_e hneg] at q
    obtain ⟨g1, g2⟩ := hc.opE hb1 hb2
    exact q _ _ g1 g2
  · skip
    refine pw_ireturn dX7_doze_26 rfl ?_
    rw [upA_o hok] at q
    obtain ⟨g1, g2⟩ := hc.opO (μ3 := wr (wr μ2 (o + 125) 1 (nI (if x < 6 then x + 1 else 0))) (o + 125) 2 (nI (if (aH A).2 < 6 then (aH A).2 + 1 else 6))) hb1 hb2 (fun a ha => by rw [wr_n _ _ _ ha, wr_n _ _ _ ha]) (by rw [wr_s, upd_n _ _ (by omega), wr_s, upd_s]) (by rw [wr_s, upd_s])
    exact q _ _ g1 g2
set_option maxRecDepth 100000 in
set_option maxHeartbeats 4000000 in
theorem kf_pass {X : Cx} {σ : Sp} {μ : Mm} {Q : Int32 → Sp → Mm → Prop} {o x : Nat} {u : Int32} {A : Aw} (hc : CX σ μ o x A) (wa : WA A) (q : ∀ μ' x', CX σ μ' o x' (upA A (psR (aB A) u) (psN (aB A) u)) → FX μ o μ' → Q (psR (aB A) u) σ μ') : CTi X mX7_pass [.ref o, .int u] σ μ Q := by
  refine CT.of (by decide +kernel) (Nat.le_of_ble_eq_true rfl) ?_
  show PW X mX7_pass 0 0 0 [some (.ref o), some (.int u)] [] σ μ (LI Q)
  have wf := wa.1.1
  have hx := hc.2.2.2.1.1
  have hx7 := hc.2.2.2.1.2.1
  have hin := hb_in (hh := o + 125) hx7
  refine pw_aload_0 dX7_pass_0 ?_
  refine pw_getr 7 2 dX7_pass_1 fX7_22 rfl (by decide) rfl hc.1.t hc.1.r2 ?_
  refine pw_aload_0 dX7_pass_4 ?_
  refine pw_getr 7 0 dX7_pass_5 fX7_10 rfl (by decide) rfl hc.1.t hc.1.r0 ?_
  refine pw_cV1v 1 dX7_pass_8 kX7_46 vX1_prepare iX1_prepare ⟨by decide, by decide⟩ ⟨rfl, rfl⟩ (by decide) rfl (Nat.le_of_ble_eq_true rfl) hc.1.hist.t (k_prepare hc.1.hist hc.1.now (by omega) hc.2.1 wf hx hx7 (hc.2.2.2.1.2.2.2.2.1 x hx7) (fun μ1 hb1 => ?_))
  have hbn : BU μ1 (o + 1) (aB A) μ1 := hb1.mv hc.2.1 (by omega)
  refine pw_aload_0 dX7_pass_11 ?_
  refine pw_getr 7 2 dX7_pass_12 fX7_22 rfl (by decide) rfl hc.1.t hc.1.r2 ?_
  refine pw_aload_0 dX7_pass_15 ?_
  refine pw_getr 7 0 dX7_pass_16 fX7_10 rfl (by decide) rfl hc.1.t hc.1.r0 ?_
  refine pw_iload_1 dX7_pass_19 ?_
  refine pw_cV1i 0 dX7_pass_20 kX7_74 vX0_passBeats iX0_passBeats ⟨by decide, by decide⟩ ⟨rfl, rfl⟩ (by decide) rfl (Nat.le_of_ble_eq_true rfl) hc.1.now.t (k_pass hc.1.now hbn wf rfl (fun μ2 hb2 => ?_))
  have ef : μ2 (o + 125) = μ (o + 125) := (hb2.1 _ (by omega)).trans (hb1.1 _ (by omega))
  refine pw_cV1i 1 dX7_pass_23 kX7_54 vX1_keep iX1_keep ⟨by decide, by decide⟩ ⟨rfl, rfl⟩ (by decide) rfl (Nat.le_of_ble_eq_true rfl) hc.1.hist.t (k_keep hc.1.hist (x := x) (l := (aH A).2) (by rw [ef]; exact hx) hx7 (by rw [ef]; exact hc.2.2.2.1.2.2.1) hc.2.2.2.1.2.2.2.1 (fun hneg => ?_) (fun hok => ?_))
  · skip
    refine pw_ireturn dX7_pass_26 rfl ?_
    rw [ps_neg wf hneg] at hb2
    rw [upA_e hneg] at q
    obtain ⟨g1, g2⟩ := hc.opE hb1 hb2
    exact q _ _ g1 g2
  · skip
    refine pw_ireturn dX7_pass_26 rfl ?_
    rw [upA_o hok] at q
    obtain ⟨g1, g2⟩ := hc.opO (μ3 := wr (wr μ2 (o + 125) 1 (nI (if x < 6 then x + 1 else 0))) (o + 125) 2 (nI (if (aH A).2 < 6 then (aH A).2 + 1 else 6))) hb1 hb2 (fun a ha => by rw [wr_n _ _ _ ha, wr_n _ _ _ ha]) (by rw [wr_s, upd_n _ _ (by omega), wr_s, upd_s]) (by rw [wr_s, upd_s])
    exact q _ _ g1 g2

