/-! Texts of the model: wipe -/
theorem MX.pd {μ ν : Mm} {m : Nat} {A : Aw} {P : Pd} (h : MX μ m A) (e : ∀ a, m ≤ a → a < m + 9 → a ≠ m + 5 → a ≠ m + 6 → a ≠ m + 7 → a ≠ m + 8 → a ≠ m → ν a = μ a) (e2 : ν m 2 = μ m 2) (hq : QX ν m P) : MX ν m (aB A, aH A, aS A, P) := by
  have k : MX (fun a => if a = m then upd (ν m) 7 (μ m 7) else if a = m + 6 then μ (m + 6) else ν a) m A := by
    refine h.at (fun a a1 a2 a3 a4 a5 a6 => ?_) ?_ ?_
    · show (if a = m then upd (ν m) 7 (μ m 7) else if a = m + 6 then μ (m + 6) else ν a) = μ a
      rw [if_neg a6]
      rcases Classical.em (a = m + 6) with q9 | q9
      · rw [if_pos q9, q9]
      · rw [if_neg q9]
        exact e a a1 a2 a3 q9 a4 a5 a6
    · show (if m = m then upd (ν m) 7 (μ m 7) else if m = m + 6 then μ (m + 6) else ν m) 2 = μ m 2
      rw [if_pos rfl, upd_n _ _ (by decide)]
      exact e2
    · show (if m = m then upd (ν m) 7 (μ m 7) else if m = m + 6 then μ (m + 6) else ν m) 7 = μ m 7
      rw [if_pos rfl, upd_s]
  obtain ⟨k1, k2, k3, -⟩ := k
  have f : ∀ a, a ≠ m → a ≠ m + 6 → (fun a => if a = m then upd (ν m) 7 (μ m 7) else if a = m + 6 then μ (m + 6) else ν a) a = ν a := fun a a1 a2 => (if_neg a1).trans (if_neg a2)
  have f2 : (fun a => if a = m then upd (ν m) 7 (μ m 7) else if a = m + 6 then μ (m + 6) else ν a) m 2 = ν m 2 := by
    show (if m = m then upd (ν m) 7 (μ m 7) else if m = m + 6 then μ (m + 6) else ν m) 2 = ν m 2
    rw [if_pos rfl, upd_n _ _ (by decide)]
  generalize (fun a => if a = m then upd (ν m) 7 (μ m 7) else if a = m + 6 then μ (m + 6) else ν a) = κ at k1 k2 k3 f f2
  refine ⟨?_, ?_, ?_, hq⟩
  · rw [f (m + 1) (by omega) (by omega)] at k1
    exact k1
  · unfold PX at k2 ⊢
    rw [f2, f (m + 2) (by omega) (by omega)] at k2
    exact k2
  · unfold VX at k3 ⊢
    rw [f (m + 3) (by omega) (by omega), f (m + 4) (by omega) (by omega)] at k3
    exact k3
set_option maxRecDepth 100000 in
set_option maxHeartbeats 4000000 in
theorem ms_wipe {X : Cx} {σ : Sp} {μ : Mm} {Q : Int32 → Sp → Mm → Prop} {m : Nat} {A : Aw} (h : ShM σ m) (hx : MX μ m A) (q : ∀ μ', FMm μ m μ' → MX μ' m (aB A, aH A, aS A, ((aP A).1, 0)) → Q (nI (aP A).2) σ μ') : CTi X mX8_wipe [.ref m] σ μ Q := by
  refine CT.of (by decide +kernel) (Nat.le_of_ble_eq_true rfl) ?_
  show PW X mX8_wipe 0 0 0 [some (.ref m), none] [] σ μ (LI Q)
  refine pw_aload_0 dX8_wipe_0 ?_
  refine pw_getI 8 7 dX8_wipe_1 fX8_183 rfl (by decide) rfl h.t ?_
  refine pw_istore_1 dX8_wipe_4 (by decide) ?_
  refine pw_aload_0 dX8_wipe_5 ?_
  refine pw_iconst (v := nI 0) dX8_wipe_6 (by decide) ?_
  refine pw_putI 8 7 dX8_wipe_7 fX8_183 rfl (by decide) rfl (Or.inl rfl) rfl (by decide) h.t ?_
  refine pw_iload_1 dX8_wipe_10 ?_
  refine pw_ireturn dX8_wipe_11 rfl ?_
  rw [show μ m 7 = nI (aP A).2 from hx.2.2.2.1]
  exact q _ (fun a a1 => wr_n _ _ _ (by omega)) (hx.pd (fun a a1 a2 a3 a4 a5 a6 a7 => wr_n _ _ _ a7) (by rw [wr_s, upd_n _ _ (by decide)]) ⟨rdS, Nat.zero_le _, fun j hj => absurd hj (Nat.not_lt_zero j)⟩)
