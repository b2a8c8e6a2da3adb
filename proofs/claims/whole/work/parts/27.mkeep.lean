/-! The model as a whole: what it keeps -/
/-- a state of both: the bus, the history, the slots, the pad -/
abbrev Aw : Type := Bs × ((Nat → Bs) × Nat) × (Nat → Option Bs) × ((Nat → Int32) × Nat)
def aB (A : Aw) : Bs := A.1
def aH (A : Aw) : (Nat → Bs) × Nat := A.2.1
def aS (A : Aw) : Nat → Option Bs := A.2.2.1
def aP (A : Aw) : (Nat → Int32) × Nat := A.2.2.2
def pushH (H : (Nat → Bs) × Nat) (B : Bs) : (Nat → Bs) × Nat := if H.2 = 6 then (fun k => if k = 5 then B else H.1 (k + 1), 6) else (fun k => if k = H.2 then B else H.1 k, H.2 + 1)
def PX (μ : Mm) (m : Nat) (H : (Nat → Bs) × Nat) : Prop := μ m 2 = nI H.2 ∧ H.2 ≤ 6 ∧ ∀ k, k < H.2 → ZR (fun j => μ (m + 2) (k * 351 + j)) (H.1 k)
def cpF (f : Nat → Int32) (o : Nat) (g : Nat → Int32) (k : Nat) : Nat → Int32 := fun j => if o ≤ j ∧ j < o + k then g (j - o) else f j
theorem cp_0 (f : Nat → Int32) (o : Nat) (g : Nat → Int32) : cpF f o g 0 = f := funext fun j => if_neg (by omega)
theorem cp_s (f : Nat → Int32) (o : Nat) (g : Nat → Int32) (k : Nat) : upd (cpF f o g k) (o + k) (g k) = cpF f o g (k + 1) := by
  funext j
  unfold cpF
  by_cases e : j = o + k
  · subst e
    rw [upd_s, if_pos (by omega), show o + k - o = k by omega]
  · rw [upd_n _ _ e]
    by_cases h : o ≤ j ∧ j < o + k
    · rw [if_pos h, if_pos (by omega)]
    · rw [if_neg h, if_neg (by omega)]
theorem cp_in {f g : Nat → Int32} {o k j : Nat} (h : j < k) : cpF f o g k (o + j) = g j := by
  unfold cpF
  rw [if_pos (by omega), show o + j - o = j by omega]
theorem cp_out {f g : Nat → Int32} {o k j : Nat} (h : j < o ∨ o + k ≤ j) : cpF f o g k j = f j := if_neg (by omega)
theorem cp_s0 (f : Nat → Int32) (g : Nat → Int32) (k : Nat) : upd (cpF f 0 g k) k (g k) = cpF f 0 g (k + 1) := by
  have := cp_s f 0 g k
  rw [Nat.zero_add] at this
  exact this
def shF (f : Nat → Int32) (k : Nat) : Nat → Int32 := fun j => if j < k then f (j + 351) else f j
theorem sh_0 (f : Nat → Int32) : shF f 0 = f := funext fun j => if_neg (by omega)
theorem sh_s (f : Nat → Int32) (k : Nat) : upd (shF f k) k (shF f k (k + 351)) = shF f (k + 1) := by
  funext j
  unfold shF
  by_cases e : j = k
  · subst e
    rw [upd_s, if_neg (by omega), if_pos (by omega)]
  · rw [upd_n _ _ e]
    by_cases h : j < k
    · rw [if_pos h, if_pos (by omega)]
    · rw [if_neg h, if_neg (by omega)]
theorem ZR.cg {z z' : Nat → Int32} {B : Bs} (h : ZR z B) (e : ∀ j, j < 351 → z' j = z j) : ZR z' B :=
  ⟨fun k hk => (e _ (by omega)).trans (h.g hk), fun v hv k hk => (e _ (by omega)).trans (h.w hv hk), fun i hi k hk => (e _ (by omega)).trans (h.s hi hk)⟩
theorem PX.push {μ μ' : Mm} {m : Nat} {H : (Nat → Bs) × Nat} {B : Bs} {f : Nat → Int32} {p : Nat} (h : PX μ m H) (hz : ZR (μ (m + 1)) B) (hp : (H.2 = 6 ∧ p = 5 ∧ f = shF (μ (m + 2)) 1755) ∨ (H.2 ≠ 6 ∧ p = H.2 ∧ f = μ (m + 2)))
    (e2 : μ' m 2 = nI (p + 1)) (e : μ' (m + 2) = cpF f (p * 351) (μ (m + 1)) 351) : PX μ' m (pushH H B) := by
  obtain ⟨h1, h2, h3⟩ := h
  unfold pushH
  rcases hp with ⟨q1, rfl, rfl⟩ | ⟨q1, rfl, rfl⟩
  · rw [if_pos q1]
    refine ⟨e2, Nat.le_refl 6, fun k hk => ?_⟩
    show ZR (fun j => μ' (m + 2) (k * 351 + j)) (if k = 5 then B else H.1 (k + 1))
    rw [e]
    by_cases e5 : k = 5
    · subst e5
      rw [if_pos rfl]
      exact hz.cg fun j hj => cp_in hj
    · rw [if_neg e5]
      have hk' : k < 6 := hk
      refine (h3 (k + 1) (by omega)).cg fun j hj => ?_
      show cpF (shF (μ (m + 2)) 1755) (5 * 351) (μ (m + 1)) 351 (k * 351 + j) = _
      rw [cp_out (by omega)]
      unfold shF
      rw [if_pos (by omega)]
      exact congrArg (μ (m + 2)) (by omega)
  · rw [if_neg q1]
    refine ⟨e2, by show H.2 + 1 ≤ 6; omega, fun k hk => ?_⟩
    have hk' : k < H.2 + 1 := hk
    show ZR (fun j => μ' (m + 2) (k * 351 + j)) (if k = H.2 then B else H.1 k)
    rw [e]
    by_cases e5 : k = H.2
    · subst e5
      rw [if_pos rfl]
      exact hz.cg fun j hj => cp_in hj
    · rw [if_neg e5]
      refine (h3 k (by omega)).cg fun j hj => ?_
      exact cp_out (Or.inl (by have : k + 1 ≤ H.2 := by omega
                               have := Nat.mul_le_mul_right 351 this
                               omega))
set_option maxRecDepth 100000 in
set_option maxHeartbeats 4000000 in
theorem m_putAside {X : Cx} {σ : Sp} {μ : Mm} {Q : Sp → Mm → Prop} {m : Nat} (h : ShM σ m) (q : Q σ (wC μ (m + 5) (cpF (μ (m + 5)) 0 (μ (m + 1)) 351))) : CTv X mX8_putAside [.ref m] σ μ Q := by
  refine CT.of (by decide +kernel) (Nat.le_of_ble_eq_true rfl) ?_
  show PW X mX8_putAside 0 0 0 [some (.ref m), none] [] σ μ (LV Q)
  refine pw_iconst (v := nI 0) dX8_putAside_0 (by decide) ?_
  refine pw_istore_1 dX8_putAside_1 (by decide) ?_
  refine pw_mem (show _ = wC μ (m + 5) (cpF (μ (m + 5)) 0 (μ (m + 1)) 0) from ?_) (pw_up (P := fun k => PW X mX8_putAside 0 0 2 [some (.ref m), some (.int (nI k))] [] σ (wC μ (m + 5) (cpF (μ (m + 5)) 0 (μ (m + 1)) k)) (LV Q)) 351 ?_ ?_ 0 (by omega))
  · rw [cp_0, wC_id]
  · skip
    refine pw_iload_1 dX8_putAside_2 ?_
    refine pw_sipush (v := nI 351) dX8_putAside_3 (by decide) ?_
    refine pw_icmp_ge 27 dX8_putAside_6 (by decide) (fun _ => ?_) (fun hh => absurd (by rw [nI_leI (by omega) (by omega)]; omega) hh)
    refine pw_return dX8_putAside_27 rfl ?_
    exact q
  · intro k hk ih
    refine pw_iload_1 dX8_putAside_2 ?_
    refine pw_sipush (v := nI 351) dX8_putAside_3 (by decide) ?_
    refine pw_icmp_ge 27 dX8_putAside_6 (by decide) (fun hh => absurd hh (by rw [nI_leI (by omega) (by omega)]; omega)) (fun _ => ?_)
    refine pw_aload_0 dX8_putAside_9 ?_
    refine pw_getr 8 5 dX8_putAside_10 fX8_23 rfl (by decide) rfl h.t h.r5 ?_
    refine pw_iload_1 dX8_putAside_13 ?_
    refine pw_aload_0 dX8_putAside_14 ?_
    refine pw_getr 8 0 dX8_putAside_15 fX8_7 rfl (by decide) rfl h.t h.r0 ?_
    refine pw_iload_1 dX8_putAside_18 ?_
    refine pw_ialdN dX8_putAside_19 h.a1 (by omega) (by decide) ?_
    refine pw_iastN dX8_putAside_20 h.a5 (by omega) (by decide) ?_
    refine pw_iincN_1 dX8_putAside_21 (by decide) ?_
    refine pw_goto 2 dX8_putAside_24 (by decide) ?_
    refine pw_mem ?_ ih
    rw [wr_wC_s, wC_ne _ _ (by omega), cp_s0]
set_option maxRecDepth 100000 in
set_option maxHeartbeats 4000000 in
theorem m_bringBack {X : Cx} {σ : Sp} {μ : Mm} {Q : Sp → Mm → Prop} {m : Nat} (h : ShM σ m) (q : Q σ (wC μ (m + 1) (cpF (μ (m + 1)) 0 (μ (m + 5)) 351))) : CTv X mX8_bringBack [.ref m] σ μ Q := by
  refine CT.of (by decide +kernel) (Nat.le_of_ble_eq_true rfl) ?_
  show PW X mX8_bringBack 0 0 0 [some (.ref m), none] [] σ μ (LV Q)
  refine pw_iconst (v := nI 0) dX8_bringBack_0 (by decide) ?_
  refine pw_istore_1 dX8_bringBack_1 (by decide) ?_
  refine pw_mem (show _ = wC μ (m + 1) (cpF (μ (m + 1)) 0 (μ (m + 5)) 0) from ?_) (pw_up (P := fun k => PW X mX8_bringBack 0 0 2 [some (.ref m), some (.int (nI k))] [] σ (wC μ (m + 1) (cpF (μ (m + 1)) 0 (μ (m + 5)) k)) (LV Q)) 351 ?_ ?_ 0 (by omega))
  · rw [cp_0, wC_id]
  · skip
    refine pw_iload_1 dX8_bringBack_2 ?_
    refine pw_sipush (v := nI 351) dX8_bringBack_3 (by decide) ?_
    refine pw_icmp_ge 27 dX8_bringBack_6 (by decide) (fun _ => ?_) (fun hh => absurd (by rw [nI_leI (by omega) (by omega)]; omega) hh)
    refine pw_return dX8_bringBack_27 rfl ?_
    exact q
  · intro k hk ih
    refine pw_iload_1 dX8_bringBack_2 ?_
    refine pw_sipush (v := nI 351) dX8_bringBack_3 (by decide) ?_
    refine pw_icmp_ge 27 dX8_bringBack_6 (by decide) (fun hh => absurd hh (by rw [nI_leI (by omega) (by omega)]; omega)) (fun _ => ?_)
    refine pw_aload_0 dX8_bringBack_9 ?_
    refine pw_getr 8 0 dX8_bringBack_10 fX8_7 rfl (by decide) rfl h.t h.r0 ?_
    refine pw_iload_1 dX8_bringBack_13 ?_
    refine pw_aload_0 dX8_bringBack_14 ?_
    refine pw_getr 8 5 dX8_bringBack_15 fX8_23 rfl (by decide) rfl h.t h.r5 ?_
    refine pw_iload_1 dX8_bringBack_18 ?_
    refine pw_ialdN dX8_bringBack_19 h.a5 (by omega) (by decide) ?_
    refine pw_iastN dX8_bringBack_20 h.a1 (by omega) (by decide) ?_
    refine pw_iincN_1 dX8_bringBack_21 (by decide) ?_
    refine pw_goto 2 dX8_bringBack_24 (by decide) ?_
    refine pw_mem ?_ ih
    rw [wr_wC_s, wC_ne _ _ (by omega), cp_s0]
set_option maxRecDepth 100000 in
set_option maxHeartbeats 4000000 in
theorem m_record {X : Cx} {σ : Sp} {μ : Mm} {Q : Sp → Mm → Prop} {m : Nat} {H : (Nat → Bs) × Nat} {B : Bs} (h : ShM σ m) (hp : PX μ m H) (hz : ZR (μ (m + 1)) B) (q : ∀ μ', (∀ a, a ≠ m → a ≠ m + 2 → μ' a = μ a) → (∀ k, k ≠ 2 → μ' m k = μ m k) → PX μ' m (pushH H B) → Q σ μ') : CTv X mX8_record [.ref m] σ μ Q := by
  refine CT.of (by decide +kernel) (Nat.le_of_ble_eq_true rfl) ?_
  show PW X mX8_record 0 0 0 [some (.ref m), none] [] σ μ (LV Q)
  have hH6 := hp.2.1
  refine pw_aload_0 dX8_record_0 ?_
  refine pw_getI 8 2 dX8_record_1 fX8_44 rfl (by decide) rfl h.t ?_
  refine pw_top hp.1 ?_
  refine pw_bipush (v := nI 6) dX8_record_4 (by decide) ?_
  refine pw_icmp_ne 50 dX8_record_6 (by decide) (fun h1 => ?_) (fun h1 => ?_)
  · skip
    refine pw_iconst (v := nI 0) dX8_record_50 (by decide) ?_
    refine pw_istore_1 dX8_record_51 (by decide) ?_
    have hl5 : H.2 < 6 := Nat.lt_of_le_of_ne hH6 (fun e => h1 (by rw [e]))
    refine pw_mem (show _ = wC μ (m + 2) (cpF (μ (m + 2)) (H.2 * 351) (μ (m + 1)) 0) from ?_) (pw_up (P := fun k => PW X mX8_record 0 0 52 [some (.ref m), some (.int (nI k))] [] σ (wC μ (m + 2) (cpF (μ (m + 2)) (H.2 * 351) (μ (m + 1)) k)) (LV Q)) 351 ?_ ?_ 0 (by omega))
    · rw [cp_0, wC_id]
    · skip
      refine pw_iload_1 dX8_record_52 ?_
      refine pw_sipush (v := nI 351) dX8_record_53 (by decide) ?_
      refine pw_icmp_ge 86 dX8_record_56 (by decide) (fun _ => ?_) (fun hh => absurd (by rw [nI_leI (by omega) (by omega)]; omega) hh)
      refine pw_aload_0 dX8_record_86 ?_
      refine pw_dup dX8_record_87 ?_
      refine pw_getI 8 2 dX8_record_88 fX8_44 rfl (by decide) rfl h.t ?_
      refine pw_top (show _ = nI H.2 by rw [wC_ne _ _ (by omega)]; exact hp.1) ?_
      refine pw_iconst (v := nI 1) dX8_record_91 (by decide) ?_
      refine pw_iaddN dX8_record_92 ?_
      refine pw_putI 8 2 dX8_record_93 fX8_44 rfl (by decide) rfl (Or.inl rfl) rfl (by decide) h.t ?_
      refine pw_return dX8_record_96 rfl ?_
      refine q _ (fun a h1 h2 => ?_) (fun k hk => ?_) (hp.push hz (Or.inr ⟨fun e => h1 (by rw [e]), rfl, rfl⟩) ?_ ?_)
      · rw [wr_n _ _ _ h1, wC_ne _ _ h2]
      · rw [wr_s, upd_n _ _ hk, wC_ne _ _ (by omega)]
      · rw [wr_s, upd_s]
      · rw [wr_n _ _ _ (by omega), wC_self]
    · intro k hk ih
      refine pw_iload_1 dX8_record_52 ?_
      refine pw_sipush (v := nI 351) dX8_record_53 (by decide) ?_
      refine pw_icmp_ge 86 dX8_record_56 (by decide) (fun hh => absurd hh (by rw [nI_leI (by omega) (by omega)]; omega)) (fun _ => ?_)
      refine pw_aload_0 dX8_record_59 ?_
      refine pw_getr 8 1 dX8_record_60 fX8_13 rfl (by decide) rfl h.t h.r1 ?_
      refine pw_aload_0 dX8_record_63 ?_
      refine pw_getI 8 2 dX8_record_64 fX8_44 rfl (by decide) rfl h.t ?_
      refine pw_top (show _ = nI H.2 by rw [wC_ne _ _ (by omega)]; exact hp.1) ?_
      refine pw_sipush (v := nI 351) dX8_record_67 (by decide) ?_
      refine pw_imulN dX8_record_70 ?_
      refine pw_iload_1 dX8_record_71 ?_
      refine pw_iaddN dX8_record_72 ?_
      refine pw_aload_0 dX8_record_73 ?_
      refine pw_getr 8 0 dX8_record_74 fX8_7 rfl (by decide) rfl h.t h.r0 ?_
      refine pw_iload_1 dX8_record_77 ?_
      refine pw_ialdN dX8_record_78 h.a1 (by omega) (by decide) ?_
      refine pw_iastN dX8_record_79 h.a2 (by omega) (by decide) ?_
      refine pw_iincN_1 dX8_record_80 (by decide) ?_
      refine pw_goto 52 dX8_record_83 (by decide) ?_
      refine pw_mem ?_ ih
      rw [wr_wC_s, wC_ne _ _ (by omega), cp_s]
  · skip
    refine pw_iconst (v := nI 0) dX8_record_9 (by decide) ?_
    refine pw_istore_1 dX8_record_10 (by decide) ?_
    refine pw_mem (show _ = wC μ (m + 2) (shF (μ (m + 2)) 0) from ?_) (pw_up (P := fun k => PW X mX8_record 0 0 11 [some (.ref m), some (.int (nI k))] [] σ (wC μ (m + 2) (shF (μ (m + 2)) k)) (LV Q)) 1755 ?_ ?_ 0 (by omega))
    · rw [sh_0, wC_id]
    · skip
      refine pw_iload_1 dX8_record_11 ?_
      refine pw_sipush (v := nI 1755) dX8_record_12 (by decide) ?_
      refine pw_icmp_ge 40 dX8_record_15 (by decide) (fun _ => ?_) (fun hh => absurd (by rw [nI_leI (by omega) (by omega)]; omega) hh)
      refine pw_aload_0 dX8_record_40 ?_
      refine pw_dup dX8_record_41 ?_
      refine pw_getI 8 2 dX8_record_42 fX8_44 rfl (by decide) rfl h.t ?_
      refine pw_top (show _ = nI 6 by rw [wC_ne _ _ (by omega), hp.1]; exact h1) ?_
      refine pw_iconst (v := nI 1) dX8_record_45 (by decide) ?_
      refine pw_isubN dX8_record_46 (by omega) ?_
      refine pw_putI 8 2 dX8_record_47 fX8_44 rfl (by decide) rfl (Or.inl rfl) rfl (by decide) h.t ?_
      refine pw_iconst (v := nI 0) dX8_record_50 (by decide) ?_
      refine pw_istore_1 dX8_record_51 (by decide) ?_
      refine pw_mem (show _ = wC (wr (wC μ (m + 2) (shF (μ (m + 2)) 1755)) m 2 (nI 5)) (m + 2) (cpF ((wr (wC μ (m + 2) (shF (μ (m + 2)) 1755)) m 2 (nI 5)) (m + 2)) (5 * 351) ((wr (wC μ (m + 2) (shF (μ (m + 2)) 1755)) m 2 (nI 5)) (m + 1)) 0) from ?_) (pw_up (P := fun k => PW X mX8_record 0 0 52 [some (.ref m), some (.int (nI k))] [] σ (wC (wr (wC μ (m + 2) (shF (μ (m + 2)) 1755)) m 2 (nI 5)) (m + 2) (cpF ((wr (wC μ (m + 2) (shF (μ (m + 2)) 1755)) m 2 (nI 5)) (m + 2)) (5 * 351) ((wr (wC μ (m + 2) (shF (μ (m + 2)) 1755)) m 2 (nI 5)) (m + 1)) k)) (LV Q)) 351 ?_ ?_ 0 (by omega))
      · rw [cp_0, wC_id]
      · skip
        refine pw_iload_1 dX8_record_52 ?_
        refine pw_sipush (v := nI 351) dX8_record_53 (by decide) ?_
        refine pw_icmp_ge 86 dX8_record_56 (by decide) (fun _ => ?_) (fun hh => absurd (by rw [nI_leI (by omega) (by omega)]; omega) hh)
        refine pw_aload_0 dX8_record_86 ?_
        refine pw_dup dX8_record_87 ?_
        refine pw_getI 8 2 dX8_record_88 fX8_44 rfl (by decide) rfl h.t ?_
        refine pw_top (show _ = nI 5 by rw [wC_ne _ _ (by omega)]; rw [wr_s, upd_s]) ?_
        refine pw_iconst (v := nI 1) dX8_record_91 (by decide) ?_
        refine pw_iaddN dX8_record_92 ?_
        refine pw_putI 8 2 dX8_record_93 fX8_44 rfl (by decide) rfl (Or.inl rfl) rfl (by decide) h.t ?_
        refine pw_return dX8_record_96 rfl ?_
        refine q _ (fun a h1 h2 => ?_) (fun k hk => ?_) (hp.push hz (Or.inl ⟨(nI_eq (by omega) (by omega)).mp h1, rfl, rfl⟩) ?_ ?_)
        · rw [wr_n _ _ _ h1, wC_ne _ _ h2, wr_n _ _ _ h1, wC_ne _ _ h2]
        · rw [wr_s, upd_n _ _ hk, wC_ne _ _ (by omega), wr_s, upd_n _ _ hk, wC_ne _ _ (by omega)]
        · rw [wr_s, upd_s]
        · rw [wr_n _ _ _ (by omega), wC_self]
          simp (disch := omega) only [wr_n, wC_self, wC_ne]
      · intro k hk ih
        refine pw_iload_1 dX8_record_52 ?_
        refine pw_sipush (v := nI 351) dX8_record_53 (by decide) ?_
        refine pw_icmp_ge 86 dX8_record_56 (by decide) (fun hh => absurd hh (by rw [nI_leI (by omega) (by omega)]; omega)) (fun _ => ?_)
        refine pw_aload_0 dX8_record_59 ?_
        refine pw_getr 8 1 dX8_record_60 fX8_13 rfl (by decide) rfl h.t h.r1 ?_
        refine pw_aload_0 dX8_record_63 ?_
        refine pw_getI 8 2 dX8_record_64 fX8_44 rfl (by decide) rfl h.t ?_
        refine pw_top (show _ = nI 5 by rw [wC_ne _ _ (by omega)]; rw [wr_s, upd_s]) ?_
        refine pw_sipush (v := nI 351) dX8_record_67 (by decide) ?_
        refine pw_imulN dX8_record_70 ?_
        refine pw_iload_1 dX8_record_71 ?_
        refine pw_iaddN dX8_record_72 ?_
        refine pw_aload_0 dX8_record_73 ?_
        refine pw_getr 8 0 dX8_record_74 fX8_7 rfl (by decide) rfl h.t h.r0 ?_
        refine pw_iload_1 dX8_record_77 ?_
        refine pw_ialdN dX8_record_78 h.a1 (by omega) (by decide) ?_
        refine pw_iastN dX8_record_79 h.a2 (by omega) (by decide) ?_
        refine pw_iincN_1 dX8_record_80 (by decide) ?_
        refine pw_goto 52 dX8_record_83 (by decide) ?_
        refine pw_mem ?_ ih
        rw [wr_wC_s, wC_ne _ _ (by omega), cp_s]
    · intro k hk ih
      refine pw_iload_1 dX8_record_11 ?_
      refine pw_sipush (v := nI 1755) dX8_record_12 (by decide) ?_
      refine pw_icmp_ge 40 dX8_record_15 (by decide) (fun hh => absurd hh (by rw [nI_leI (by omega) (by omega)]; omega)) (fun _ => ?_)
      refine pw_aload_0 dX8_record_18 ?_
      refine pw_getr 8 1 dX8_record_19 fX8_13 rfl (by decide) rfl h.t h.r1 ?_
      refine pw_iload_1 dX8_record_22 ?_
      refine pw_aload_0 dX8_record_23 ?_
      refine pw_getr 8 1 dX8_record_24 fX8_13 rfl (by decide) rfl h.t h.r1 ?_
      refine pw_iload_1 dX8_record_27 ?_
      refine pw_sipush (v := nI 351) dX8_record_28 (by decide) ?_
      refine pw_iaddN dX8_record_31 ?_
      refine pw_ialdN dX8_record_32 h.a2 (by omega) (by decide) ?_
      refine pw_iastN dX8_record_33 h.a2 (by omega) (by decide) ?_
      refine pw_iincN_1 dX8_record_34 (by decide) ?_
      refine pw_goto 11 dX8_record_37 (by decide) ?_
      refine pw_mem ?_ ih
      rw [wr_wC_s, wC_self, sh_s]
/-- beats and words heard stay below a bound -/
def TB (B : Bs) : Prop := ∃ t, t ≤ 99999 ∧ bG B 5 = nI t ∧ ∀ s, s < 8 → ∃ g, g ≤ t ∧ bS B s 19 = nI g
def GD (B : Bs) : Prop := WF B ∧ TB B
def WA (A : Aw) : Prop := GD (aB A) ∧ (∀ k, k < (aH A).2 → GD ((aH A).1 k)) ∧ ∀ k C, aS A k = some C → GD C
def VX (μ : Mm) (m : Nat) (S : Nat → Option Bs) : Prop := ∀ k, k < 2 → (∀ C, S k = some C → μ (m + 4) k = nI 1 ∧ ZR (fun j => μ (m + 3) (k * 351 + j)) C) ∧ (S k = none → μ (m + 4) k = nI 0)
def QX (μ : Mm) (m : Nat) (P : (Nat → Int32) × Nat) : Prop := μ m 7 = nI P.2 ∧ P.2 ≤ 80 ∧ ∀ j, j < P.2 → μ (m + 6) j = P.1 j
def MX (μ : Mm) (m : Nat) (A : Aw) : Prop := ZR (μ (m + 1)) (aB A) ∧ PX μ m (aH A) ∧ VX μ m (aS A) ∧ QX μ m (aP A)
def FMm (μ : Mm) (m : Nat) (μ' : Mm) : Prop := ∀ a, (a < m ∨ m + 9 ≤ a) → μ' a = μ a
def upA (A : Aw) (r : Int32) (B' : Bs) : Aw := if r < 0 then A else (B', pushH (aH A) (aB A), aS A, aP A)
theorem upA_e {A : Aw} {r : Int32} {B' : Bs} (h : r < 0) : upA A r B' = A := if_pos h
theorem upA_o {A : Aw} {r : Int32} {B' : Bs} (h : ¬ r < 0) : upA A r B' = (B', pushH (aH A) (aB A), aS A, aP A) := if_neg h
theorem MX.at {μ μ' : Mm} {m : Nat} {A : Aw} (h : MX μ m A) (e : ∀ a, m ≤ a → a < m + 9 → a ≠ m + 5 → a ≠ m + 7 → a ≠ m + 8 → a ≠ m → μ' a = μ a) (e2 : μ' m 2 = μ m 2) (e7 : μ' m 7 = μ m 7) : MX μ' m A := by
  obtain ⟨h1, ⟨p1, p2, p3⟩, h3, ⟨q1, q2, q3⟩⟩ := h
  have e' := fun k (hk : k < 7) (h0 : 0 < k) (h5 : k ≠ 5) => e (m + k) (by omega) (by omega) (by omega) (by omega) (by omega) (by omega)
  refine ⟨by rw [e' 1 (by omega) (by omega) (by omega)]; exact h1, ⟨e2.trans p1, p2, by rw [e' 2 (by omega) (by omega) (by omega)]; exact p3⟩, ?_, ⟨e7.trans q1, q2, by rw [e' 6 (by omega) (by omega) (by omega)]; exact q3⟩⟩
  unfold VX
  rw [e' 3 (by omega) (by omega) (by omega), e' 4 (by omega) (by omega) (by omega)]
  exact h3
theorem MX.fin {μ μ1 ν : Mm} {m : Nat} {A : Aw} {z' : Nat → Int32} {B' : Bs} (hx : MX μ m A) (f1 : ∀ a, a ≠ m → a ≠ m + 2 → μ1 a = μ a) (f2 : ∀ k, k ≠ 2 → μ1 m k = μ m k) (hp : PX μ1 m (pushH (aH A) (aB A))) (f3 : FM μ1 m ν) (hz : ZR z' B') : FMm μ m (wC ν (m + 1) z') ∧ MX (wC ν (m + 1) z') m (B', pushH (aH A) (aB A), aS A, aP A) := by
  obtain ⟨h1, h2, h3, ⟨q1, q2, q3⟩⟩ := hx
  have e' := fun k (hk : k < 7) (h0 : 2 < k) => show wC ν (m + 1) z' (m + k) = μ (m + k) by rw [wC_ne _ _ (by omega), f3 _ (by omega), f1 _ (by omega) (by omega)]
  have em : ∀ k, wC ν (m + 1) z' m k = μ1 m k := fun k => by rw [wC_ne _ _ (by omega), f3 _ (by omega)]
  have e2 : wC ν (m + 1) z' (m + 2) = μ1 (m + 2) := by rw [wC_ne _ _ (by omega), f3 _ (by omega)]
  refine ⟨fun a ha => by rw [wC_ne _ _ (by omega), f3 _ (by omega), f1 _ (by omega) (by omega)], by rw [wC_self]; exact hz, ⟨(em 2).trans hp.1, hp.2.1, by rw [e2]; exact hp.2.2⟩, ?_, ⟨((em 7).trans (f2 7 (by omega))).trans q1, q2, by rw [e' 6 (by omega) (by omega)]; exact q3⟩⟩
  unfold VX
  rw [e' 3 (by omega) (by omega), e' 4 (by omega) (by omega)]
  exact h3
/-- what a change answers is below 0 only where nothing changes -/
theorem nnI {k : Nat} (h : k < 2 ^ 31) : ¬ nI k < 0 := nI_pos h
set_option maxRecDepth 100000 in
set_option maxHeartbeats 4000000 in
theorem ms_station {X : Cx} {σ : Sp} {μ : Mm} {Q : Int32 → Sp → Mm → Prop} {m : Nat} {x : Int32} {A : Aw} (h : ShM σ m) (hx : MX μ m A) (wa : WA A) (q : ∀ μ', FMm μ m μ' → MX μ' m (upA A (cmR (aB A) x) (cmN (aB A) x)) → Q (cmR (aB A) x) σ μ') : CTi X mX8_station [.ref m, .int x] σ μ Q := by
  refine CT.of (by decide +kernel) (Nat.le_of_ble_eq_true rfl) ?_
  show PW X mX8_station 0 0 0 [some (.ref m), some (.int x), none] [] σ μ (LI Q)
  have wf := wa.1.1
  have hz := hx.1
  have hn := wf.hn
  have h8 := wf.n8
  refine pw_mem (wC_id μ (m + 1)).symm ?_
  refine pw_aload_0 dX8_station_0 ?_
  refine pw_iload_1 dX8_station_1 ?_
  refine pw_cV1i 8 dX8_station_2 kX8_59 vX8_whyNotStation iX8_whyNotStation ⟨by decide, by decide⟩ ⟨rfl, rfl⟩ (by decide) rfl (Nat.le_of_ble_eq_true rfl) h.t (m_whyStation h hz wf (fun hneg => ?_) (fun hy h88 => ?_))
  · skip
    refine pw_istore_2 dX8_station_5 (by decide) ?_
    refine pw_iload_2 dX8_station_6 ?_
    refine pw_if_ge 12 dX8_station_7 (by decide) (fun hh => absurd hh (Int32.not_le.mpr hneg)) (fun _ => ?_)
    refine pw_iload_2 dX8_station_10 ?_
    refine pw_ireturn dX8_station_11 rfl ?_
    rw [upA_e hneg] at q
    rw [wC_id]
    exact q _ (fun _ _ => rfl) hx
  · skip
    refine pw_istore_2 dX8_station_5 (by decide) ?_
    refine pw_iload_2 dX8_station_6 ?_
    refine pw_if_ge 12 dX8_station_7 (by decide) (fun _ => ?_) (fun hh => absurd (by decide) hh)
    refine pw_mem (wC_id μ (m + 1)) ?_
    refine pw_aload_0 dX8_station_12 ?_
    refine pw_cV0v 8 dX8_station_13 kX8_48 vX8_record iX8_record ⟨by decide, by decide⟩ ⟨rfl, rfl⟩ (by decide) rfl (Nat.le_of_ble_eq_true rfl) h.t (m_record h hx.2.1 hz (fun μ1 f1 f2 hp1 => ?_))
    have hz1 : ZR (μ1 (m + 1)) (aB A) := by rw [f1 _ (by omega) (by omega)]; exact hz
    refine pw_mem (wC_id μ1 (m + 1)).symm ?_
    refine pw_aload_0 dX8_station_16 ?_
    refine pw_iload_1 dX8_station_17 ?_
    refine pw_cV1i 8 dX8_station_18 kX8_63 vX8_comes iX8_comes ⟨by decide, by decide⟩ ⟨rfl, rfl⟩ (by decide) rfl (Nat.le_of_ble_eq_true rfl) h.t (m_comes h hz1 wf (by omega) (fun z9 hz9 => ?_))
    refine pw_ireturn dX8_station_21 rfl ?_
    have e1 : cmR (aB A) x = nI (nS (aB A)) := (cif_y hy).trans (if_neg h88)
    have e2 : cmN (aB A) x = cmB (aB A) x := cif_y ⟨hy, h88⟩
    rw [e1, e2, upA_o (nnI (by omega))] at q
    obtain ⟨g1, g2⟩ := hx.fin f1 f2 hp1 (fun _ _ => rfl) hz9
    exact q _ g1 g2
set_option maxRecDepth 100000 in
set_option maxHeartbeats 4000000 in
theorem ms_word {X : Cx} {σ : Sp} {μ : Mm} {Q : Int32 → Sp → Mm → Prop} {m : Nat} {x y u : Int32} {A : Aw} (h : ShM σ m) (hx : MX μ m A) (wa : WA A) (q : ∀ μ', FMm μ m μ' → MX μ' m (upA A (wdR (aB A) x y u) (wdN (aB A) x y u)) → Q (wdR (aB A) x y u) σ μ') : CTi X mX8_word [.ref m, .int x, .int y, .int u] σ μ Q := by
  refine CT.of (by decide +kernel) (Nat.le_of_ble_eq_true rfl) ?_
  show PW X mX8_word 0 0 0 [some (.ref m), some (.int x), some (.int y), some (.int u), none] [] σ μ (LI Q)
  have wf := wa.1.1
  have hz := hx.1
  have hn := wf.hn
  have h8 := wf.n8
  refine pw_mem (wC_id μ (m + 1)).symm ?_
  refine pw_aload_0 dX8_word_0 ?_
  refine pw_iload_1 dX8_word_1 ?_
  refine pw_iload_2 dX8_word_2 ?_
  refine pw_iload_3 dX8_word_3 ?_
  refine pw_cV3i 8 dX8_word_4 kX8_79 vX8_whyNotWord iX8_whyNotWord ⟨by decide, by decide⟩ ⟨rfl, rfl⟩ (by decide) rfl (Nat.le_of_ble_eq_true rfl) h.t (m_whyWord h hz wf (fun hneg => ?_) (fun j v t ej hj ev hv et ht hat h44 => ?_))
  · skip
    refine pw_istore_4 dX8_word_7 (by decide) ?_
    refine pw_iload_4 dX8_word_9 ?_
    refine pw_if_ge 17 dX8_word_11 (by decide) (fun hh => absurd hh (Int32.not_le.mpr hneg)) (fun _ => ?_)
    refine pw_iload_4 dX8_word_14 ?_
    refine pw_ireturn dX8_word_16 rfl ?_
    rw [upA_e hneg] at q
    rw [wC_id]
    exact q _ (fun _ _ => rfl) hx
  · skip
    subst ej
    subst ev
    subst et
    refine pw_istore_4 dX8_word_7 (by decide) ?_
    refine pw_iload_4 dX8_word_9 ?_
    refine pw_if_ge 17 dX8_word_11 (by decide) (fun _ => ?_) (fun hh => absurd (by decide) hh)
    refine pw_mem (wC_id μ (m + 1)) ?_
    refine pw_aload_0 dX8_word_17 ?_
    refine pw_cV0v 8 dX8_word_18 kX8_48 vX8_record iX8_record ⟨by decide, by decide⟩ ⟨rfl, rfl⟩ (by decide) rfl (Nat.le_of_ble_eq_true rfl) h.t (m_record h hx.2.1 hz (fun μ1 f1 f2 hp1 => ?_))
    have hz1 : ZR (μ1 (m + 1)) (aB A) := by rw [f1 _ (by omega) (by omega)]; exact hz
    refine pw_mem (wC_id μ1 (m + 1)).symm ?_
    refine pw_aload_0 dX8_word_21 ?_
    refine pw_iload_1 dX8_word_22 ?_
    refine pw_iload_2 dX8_word_23 ?_
    refine pw_iload_3 dX8_word_24 ?_
    refine pw_cV3i 8 dX8_word_25 kX8_83 vX8_gets iX8_gets ⟨by decide, by decide⟩ ⟨rfl, rfl⟩ (by decide) rfl (Nat.le_of_ble_eq_true rfl) h.t (m_gets h hz1 wf hj h44 (fun z9 hz9 => ?_))
    refine pw_ireturn dX8_word_28 rfl ?_
    have ei : ixN (nI j) = j := ixN_nI (by omega)
    have hw9 := (wf.w (i := j) (by omega)).2
    have hy : inN (nS (aB A)) (nI j) ∧ inN 6 (nI v) := ⟨inN_ok hj, inN_ok hv⟩
    have e1 : wdR (aB A) (nI j) (nI v) (nI t) = nI (nwF (bS (aB A) j) + 1) := by unfold wdR; rw [cif_y hy, cif_y (inN_ok ht), ei, cif_y hat, if_neg h44]
    have e2 : wdN (aB A) (nI j) (nI v) (nI t) = setS (aB A) j (gtF (bS (aB A) j) (nwF (bS (aB A) j)) (nI t) (nI v)) := by unfold wdN; rw [ei]; exact cif_y ⟨hy, inN_ok ht, hat, h44⟩
    rw [e1, e2, upA_o (nnI (by omega))] at q
    obtain ⟨g1, g2⟩ := hx.fin f1 f2 hp1 (fun _ _ => rfl) hz9
    exact q _ g1 g2
set_option maxRecDepth 100000 in
set_option maxHeartbeats 4000000 in
theorem ms_stick {X : Cx} {σ : Sp} {μ : Mm} {Q : Int32 → Sp → Mm → Prop} {m : Nat} {x : Int32} {A : Aw} (h : ShM σ m) (hx : MX μ m A) (wa : WA A) (q : ∀ μ', FMm μ m μ' → MX μ' m (upA A (skR (aB A) x) (skN (aB A) x)) → Q (skR (aB A) x) σ μ') : CTi X mX8_stick [.ref m, .int x] σ μ Q := by
  refine CT.of (by decide +kernel) (Nat.le_of_ble_eq_true rfl) ?_
  show PW X mX8_stick 0 0 0 [some (.ref m), some (.int x), none] [] σ μ (LI Q)
  have wf := wa.1.1
  have hz := hx.1
  have hn := wf.hn
  have h8 := wf.n8
  refine pw_mem (wC_id μ (m + 1)).symm ?_
  refine pw_aload_0 dX8_stick_0 ?_
  refine pw_iload_1 dX8_stick_1 ?_
  refine pw_cV1i 8 dX8_stick_2 kX8_103 vX8_whyNotWire iX8_whyNotWire ⟨by decide, by decide⟩ ⟨rfl, rfl⟩ (by decide) rfl (Nat.le_of_ble_eq_true rfl) h.t (m_whyWire (B := (aB A)) h (fun hneg => ?_) (fun j ej hj => ?_))
  · skip
    refine pw_istore_2 dX8_stick_5 (by decide) ?_
    refine pw_iload_2 dX8_stick_6 ?_
    refine pw_if_ge 12 dX8_stick_7 (by decide) (fun hh => absurd hh (Int32.not_le.mpr hneg)) (fun _ => ?_)
    refine pw_iload_2 dX8_stick_10 ?_
    refine pw_ireturn dX8_stick_11 rfl ?_
    rw [upA_e hneg] at q
    rw [wC_id]
    exact q _ (fun _ _ => rfl) hx
  · skip
    subst ej
    refine pw_istore_2 dX8_stick_5 (by decide) ?_
    refine pw_iload_2 dX8_stick_6 ?_
    refine pw_if_ge 12 dX8_stick_7 (by decide) (fun _ => ?_) (fun hh => absurd (by decide) hh)
    refine pw_mem (wC_id μ (m + 1)) ?_
    refine pw_aload_0 dX8_stick_12 ?_
    refine pw_cV0v 8 dX8_stick_13 kX8_48 vX8_record iX8_record ⟨by decide, by decide⟩ ⟨rfl, rfl⟩ (by decide) rfl (Nat.le_of_ble_eq_true rfl) h.t (m_record h hx.2.1 hz (fun μ1 f1 f2 hp1 => ?_))
    have hz1 : ZR (μ1 (m + 1)) (aB A) := by rw [f1 _ (by omega) (by omega)]; exact hz
    refine pw_mem (wC_id μ1 (m + 1)).symm ?_
    refine pw_aload_0 dX8_stick_16 ?_
    refine pw_iload_1 dX8_stick_17 ?_
    refine pw_cV1i 8 dX8_stick_18 kX8_106 vX8_turnFault iX8_turnFault ⟨by decide, by decide⟩ ⟨rfl, rfl⟩ (by decide) rfl (Nat.le_of_ble_eq_true rfl) h.t (m_turnFault h hz1 wf hj (fun z9 hz9 => ?_))
    refine pw_ireturn dX8_stick_21 rfl ?_
    have ei : ixN (nI j) = j := ixN_nI (by omega)
    have e1 : skR (aB A) (nI j) = nI 1 - bW (aB A) j 1 := by unfold skR; rw [cif_y (inN_ok hj), ei]
    have e2 : skN (aB A) (nI j) = setW (aB A) j 1 (nI 1 - bW (aB A) j 1) := by unfold skN; rw [cif_y (inN_ok hj), ei]
    rw [e1, e2, upA_o (by rcases z_flip (wf.2.2.1 j hj).2 with e | e <;> rw [e] <;> decide)] at q
    obtain ⟨g1, g2⟩ := hx.fin f1 f2 hp1 (fun _ _ => rfl) hz9
    exact q _ g1 g2
set_option maxRecDepth 100000 in
set_option maxHeartbeats 4000000 in
theorem ms_doze {X : Cx} {σ : Sp} {μ : Mm} {Q : Int32 → Sp → Mm → Prop} {m : Nat} {x : Int32} {A : Aw} (h : ShM σ m) (hx : MX μ m A) (wa : WA A) (q : ∀ μ', FMm μ m μ' → MX μ' m (upA A (dzR (aB A) x) (dzN (aB A) x)) → Q (dzR (aB A) x) σ μ') : CTi X mX8_doze [.ref m, .int x] σ μ Q := by
  refine CT.of (by decide +kernel) (Nat.le_of_ble_eq_true rfl) ?_
  show PW X mX8_doze 0 0 0 [some (.ref m), some (.int x), none] [] σ μ (LI Q)
  have wf := wa.1.1
  have hz := hx.1
  have hn := wf.hn
  have h8 := wf.n8
  refine pw_mem (wC_id μ (m + 1)).symm ?_
  refine pw_aload_0 dX8_doze_0 ?_
  refine pw_iload_1 dX8_doze_1 ?_
  refine pw_cV1i 8 dX8_doze_2 kX8_115 vX8_whyNotDoze iX8_whyNotDoze ⟨by decide, by decide⟩ ⟨rfl, rfl⟩ (by decide) rfl (Nat.le_of_ble_eq_true rfl) h.t (m_whyDoze h hz wf (fun hneg => ?_) (fun j ej hj => ?_))
  · skip
    refine pw_istore_2 dX8_doze_5 (by decide) ?_
    refine pw_iload_2 dX8_doze_6 ?_
    refine pw_if_ge 12 dX8_doze_7 (by decide) (fun hh => absurd hh (Int32.not_le.mpr hneg)) (fun _ => ?_)
    refine pw_iload_2 dX8_doze_10 ?_
    refine pw_ireturn dX8_doze_11 rfl ?_
    rw [upA_e hneg] at q
    rw [wC_id]
    exact q _ (fun _ _ => rfl) hx
  · skip
    subst ej
    refine pw_istore_2 dX8_doze_5 (by decide) ?_
    refine pw_iload_2 dX8_doze_6 ?_
    refine pw_if_ge 12 dX8_doze_7 (by decide) (fun _ => ?_) (fun hh => absurd (by decide) hh)
    refine pw_mem (wC_id μ (m + 1)) ?_
    refine pw_aload_0 dX8_doze_12 ?_
    refine pw_cV0v 8 dX8_doze_13 kX8_48 vX8_record iX8_record ⟨by decide, by decide⟩ ⟨rfl, rfl⟩ (by decide) rfl (Nat.le_of_ble_eq_true rfl) h.t (m_record h hx.2.1 hz (fun μ1 f1 f2 hp1 => ?_))
    have hz1 : ZR (μ1 (m + 1)) (aB A) := by rw [f1 _ (by omega) (by omega)]; exact hz
    refine pw_mem (wC_id μ1 (m + 1)).symm ?_
    refine pw_aload_0 dX8_doze_16 ?_
    refine pw_iload_1 dX8_doze_17 ?_
    refine pw_cV1i 8 dX8_doze_18 kX8_118 vX8_turnSleep iX8_turnSleep ⟨by decide, by decide⟩ ⟨rfl, rfl⟩ (by decide) rfl (Nat.le_of_ble_eq_true rfl) h.t (m_turnSleep h hz1 wf hj (fun z9 hz9 => ?_))
    refine pw_ireturn dX8_doze_21 rfl ?_
    have ei : ixN (nI j) = j := ixN_nI (by omega)
    have e1 : dzR (aB A) (nI j) = nI 1 - bS (aB A) j 3 := by unfold dzR; rw [cif_y (inN_ok hj), ei]
    have e2 : dzN (aB A) (nI j) = dzB (aB A) j := by unfold dzN; rw [cif_y (inN_ok hj), ei]
    rw [e1, e2, upA_o (by rcases z_flip (wf.s hj).2.1.2 with e | e <;> rw [e] <;> decide)] at q
    obtain ⟨g1, g2⟩ := hx.fin f1 f2 hp1 (fun _ _ => rfl) hz9
    exact q _ g1 g2
theorem bt_le (B : Bs) : btN B ≤ 8 * 2 ∨ True := Or.inr trivial
theorem goN_le {L A : Nat → Prop} {n : Nat} {B : Bs} : ∀ k, (itr (goP L A n) k (B, 0)).2 ≤ k
  | 0 => Nat.le_refl _
  | k + 1 => by
    have ih := goN_le (L := L) (A := A) (n := n) (B := B) k
    show (goP L A n k (itr (goP L A n) k (B, 0))).2 ≤ k + 1
    generalize itr (goP L A n) k (B, 0) = C at ih
    have e : goP L A n k C = ((goP L A n k (C.1, 0)).1, C.2 + (goP L A n k (C.1, 0)).2) := goP_c L A n k C.1 C.2
    rw [e]
    show C.2 + (goP L A n k (C.1, 0)).2 ≤ k + 1
    rcases goP_01 L A n k C.1 with q | q <;> omega
theorem btN_le {B : Bs} : btN B ≤ nS B := goN_le _
theorem bI_le {B : Bs} (wf : WF B) : ∀ k, (btI k B).2 ≤ 8 * k
  | 0 => Nat.le_refl _
  | k + 1 => by
    have ih := bI_le wf k
    have := btN_le (B := (btI k B).1)
    have h8 := (bI_wf wf k).n8
    show (btI k B).2 + btN (btI k B).1 ≤ 8 * (k + 1)
    omega
set_option maxRecDepth 100000 in
set_option maxHeartbeats 4000000 in
theorem ms_pass {X : Cx} {σ : Sp} {μ : Mm} {Q : Int32 → Sp → Mm → Prop} {m : Nat} {x : Int32} {A : Aw} (h : ShM σ m) (hx : MX μ m A) (wa : WA A) (q : ∀ μ', FMm μ m μ' → MX μ' m (upA A (psR (aB A) x) (psN (aB A) x)) → Q (psR (aB A) x) σ μ') : CTi X mX8_pass [.ref m, .int x] σ μ Q := by
  refine CT.of (by decide +kernel) (Nat.le_of_ble_eq_true rfl) ?_
  show PW X mX8_pass 0 0 0 [some (.ref m), some (.int x), none] [] σ μ (LI Q)
  have wf := wa.1.1
  have hz := hx.1
  have hn := wf.hn
  have h8 := wf.n8
  refine pw_mem (wC_id μ (m + 1)).symm ?_
  refine pw_aload_0 dX8_pass_0 ?_
  refine pw_iload_1 dX8_pass_1 ?_
  refine pw_cV1i 8 dX8_pass_2 kX8_156 vX8_whyNotPass iX8_whyNotPass ⟨by decide, by decide⟩ ⟨rfl, rfl⟩ (by decide) rfl (Nat.le_of_ble_eq_true rfl) h.t (m_whyPass h hz wf (fun hneg => ?_) (fun c ec c1 c9 hov => ?_))
  · skip
    refine pw_istore_2 dX8_pass_5 (by decide) ?_
    refine pw_iload_2 dX8_pass_6 ?_
    refine pw_if_ge 12 dX8_pass_7 (by decide) (fun hh => absurd hh (Int32.not_le.mpr hneg)) (fun _ => ?_)
    refine pw_iload_2 dX8_pass_10 ?_
    refine pw_ireturn dX8_pass_11 rfl ?_
    rw [upA_e hneg] at q
    rw [wC_id]
    exact q _ (fun _ _ => rfl) hx
  · skip
    subst ec
    refine pw_istore_2 dX8_pass_5 (by decide) ?_
    refine pw_iload_2 dX8_pass_6 ?_
    refine pw_if_ge 12 dX8_pass_7 (by decide) (fun _ => ?_) (fun hh => absurd (by decide) hh)
    refine pw_mem (wC_id μ (m + 1)) ?_
    refine pw_aload_0 dX8_pass_12 ?_
    refine pw_cV0v 8 dX8_pass_13 kX8_48 vX8_record iX8_record ⟨by decide, by decide⟩ ⟨rfl, rfl⟩ (by decide) rfl (Nat.le_of_ble_eq_true rfl) h.t (m_record h hx.2.1 hz (fun μ1 f1 f2 hp1 => ?_))
    have hz1 : ZR (μ1 (m + 1)) (aB A) := by rw [f1 _ (by omega) (by omega)]; exact hz
    refine pw_mem (wC_id μ1 (m + 1)).symm ?_
    refine pw_aload_0 dX8_pass_16 ?_
    refine pw_iload_1 dX8_pass_17 ?_
    refine pw_cV1i 8 dX8_pass_18 kX8_159 vX8_beats iX8_beats ⟨by decide, by decide⟩ ⟨rfl, rfl⟩ (by decide) rfl (Nat.le_of_ble_eq_true rfl) h.t (m_beats h hz1 wf (by omega) (fun ν z9 f9 hz9 => ?_))
    refine pw_ireturn dX8_pass_21 rfl ?_
    have ei : ixN (nI c) = c := ixN_nI (by omega)
    have hy : psP (nI c) := ⟨c, c1, c9, rfl⟩
    have hle := bI_le wf c
    have e1 : psR (aB A) (nI c) = nI (btI c (aB A)).2 := by unfold psR; rw [cif_y hy, if_neg hov, ei]
    have e2 : psN (aB A) (nI c) = (btI c (aB A)).1 := by unfold psN; rw [cif_y ⟨hy, hov⟩, ei]
    rw [e1, e2, upA_o (nnI (by omega))] at q
    obtain ⟨g1, g2⟩ := hx.fin f1 f2 hp1 f9 hz9
    exact q _ g1 g2
