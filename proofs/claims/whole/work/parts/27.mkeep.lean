/-! The model as a whole: what it keeps -/
/-- a state of both: the bus, the history, the slots, the pad -/
abbrev Aw : Type := Bs × ((Nat → Bs) × Nat) × (Nat → Option Bs) × ((Nat → Int32) × Nat)
def aB (A : Aw) : Bs := A.1
def aH (A : Aw) : (Nat → Bs) × Nat := A.2.1
def aS (A : Aw) : Nat → Option Bs := A.2.2.1
def aP (A : Aw) : (Nat → Int32) × Nat := A.2.2.2
def pushH (H : (Nat → Bs) × Nat) (B : Bs) : (Nat → Bs) × Nat := if H.2 = 6 then (fun k => if k = 5 then B else H.1 (k + 1), 6) else (fun k => if k = H.2 then B else H.1 k, H.2 + 1)
def PX (μ : Mm) (m : Nat) (H : (Nat → Bs) × Nat) : Prop := μ m 2 = nI H.2 ∧ H.2 ≤ 6 ∧ ∀ k, k < H.2 → ZR (fun j => μ (m + 2) (k * 351 + j)) (H.1 k)
def cpF (f : Nat → Int32) (o : Nat) (g : Nat → Int32) (k : Nat) : Nat → Int32 := fun j => if o ≤ j ∧ j < o + k then g (j - o) else f j
theorem cp_0 (f : Nat → Int32) (o : Nat) (g : Nat → Int32) : cpF f o g 0 = f := funext fun j => if_neg (by omega)
theorem cp_s (f : Nat → Int32) (o : Nat) (g : Nat → Int32) (k : Nat) : upd (cpF f o g k) (o + k) (g k) = cpF f o g (k + 1) := by
  funext j
  unfold cpF
  by_cases e : j = o + k
  · subst e
    rw [upd_s, if_pos (by omega), show o + k - o = k by omega]
  · rw [upd_n _ _ e]
    by_cases h : o ≤ j ∧ j < o + k
    · rw [if_pos h, if_pos (by omega)]
    · rw [if_neg h, if_neg (by omega)]
theorem cp_in {f g : Nat → Int32} {o k j : Nat} (h : j < k) : cpF f o g k (o + j) = g j := by
  unfold cpF
  rw [if_pos (by omega), show o + j - o = j by omega]
theorem cp_out {f g : Nat → Int32} {o k j : Nat} (h : j < o ∨ o + k ≤ j) : cpF f o g k j = f j := if_neg (by omega)
theorem cp_s0 (f : Nat → Int32) (g : Nat → Int32) (k : Nat) : upd (cpF f 0 g k) k (g k) = cpF f 0 g (k + 1) := by
  have := cp_s f 0 g k
  rw [Nat.zero_add] at this
  exact this
def shF (f : Nat → Int32) (k : Nat) : Nat → Int32 := fun j => if j < k then f (j + 351) else f j
theorem sh_0 (f : Nat → Int32) : shF f 0 = f := funext fun j => if_neg (by omega)
theorem sh_s (f : Nat → Int32) (k : Nat) : upd (shF f k) k (shF f k (k + 351)) = shF f (k + 1) := by
  funext j
  unfold shF
  by_cases e : j = k
  · subst e
    rw [upd_s, if_neg (by omega), if_pos (by omega)]
  · rw [upd_n _ _ e]
    by_cases h : j < k
    · rw [if_pos h, if_pos (by omega)]
    · rw [if_neg h, if_neg (by omega)]
theorem ZR.cg {z z' : Nat → Int32} {B : Bs} (h : ZR z B) (e : ∀ j, j < 351 → z' j = z j) : ZR z' B :=
  ⟨fun k hk => (e _ (by omega)).trans (h.g hk), fun v hv k hk => (e _ (by omega)).trans (h.w hv hk), fun i hi k hk => (e _ (by omega)).trans (h.s hi hk)⟩
theorem PX.push {μ μ' : Mm} {m : Nat} {H : (Nat → Bs) × Nat} {B : Bs} {f : Nat → Int32} {p : Nat} (h : PX μ m H) (hz : ZR (μ (m + 1)) B) (hp : (H.2 = 6 ∧ p = 5 ∧ f = shF (μ (m + 2)) 1755) ∨ (H.2 ≠ 6 ∧ p = H.2 ∧ f = μ (m + 2)))
    (e2 : μ' m 2 = nI (p + 1)) (e : μ' (m + 2) = cpF f (p * 351) (μ (m + 1)) 351) : PX μ' m (pushH H B) := by
  obtain ⟨h1, h2, h3⟩ := h
  unfold pushH
  rcases hp with ⟨q1, rfl, rfl⟩ | ⟨q1, rfl, rfl⟩
  · rw [if_pos q1]
    refine ⟨e2, Nat.le_refl 6, fun k hk => ?_⟩
    show ZR (fun j => μ' (m + 2) (k * 351 + j)) (if k = 5 then B else H.1 (k + 1))
    rw [e]
    by_cases e5 : k = 5
    · subst e5
      rw [if_pos rfl]
      exact hz.cg fun j hj => cp_in hj
    · rw [if_neg e5]
      have hk' : k < 6 := hk
      refine (h3 (k + 1) (by omega)).cg fun j hj => ?_
      show cpF (shF (μ (m + 2)) 1755) (5 * 351) (μ (m + 1)) 351 (k * 351 + j) = _
      rw [cp_out (by omega)]
      unfold shF
      rw [if_pos (by omega)]
      exact congrArg (μ (m + 2)) (by omega)
  · rw [if_neg q1]
    refine ⟨e2, by show H.2 + 1 ≤ 6; omega, fun k hk => ?_⟩
    have hk' : k < H.2 + 1 := hk
    show ZR (fun j => μ' (m + 2) (k * 351 + j)) (if k = H.2 then B else H.1 k)
    rw [e]
    by_cases e5 : k = H.2
    · subst e5
      rw [if_pos rfl]
      exact hz.cg fun j hj => cp_in hj
    · rw [if_neg e5]
      refine (h3 k (by omega)).cg fun j hj => ?_
      exact cp_out (Or.inl (by have : k + 1 ≤ H.2 := by omega
                               have := Nat.mul_le_mul_right 351 this
                               omega))
set_option maxRecDepth 100000 in
set_option maxHeartbeats 4000000 in
theorem m_putAside {X : Cx} {σ : Sp} {μ : Mm} {Q : Sp → Mm → Prop} {m : Nat} (h : ShM σ m) (q : Q σ (wC μ (m + 5) (cpF (μ (m + 5)) 0 (μ (m + 1)) 351))) : CTv X mX8_putAside [.ref m] σ μ Q := by
  refine CT.of (by decide +kernel) (Nat.le_of_ble_eq_true rfl) ?_
  show PW X mX8_putAside 0 0 0 [some (.ref m), none] [] σ μ (LV Q)
  refine pw_iconst (v := nI 0) dX8_putAside_0 (by decide) ?_
  refine pw_istore_1 dX8_putAside_1 (by decide) ?_
  refine pw_mem (show _ = wC μ (m + 5) (cpF (μ (m + 5)) 0 (μ (m + 1)) 0) from ?_) (pw_up (P := fun k => PW X mX8_putAside 0 0 2 [some (.ref m), some (.int (nI k))] [] σ (wC μ (m + 5) (cpF (μ (m + 5)) 0 (μ (m + 1)) k)) (LV Q)) 351 ?_ ?_ 0 (by omega))
  · rw [cp_0, wC_id]
  · skip
    refine pw_iload_1 dX8_putAside_2 ?_
    refine pw_sipush (v := nI 351) dX8_putAside_3 (by decide) ?_
    refine pw_icmp_ge 27 dX8_putAside_6 (by decide) (fun _ => ?_) (fun hh => absurd (by rw [nI_leI (by omega) (by omega)]; omega) hh)
    refine pw_return dX8_putAside_27 rfl ?_
    exact q
  · intro k hk ih
    refine pw_iload_1 dX8_putAside_2 ?_
    refine pw_sipush (v := nI 351) dX8_putAside_3 (by decide) ?_
    refine pw_icmp_ge 27 dX8_putAside_6 (by decide) (fun hh => absurd hh (by rw [nI_leI (by omega) (by omega)]; omega)) (fun _ => ?_)
    refine pw_aload_0 dX8_putAside_9 ?_
    refine pw_getr 8 5 dX8_putAside_10 fX8_23 rfl (by decide) rfl h.t h.r5 ?_
    refine pw_iload_1 dX8_putAside_13 ?_
    refine pw_aload_0 dX8_putAside_14 ?_
    refine pw_getr 8 0 dX8_putAside_15 fX8_7 rfl (by decide) rfl h.t h.r0 ?_
    refine pw_iload_1 dX8_putAside_18 ?_
    refine pw_ialdN dX8_putAside_19 h.a1 (by omega) (by decide) ?_
    refine pw_iastN dX8_putAside_20 h.a5 (by omega) (by decide) ?_
    refine pw_iincN_1 dX8_putAside_21 (by decide) ?_
    refine pw_goto 2 dX8_putAside_24 (by decide) ?_
    refine pw_mem ?_ ih
    rw [wr_wC_s, wC_ne _ _ (by omega), cp_s0]
set_option maxRecDepth 100000 in
set_option maxHeartbeats 4000000 in
theorem m_bringBack {X : Cx} {σ : Sp} {μ : Mm} {Q : Sp → Mm → Prop} {m : Nat} (h : ShM σ m) (q : Q σ (wC μ (m + 1) (cpF (μ (m + 1)) 0 (μ (m + 5)) 351))) : CTv X mX8_bringBack [.ref m] σ μ Q := by
  refine CT.of (by decide +kernel) (Nat.le_of_ble_eq_true rfl) ?_
  show PW X mX8_bringBack 0 0 0 [some (.ref m), none] [] σ μ (LV Q)
  refine pw_iconst (v := nI 0) dX8_bringBack_0 (by decide) ?_
  refine pw_istore_1 dX8_bringBack_1 (by decide) ?_
  refine pw_mem (show _ = wC μ (m + 1) (cpF (μ (m + 1)) 0 (μ (m + 5)) 0) from ?_) (pw_up (P := fun k => PW X mX8_bringBack 0 0 2 [some (.ref m), some (.int (nI k))] [] σ (wC μ (m + 1) (cpF (μ (m + 1)) 0 (μ (m + 5)) k)) (LV Q)) 351 ?_ ?_ 0 (by omega))
  · rw [cp_0, wC_id]
  · skip
    refine pw_iload_1 dX8_bringBack_2 ?_
    refine pw_sipush (v := nI 351) dX8_bringBack_3 (by decide) ?_
    refine pw_icmp_ge 27 dX8_bringBack_6 (by decide) (fun _ => ?_) (fun hh => absurd (by rw [nI_leI (by omega) (by omega)]; omega) hh)
    refine pw_return dX8_bringBack_27 rfl ?_
    exact q
  · intro k hk ih
    refine pw_iload_1 dX8_bringBack_2 ?_
    refine pw_sipush (v := nI 351) dX8_bringBack_3 (by decide) ?_
    refine pw_icmp_ge 27 dX8_bringBack_6 (by decide) (fun hh => absurd hh (by rw [nI_leI (by omega) (by omega)]; omega)) (fun _ => ?_)
    refine pw_aload_0 dX8_bringBack_9 ?_
    refine pw_getr 8 0 dX8_bringBack_10 fX8_7 rfl (by decide) rfl h.t h.r0 ?_
    refine pw_iload_1 dX8_bringBack_13 ?_
    refine pw_aload_0 dX8_bringBack_14 ?_
    refine pw_getr 8 5 dX8_bringBack_15 fX8_23 rfl (by decide) rfl h.t h.r5 ?_
    refine pw_iload_1 dX8_bringBack_18 ?_
    refine pw_ialdN dX8_bringBack_19 h.a5 (by omega) (by decide) ?_
    refine pw_iastN dX8_bringBack_20 h.a1 (by omega) (by decide) ?_
    refine pw_iincN_1 dX8_bringBack_21 (by decide) ?_
    refine pw_goto 2 dX8_bringBack_24 (by decide) ?_
    refine pw_mem ?_ ih
    rw [wr_wC_s, wC_ne _ _ (by omega), cp_s0]
set_option maxRecDepth 100000 in
set_option maxHeartbeats 4000000 in
theorem m_record {X : Cx} {σ : Sp} {μ : Mm} {Q : Sp → Mm → Prop} {m : Nat} {H : (Nat → Bs) × Nat} {B : Bs} (h : ShM σ m) (hp : PX μ m H) (hz : ZR (μ (m + 1)) B) (q : ∀ μ', (∀ a, a ≠ m → a ≠ m + 2 → μ' a = μ a) → (∀ k, k ≠ 2 → μ' m k = μ m k) → PX μ' m (pushH H B) → Q σ μ') : CTv X mX8_record [.ref m] σ μ Q := by
  refine CT.of (by decide +kernel) (Nat.le_of_ble_eq_true rfl) ?_
  show PW X mX8_record 0 0 0 [some (.ref m), none] [] σ μ (LV Q)
  have hH6 := hp.2.1
  refine pw_aload_0 dX8_record_0 ?_
  refine pw_getI 8 2 dX8_record_1 fX8_44 rfl (by decide) rfl h.t ?_
  refine pw_top hp.1 ?_
  refine pw_bipush (v := nI 6) dX8_record_4 (by decide) ?_
  refine pw_icmp_ne 50 dX8_record_6 (by decide) (fun h1 => ?_) (fun h1 => ?_)
  · skip
    refine pw_iconst (v := nI 0) dX8_record_50 (by decide) ?_
    refine pw_istore_1 dX8_record_51 (by decide) ?_
    have hl5 : H.2 < 6 := Nat.lt_of_le_of_ne hH6 (fun e => h1 (by rw [e]))
    refine pw_mem (show _ = wC μ (m + 2) (cpF (μ (m + 2)) (H.2 * 351) (μ (m + 1)) 0) from ?_) (pw_up (P := fun k => PW X mX8_record 0 0 52 [some (.ref m), some (.int (nI k))] [] σ (wC μ (m + 2) (cpF (μ (m + 2)) (H.2 * 351) (μ (m + 1)) k)) (LV Q)) 351 ?_ ?_ 0 (by omega))
    · rw [cp_0, wC_id]
    · skip
      refine pw_iload_1 dX8_record_52 ?_
      refine pw_sipush (v := nI 351) dX8_record_53 (by decide) ?_
      refine pw_icmp_ge 86 dX8_record_56 (by decide) (fun _ => ?_) (fun hh => absurd (by rw [nI_leI (by omega) (by omega)]; omega) hh)
      refine pw_aload_0 dX8_record_86 ?_
      refine pw_dup dX8_record_87 ?_
      refine pw_getI 8 2 dX8_record_88 fX8_44 rfl (by decide) rfl h.t ?_
      refine pw_top (show _ = nI H.2 by rw [wC_ne _ _ (by omega)]; exact hp.1) ?_
      refine pw_iconst (v := nI 1) dX8_record_91 (by decide) ?_
      refine pw_iaddN dX8_record_92 ?_
      refine pw_putI 8 2 dX8_record_93 fX8_44 rfl (by decide) rfl (Or.inl rfl) rfl (by decide) h.t ?_
      refine pw_return dX8_record_96 rfl ?_
      refine q _ (fun a h1 h2 => ?_) (fun k hk => ?_) (hp.push hz (Or.inr ⟨fun e => h1 (by rw [e]), rfl, rfl⟩) ?_ ?_)
      · rw [wr_n _ _ _ h1, wC_ne _ _ h2]
      · rw [wr_s, upd_n _ _ hk, wC_ne _ _ (by omega)]
      · rw [wr_s, upd_s]
      · rw [wr_n _ _ _ (by omega), wC_self]
    · intro k hk ih
      refine pw_iload_1 dX8_record_52 ?_
      refine pw_sipush (v := nI 351) dX8_record_53 (by decide) ?_
      refine pw_icmp_ge 86 dX8_record_56 (by decide) (fun hh => absurd hh (by rw [nI_leI (by omega) (by omega)]; omega)) (fun _ => ?_)
      refine pw_aload_0 dX8_record_59 ?_
      refine pw_getr 8 1 dX8_record_60 fX8_13 rfl (by decide) rfl h.t h.r1 ?_
      refine pw_aload_0 dX8_record_63 ?_
      refine pw_getI 8 2 dX8_record_64 fX8_44 rfl (by decide) rfl h.t ?_
      refine pw_top (show _ = nI H.2 by rw [wC_ne _ _ (by omega)]; exact hp.1) ?_
      refine pw_sipush (v := nI 351) dX8_record_67 (by decide) ?_
      refine pw_imulN dX8_record_70 ?_
      refine pw_iload_1 dX8_record_71 ?_
      refine pw_iaddN dX8_record_72 ?_
      refine pw_aload_0 dX8_record_73 ?_
      refine pw_getr 8 0 dX8_record_74 fX8_7 rfl (by decide) rfl h.t h.r0 ?_
      refine pw_iload_1 dX8_record_77 ?_
      refine pw_ialdN dX8_record_78 h.a1 (by omega) (by decide) ?_
      refine pw_iastN dX8_record_79 h.a2 (by omega) (by decide) ?_
      refine pw_iincN_1 dX8_record_80 (by decide) ?_
      refine pw_goto 52 dX8_record_83 (by decide) ?_
      refine pw_mem ?_ ih
      rw [wr_wC_s, wC_ne _ _ (by omega), cp_s]
  · skip
    refine pw_iconst (v := nI 0) dX8_record_9 (by decide) ?_
    refine pw_istore_1 dX8_record_10 (by decide) ?_
    refine pw_mem (show _ = wC μ (m + 2) (shF (μ (m + 2)) 0) from ?_) (pw_up (P := fun k => PW X mX8_record 0 0 11 [some (.ref m), some (.int (nI k))] [] σ (wC μ (m + 2) (shF (μ (m + 2)) k)) (LV Q)) 1755 ?_ ?_ 0 (by omega))
    · rw [sh_0, wC_id]
    · skip
      refine pw_iload_1 dX8_record_11 ?_
      refine pw_sipush (v := nI 1755) dX8_record_12 (by decide) ?_
      refine pw_icmp_ge 40 dX8_record_15 (by decide) (fun _ => ?_) (fun hh => absurd (by rw [nI_leI (by omega) (by omega)]; omega) hh)
      refine pw_aload_0 dX8_record_40 ?_
      refine pw_dup dX8_record_41 ?_
      refine pw_getI 8 2 dX8_record_42 fX8_44 rfl (by decide) rfl h.t ?_
      refine pw_top (show _ = nI 6 by rw [wC_ne _ _ (by omega), hp.1]; exact h1) ?_
      refine pw_iconst (v := nI 1) dX8_record_45 (by decide) ?_
      refine pw_isubN dX8_record_46 (by omega) ?_
      refine pw_putI 8 2 dX8_record_47 fX8_44 rfl (by decide) rfl (Or.inl rfl) rfl (by decide) h.t ?_
      refine pw_iconst (v := nI 0) dX8_record_50 (by decide) ?_
      refine pw_istore_1 dX8_record_51 (by decide) ?_
      refine pw_mem (show _ = wC (wr (wC μ (m + 2) (shF (μ (m + 2)) 1755)) m 2 (nI 5)) (m + 2) (cpF ((wr (wC μ (m + 2) (shF (μ (m + 2)) 1755)) m 2 (nI 5)) (m + 2)) (5 * 351) ((wr (wC μ (m + 2) (shF (μ (m + 2)) 1755)) m 2 (nI 5)) (m + 1)) 0) from ?_) (pw_up (P := fun k => PW X mX8_record 0 0 52 [some (.ref m), some (.int (nI k))] [] σ (wC (wr (wC μ (m + 2) (shF (μ (m + 2)) 1755)) m 2 (nI 5)) (m + 2) (cpF ((wr (wC μ (m + 2) (shF (μ (m + 2)) 1755)) m 2 (nI 5)) (m + 2)) (5 * 351) ((wr (wC μ (m + 2) (shF (μ (m + 2)) 1755)) m 2 (nI 5)) (m + 1)) k)) (LV Q)) 351 ?_ ?_ 0 (by omega))
      · rw [cp_0, wC_id]
      · skip
        refine pw_iload_1 dX8_record_52 ?_
        refine pw_sipush (v := nI 351) dX8_record_53 (by decide) ?_
        refine pw_icmp_ge 86 dX8_record_56 (by decide) (fun _ => ?_) (fun hh => absurd (by rw [nI_leI (by omega) (by omega)]; omega) hh)
        refine pw_aload_0 dX8_record_86 ?_
        refine pw_dup dX8_record_87 ?_
        refine pw_getI 8 2 dX8_record_88 fX8_44 rfl (by decide) rfl h.t ?_
        refine pw_top (show _ = nI 5 by rw [wC_ne _ _ (by omega)]; rw [wr_s, upd_s]) ?_
        refine pw_iconst (v := nI 1) dX8_record_91 (by decide) ?_
        refine pw_iaddN dX8_record_92 ?_
        refine pw_putI 8 2 dX8_record_93 fX8_44 rfl (by decide) rfl (Or.inl rfl) rfl (by decide) h.t ?_
        refine pw_return dX8_record_96 rfl ?_
        refine q _ (fun a h1 h2 => ?_) (fun k hk => ?_) (hp.push hz (Or.inl ⟨(nI_eq (by omega) (by omega)).mp h1, rfl, rfl⟩) ?_ ?_)
        · rw [wr_n _ _ _ h1, wC_ne _ _ h2, wr_n _ _ _ h1, wC_ne _ _ h2]
        · rw [wr_s, upd_n _ _ hk, wC_ne _ _ (by omega), wr_s, upd_n _ _ hk, wC_ne _ _ (by omega)]
        · rw [wr_s, upd_s]
        · rw [wr_n _ _ _ (by omega), wC_self]
          simp (disch := omega) only [wr_n, wC_self, wC_ne]
      · intro k hk ih
        refine pw_iload_1 dX8_record_52 ?_
        refine pw_sipush (v := nI 351) dX8_record_53 (by decide) ?_
        refine pw_icmp_ge 86 dX8_record_56 (by decide) (fun hh => absurd hh (by rw [nI_leI (by omega) (by omega)]; omega)) (fun _ => ?_)
        refine pw_aload_0 dX8_record_59 ?_
        refine pw_getr 8 1 dX8_record_60 fX8_13 rfl (by decide) rfl h.t h.r1 ?_
        refine pw_aload_0 dX8_record_63 ?_
        refine pw_getI 8 2 dX8_record_64 fX8_44 rfl (by decide) rfl h.t ?_
        refine pw_top (show _ = nI 5 by rw [wC_ne _ _ (by omega)]; rw [wr_s, upd_s]) ?_
        refine pw_sipush (v := nI 351) dX8_record_67 (by decide) ?_
        refine pw_imulN dX8_record_70 ?_
        refine pw_iload_1 dX8_record_71 ?_
        refine pw_iaddN dX8_record_72 ?_
        refine pw_aload_0 dX8_record_73 ?_
        refine pw_getr 8 0 dX8_record_74 fX8_7 rfl (by decide) rfl h.t h.r0 ?_
        refine pw_iload_1 dX8_record_77 ?_
        refine pw_ialdN dX8_record_78 h.a1 (by omega) (by decide) ?_
        refine pw_iastN dX8_record_79 h.a2 (by omega) (by decide) ?_
        refine pw_iincN_1 dX8_record_80 (by decide) ?_
        refine pw_goto 52 dX8_record_83 (by decide) ?_
        refine pw_mem ?_ ih
        rw [wr_wC_s, wC_ne _ _ (by omega), cp_s]
    · intro k hk ih
      refine pw_iload_1 dX8_record_11 ?_
      refine pw_sipush (v := nI 1755) dX8_record_12 (by decide) ?_
      refine pw_icmp_ge 40 dX8_record_15 (by decide) (fun hh => absurd hh (by rw [nI_leI (by omega) (by omega)]; omega)) (fun _ => ?_)
      refine pw_aload_0 dX8_record_18 ?_
      refine pw_getr 8 1 dX8_record_19 fX8_13 rfl (by decide) rfl h.t h.r1 ?_
      refine pw_iload_1 dX8_record_22 ?_
      refine pw_aload_0 dX8_record_23 ?_
      refine pw_getr 8 1 dX8_record_24 fX8_13 rfl (by decide) rfl h.t h.r1 ?_
      refine pw_iload_1 dX8_record_27 ?_
      refine pw_sipush (v := nI 351) dX8_record_28 (by decide) ?_
      refine pw_iaddN dX8_record_31 ?_
      refine pw_ialdN dX8_record_32 h.a2 (by omega) (by decide) ?_
      refine pw_iastN dX8_record_33 h.a2 (by omega) (by decide) ?_
      refine pw_iincN_1 dX8_record_34 (by decide) ?_
      refine pw_goto 11 dX8_record_37 (by decide) ?_
      refine pw_mem ?_ ih
      rw [wr_wC_s, wC_self, sh_s]
