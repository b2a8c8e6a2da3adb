/-! What if -/
noncomputable def bk (B : Bs) (k : Nat) : Bs := (btI k B).1
theorem bk_wf {B : Bs} (wf : WF B) (k : Nat) : WF (bk B k) := bI_wf wf k
theorem bk_n {B : Bs} (k : Nat) : nS (bk B k) = nS B := bI_n k
/-- the first from i on, within f -/
noncomputable def srch (p : Nat → Prop) : Nat → Nat → Nat
  | i, 0 => i
  | i, f + 1 => cif (p i) i (srch p (i + 1) f)
theorem sr_y {p : Nat → Prop} {k : Nat} (h : p k) : ∀ {f i : Nat}, i ≤ k → k < i + f → (∀ j, i ≤ j → j < k → ¬ p j) → srch p i f = k
  | 0, i, h1, h2, _ => absurd h2 (by omega)
  | f + 1, i, h1, h2, h3 => by
    show cif (p i) i (srch p (i + 1) f) = k
    by_cases e : i = k
    · subst e
      exact cif_y h
    · rw [cif_n (h3 i (Nat.le_refl i) (by omega))]
      exact sr_y h (by omega) (by omega) fun j h4 h5 => h3 j (by omega) h5
theorem sr_n {p : Nat → Prop} : ∀ {f i : Nat}, (∀ j, i ≤ j → j < i + f → ¬ p j) → srch p i f = i + f
  | 0, _, _ => rfl
  | f + 1, i, h => by
    show cif (p i) i (srch p (i + 1) f) = _
    rw [cif_n (h i (Nat.le_refl i) (by omega)), sr_n (f := f) fun j h1 h2 => h j (by omega) (by omega)]
    omega
def slP (B : Bs) (i k : Nat) : Prop := bS (bk B k) i 2 ≠ nI 0
def quP (B : Bs) (k : Nat) : Prop := ∀ s, s < nS B → nwF (bS (bk B k) s) = 0
def enP (B : Bs) (i k : Nat) : Prop := nwF (bS (bk B k) i) ≠ nwF (bS B i)
noncomputable def ssR (p : Nat → Prop) (n : Nat) : Int32 := if n < srch p 0 (n + 1) then -6 else nI (srch p 0 (n + 1))
theorem ss_y {p : Nat → Prop} {n k : Nat} (h : p k) (hk : k ≤ n) (hn : ∀ j, j < k → ¬ p j) : ssR p n = nI k := by
  unfold ssR
  rw [sr_y h (i := 0) (f := n + 1) (by omega) (by omega) fun j _ h2 => hn j h2, if_neg (by omega)]
theorem ss_n {p : Nat → Prop} {n : Nat} (hn : ∀ j, j < n + 1 → ¬ p j) : ssR p n = -6 := by
  unfold ssR
  rw [sr_n (i := 0) (f := n + 1) fun j _ h2 => hn j (by omega), if_pos (by omega)]
noncomputable def slR (B : Bs) (x : Int32) : Int32 := cif (inN (nS B) x) (ssR (slP B (ixN x)) 600) (-1)
noncomputable def quR (B : Bs) : Int32 := ssR (quP B) 900
noncomputable def enF (B : Bs) (i : Nat) (y : Int32) : Int32 := if 600 < srch (enP B i) 0 601 then -6 else if y = nI 0 then nI (srch (enP B i) 0 601) else if bS B i 19 < bS (bk B (srch (enP B i) 0 601)) i 19 then nI 1 else nI 2
noncomputable def enR (B : Bs) (x y : Int32) : Int32 := cif (inN (nS B) x) (cif (inN 2 y) (if nwF (bS B (ixN x)) = 0 then -5 else enF B (ixN x) y) (-2)) (-1)
theorem en_y {B : Bs} {i k : Nat} {y : Int32} (h : enP B i k) (hk : k ≤ 600) (hn : ∀ j, j < k → ¬ enP B i j) : enF B i y = if y = nI 0 then nI k else if bS B i 19 < bS (bk B k) i 19 then nI 1 else nI 2 := by
  unfold enF
  rw [sr_y h (i := 0) (f := 601) (by omega) (by omega) fun j _ h2 => hn j h2, if_neg (by omega)]
theorem en_n {B : Bs} {i : Nat} {y : Int32} (hn : ∀ j, j < 601 → ¬ enP B i j) : enF B i y = -6 := by
  unfold enF
  rw [sr_n (i := 0) (f := 601) fun j _ h2 => hn j (by omega), if_pos (by omega)]
noncomputable def brN (B : Bs) (b r : Nat) : Nat := (btI b (setG B 0 (nI r))).2
noncomputable def brS (B : Bs) (b k : Nat) (P : Int32 × Nat) : Int32 × Nat := if P.2 ≤ brN B b (k + 1) then (nI (k + 1), brN B b (k + 1)) else P
noncomputable def brI (B : Bs) (b k : Nat) : Int32 × Nat := itr (brS B b) k (nI 1, 0)
noncomputable def brR (B : Bs) (x y : Int32) : Int32 := cif ((∃ b, 1 ≤ b ∧ b ≤ 200 ∧ x = nI b) ∧ inN 2 y) (if y = nI 0 then (brI B (ixN x) 20).1 else nI (brI B (ixN x) 20).2) (-2)
theorem br_y {B : Bs} {b k : Nat} {P : Int32 × Nat} (h : P.2 ≤ brN B b (k + 1)) : brS B b k P = (nI (k + 1), brN B b (k + 1)) := if_pos h
theorem br_n {B : Bs} {b k : Nat} {P : Int32 × Nat} (h : ¬ P.2 ≤ brN B b (k + 1)) : brS B b k P = P := if_neg h
theorem wf_g0 {B : Bs} {r : Nat} (wf : WF B) (hr : r < 100) : WF (setG B 0 (nI r)) := wf.pG (by omega) hr (fun e => absurd e (by omega))
theorem brN_le {B : Bs} {b r : Nat} (wf : WF B) (hr : r < 100) : brN B b r ≤ 8 * b := bI_le (wf_g0 wf hr) b
theorem brI_le {B : Bs} {b : Nat} (wf : WF B) : ∀ k, k ≤ 20 → (brI B b k).2 ≤ 8 * b
  | 0, _ => Nat.zero_le _
  | k + 1, hk => by
    have ih := brI_le (b := b) wf k (by omega)
    show (brS B b k (brI B b k)).2 ≤ 8 * b
    by_cases h : (brI B b k).2 ≤ brN B b (k + 1)
    · rw [br_y h]
      exact brN_le wf (by omega)
    · rw [br_n h]
      exact ih
def SP (μ : Mm) (m : Nat) : Mm := wC μ (m + 5) (cpF (μ (m + 5)) 0 (μ (m + 1)) 351)
theorem cp0 {f g : Nat → Int32} {j : Nat} (hj : j < 351) : cpF f 0 g 351 j = g j := by
  have := cp_in (f := f) (g := g) (o := 0) hj
  rw [Nat.zero_add] at this
  exact this
theorem MX.bk {μ ν : Mm} {m : Nat} {A : Aw} {z : Nat → Int32} (hx : MX μ m A) (f : FM (SP μ m) m ν) : FMm μ m (wC (wC ν (m + 1) z) (m + 1) (cpF (wC ν (m + 1) z (m + 1)) 0 (wC ν (m + 1) z (m + 5)) 351)) ∧ MX (wC (wC ν (m + 1) z) (m + 1) (cpF (wC ν (m + 1) z (m + 1)) 0 (wC ν (m + 1) z (m + 5)) 351)) m A := by
  have hs : ∀ a, a ≠ m + 5 → SP μ m a = μ a := fun a ha => wC_ne _ _ ha
  have e : ∀ a, a ≠ m + 7 → a ≠ m + 5 → a ≠ m + 1 → wC (wC ν (m + 1) z) (m + 1) (cpF (wC ν (m + 1) z (m + 1)) 0 (wC ν (m + 1) z (m + 5)) 351) a = μ a := fun a h7 h5 h1 => by rw [wC_ne _ _ h1, wC_ne _ _ h1, f a h7, hs a h5]
  refine ⟨fun a ha => e a (by omega) (by omega) (by omega), ?_⟩
  obtain ⟨h1, ⟨p1, p2, p3⟩, h3, ⟨q1, q2, q3⟩⟩ := hx
  refine ⟨?_, ⟨by rw [e m (by omega) (by omega) (by omega)]; exact p1, p2, by rw [e (m + 2) (by omega) (by omega) (by omega)]; exact p3⟩, ?_, ⟨by rw [e m (by omega) (by omega) (by omega)]; exact q1, q2, by rw [e (m + 6) (by omega) (by omega) (by omega)]; exact q3⟩⟩
  · rw [wC_self, wC_ne _ _ (show m + 5 ≠ m + 1 by omega), f _ (by omega)]
    refine h1.cg fun j hj => ?_
    rw [cp0 hj]
    show wC μ (m + 5) _ (m + 5) j = _
    rw [wC_self, cp0 hj]
  · unfold VX
    rw [e (m + 3) (by omega) (by omega) (by omega), e (m + 4) (by omega) (by omega) (by omega)]
    exact h3
set_option maxRecDepth 100000 in
set_option maxHeartbeats 4000000 in
theorem ms_sleepsIn {X : Cx} {σ : Sp} {μ : Mm} {Q : Int32 → Sp → Mm → Prop} {m : Nat} {x : Int32} {A : Aw} (h : ShM σ m) (hx : MX μ m A) (wa : WA A) (q : ∀ μ', FMm μ m μ' → MX μ' m A → Q (slR (aB A) x) σ μ') : CTi X mX8_sleepsIn [.ref m, .int x] σ μ Q := by
  refine CT.of (by decide +kernel) (Nat.le_of_ble_eq_true rfl) ?_
  show PW X mX8_sleepsIn 0 0 0 [some (.ref m), some (.int x), none] [] σ μ (LI Q)
  have wf := wa.1.1
  have hz := hx.1
  have hn := wf.hn
  have h8 := wf.n8
  refine pw_mem (wC_id μ (m + 1)).symm ?_
  refine pw_aload_0 dX8_sleepsIn_0 ?_
  refine pw_iload_1 dX8_sleepsIn_1 ?_
  refine pw_cV1i 8 dX8_sleepsIn_2 kX8_66 vX8_isStation iX8_isStation ⟨by decide, by decide⟩ ⟨rfl, rfl⟩ (by decide) rfl (Nat.le_of_ble_eq_true rfl) h.t (c_X8_isStation h hz hn h8 (fun j ej hj => ?_) (fun hno => ?_))
  · skip
    subst ej
    refine pw_if_ne 10 dX8_sleepsIn_5 (by decide) (fun _ => ?_) (fun hh => absurd hh (by decide))
    refine pw_mem (wC_id μ (m + 1)) ?_
    have hzs : ZR (SP μ m (m + 1)) (aB A) := by rw [show SP μ m (m + 1) = μ (m + 1) from wC_ne _ _ (by omega)]; exact hx.1
    refine pw_aload_0 dX8_sleepsIn_10 ?_
    refine pw_cV0v 8 dX8_sleepsIn_11 kX8_186 vX8_putAside iX8_putAside ⟨by decide, by decide⟩ ⟨rfl, rfl⟩ (by decide) rfl (Nat.le_of_ble_eq_true rfl) h.t (m_putAside h ?_)
    refine pw_mem (show _ = wC (SP μ m) (m + 1) (SP μ m (m + 1)) from (wC_id (SP μ m) (m + 1)).symm) ?_
    refine pw_iconst (v := nI 0) dX8_sleepsIn_14 (by decide) ?_
    refine pw_istore_2 dX8_sleepsIn_15 (by decide) ?_
    refine pw_up (P := fun k => ∀ ν z, FM (SP μ m) m ν → ZR z (bk (aB A) k) → (∀ i9, i9 < k → ¬ slP (aB A) j i9) → PW X mX8_sleepsIn 0 0 16 [some (.ref m), some (.int (nI j)), some (.int (nI k))] [] σ (wC ν (m + 1) z) (LI Q)) 601 ?_ ?_ 0 (by omega) _ _ (fun _ _ => rfl) hzs (fun i9 hi9 => absurd hi9 (by omega))
    · intro ν z1 hf1 hz1 hno9
      refine pw_iload_2 dX8_sleepsIn_16 ?_
      refine pw_sipush (v := nI 600) dX8_sleepsIn_17 (by decide) ?_
      refine pw_icmp_gt 43 dX8_sleepsIn_20 (by decide) (fun _ => ?_) (fun hh => absurd (by rw [nI_ltI (by omega) (by omega)]; omega) hh)
      refine pw_aload_0 dX8_sleepsIn_43 ?_
      refine pw_cV0v 8 dX8_sleepsIn_44 kX8_189 vX8_bringBack iX8_bringBack ⟨by decide, by decide⟩ ⟨rfl, rfl⟩ (by decide) rfl (Nat.le_of_ble_eq_true rfl) h.t (m_bringBack h ?_)
      refine pw_iload_2 dX8_sleepsIn_47 ?_
      refine pw_sipush (v := nI 600) dX8_sleepsIn_48 (by decide) ?_
      refine pw_icmp_le 59 dX8_sleepsIn_51 (by decide) (fun hh => absurd hh (by rw [nI_leI (by omega) (by omega)]; omega)) (fun _ => ?_)
      refine pw_bipush (v := -6) dX8_sleepsIn_54 (by decide) ?_
      refine pw_goto 60 dX8_sleepsIn_56 (by decide) ?_
      refine pw_ireturn dX8_sleepsIn_60 rfl ?_
      have ei : ixN (nI j) = j := ixN_nI (by omega)
      have e1 : slR (aB A) (nI j) = -6 := by unfold slR; rw [cif_y (inN_ok hj), ei, ss_n hno9]
      rw [e1] at q
      obtain ⟨g1, g2⟩ := hx.bk (z := z1) hf1
      exact q _ g1 g2
    · intro k hk ih ν z1 hf1 hz1 hno9
      have hn1 : bG (bk (aB A) k) 6 = nI (nS (aB A)) := by rw [(bk_wf wf k).hn, bk_n]
      have wf1 := bk_wf wf k
      have en1 : nS (bk (aB A) k) = nS (aB A) := bk_n k
      refine pw_iload_2 dX8_sleepsIn_16 ?_
      refine pw_sipush (v := nI 600) dX8_sleepsIn_17 (by decide) ?_
      refine pw_icmp_gt 43 dX8_sleepsIn_20 (by decide) (fun hh => absurd hh (by rw [nI_ltI (by omega) (by omega)]; omega)) (fun _ => ?_)
      refine pw_aload_0 dX8_sleepsIn_23 ?_
      refine pw_iload_1 dX8_sleepsIn_24 ?_
      refine pw_iconst (v := nI 2) dX8_sleepsIn_25 (by decide) ?_
      refine pw_cV2i 8 dX8_sleepsIn_26 kX8_40 vX8_at iX8_at ⟨by decide, by decide⟩ ⟨rfl, rfl⟩ (by decide) rfl (Nat.le_of_ble_eq_true rfl) h.t (c_X8_at h hz1 (by omega) (by decide) ?_)
      refine pw_if_ne 43 dX8_sleepsIn_29 (by decide) (fun h1 => ?_) (fun h1 => ?_)
      · skip
        refine pw_aload_0 dX8_sleepsIn_43 ?_
        refine pw_cV0v 8 dX8_sleepsIn_44 kX8_189 vX8_bringBack iX8_bringBack ⟨by decide, by decide⟩ ⟨rfl, rfl⟩ (by decide) rfl (Nat.le_of_ble_eq_true rfl) h.t (m_bringBack h ?_)
        refine pw_iload_2 dX8_sleepsIn_47 ?_
        refine pw_sipush (v := nI 600) dX8_sleepsIn_48 (by decide) ?_
        refine pw_icmp_le 59 dX8_sleepsIn_51 (by decide) (fun _ => ?_) (fun hh => absurd (by rw [nI_leI (by omega) (by omega)]; omega) hh)
        refine pw_iload_2 dX8_sleepsIn_59 ?_
        refine pw_ireturn dX8_sleepsIn_60 rfl ?_
        have ei : ixN (nI j) = j := ixN_nI (by omega)
        have hp9 : slP (aB A) j k := h1
        have e1 : slR (aB A) (nI j) = nI k := by unfold slR; rw [cif_y (inN_ok hj), ei, ss_y hp9 (by omega) hno9]
        rw [e1] at q
        obtain ⟨g1, g2⟩ := hx.bk (z := z1) hf1
        exact q _ g1 g2
      · skip
        refine pw_aload_0 dX8_sleepsIn_32 ?_
        refine pw_cV0i 8 dX8_sleepsIn_33 kX8_152 vX8_beat iX8_beat ⟨by decide, by decide⟩ ⟨rfl, rfl⟩ (by decide) rfl (Nat.le_of_ble_eq_true rfl) h.t (m_beat h hz1 (bk_wf wf k) (fun κ z2 hf2 hz2 => ?_))
        refine pw_pop dX8_sleepsIn_36 ?_
        refine pw_iincN_2 dX8_sleepsIn_37 (by decide) ?_
        refine pw_goto 16 dX8_sleepsIn_40 (by decide) ?_
        refine ih κ z2 (hf1.tr hf2) hz2 (fun i9 h5 => ?_)
        rcases Nat.lt_or_ge i9 k with q9 | q9
        · exact hno9 i9 q9
        · have e9 : i9 = k := by omega
          rw [e9]
          exact fun e => e h1
  · skip
    refine pw_if_ne 10 dX8_sleepsIn_5 (by decide) (fun hh => absurd hh (by decide)) (fun _ => ?_)
    refine pw_iconst (v := -1) dX8_sleepsIn_8 (by decide) ?_
    refine pw_ireturn dX8_sleepsIn_9 rfl ?_
    have e1 : slR (aB A) x = -1 := cif_n (inN_no hno)
    rw [e1] at q
    rw [wC_id]
    exact q _ (fun _ _ => rfl) hx
theorem sm4 {B : Bs} (wf : WF B) : ∀ k, k ≤ 8 → smI (fun s => bS B s 4) k = nI (smN (fun s => nwF (bS B s)) k)
  | 0, _ => rfl
  | k + 1, hk => by
    show smI (fun s => bS B s 4) k + bS B k 4 = _
    rw [sm4 wf k (by omega), (wf.w (i := k) (by omega)).1, nI_add]
    rfl
theorem sm0 {f : Nat → Nat} : ∀ {n : Nat}, smN f n = 0 ↔ ∀ s, s < n → f s = 0
  | 0 => ⟨fun _ s hs => absurd hs (by omega), fun _ => rfl⟩
  | n + 1 => by
    constructor
    · intro h s hs
      have h1 : smN f n + f n = 0 := h
      by_cases e : s = n
      · subst e
        omega
      · exact sm0.mp (show smN f n = 0 by omega) s (by omega)
    · intro h
      have h1 : smN f n = 0 := sm0.mpr fun s hs => h s (show s < n + 1 by omega)
      have h2 : f n = 0 := h n (by omega)
      show smN f n + f n = 0
      omega
set_option maxRecDepth 100000 in
set_option maxHeartbeats 4000000 in
theorem ms_quietIn {X : Cx} {σ : Sp} {μ : Mm} {Q : Int32 → Sp → Mm → Prop} {m : Nat} {A : Aw} (h : ShM σ m) (hx : MX μ m A) (wa : WA A) (q : ∀ μ', FMm μ m μ' → MX μ' m A → Q (quR (aB A)) σ μ') : CTi X mX8_quietIn [.ref m] σ μ Q := by
  refine CT.of (by decide +kernel) (Nat.le_of_ble_eq_true rfl) ?_
  show PW X mX8_quietIn 0 0 0 [some (.ref m), none] [] σ μ (LI Q)
  have wf := wa.1.1
  have hz := hx.1
  have hn := wf.hn
  have h8 := wf.n8
  refine pw_mem (wC_id μ (m + 1)).symm ?_
  refine pw_mem (wC_id μ (m + 1)) ?_
  have hzs : ZR (SP μ m (m + 1)) (aB A) := by rw [show SP μ m (m + 1) = μ (m + 1) from wC_ne _ _ (by omega)]; exact hx.1
  refine pw_aload_0 dX8_quietIn_0 ?_
  refine pw_cV0v 8 dX8_quietIn_1 kX8_186 vX8_putAside iX8_putAside ⟨by decide, by decide⟩ ⟨rfl, rfl⟩ (by decide) rfl (Nat.le_of_ble_eq_true rfl) h.t (m_putAside h ?_)
  refine pw_mem (show _ = wC (SP μ m) (m + 1) (SP μ m (m + 1)) from (wC_id (SP μ m) (m + 1)).symm) ?_
  refine pw_iconst (v := nI 0) dX8_quietIn_4 (by decide) ?_
  refine pw_istore_1 dX8_quietIn_5 (by decide) ?_
  refine pw_up (P := fun k => ∀ ν z, FM (SP μ m) m ν → ZR z (bk (aB A) k) → (∀ i9, i9 < k → ¬ quP (aB A) i9) → PW X mX8_quietIn 0 0 6 [some (.ref m), some (.int (nI k))] [] σ (wC ν (m + 1) z) (LI Q)) 901 ?_ ?_ 0 (by omega) _ _ (fun _ _ => rfl) hzs (fun i9 hi9 => absurd hi9 (by omega))
  · intro ν z1 hf1 hz1 hno9
    refine pw_iload_1 dX8_quietIn_6 ?_
    refine pw_sipush (v := nI 900) dX8_quietIn_7 (by decide) ?_
    refine pw_icmp_gt 32 dX8_quietIn_10 (by decide) (fun _ => ?_) (fun hh => absurd (by rw [nI_ltI (by omega) (by omega)]; omega) hh)
    refine pw_aload_0 dX8_quietIn_32 ?_
    refine pw_cV0v 8 dX8_quietIn_33 kX8_189 vX8_bringBack iX8_bringBack ⟨by decide, by decide⟩ ⟨rfl, rfl⟩ (by decide) rfl (Nat.le_of_ble_eq_true rfl) h.t (m_bringBack h ?_)
    refine pw_iload_1 dX8_quietIn_36 ?_
    refine pw_sipush (v := nI 900) dX8_quietIn_37 (by decide) ?_
    refine pw_icmp_le 48 dX8_quietIn_40 (by decide) (fun hh => absurd hh (by rw [nI_leI (by omega) (by omega)]; omega)) (fun _ => ?_)
    refine pw_bipush (v := -6) dX8_quietIn_43 (by decide) ?_
    refine pw_goto 49 dX8_quietIn_45 (by decide) ?_
    refine pw_ireturn dX8_quietIn_49 rfl ?_
    have e1 : quR (aB A) = -6 := ss_n hno9
    rw [e1] at q
    obtain ⟨g1, g2⟩ := hx.bk (z := z1) hf1
    exact q _ g1 g2
  · intro k hk ih ν z1 hf1 hz1 hno9
    have hn1 : bG (bk (aB A) k) 6 = nI (nS (aB A)) := by rw [(bk_wf wf k).hn, bk_n]
    have wf1 := bk_wf wf k
    have en1 : nS (bk (aB A) k) = nS (aB A) := bk_n k
    refine pw_iload_1 dX8_quietIn_6 ?_
    refine pw_sipush (v := nI 900) dX8_quietIn_7 (by decide) ?_
    refine pw_icmp_gt 32 dX8_quietIn_10 (by decide) (fun hh => absurd hh (by rw [nI_ltI (by omega) (by omega)]; omega)) (fun _ => ?_)
    have hw9 := sm_le (f := fun s => nwF (bS (bk (aB A) k) s)) (c := 4) (n := nS (aB A)) fun s hs => (wf1.w (i := s) (by omega)).2
    have hw32 : smN (fun s => nwF (bS (bk (aB A) k) s)) (nS (aB A)) ≤ 32 := by have h5 : smN (fun s => nwF (bS (bk (aB A) k) s)) (nS (aB A)) ≤ 4 * nS (aB A) := hw9; omega
    refine pw_aload_0 dX8_quietIn_13 ?_
    refine pw_iconst (v := nI 4) dX8_quietIn_14 (by decide) ?_
    refine pw_cV1i 8 dX8_quietIn_15 kX8_177 vX8_sum iX8_sum ⟨by decide, by decide⟩ ⟨rfl, rfl⟩ (by decide) rfl (Nat.le_of_ble_eq_true rfl) h.t (m_sum h hz1 wf1 (by decide) ?_)
    refine pw_top (show _ = nI (smN (fun s => nwF (bS (bk (aB A) k) s)) (nS (aB A))) by rw [en1]; exact sm4 wf1 _ h8) ?_
    refine pw_if_le 32 dX8_quietIn_18 (by decide) (fun h1 => ?_) (fun h1 => ?_)
    · skip
      refine pw_aload_0 dX8_quietIn_32 ?_
      refine pw_cV0v 8 dX8_quietIn_33 kX8_189 vX8_bringBack iX8_bringBack ⟨by decide, by decide⟩ ⟨rfl, rfl⟩ (by decide) rfl (Nat.le_of_ble_eq_true rfl) h.t (m_bringBack h ?_)
      refine pw_iload_1 dX8_quietIn_36 ?_
      refine pw_sipush (v := nI 900) dX8_quietIn_37 (by decide) ?_
      refine pw_icmp_le 48 dX8_quietIn_40 (by decide) (fun _ => ?_) (fun hh => absurd (by rw [nI_leI (by omega) (by omega)]; omega) hh)
      refine pw_iload_1 dX8_quietIn_48 ?_
      refine pw_ireturn dX8_quietIn_49 rfl ?_
      have hp9 : quP (aB A) k := sm0.mp (by have h5 := h1; rw [show (0 : Int32) = nI 0 from rfl, nI_leI (by omega) (by omega)] at h5; omega)
      have e1 : quR (aB A) = nI k := ss_y hp9 (by omega) hno9
      rw [e1] at q
      obtain ⟨g1, g2⟩ := hx.bk (z := z1) hf1
      exact q _ g1 g2
    · skip
      refine pw_aload_0 dX8_quietIn_21 ?_
      refine pw_cV0i 8 dX8_quietIn_22 kX8_152 vX8_beat iX8_beat ⟨by decide, by decide⟩ ⟨rfl, rfl⟩ (by decide) rfl (Nat.le_of_ble_eq_true rfl) h.t (m_beat h hz1 (bk_wf wf k) (fun κ z2 hf2 hz2 => ?_))
      refine pw_pop dX8_quietIn_25 ?_
      refine pw_iincN_1 dX8_quietIn_26 (by decide) ?_
      refine pw_goto 6 dX8_quietIn_29 (by decide) ?_
      refine ih κ z2 (hf1.tr hf2) hz2 (fun i9 h5 => ?_)
      rcases Nat.lt_or_ge i9 k with q9 | q9
      · exact hno9 i9 q9
      · have e9 : i9 = k := by omega
        rw [e9]
        exact fun e => h1 (by rw [show smN (fun s => nwF (bS (bk (aB A) k) s)) (nS (aB A)) = 0 from sm0.mpr e]; exact Int32.le_refl _)
set_option maxRecDepth 100000 in
set_option maxHeartbeats 4000000 in
theorem ms_endsIn {X : Cx} {σ : Sp} {μ : Mm} {Q : Int32 → Sp → Mm → Prop} {m : Nat} {x y : Int32} {A : Aw} (h : ShM σ m) (hx : MX μ m A) (wa : WA A) (q : ∀ μ', FMm μ m μ' → MX μ' m A → Q (enR (aB A) x y) σ μ') : CTi X mX8_endsIn [.ref m, .int x, .int y] σ μ Q := by
  refine CT.of (by decide +kernel) (Nat.le_of_ble_eq_true rfl) ?_
  show PW X mX8_endsIn 0 0 0 [some (.ref m), some (.int x), some (.int y), none, none, none, none] [] σ μ (LI Q)
  have wf := wa.1.1
  have hz := hx.1
  have hn := wf.hn
  have h8 := wf.n8
  refine pw_mem (wC_id μ (m + 1)).symm ?_
  refine pw_aload_0 dX8_endsIn_0 ?_
  refine pw_iload_1 dX8_endsIn_1 ?_
  refine pw_cV1i 8 dX8_endsIn_2 kX8_66 vX8_isStation iX8_isStation ⟨by decide, by decide⟩ ⟨rfl, rfl⟩ (by decide) rfl (Nat.le_of_ble_eq_true rfl) h.t (c_X8_isStation h hz hn h8 (fun j ej hj => ?_) (fun hno => ?_))
  · skip
    subst ej
    refine pw_if_ne 10 dX8_endsIn_5 (by decide) (fun _ => ?_) (fun hh => absurd hh (by decide))
    refine pw_iload_2 dX8_endsIn_10 ?_
    refine pw_iconst (v := nI 0) dX8_endsIn_11 (by decide) ?_
    refine pw_iconst (v := nI 1) dX8_endsIn_12 (by decide) ?_
    refine pw_cS3i dX8_endsIn_13 kX8_36 vX8_in sX8_in ⟨by decide, by decide⟩ ⟨rfl, rfl⟩ (Nat.le_of_ble_eq_true rfl) (c_X8_inN (by decide) (by decide) (fun t et htl ht => ?_) (fun hnt => ?_))
    · skip
      subst et
      refine pw_if_ne 22 dX8_endsIn_16 (by decide) (fun _ => ?_) (fun hh => absurd hh (by decide))
      have hw7 := (wf.w (i := j) (by omega)).2
      refine pw_aload_0 dX8_endsIn_22 ?_
      refine pw_iload_1 dX8_endsIn_23 ?_
      refine pw_iconst (v := nI 4) dX8_endsIn_24 (by decide) ?_
      refine pw_cV2i 8 dX8_endsIn_25 kX8_40 vX8_at iX8_at ⟨by decide, by decide⟩ ⟨rfl, rfl⟩ (by decide) rfl (Nat.le_of_ble_eq_true rfl) h.t (c_X8_at h hz (by omega) (by decide) ?_)
      refine pw_top (wf.w (by omega)).1 ?_
      refine pw_if_ne 34 dX8_endsIn_28 (by decide) (fun h1 => ?_) (fun h1 => ?_)
      · skip
        refine pw_mem (wC_id μ (m + 1)) ?_
        have hzs : ZR (SP μ m (m + 1)) (aB A) := by rw [show SP μ m (m + 1) = μ (m + 1) from wC_ne _ _ (by omega)]; exact hx.1
        have hw9 := (wf.w (i := j) (by omega)).2
        refine pw_aload_0 dX8_endsIn_34 ?_
        refine pw_cV0v 8 dX8_endsIn_35 kX8_186 vX8_putAside iX8_putAside ⟨by decide, by decide⟩ ⟨rfl, rfl⟩ (by decide) rfl (Nat.le_of_ble_eq_true rfl) h.t (m_putAside h ?_)
        refine pw_mem (show _ = wC (SP μ m) (m + 1) (SP μ m (m + 1)) from (wC_id (SP μ m) (m + 1)).symm) ?_
        refine pw_aload_0 dX8_endsIn_38 ?_
        refine pw_iload_1 dX8_endsIn_39 ?_
        refine pw_iconst (v := nI 4) dX8_endsIn_40 (by decide) ?_
        refine pw_cV2i 8 dX8_endsIn_41 kX8_40 vX8_at iX8_at ⟨by decide, by decide⟩ ⟨rfl, rfl⟩ (by decide) rfl (Nat.le_of_ble_eq_true rfl) h.t (c_X8_at h hzs (by omega) (by decide) ?_)
        refine pw_top (wf.w (by omega)).1 ?_
        refine pw_istore_3 dX8_endsIn_44 (by decide) ?_
        refine pw_aload_0 dX8_endsIn_45 ?_
        refine pw_iload_1 dX8_endsIn_46 ?_
        refine pw_bipush (v := nI 19) dX8_endsIn_47 (by decide) ?_
        refine pw_cV2i 8 dX8_endsIn_49 kX8_40 vX8_at iX8_at ⟨by decide, by decide⟩ ⟨rfl, rfl⟩ (by decide) rfl (Nat.le_of_ble_eq_true rfl) h.t (c_X8_at h hzs (by omega) (by decide) ?_)
        refine pw_istore_4 dX8_endsIn_52 (by decide) ?_
        refine pw_iconst (v := nI 0) dX8_endsIn_54 (by decide) ?_
        refine pw_istore_5 dX8_endsIn_55 (by decide) ?_
        refine pw_up (P := fun k => ∀ ν z, FM (SP μ m) m ν → ZR z (bk (aB A) k) → (∀ i9, i9 < k → ¬ enP (aB A) j i9) → PW X mX8_endsIn 0 0 57 [some (.ref m), some (.int (nI j)), some (.int (nI t)), some (.int (nI (nwF (bS (aB A) j)))), some (.int (bS (aB A) j 19)), some (.int (nI k)), none] [] σ (wC ν (m + 1) z) (LI Q)) 601 ?_ ?_ 0 (by omega) _ _ (fun _ _ => rfl) hzs (fun i9 hi9 => absurd hi9 (by omega))
        · intro ν z1 hf1 hz1 hno9
          refine pw_iload_5 dX8_endsIn_57 ?_
          refine pw_sipush (v := nI 600) dX8_endsIn_59 (by decide) ?_
          refine pw_icmp_gt 86 dX8_endsIn_62 (by decide) (fun _ => ?_) (fun hh => absurd (by rw [nI_ltI (by omega) (by omega)]; omega) hh)
          refine pw_iload_2 dX8_endsIn_86 ?_
          refine pw_if_ne 95 dX8_endsIn_87 (by decide) (fun h2 => ?_) (fun h2 => ?_)
          · skip
            refine pw_aload_0 dX8_endsIn_95 ?_
            refine pw_iload_1 dX8_endsIn_96 ?_
            refine pw_bipush (v := nI 19) dX8_endsIn_97 (by decide) ?_
            refine pw_cV2i 8 dX8_endsIn_99 kX8_40 vX8_at iX8_at ⟨by decide, by decide⟩ ⟨rfl, rfl⟩ (by decide) rfl (Nat.le_of_ble_eq_true rfl) h.t (c_X8_at h hz1 (by omega) (by decide) ?_)
            refine pw_iload_4 dX8_endsIn_102 ?_
            refine pw_icmp_le 111 dX8_endsIn_104 (by decide) (fun h3 => ?_) (fun h3 => ?_)
            · skip
              refine pw_iconst (v := nI 2) dX8_endsIn_111 (by decide) ?_
              refine pw_istore_6 dX8_endsIn_112 (by decide) ?_
              refine pw_aload_0 dX8_endsIn_114 ?_
              refine pw_cV0v 8 dX8_endsIn_115 kX8_189 vX8_bringBack iX8_bringBack ⟨by decide, by decide⟩ ⟨rfl, rfl⟩ (by decide) rfl (Nat.le_of_ble_eq_true rfl) h.t (m_bringBack h ?_)
              refine pw_iload_5 dX8_endsIn_118 ?_
              refine pw_sipush (v := nI 600) dX8_endsIn_120 (by decide) ?_
              refine pw_icmp_le 131 dX8_endsIn_123 (by decide) (fun hh => absurd hh (by rw [nI_leI (by omega) (by omega)]; omega)) (fun _ => ?_)
              refine pw_bipush (v := -6) dX8_endsIn_126 (by decide) ?_
              refine pw_goto 133 dX8_endsIn_128 (by decide) ?_
              refine pw_ireturn dX8_endsIn_133 rfl ?_
              have ei : ixN (nI j) = j := ixN_nI (by omega)
              have ht2 : inN 2 (nI t) := inN_ok (by omega)
              have hw0 : nwF (bS (aB A) j) ≠ 0 := fun e => h1 (by rw [e]; rfl)
              have e1 : enR (aB A) (nI j) (nI t) = -6 := by unfold enR; rw [cif_y (inN_ok hj), cif_y ht2, ei, if_neg hw0, en_n hno9]
              rw [e1] at q
              obtain ⟨g1, g2⟩ := hx.bk (z := z1) hf1
              exact q _ g1 g2
            · skip
              refine pw_iconst (v := nI 1) dX8_endsIn_107 (by decide) ?_
              refine pw_goto 112 dX8_endsIn_108 (by decide) ?_
              refine pw_istore_6 dX8_endsIn_112 (by decide) ?_
              refine pw_aload_0 dX8_endsIn_114 ?_
              refine pw_cV0v 8 dX8_endsIn_115 kX8_189 vX8_bringBack iX8_bringBack ⟨by decide, by decide⟩ ⟨rfl, rfl⟩ (by decide) rfl (Nat.le_of_ble_eq_true rfl) h.t (m_bringBack h ?_)
              refine pw_iload_5 dX8_endsIn_118 ?_
              refine pw_sipush (v := nI 600) dX8_endsIn_120 (by decide) ?_
              refine pw_icmp_le 131 dX8_endsIn_123 (by decide) (fun hh => absurd hh (by rw [nI_leI (by omega) (by omega)]; omega)) (fun _ => ?_)
              refine pw_bipush (v := -6) dX8_endsIn_126 (by decide) ?_
              refine pw_goto 133 dX8_endsIn_128 (by decide) ?_
              refine pw_ireturn dX8_endsIn_133 rfl ?_
              have ei : ixN (nI j) = j := ixN_nI (by omega)
              have ht2 : inN 2 (nI t) := inN_ok (by omega)
              have hw0 : nwF (bS (aB A) j) ≠ 0 := fun e => h1 (by rw [e]; rfl)
              have e1 : enR (aB A) (nI j) (nI t) = -6 := by unfold enR; rw [cif_y (inN_ok hj), cif_y ht2, ei, if_neg hw0, en_n hno9]
              rw [e1] at q
              obtain ⟨g1, g2⟩ := hx.bk (z := z1) hf1
              exact q _ g1 g2
          · skip
            refine pw_iload_5 dX8_endsIn_90 ?_
            refine pw_goto 112 dX8_endsIn_92 (by decide) ?_
            refine pw_istore_6 dX8_endsIn_112 (by decide) ?_
            refine pw_aload_0 dX8_endsIn_114 ?_
            refine pw_cV0v 8 dX8_endsIn_115 kX8_189 vX8_bringBack iX8_bringBack ⟨by decide, by decide⟩ ⟨rfl, rfl⟩ (by decide) rfl (Nat.le_of_ble_eq_true rfl) h.t (m_bringBack h ?_)
            refine pw_iload_5 dX8_endsIn_118 ?_
            refine pw_sipush (v := nI 600) dX8_endsIn_120 (by decide) ?_
            refine pw_icmp_le 131 dX8_endsIn_123 (by decide) (fun hh => absurd hh (by rw [nI_leI (by omega) (by omega)]; omega)) (fun _ => ?_)
            refine pw_bipush (v := -6) dX8_endsIn_126 (by decide) ?_
            refine pw_goto 133 dX8_endsIn_128 (by decide) ?_
            refine pw_ireturn dX8_endsIn_133 rfl ?_
            have ei : ixN (nI j) = j := ixN_nI (by omega)
            have ht2 : inN 2 (nI t) := inN_ok (by omega)
            have hw0 : nwF (bS (aB A) j) ≠ 0 := fun e => h1 (by rw [e]; rfl)
            have e1 : enR (aB A) (nI j) (nI t) = -6 := by unfold enR; rw [cif_y (inN_ok hj), cif_y ht2, ei, if_neg hw0, en_n hno9]
            rw [e1] at q
            obtain ⟨g1, g2⟩ := hx.bk (z := z1) hf1
            exact q _ g1 g2
        · intro k hk ih ν z1 hf1 hz1 hno9
          have hn1 : bG (bk (aB A) k) 6 = nI (nS (aB A)) := by rw [(bk_wf wf k).hn, bk_n]
          have wf1 := bk_wf wf k
          have en1 : nS (bk (aB A) k) = nS (aB A) := bk_n k
          refine pw_iload_5 dX8_endsIn_57 ?_
          refine pw_sipush (v := nI 600) dX8_endsIn_59 (by decide) ?_
          refine pw_icmp_gt 86 dX8_endsIn_62 (by decide) (fun hh => absurd hh (by rw [nI_ltI (by omega) (by omega)]; omega)) (fun _ => ?_)
          have hw8 := (wf1.w (i := j) (by omega)).2
          refine pw_aload_0 dX8_endsIn_65 ?_
          refine pw_iload_1 dX8_endsIn_66 ?_
          refine pw_iconst (v := nI 4) dX8_endsIn_67 (by decide) ?_
          refine pw_cV2i 8 dX8_endsIn_68 kX8_40 vX8_at iX8_at ⟨by decide, by decide⟩ ⟨rfl, rfl⟩ (by decide) rfl (Nat.le_of_ble_eq_true rfl) h.t (c_X8_at h hz1 (by omega) (by decide) ?_)
          refine pw_top (wf1.w (by omega)).1 ?_
          refine pw_iload_3 dX8_endsIn_71 ?_
          refine pw_icmp_ne 86 dX8_endsIn_72 (by decide) (fun h4 => ?_) (fun h4 => ?_)
          · skip
            refine pw_iload_2 dX8_endsIn_86 ?_
            refine pw_if_ne 95 dX8_endsIn_87 (by decide) (fun h5 => ?_) (fun h5 => ?_)
            · skip
              refine pw_aload_0 dX8_endsIn_95 ?_
              refine pw_iload_1 dX8_endsIn_96 ?_
              refine pw_bipush (v := nI 19) dX8_endsIn_97 (by decide) ?_
              refine pw_cV2i 8 dX8_endsIn_99 kX8_40 vX8_at iX8_at ⟨by decide, by decide⟩ ⟨rfl, rfl⟩ (by decide) rfl (Nat.le_of_ble_eq_true rfl) h.t (c_X8_at h hz1 (by omega) (by decide) ?_)
              refine pw_iload_4 dX8_endsIn_102 ?_
              refine pw_icmp_le 111 dX8_endsIn_104 (by decide) (fun h6 => ?_) (fun h6 => ?_)
              · skip
                refine pw_iconst (v := nI 2) dX8_endsIn_111 (by decide) ?_
                refine pw_istore_6 dX8_endsIn_112 (by decide) ?_
                refine pw_aload_0 dX8_endsIn_114 ?_
                refine pw_cV0v 8 dX8_endsIn_115 kX8_189 vX8_bringBack iX8_bringBack ⟨by decide, by decide⟩ ⟨rfl, rfl⟩ (by decide) rfl (Nat.le_of_ble_eq_true rfl) h.t (m_bringBack h ?_)
                refine pw_iload_5 dX8_endsIn_118 ?_
                refine pw_sipush (v := nI 600) dX8_endsIn_120 (by decide) ?_
                refine pw_icmp_le 131 dX8_endsIn_123 (by decide) (fun _ => ?_) (fun hh => absurd (by rw [nI_leI (by omega) (by omega)]; omega) hh)
                refine pw_iload_6 dX8_endsIn_131 ?_
                refine pw_ireturn dX8_endsIn_133 rfl ?_
                have ei : ixN (nI j) = j := ixN_nI (by omega)
                have ht2 : inN 2 (nI t) := inN_ok (by omega)
                have hw0 : nwF (bS (aB A) j) ≠ 0 := fun e => h1 (by rw [e]; rfl)
                have hp9 : enP (aB A) j k := fun e => h4 (by rw [e])
                have e1 : enR (aB A) (nI j) (nI t) = nI 2 := by unfold enR; rw [cif_y (inN_ok hj), cif_y ht2, ei, if_neg hw0, en_y hp9 (by omega) hno9]; exact (if_neg h5).trans (if_neg (Int32.not_lt.mpr h6))
                rw [e1] at q
                obtain ⟨g1, g2⟩ := hx.bk (z := z1) hf1
                exact q _ g1 g2
              · skip
                refine pw_iconst (v := nI 1) dX8_endsIn_107 (by decide) ?_
                refine pw_goto 112 dX8_endsIn_108 (by decide) ?_
                refine pw_istore_6 dX8_endsIn_112 (by decide) ?_
                refine pw_aload_0 dX8_endsIn_114 ?_
                refine pw_cV0v 8 dX8_endsIn_115 kX8_189 vX8_bringBack iX8_bringBack ⟨by decide, by decide⟩ ⟨rfl, rfl⟩ (by decide) rfl (Nat.le_of_ble_eq_true rfl) h.t (m_bringBack h ?_)
                refine pw_iload_5 dX8_endsIn_118 ?_
                refine pw_sipush (v := nI 600) dX8_endsIn_120 (by decide) ?_
                refine pw_icmp_le 131 dX8_endsIn_123 (by decide) (fun _ => ?_) (fun hh => absurd (by rw [nI_leI (by omega) (by omega)]; omega) hh)
                refine pw_iload_6 dX8_endsIn_131 ?_
                refine pw_ireturn dX8_endsIn_133 rfl ?_
                have ei : ixN (nI j) = j := ixN_nI (by omega)
                have ht2 : inN 2 (nI t) := inN_ok (by omega)
                have hw0 : nwF (bS (aB A) j) ≠ 0 := fun e => h1 (by rw [e]; rfl)
                have hp9 : enP (aB A) j k := fun e => h4 (by rw [e])
                have e1 : enR (aB A) (nI j) (nI t) = nI 1 := by unfold enR; rw [cif_y (inN_ok hj), cif_y ht2, ei, if_neg hw0, en_y hp9 (by omega) hno9]; exact (if_neg h5).trans (if_pos (Int32.not_le.mp h6))
                rw [e1] at q
                obtain ⟨g1, g2⟩ := hx.bk (z := z1) hf1
                exact q _ g1 g2
            · skip
              refine pw_iload_5 dX8_endsIn_90 ?_
              refine pw_goto 112 dX8_endsIn_92 (by decide) ?_
              refine pw_istore_6 dX8_endsIn_112 (by decide) ?_
              refine pw_aload_0 dX8_endsIn_114 ?_
              refine pw_cV0v 8 dX8_endsIn_115 kX8_189 vX8_bringBack iX8_bringBack ⟨by decide, by decide⟩ ⟨rfl, rfl⟩ (by decide) rfl (Nat.le_of_ble_eq_true rfl) h.t (m_bringBack h ?_)
              refine pw_iload_5 dX8_endsIn_118 ?_
              refine pw_sipush (v := nI 600) dX8_endsIn_120 (by decide) ?_
              refine pw_icmp_le 131 dX8_endsIn_123 (by decide) (fun _ => ?_) (fun hh => absurd (by rw [nI_leI (by omega) (by omega)]; omega) hh)
              refine pw_iload_6 dX8_endsIn_131 ?_
              refine pw_ireturn dX8_endsIn_133 rfl ?_
              have ei : ixN (nI j) = j := ixN_nI (by omega)
              have ht2 : inN 2 (nI t) := inN_ok (by omega)
              have hw0 : nwF (bS (aB A) j) ≠ 0 := fun e => h1 (by rw [e]; rfl)
              have hp9 : enP (aB A) j k := fun e => h4 (by rw [e])
              have e1 : enR (aB A) (nI j) (nI t) = nI k := by unfold enR; rw [cif_y (inN_ok hj), cif_y ht2, ei, if_neg hw0, en_y hp9 (by omega) hno9]; exact if_pos h5
              rw [e1] at q
              obtain ⟨g1, g2⟩ := hx.bk (z := z1) hf1
              exact q _ g1 g2
          · skip
            refine pw_aload_0 dX8_endsIn_75 ?_
            refine pw_cV0i 8 dX8_endsIn_76 kX8_152 vX8_beat iX8_beat ⟨by decide, by decide⟩ ⟨rfl, rfl⟩ (by decide) rfl (Nat.le_of_ble_eq_true rfl) h.t (m_beat h hz1 (bk_wf wf k) (fun κ z2 hf2 hz2 => ?_))
            refine pw_pop dX8_endsIn_79 ?_
            refine pw_iincN_5 dX8_endsIn_80 (by decide) ?_
            refine pw_goto 57 dX8_endsIn_83 (by decide) ?_
            refine ih κ z2 (hf1.tr hf2) hz2 (fun i9 h5 => ?_)
            rcases Nat.lt_or_ge i9 k with q9 | q9
            · exact hno9 i9 q9
            · have e9 : i9 = k := by omega
              rw [e9]
              exact fun e => e ((nI_eq (by omega) (by omega)).mp h4)
      · skip
        refine pw_bipush (v := -5) dX8_endsIn_31 (by decide) ?_
        refine pw_ireturn dX8_endsIn_33 rfl ?_
        have ei : ixN (nI j) = j := ixN_nI (by omega)
        have ht2 : inN 2 (nI t) := inN_ok (by omega)
        have e1 : enR (aB A) (nI j) (nI t) = -5 := by unfold enR; rw [cif_y (inN_ok hj), cif_y ht2, ei]; exact if_pos (show nwF (bS (aB A) j) = 0 from (nI_eq (by omega) (by omega)).mp h1)
        rw [e1] at q
        rw [wC_id]
        exact q _ (fun _ _ => rfl) hx
    · skip
      refine pw_if_ne 22 dX8_endsIn_16 (by decide) (fun hh => absurd hh (by decide)) (fun _ => ?_)
      refine pw_bipush (v := -2) dX8_endsIn_19 (by decide) ?_
      refine pw_ireturn dX8_endsIn_21 rfl ?_
      have ei : ixN (nI j) = j := ixN_nI (by omega)
      have e1 : enR (aB A) (nI j) y = -2 := (cif_y (inN_ok hj)).trans (cif_n (fun ⟨k, h1, e9⟩ => hnt k (by omega) (by omega) e9))
      rw [e1] at q
      rw [wC_id]
      exact q _ (fun _ _ => rfl) hx
  · skip
    refine pw_if_ne 10 dX8_endsIn_5 (by decide) (fun hh => absurd hh (by decide)) (fun _ => ?_)
    refine pw_iconst (v := -1) dX8_endsIn_8 (by decide) ?_
    refine pw_ireturn dX8_endsIn_9 rfl ?_
    have e1 : enR (aB A) x y = -1 := cif_n (inN_no hno)
    rw [e1] at q
    rw [wC_id]
    exact q _ (fun _ _ => rfl) hx
set_option maxRecDepth 100000 in
set_option maxHeartbeats 4000000 in
theorem ms_bestRest {X : Cx} {σ : Sp} {μ : Mm} {Q : Int32 → Sp → Mm → Prop} {m : Nat} {x y : Int32} {A : Aw} (h : ShM σ m) (hx : MX μ m A) (wa : WA A) (q : ∀ μ', FMm μ m μ' → MX μ' m A → Q (brR (aB A) x y) σ μ') : CTi X mX8_bestRest [.ref m, .int x, .int y] σ μ Q := by
  refine CT.of (by decide +kernel) (Nat.le_of_ble_eq_true rfl) ?_
  show PW X mX8_bestRest 0 0 0 [some (.ref m), some (.int x), some (.int y), none, none, none, none] [] σ μ (LI Q)
  have wf := wa.1.1
  have hz := hx.1
  have hn := wf.hn
  have h8 := wf.n8
  refine pw_mem (wC_id μ (m + 1)).symm ?_
  refine pw_iload_1 dX8_bestRest_0 ?_
  refine pw_iconst (v := nI 1) dX8_bestRest_1 (by decide) ?_
  refine pw_sipush (v := nI 200) dX8_bestRest_2 (by decide) ?_
  refine pw_cS3i dX8_bestRest_5 kX8_36 vX8_in sX8_in ⟨by decide, by decide⟩ ⟨rfl, rfl⟩ (Nat.le_of_ble_eq_true rfl) (c_X8_inN (by decide) (by decide) (fun b eb hb1 hb => ?_) (fun hnb => ?_))
  · skip
    subst eb
    refine pw_if_eq 20 dX8_bestRest_8 (by decide) (fun hh => absurd hh (by decide)) (fun _ => ?_)
    refine pw_iload_2 dX8_bestRest_11 ?_
    refine pw_iconst (v := nI 0) dX8_bestRest_12 (by decide) ?_
    refine pw_iconst (v := nI 1) dX8_bestRest_13 (by decide) ?_
    refine pw_cS3i dX8_bestRest_14 kX8_36 vX8_in sX8_in ⟨by decide, by decide⟩ ⟨rfl, rfl⟩ (Nat.le_of_ble_eq_true rfl) (c_X8_inN (by decide) (by decide) (fun t et htl ht => ?_) (fun hnt => ?_))
    · skip
      subst et
      refine pw_if_ne 23 dX8_bestRest_17 (by decide) (fun _ => ?_) (fun hh => absurd hh (by decide))
      refine pw_mem (wC_id μ (m + 1)) ?_
      refine pw_iconst (v := nI 0) dX8_bestRest_23 (by decide) ?_
      refine pw_istore_3 dX8_bestRest_24 (by decide) ?_
      refine pw_iconst (v := nI 0) dX8_bestRest_25 (by decide) ?_
      refine pw_istore_4 dX8_bestRest_26 (by decide) ?_
      refine pw_iconst (v := nI 1) dX8_bestRest_28 (by decide) ?_
      refine pw_istore_5 dX8_bestRest_29 (by decide) ?_
      refine pw_fg (ls' := [some (.ref m), some (.int (nI b)), some (.int (nI t)), some (.int ((if 0 = 0 then nI 0 else (brI (aB A) b 0).1))), some (.int (nI ((brI (aB A) b 0).2))), some (.int (nI ((0) + 1))), none]) ⟨Or.inr rfl, Or.inr rfl, Or.inr rfl, Or.inr rfl, Or.inr rfl, Or.inr rfl, Or.inl rfl, trivial⟩ ?_
      refine pw_up (P := fun k => ∀ μ1, FMm μ m μ1 → MX μ1 m A → PW X mX8_bestRest 0 0 31 [some (.ref m), some (.int (nI b)), some (.int (nI t)), some (.int ((if k = 0 then nI 0 else (brI (aB A) b k).1))), some (.int (nI ((brI (aB A) b k).2))), some (.int (nI ((k) + 1))), none] [] σ μ1 (LI Q)) 20 ?_ ?_ 0 (by omega) μ (fun _ _ => rfl) hx
      · intro μ1 hf1 hx1
        refine pw_iload_5 dX8_bestRest_31 ?_
        refine pw_bipush (v := nI 20) dX8_bestRest_33 (by decide) ?_
        refine pw_icmp_gt 97 dX8_bestRest_35 (by decide) (fun _ => ?_) (fun hh => absurd (by rw [nI_ltI (by omega) (by omega)]; omega) hh)
        refine pw_iload_2 dX8_bestRest_97 ?_
        refine pw_if_ne 105 dX8_bestRest_98 (by decide) (fun h1 => ?_) (fun h1 => ?_)
        · skip
          refine pw_iload_4 dX8_bestRest_105 ?_
          refine pw_ireturn dX8_bestRest_107 rfl ?_
          have ei : ixN (nI b) = b := ixN_nI (by omega)
          have hy : (∃ k, 1 ≤ k ∧ k ≤ 200 ∧ nI b = nI k) ∧ inN 2 (nI t) := ⟨⟨b, hb1, hb, rfl⟩, inN_ok (by omega)⟩
          have e1 : brR (aB A) (nI b) (nI t) = nI (brI (aB A) b 20).2 := by unfold brR; rw [cif_y hy, ei]; exact if_neg h1
          rw [e1] at q
          exact q _ hf1 hx1
        · skip
          refine pw_iload_3 dX8_bestRest_101 ?_
          refine pw_goto 107 dX8_bestRest_102 (by decide) ?_
          refine pw_ireturn dX8_bestRest_107 rfl ?_
          have ei : ixN (nI b) = b := ixN_nI (by omega)
          have hy : (∃ k, 1 ≤ k ∧ k ≤ 200 ∧ nI b = nI k) ∧ inN 2 (nI t) := ⟨⟨b, hb1, hb, rfl⟩, inN_ok (by omega)⟩
          have e1 : brR (aB A) (nI b) (nI t) = (brI (aB A) b 20).1 := by unfold brR; rw [cif_y hy, ei]; exact if_pos h1
          rw [e1] at q
          rw [if_neg (show 20 ≠ 0 by decide)]
          exact q _ hf1 hx1
      · intro k hk ih μ1 hf1 hx1
        have hc9 := brI_le (b := b) wf k (by omega)
        have hn9 := brN_le (b := b) (r := k + 1) wf (by omega)
        have ih2 : ∀ μ1, FMm μ m μ1 → MX μ1 m A → PW X mX8_bestRest 0 0 31 [some (.ref m), some (.int (nI b)), some (.int (nI t)), some (.int ((brS (aB A) b k (brI (aB A) b k)).1)), some (.int (nI ((brS (aB A) b k (brI (aB A) b k)).2))), some (.int (nI ((k + 1) + 1))), none] [] σ μ1 (LI Q) := ih
        refine pw_iload_5 dX8_bestRest_31 ?_
        refine pw_bipush (v := nI 20) dX8_bestRest_33 (by decide) ?_
        refine pw_icmp_gt 97 dX8_bestRest_35 (by decide) (fun hh => absurd hh (by rw [nI_ltI (by omega) (by omega)]; omega)) (fun _ => ?_)
        refine pw_aload_0 dX8_bestRest_38 ?_
        refine pw_cV0v 8 dX8_bestRest_39 kX8_186 vX8_putAside iX8_putAside ⟨by decide, by decide⟩ ⟨rfl, rfl⟩ (by decide) rfl (Nat.le_of_ble_eq_true rfl) h.t (m_putAside h ?_)
        refine pw_aload_0 dX8_bestRest_42 ?_
        refine pw_getr 8 0 dX8_bestRest_43 fX8_7 rfl (by decide) rfl h.t h.r0 ?_
        refine pw_iconst (v := nI 0) dX8_bestRest_46 (by decide) ?_
        refine pw_iload_5 dX8_bestRest_47 ?_
        refine pw_iastN dX8_bestRest_49 h.a1 (by omega) (by decide) ?_
        have hz2 : ZR (upd (SP μ1 m (m + 1)) 0 (nI (k + 1))) (setG (aB A) 0 (nI (k + 1))) := by
          rw [show SP μ1 m (m + 1) = μ1 (m + 1) from wC_ne _ _ (by omega)]
          exact hx1.1.updG (by omega) _
        refine pw_mem (show _ = wC (SP μ1 m) (m + 1) (upd (SP μ1 m (m + 1)) 0 (nI (k + 1))) from wr_eq_wC _ _ _ _) ?_
        generalize upd (SP μ1 m (m + 1)) 0 (nI (k + 1)) = z2 at hz2
        refine pw_aload_0 dX8_bestRest_50 ?_
        refine pw_iload_1 dX8_bestRest_51 ?_
        refine pw_cV1i 8 dX8_bestRest_52 kX8_159 vX8_beats iX8_beats ⟨by decide, by decide⟩ ⟨rfl, rfl⟩ (by decide) rfl (Nat.le_of_ble_eq_true rfl) h.t (m_beats h hz2 (wf_g0 wf (by omega)) (by omega) (fun ν z3 hf3 hz3 => ?_))
        refine pw_top (show _ = nI (brN (aB A) b (k + 1)) from rfl) ?_
        refine pw_istore_6 dX8_bestRest_55 (by decide) ?_
        refine pw_aload_0 dX8_bestRest_57 ?_
        refine pw_cV0v 8 dX8_bestRest_58 kX8_189 vX8_bringBack iX8_bringBack ⟨by decide, by decide⟩ ⟨rfl, rfl⟩ (by decide) rfl (Nat.le_of_ble_eq_true rfl) h.t (m_bringBack h ?_)
        refine pw_iload_6 dX8_bestRest_61 ?_
        refine pw_iload_4 dX8_bestRest_63 ?_
        refine pw_icmp_lt 73 dX8_bestRest_65 (by decide) (fun h2 => ?_) (fun h2 => ?_)
        · skip
          refine pw_iload_3 dX8_bestRest_73 ?_
          refine pw_istore_3 dX8_bestRest_74 (by decide) ?_
          refine pw_iload_6 dX8_bestRest_75 ?_
          refine pw_iload_4 dX8_bestRest_77 ?_
          refine pw_icmp_lt 87 dX8_bestRest_79 (by decide) (fun h3 => ?_) (fun h3 => ?_)
          · skip
            refine pw_iload_4 dX8_bestRest_87 ?_
            refine pw_istore_4 dX8_bestRest_89 (by decide) ?_
            refine pw_iincN_5 dX8_bestRest_91 (by decide) ?_
            refine pw_goto 31 dX8_bestRest_94 (by decide) ?_
            obtain ⟨g1, g2⟩ := hx1.bk (z := z3) hf3
            have hlt : ¬ (brI (aB A) b k).2 ≤ brN (aB A) b (k + 1) := by have h5 := h2; rw [nI_ltI (by omega) (by omega)] at h5; omega
            have k0 : k ≠ 0 := fun e => by subst e; exact hlt (Nat.zero_le _)
            rw [br_n hlt] at ih2
            rw [if_neg k0]
            refine pw_fg (ls' := [some (.ref m), some (.int (nI b)), some (.int (nI t)), some (.int ((brI (aB A) b k).1)), some (.int (nI ((brI (aB A) b k).2))), some (.int (nI ((k + 1) + 1))), none]) ⟨Or.inr rfl, Or.inr rfl, Or.inr rfl, Or.inr rfl, Or.inr rfl, Or.inr rfl, Or.inl rfl, trivial⟩ (ih2 _ (fun a ha => (g1 a ha).trans (hf1 a ha)) g2)
          · skip
            refine pw_iload_6 dX8_bestRest_82 ?_
            refine pw_goto 89 dX8_bestRest_84 (by decide) ?_
            refine pw_istore_4 dX8_bestRest_89 (by decide) ?_
            refine pw_iincN_5 dX8_bestRest_91 (by decide) ?_
            refine pw_goto 31 dX8_bestRest_94 (by decide) ?_
            exact absurd h2 h3
        · skip
          refine pw_iload_5 dX8_bestRest_68 ?_
          refine pw_goto 74 dX8_bestRest_70 (by decide) ?_
          refine pw_istore_3 dX8_bestRest_74 (by decide) ?_
          refine pw_iload_6 dX8_bestRest_75 ?_
          refine pw_iload_4 dX8_bestRest_77 ?_
          refine pw_icmp_lt 87 dX8_bestRest_79 (by decide) (fun h4 => ?_) (fun h4 => ?_)
          · skip
            refine pw_iload_4 dX8_bestRest_87 ?_
            refine pw_istore_4 dX8_bestRest_89 (by decide) ?_
            refine pw_iincN_5 dX8_bestRest_91 (by decide) ?_
            refine pw_goto 31 dX8_bestRest_94 (by decide) ?_
            exact absurd h4 h2
          · skip
            refine pw_iload_6 dX8_bestRest_82 ?_
            refine pw_goto 89 dX8_bestRest_84 (by decide) ?_
            refine pw_istore_4 dX8_bestRest_89 (by decide) ?_
            refine pw_iincN_5 dX8_bestRest_91 (by decide) ?_
            refine pw_goto 31 dX8_bestRest_94 (by decide) ?_
            obtain ⟨g1, g2⟩ := hx1.bk (z := z3) hf3
            have hlt : (brI (aB A) b k).2 ≤ brN (aB A) b (k + 1) := by have h5 := h2; rw [nI_ltI (by omega) (by omega)] at h5; omega
            rw [br_y hlt] at ih2
            refine pw_fg (ls' := [some (.ref m), some (.int (nI b)), some (.int (nI t)), some (.int (nI (k + 1))), some (.int (nI (brN (aB A) b (k + 1)))), some (.int (nI ((k + 1) + 1))), none]) ⟨Or.inr rfl, Or.inr rfl, Or.inr rfl, Or.inr rfl, Or.inr rfl, Or.inr rfl, Or.inl rfl, trivial⟩ (ih2 _ (fun a ha => (g1 a ha).trans (hf1 a ha)) g2)
    · skip
      refine pw_if_ne 23 dX8_bestRest_17 (by decide) (fun hh => absurd hh (by decide)) (fun _ => ?_)
      refine pw_bipush (v := -2) dX8_bestRest_20 (by decide) ?_
      refine pw_ireturn dX8_bestRest_22 rfl ?_
      have e1 : brR (aB A) (nI b) y = -2 := cif_n (fun hh => by obtain ⟨-, k, h1, e⟩ := hh; exact hnt k (by omega) (by omega) e)
      rw [e1] at q
      rw [wC_id]
      exact q _ (fun _ _ => rfl) hx
  · skip
    refine pw_if_eq 20 dX8_bestRest_8 (by decide) (fun _ => ?_) (fun hh => absurd (by decide) hh)
    refine pw_bipush (v := -2) dX8_bestRest_20 (by decide) ?_
    refine pw_ireturn dX8_bestRest_22 rfl ?_
    have e1 : brR (aB A) x y = -2 := cif_n (fun hh => by obtain ⟨⟨b, h1, h2, e⟩, -⟩ := hh; exact hnb b h1 h2 e)
    rw [e1] at q
    rw [wC_id]
    exact q _ (fun _ _ => rfl) hx
