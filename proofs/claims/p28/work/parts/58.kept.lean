/-! What always holds stays so -/
theorem TB.of {B B' : Bs} (h : TB B) (e5 : bG B' 5 = bG B 5) (e : ∀ s, s < 8 → bS B' s 19 = bS B s 19 ∨ bS B' s 19 = nI 0) : TB B' := by
  obtain ⟨t, t1, t2, t3⟩ := h
  refine ⟨t, t1, e5.trans t2, fun s hs => ?_⟩
  rcases e s hs with q | q
  · rw [q]
    exact t3 s hs
  · exact ⟨0, Nat.zero_le _, q⟩
theorem S19 {B : Bs} {i : Nat} {f : Nat → Int32} (hf : f 19 = bS B i 19) (s : Nat) : bS (setS B i f) s 19 = bS B s 19 := by
  rcases Classical.em (s = i) with e | e
  · subst e
    rw [bS_setS_s]
    exact hf
  · rw [bS_setS_n _ _ e]
theorem cl_19 {C : Bs} : ∀ k s, bS (itr clS k C) s 19 = bS C s 19
  | 0, s => rfl
  | k + 1, s => by
    show bS (clS k (itr clS k C)) s 19 = _
    exact (S19 (upd_n _ _ (by omega)) s).trans (cl_19 k s)
theorem tb_se {B : Bs} {x v : Int32} (h : TB B) : TB (seN B x v) := by
  unfold seN
  rcases Classical.em (seP x v) with hy | hy
  · rw [cif_y hy]
    obtain ⟨k, k5, rfl, -⟩ := hy
    rw [ixN_nI (by omega)]
    refine h.of ?_ (fun s hs => Or.inl ?_)
    · unfold seB
      rw [cl_Gn, bG_setG, upd_n _ _ (by omega)]
    · unfold seB
      rw [cl_19, bS_setG]
  · rw [cif_n hy]
    exact h
theorem tb_cm {B : Bs} {x : Int32} (h : TB B) : TB (cmN B x) := by
  unfold cmN
  rcases Classical.em (cmP x ∧ nS B ≠ 8) with hy | hy
  · rw [cif_y hy]
    refine h.of (upd_n (bG B) (nI (nS B + 1)) (show 5 ≠ 6 by decide)) (fun s hs => ?_)
    show bS (setS B (nS B) (cmF x (bG B 1))) s 19 = _ ∨ bS (setS B (nS B) (cmF x (bG B 1))) s 19 = _
    rcases Classical.em (s = nS B) with e | e
    · subst e
      right
      rw [bS_setS_s]
      unfold cmF
      rw [upd_n _ _ (by omega), upd_n _ _ (by omega), upd_n _ _ (by omega)]
    · left
      rw [bS_setS_n _ _ e]
  · rw [cif_n hy]
    exact h
theorem tb_wd {B : Bs} {x y u : Int32} (wf : WF B) (h : TB B) : TB (wdN B x y u) := by
  unfold wdN
  rcases Classical.em ((inN (nS B) x ∧ inN 6 y) ∧ inN 256 u ∧ atB B (ixN x) y ∧ nwF (bS B (ixN x)) ≠ 4) with hy | hy
  · rw [cif_y hy]
    have h8 := wf.n8
    have hi := (inN_ix (by omega) hy.1.1).1
    have hw := (wf.w (i := ixN x) (by omega)).2
    refine h.of rfl (fun s hs => Or.inl (S19 ?_ s))
    unfold gtF
    rw [upd_n _ _ (by omega), upd_n _ _ (by omega), upd_n _ _ (by omega), upd_n _ _ (by omega)]
  · rw [cif_n hy]
    exact h
theorem lv_19 {B : Bs} {i : Nat} (wf : WF B) (hi : i < nS B) : lvF (bS B i) 19 = bS B i 19 := by
  have h8 := wf.n8
  exact lv_hi (by omega) (wf.w (i := i) (by omega)).2
theorem tb_fg {B : Bs} {x : Int32} (wf : WF B) (h : TB B) : TB (fgN B x) := by
  unfold fgN
  rcases Classical.em (inN (nS B) x ∧ nwF (bS B (ixN x)) ≠ 0) with hy | hy
  · rw [cif_y hy]
    have h8 := wf.n8
    exact h.of rfl (fun s hs => Or.inl (S19 (lv_19 wf (inN_ix (by omega) hy.1).1) s))
  · rw [cif_n hy]
    exact h
theorem tb_sk {B : Bs} {x : Int32} (h : TB B) : TB (skN B x) := by
  unfold skN
  rcases Classical.em (inN 6 x) with hy | hy
  · rw [cif_y hy]
    exact h.of rfl (fun s hs => Or.inl rfl)
  · rw [cif_n hy]
    exact h
theorem gu_19 {B : Bs} {i : Nat} (wf : WF B) (hi : i < nS B) (s : Nat) : bS (guB B i) s 19 = bS B s 19 := by
  have h8 := wf.n8
  have hw := (wf.w (i := i) (by omega)).2
  unfold guB
  split
  · refine S19 ?_ s
    unfold glF
    have e4 : nwF (upd (guF (bS B i)) 20 (bS B i 20 + nI 1)) = nwF (bS B i) := (nw_upd (by omega)).trans (gu_nw _)
    rw [lv_hi (by omega) (by rw [e4]; exact hw), upd_n _ _ (by omega), gu_o _ (by omega)]
  · exact S19 (gu_o _ (by omega)) s
theorem gu_G {B : Bs} {i : Nat} : bG (guB B i) = bG B := Fr_gu.1
theorem tb_dz {B : Bs} {x : Int32} (wf : WF B) (h : TB B) : TB (dzN B x) := by
  unfold dzN
  rcases Classical.em (inN (nS B) x) with hy | hy
  · rw [cif_y hy]
    have h8 := wf.n8
    have hi := (inN_ix (by omega) hy).1
    have e1 : ∀ s, bS (dz1 B (ixN x)) s 19 = bS B s 19 := fun s => S19 (upd_n _ _ (by omega)) s
    unfold dzB
    rcases Classical.em (bS B (ixN x) 3 = nI 0 ∧ spB B (ixN x)) with c | c
    · rw [cif_y c]
      have w1 : WF (dz1 B (ixN x)) := wf.pS hi ((wf.s hi).z (Or.inr rfl) (z_flip (wf.s hi).2.1.2)) (by rw [upd_n _ _ (by omega)]; exact wf.c hi)
      exact h.of (congrFun gu_G 5) (fun s hs => Or.inl ((gu_19 w1 hi s).trans (e1 s)))
    · rw [cif_n c]
      exact h.of rfl (fun s hs => Or.inl (e1 s))
  · rw [cif_n hy]
    exact h
theorem tb_bI {B : Bs} {t : Nat} (wf : WF B) (h5 : bG B 5 = nI t) (h : ∀ s, s < 8 → ∃ g, g ≤ t ∧ bS B s 19 = nI g) : ∀ k, bG (btI k B).1 5 = nI (t + k) ∧ ∀ s, s < 8 → ∃ g, g ≤ t + k ∧ bS (btI k B).1 s 19 = nI g
  | 0 => ⟨h5, h⟩
  | k + 1 => by
    obtain ⟨i1, i2⟩ := tb_bI wf h5 h k
    have wk := bI_wf wf k
    show bG (btO (btI k B).1) 5 = nI (t + (k + 1)) ∧ ∀ s, s < 8 → ∃ g, g ≤ t + (k + 1) ∧ bS (btO (btI k B).1) s 19 = nI g
    generalize (btI k B).1 = C at i1 i2 wk
    refine ⟨?_, fun s hs => ?_⟩
    · show upd (bG (rsB C)) 5 (bG C 5 + nI 1) 5 = _
      rw [upd_s, i1, nI_add]
      rfl
    · obtain ⟨g, g1, g2⟩ := i2 s hs
      rcases Nat.lt_or_ge s (nS C) with c | c
      · rcases bt_TR wk c with q | q | q
        · exact ⟨g, by omega, q.1.trans g2⟩
        · exact ⟨g + 1, by omega, by rw [q.1, g2, nI_add]⟩
        · exact ⟨g, by omega, q.1.trans g2⟩
      · exact ⟨0, Nat.zero_le _, wk.bt.dead (by rw [n_bt]; exact c) hs (by omega)⟩
theorem tb_ps {B : Bs} {x : Int32} (wf : WF B) (h : TB B) : TB (psN B x) := by
  unfold psN
  rcases Classical.em (psP x ∧ ¬ nI 99999 < bG B 5 + x) with hy | hy
  · rw [cif_y hy]
    obtain ⟨⟨c, c1, c9, rfl⟩, hn⟩ := hy
    rw [ixN_nI (by omega)]
    obtain ⟨t, t1, t2, t3⟩ := h
    rw [t2, nI_add, nI_ltI (by omega) (by omega)] at hn
    obtain ⟨k1, k2⟩ := tb_bI wf t2 t3 c
    exact ⟨t + c, by omega, k1, k2⟩
  · rw [cif_n hy]
    exact h
theorem GD.do {B : Bs} {o : Od} (h : GD B) : GD (doN B o) := by
  refine ⟨do_wf h.1, ?_⟩
  obtain ⟨wf, h⟩ := h
  unfold doN
  rcases Classical.em (o.1 = 33) with c | c
  · rw [cif_y c]
    exact tb_sk h
  rw [cif_n c]
  rcases Classical.em (o.1 = 98) with c | c
  · rw [cif_y c]
    exact tb_ps wf h
  rw [cif_n c]
  rcases Classical.em (o.1 = 115) with c | c
  · rw [cif_y c]
    exact tb_cm h
  rw [cif_n c]
  rcases Classical.em (o.1 = 119) with c | c
  · rw [cif_y c]
    exact tb_wd wf h
  rw [cif_n c]
  rcases Classical.em (o.1 = 122) with c | c
  · rw [cif_y c]
    exact tb_dz wf h
  rw [cif_n c]
  exact h
theorem GD.co : ∀ {os : List Od} {B : Bs}, GD B → GD (coG os B).1
  | [], B, h => h
  | o :: os, B, h => by
    rcases Classical.em (doR B o < 0) with c | c
    · rw [co_e c]
      exact h
    · rw [co_g c]
      exact GD.co (os := os) (h.do (o := o))
theorem push_gd {H : (Nat → Bs) × Nat} {B : Bs} (h : ∀ k, k < H.2 → GD (H.1 k)) (hB : GD B) : ∀ k, k < (pushH H B).2 → GD ((pushH H B).1 k) := by
  unfold pushH
  rcases Classical.em (H.2 = 6) with c | c
  · rw [if_pos c]
    intro k hk
    have hk2 : k < 6 := hk
    show GD (if k = 5 then B else H.1 (k + 1))
    rcases Classical.em (k = 5) with e | e
    · rw [if_pos e]
      exact hB
    · rw [if_neg e]
      exact h (k + 1) (by omega)
  · rw [if_neg c]
    intro k hk
    have hk2 : k < H.2 + 1 := hk
    show GD (if k = H.2 then B else H.1 k)
    rcases Classical.em (k = H.2) with e | e
    · rw [if_pos e]
      exact hB
    · rw [if_neg e]
      exact h k (by omega)
theorem WA.up {A : Aw} {r : Int32} {B' : Bs} (h : WA A) (hB : GD B') : WA (upA A r B') := by
  unfold upA
  split
  · exact h
  · exact ⟨hB, push_gd h.2.1 h.1, h.2.2⟩
theorem wa_se {A : Aw} {x v : Int32} (h : WA A) : WA (upA A (seR (aB A) x v) (seN (aB A) x v)) := h.up ⟨wf_se h.1.1, tb_se h.1.2⟩
theorem wa_cm {A : Aw} {x : Int32} (h : WA A) : WA (upA A (cmR (aB A) x) (cmN (aB A) x)) := h.up ⟨wf_cm h.1.1, tb_cm h.1.2⟩
theorem wa_wd {A : Aw} {x y u : Int32} (h : WA A) : WA (upA A (wdR (aB A) x y u) (wdN (aB A) x y u)) := h.up ⟨wf_wd h.1.1, tb_wd h.1.1 h.1.2⟩
theorem wa_fg {A : Aw} {x : Int32} (h : WA A) : WA (upA A (fgR (aB A) x) (fgN (aB A) x)) := h.up ⟨wf_fg h.1.1, tb_fg h.1.1 h.1.2⟩
theorem wa_sk {A : Aw} {x : Int32} (h : WA A) : WA (upA A (skR (aB A) x) (skN (aB A) x)) := h.up ⟨wf_sk h.1.1, tb_sk h.1.2⟩
theorem wa_dz {A : Aw} {x : Int32} (h : WA A) : WA (upA A (dzR (aB A) x) (dzN (aB A) x)) := h.up ⟨wf_dz h.1.1, tb_dz h.1.1 h.1.2⟩
theorem wa_ps {A : Aw} {x : Int32} (h : WA A) : WA (upA A (psR (aB A) x) (psN (aB A) x)) := h.up ⟨wf_ps h.1.1, tb_ps h.1.1 h.1.2⟩
theorem wa_un {A : Aw} (h : WA A) : WA (unA A) := by
  unfold unA
  split
  · exact h
  · rename_i c
    exact ⟨h.2.1 _ (by omega), fun k hk => h.2.1 k (by have hk2 : k < (aH A).2 - 1 := hk; omega), h.2.2⟩
theorem wa_sv {A : Aw} {x : Int32} (h : WA A) : WA (svA A x) := by
  unfold svA
  rcases Classical.em (inN 2 x) with c | c
  · rw [cif_y c]
    refine ⟨h.1, h.2.1, fun k C hC => ?_⟩
    have hC2 : (if k = ixN x then some (aB A) else aS A k) = some C := hC
    rcases Classical.em (k = ixN x) with e | e
    · rw [if_pos e] at hC2
      cases hC2
      exact h.1
    · rw [if_neg e] at hC2
      exact h.2.2 k C hC2
  · rw [cif_n c]
    exact h
theorem wa_rs {A : Aw} {x : Int32} (h : WA A) : WA (rsA A x) := by
  unfold rsA
  rcases Classical.em (inN 2 x) with c | c
  · rw [cif_y c]
    cases e : aS A (ixN x) with
    | none => exact h
    | some C => exact ⟨h.2.2 _ C e, push_gd h.2.1 h.1, h.2.2⟩
  · rw [cif_n c]
    exact h
theorem wa_co {A : Aw} (h : WA A) : WA (coA A) := by
  unfold coA
  rcases Classical.em (flG (aP A) 80 0 = -6) with c | c
  · rw [cif_y c]
    exact ⟨h.1.co, push_gd h.2.1 h.1, h.2.2⟩
  · rw [cif_n c]
    exact h
theorem wa_pt {A : Aw} {x : Int64} (h : WA A) : WA (ptA A x) := by
  unfold ptA
  split
  · exact h
  · exact h
theorem wa_pd {A : Aw} {P : Pd} (h : WA A) : WA (aB A, aH A, aS A, P) := h
theorem wf_B0 : WF B0 := by
  have e := nS_B0
  refine ⟨⟨by rw [e]; decide, by rw [e]; decide⟩, fun k hk => ?_, fun v hv => ⟨⟨0, by decide, rfl⟩, Or.inl rfl⟩, fun i hi => ?_, fun i h1 h2 k hk => rfl⟩
  · have g : ∀ k, k < 5 → pw_AF k = nI (pw_AF k).toNatClampNeg ∧ (pw_AF k).toNatClampNeg < 100 := by decide
    exact ⟨_, (g k hk).2, (g k hk).1⟩
  · rw [e] at hi
    exact absurd hi (Nat.not_lt_zero i)
theorem wa_A0 : WA A0 := ⟨⟨wf_B0, 0, by decide, by decide, fun s hs => ⟨0, Nat.le_refl _, rfl⟩⟩, fun k hk => absurd hk (Nat.not_lt_zero k), fun k C hC => by cases hC⟩

