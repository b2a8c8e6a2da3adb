/-! The changes on the bus as numbers: what each answers, what the bus is behind it -/
def inN (n : Nat) (x : Int32) : Prop := ∃ j, j < n ∧ x = nI j
def ixN (x : Int32) : Nat := x.toNatClampNeg
theorem ixN_nI {j : Nat} (h : j < 2 ^ 31) : ixN (nI j) = j := nI_clamp h
theorem inN_no {n : Nat} {x : Int32} (h : ∀ j, j < n → x ≠ nI j) : ¬ inN n x := fun ⟨j, h1, h2⟩ => h j h1 h2
theorem inN_ok {n j : Nat} (h : j < n) : inN n (nI j) := ⟨j, h, rfl⟩
theorem inN_ix {n : Nat} {x : Int32} (hn : n ≤ 2 ^ 31) (h : inN n x) : ixN x < n ∧ x = nI (ixN x) := by
  obtain ⟨j, h1, rfl⟩ := h
  rw [ixN_nI (by omega)]
  exact ⟨h1, rfl⟩
def clS (i : Nat) (B : Bs) : Bs := setS B i (upd (bS B i) 1 (if bG B 1 < bS B i 1 then bG B 1 else bS B i 1))
def seB (B : Bs) (k : Nat) (v : Int32) : Bs := itr clS (nS B) (setG B k v)
def seP (x v : Int32) : Prop := ∃ k, k < 5 ∧ x = nI k ∧ pw_LO k ≤ v ∧ v ≤ pw_GR k
noncomputable def seR (B : Bs) (x v : Int32) : Int32 := cif (seP x v) (bG B (ixN x)) (-2)
noncomputable def seN (B : Bs) (x v : Int32) : Bs := cif (seP x v) (seB B (ixN x) v) B
def cmP (x : Int32) : Prop := ∃ j, 1 ≤ j ∧ j ≤ 63 ∧ x = nI j
noncomputable def cmR (B : Bs) (x : Int32) : Int32 := cif (cmP x) (if nS B = 8 then -4 else nI (nS B)) (-2)
noncomputable def cmN (B : Bs) (x : Int32) : Bs := cif (cmP x ∧ nS B ≠ 8) (cmB B x) B
noncomputable def wdR (B : Bs) (x y u : Int32) : Int32 := cif (inN (nS B) x ∧ inN 6 y) (cif (inN 256 u) (cif (atB B (ixN x) y) (if nwF (bS B (ixN x)) = 4 then -4 else nI (nwF (bS B (ixN x)) + 1)) (-5)) (-2)) (-1)
noncomputable def wdN (B : Bs) (x y u : Int32) : Bs := cif ((inN (nS B) x ∧ inN 6 y) ∧ inN 256 u ∧ atB B (ixN x) y ∧ nwF (bS B (ixN x)) ≠ 4) (setS B (ixN x) (gtF (bS B (ixN x)) (nwF (bS B (ixN x))) u y)) B
noncomputable def fgR (B : Bs) (x : Int32) : Int32 := cif (inN (nS B) x) (if nwF (bS B (ixN x)) = 0 then -5 else bS B (ixN x) 5) (-1)
noncomputable def fgN (B : Bs) (x : Int32) : Bs := cif (inN (nS B) x ∧ nwF (bS B (ixN x)) ≠ 0) (lvB B (ixN x)) B
noncomputable def skR (B : Bs) (x : Int32) : Int32 := cif (inN 6 x) (nI 1 - bW B (ixN x) 1) (-1)
noncomputable def skN (B : Bs) (x : Int32) : Bs := cif (inN 6 x) (setW B (ixN x) 1 (nI 1 - bW B (ixN x) 1)) B
noncomputable def dz1 (B : Bs) (i : Nat) : Bs := setS B i (upd (bS B i) 3 (nI 1 - bS B i 3))
noncomputable def dzB (B : Bs) (i : Nat) : Bs := cif (bS B i 3 = nI 0 ∧ spB B i) (guB (dz1 B i) i) (dz1 B i)
noncomputable def dzR (B : Bs) (x : Int32) : Int32 := cif (inN (nS B) x) (nI 1 - bS B (ixN x) 3) (-1)
noncomputable def dzN (B : Bs) (x : Int32) : Bs := cif (inN (nS B) x) (dzB B (ixN x)) B
def psP (x : Int32) : Prop := ∃ c, 1 ≤ c ∧ c ≤ 999 ∧ x = nI c
noncomputable def psR (B : Bs) (x : Int32) : Int32 := cif (psP x) (if nI 99999 < bG B 5 + x then -5 else nI (btI (ixN x) B).2) (-2)
noncomputable def psN (B : Bs) (x : Int32) : Bs := cif (psP x ∧ ¬ nI 99999 < bG B 5 + x) (btI (ixN x) B).1 B
/-- settings -/
theorem cl_id {B : Bs} {i : Nat} (h : bS B i 1 ≤ bG B 1) : clS i B = B := by
  unfold clS
  rw [if_neg (Int32.not_lt.mpr h)]
  have e : upd (bS B i) 1 (bS B i 1) = bS B i := by
    funext k
    by_cases hk : k = 1
    · subst hk
      rw [upd_s]
    · rw [upd_n _ _ hk]
  rw [e, setS_id]
theorem se_id {B : Bs} {k : Nat} {v : Int32} (wf : WF B) (hk : k < 5) (h1 : k ≠ 1) : seB B k v = setG B k v := by
  unfold seB
  have e : bG (setG B k v) 1 = bG B 1 := by rw [bG_setG, upd_n _ _ (Ne.symm h1)]
  exact itr_ind (P := fun _ x => x = setG B k v) rfl fun i x hi hx => by
    subst hx
    exact cl_id (by rw [e]; exact wf.c hi)
theorem cl_G {i : Nat} {B : Bs} : bG (clS i B) = bG B := rfl
theorem Fr_cl {i : Nat} {B : Bs} : Fr B (clS i B) := Fr_setS ⟨upd_n _ _ (by omega), upd_n _ _ (by omega), upd_n _ _ (by omega)⟩
/-- behind k rounds of the clamp -/
theorem cl_wf {B : Bs} {k s : Nat} (wf : WF B) (hs : s < 100) (hk : k ≤ nS B) : bG (itr clS k (setG B 1 (nI s))) = bG (setG B 1 (nI s)) ∧ (∀ j, j < nS B → WS (nS B) (bS (itr clS k (setG B 1 (nI s))) j)) ∧ (∀ j, j < k → bS (itr clS k (setG B 1 (nI s))) j 1 ≤ nI s) ∧ (∀ w, bW (itr clS k (setG B 1 (nI s))) w = bW B w) ∧ ∀ j, nS B ≤ j → bS (itr clS k (setG B 1 (nI s))) j = bS B j := by
  induction k with
  | zero => exact ⟨rfl, fun j hj => wf.s hj, fun j hj => absurd hj (by omega), fun _ => rfl, fun _ _ => rfl⟩
  | succ k ih =>
    obtain ⟨i1, i2, i3, i4, i5⟩ := ih (by omega)
    show bG (clS k (itr clS k (setG B 1 (nI s)))) = _ ∧ (∀ j, j < nS B → WS (nS B) (bS (clS k (itr clS k (setG B 1 (nI s)))) j)) ∧ (∀ j, j < k + 1 → bS (clS k (itr clS k (setG B 1 (nI s)))) j 1 ≤ nI s) ∧ (∀ w, bW (clS k (itr clS k (setG B 1 (nI s)))) w = bW B w) ∧ ∀ j, nS B ≤ j → bS (clS k (itr clS k (setG B 1 (nI s)))) j = bS B j
    generalize itr clS k (setG B 1 (nI s)) = C at i1 i2 i3 i4 i5
    have e1 : bG C 1 = nI s := by rw [i1, bG_setG, upd_s]
    refine ⟨i1, fun j hj => ?_, fun j hj => ?_, i4, fun j hj => ?_⟩
    · unfold clS
      by_cases e : j = k
      · subst e
        rw [bS_setS_s]
        exact (i2 j hj).free (by omega)
      · rw [bS_setS_n _ _ e]
        exact i2 j hj
    · unfold clS
      by_cases e : j = k
      · subst e
        rw [bS_setS_s, upd_s, e1]
        split
        · exact Int32.le_refl _
        · rename_i h
          exact Int32.not_lt.mp h
      · rw [bS_setS_n _ _ e]
        exact i3 j (by omega)
    · unfold clS
      rw [bS_setS_n _ _ (by omega)]
      exact i5 j hj
theorem WF.se {B : Bs} {k : Nat} {v : Int32} (wf : WF B) (h : seP (nI k) v) (hk : k < 5) : WF (seB B k v) := by
  have hv : ∃ s, s < 100 ∧ v = nI s := by
    obtain ⟨j, j5, e, h1, h2⟩ := h
    have g : ∀ j, j < 5 → nI 0 ≤ pw_LO j ∧ pw_GR j ≤ nI 99 := by decide
    have := in_of (lo := 0) (hi := 99) (by decide) (by decide) (Int32.not_lt.mpr (Int32.le_trans (g j j5).1 h1)) (Int32.le_trans h2 (g j j5).2)
    exact ⟨_, by omega, this.2.2⟩
  obtain ⟨s, hs, rfl⟩ := hv
  by_cases h1 : k = 1
  · subst h1
    obtain ⟨i1, i2, i3, i4, i5⟩ := cl_wf (k := nS B) wf hs (Nat.le_refl _)
    have en : nS (seB B 1 (nI s)) = nS B := (nS_G i1).trans (nS_setG _ _ (by omega))
    have w0 : WF B := wf
    obtain ⟨⟨g1, g2⟩, g3, g4, g5, g6⟩ := wf
    unfold WF
    rw [en]
    refine ⟨⟨?_, g2⟩, fun j hj => ?_, fun v hv => ?_, fun j hj => ⟨i2 j hj, ?_⟩, fun j hj h8 q hq => ?_⟩
    · show bG (itr clS (nS B) (setG B 1 (nI s))) 6 = _
      rw [i1, bG_setG, upd_n _ _ (by omega)]
      exact g1
    · show ∃ s', s' < 100 ∧ bG (itr clS (nS B) (setG B 1 (nI s))) j = nI s'
      rw [i1, bG_setG]
      by_cases e : j = 1
      · subst e
        rw [upd_s]
        exact ⟨s, hs, rfl⟩
      · rw [upd_n _ _ e]
        exact g3 j hj
    · show (∃ h, h ≤ 999 ∧ bW (itr clS (nS B) (setG B 1 (nI s))) v 0 = nI h) ∧ (bW (itr clS (nS B) (setG B 1 (nI s))) v 1 = nI 0 ∨ bW (itr clS (nS B) (setG B 1 (nI s))) v 1 = nI 1)
      rw [i4]
      exact g4 v hv
    · show _ ≤ bG (itr clS (nS B) (setG B 1 (nI s))) 1
      rw [i1, bG_setG, upd_s]
      exact i3 j hj
    · show bS (itr clS (nS B) (setG B 1 (nI s))) j q = _
      rw [i5 j hj]
      exact g6 j hj h8 q hq
  · rw [se_id wf hk h1]
    exact wf.pG hk hs (fun e => absurd e h1)
theorem WF.cm {B : Bs} {x : Int32} (wf : WF B) (h : nS B < 8) : WF (cmB B x) := by
  have en := nS_cm (x := x) h
  obtain ⟨⟨g1, g2⟩, g3, g4, g5, g6⟩ := wf
  have eg : ∀ k, k ≠ 6 → bG (cmB B x) k = bG B k := fun k hk => upd_n (bG B) _ hk
  unfold WF
  rw [en]
  refine ⟨⟨upd_s (bG B) 6 _, by omega⟩, fun k hk => by rw [eg k (by omega)]; exact g3 k hk, g4, fun j hj => ?_, fun j hj h8 k hk => ?_⟩
  · rw [eg 1 (by omega)]
    show WS (nS B + 1) (bS (setS B (nS B) (cmF x (bG B 1))) j) ∧ bS (setS B (nS B) (cmF x (bG B 1))) j 1 ≤ bG B 1
    by_cases e : j = nS B
    · subst e
      rw [bS_setS_s]
      have z : ∀ k, k ≠ 0 → k ≠ 1 → k ≠ 17 → cmF x (bG B 1) k = nI 0 := fun k h0 h1 h17 => by
        unfold cmF
        rw [upd_n _ _ h17, upd_n _ _ h1, upd_n _ _ h0]
      refine ⟨⟨⟨0, by omega, z 4 (by omega) (by omega) (by omega), fun r hr => absurd hr (by omega), Or.inl (upd_s _ _ _)⟩, ⟨Or.inl (z 2 (by omega) (by omega) (by omega)), Or.inl (z 3 (by omega) (by omega) (by omega))⟩, ⟨0, by omega, z 23 (by omega) (by omega) (by omega), fun j h1 h2 => z j (by omega) (by omega) (by omega)⟩, WSe.z (z 18 (by omega) (by omega) (by omega))⟩, ?_⟩
      unfold cmF
      rw [upd_n _ _ (by omega), upd_s]
      exact Int32.le_refl _
    · rw [bS_setS_n _ _ e]
      obtain ⟨⟨a1, a2, a3, a4⟩, a5⟩ := g5 j (by omega)
      exact ⟨⟨a1, a2, a3, fun i hi hb => Nat.lt_succ_of_lt (a4 i hi hb)⟩, a5⟩
  · show bS (setS B (nS B) (cmF x (bG B 1))) j k = _
    rw [bS_setS_n _ _ (by omega)]
    exact g6 j (by omega) h8 k hk
theorem WS.gt {n w : Nat} {f : Nat → Int32} {u y : Nat} (h : WS n f) (hw : nwF f = w) (h4 : w < 4) (hu : u < 256) (hy : y < 6) : WS n (gtF f w (nI u) (nI y)) := by
  subst hw
  obtain ⟨⟨w, h1, h2, h3, hs⟩, h5, h6, h7⟩ := h
  have e : nwF f = w := nw_of h2 h1
  rw [e] at h4 ⊢
  unfold gtF
  refine ⟨⟨w + 1, by omega, upd_s _ _ _, fun r hr => ?_, ?_⟩, h5.cong ?_ ?_, h6.cong fun j hj => ?_, h7.cong ?_⟩
  · rw [upd_n _ _ (by omega), upd_n _ _ (by omega), upd_n _ _ (by omega), upd_n _ _ (show 6 + 3 * r ≠ 4 by omega), upd_n _ _ (show 6 + 3 * r ≠ 7 + 3 * w by omega)]
    by_cases er : r = w
    · subst er
      rw [upd_s, upd_s]
      exact ⟨⟨u, hu, rfl⟩, y, hy, rfl⟩
    · rw [upd_n _ _ (by omega), upd_n _ _ (by omega), upd_n _ _ (by omega)]
      exact h3 r (by omega)
  · rw [upd_n _ _ (by omega), upd_n _ _ (by omega), upd_n _ _ (by omega), upd_n _ _ (by omega)]
    rcases hs with hs | ⟨k, k1, k2, k3⟩
    · exact Or.inl hs
    · exact Or.inr ⟨k, k1, k2, by omega⟩
  all_goals (rw [upd_n _ _ (by omega), upd_n _ _ (by omega), upd_n _ _ (by omega), upd_n _ _ (by omega)])
theorem WF.gt {B : Bs} {i u y : Nat} (wf : WF B) (hi : i < nS B) (h4 : nwF (bS B i) ≠ 4) (hu : u < 256) (hy : y < 6) : WF (setS B i (gtF (bS B i) (nwF (bS B i)) (nI u) (nI y))) := by
  have hw := (wf.s hi).w.2
  refine wf.pS hi ((wf.s hi).gt rfl (by omega) hu hy) ?_
  unfold gtF
  rw [upd_n _ _ (by omega), upd_n _ _ (by omega), upd_n _ _ (by omega), upd_n _ _ (by omega)]
  exact wf.c hi
theorem z_flip {x : Int32} (h : x = nI 0 ∨ x = nI 1) : nI 1 - x = nI 0 ∨ nI 1 - x = nI 1 := by
  rcases h with rfl | rfl
  · exact Or.inr (by decide)
  · exact Or.inl (by decide)
theorem WF.dz {B : Bs} {i : Nat} (wf : WF B) (hi : i < nS B) : WF (dzB B i) := by
  have w1 : WF (dz1 B i) := wf.pS hi ((wf.s hi).z (Or.inr rfl) (z_flip (wf.s hi).2.1.2)) (by rw [upd_n _ _ (by omega)]; exact wf.c hi)
  unfold dzB
  by_cases h : bS B i 3 = nI 0 ∧ spB B i
  · rw [cif_y h]
    exact w1.gu hi
  · rw [cif_n h]
    exact w1
theorem wf_se {B : Bs} {x v : Int32} (wf : WF B) : WF (seN B x v) := by
  unfold seN
  by_cases h : seP x v
  · rw [cif_y h]
    obtain ⟨k, k5, rfl, hl⟩ := h
    rw [ixN_nI (by omega)]
    exact wf.se ⟨k, k5, rfl, hl⟩ k5
  · rw [cif_n h]
    exact wf
theorem wf_cm {B : Bs} {x : Int32} (wf : WF B) : WF (cmN B x) := by
  unfold cmN
  by_cases h : cmP x ∧ nS B ≠ 8
  · rw [cif_y h]
    exact wf.cm (by have := wf.n8; omega)
  · rw [cif_n h]
    exact wf
theorem wf_wd {B : Bs} {x y u : Int32} (wf : WF B) : WF (wdN B x y u) := by
  unfold wdN
  have h8 := wf.n8
  by_cases h : (inN (nS B) x ∧ inN 6 y) ∧ inN 256 u ∧ atB B (ixN x) y ∧ nwF (bS B (ixN x)) ≠ 4
  · rw [cif_y h]
    obtain ⟨⟨h1, j, j6, rfl⟩, ⟨k, k9, rfl⟩, -, h4⟩ := h
    exact wf.gt (inN_ix (by omega) h1).1 h4 k9 j6
  · rw [cif_n h]
    exact wf
theorem wf_fg {B : Bs} {x : Int32} (wf : WF B) : WF (fgN B x) := by
  unfold fgN
  have h8 := wf.n8
  by_cases h : inN (nS B) x ∧ nwF (bS B (ixN x)) ≠ 0
  · rw [cif_y h]
    exact wf.lv (inN_ix (by omega) h.1).1
  · rw [cif_n h]
    exact wf
theorem wf_sk {B : Bs} {x : Int32} (wf : WF B) : WF (skN B x) := by
  unfold skN
  by_cases h : inN 6 x
  · rw [cif_y h]
    exact wf.setW1 (z_flip (wf.2.2.1 _ (inN_ix (by omega) h).1).2)
  · rw [cif_n h]
    exact wf
theorem wf_dz {B : Bs} {x : Int32} (wf : WF B) : WF (dzN B x) := by
  unfold dzN
  have h8 := wf.n8
  by_cases h : inN (nS B) x
  · rw [cif_y h]
    exact wf.dz (inN_ix (by omega) h).1
  · rw [cif_n h]
    exact wf
theorem wf_ps {B : Bs} {x : Int32} (wf : WF B) : WF (psN B x) := by
  unfold psN
  by_cases h : psP x ∧ ¬ nI 99999 < bG B 5 + x
  · rw [cif_y h]
    exact bI_wf wf _
  · rw [cif_n h]
    exact wf

