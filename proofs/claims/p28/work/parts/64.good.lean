/-! Bounds that a beat keeps -/
def GDn (n : Nat) (B : Bs) : Prop := WF B ∧ WL B ∧ nS B = n
theorem GDn.n8 {n : Nat} {B : Bs} (h : GDn n B) : n ≤ 8 := h.2.2 ▸ h.1.n8
theorem GDn.wf {n : Nat} {B : Bs} (h : GDn n B) : WF B := h.1
theorem GDn.wl {n : Nat} {B : Bs} (h : GDn n B) : WL B := h.2.1
theorem GDn.hn {n : Nat} {B : Bs} (h : GDn n B) : nS B = n := h.2.2
theorem WLs.cong {f g : Nat → Int32} (h : WLs f) (e : ∀ k, (4 ≤ k ∧ k < 17) ∨ 22 < k → g k = f k) : WLs g := by
  have e4 : nwF g = nwF f := by
    unfold nwF
    rw [e 4 (by omega)]
  have e23 : nkF g = nkF f := by
    unfold nkF
    rw [e 23 (by omega)]
  refine ⟨fun r r4 hr => ?_, fun r r4 hr => ?_⟩
  · rw [e4] at hr
    rw [e _ (by omega)]
    exact h.1 r r4 hr
  · rw [e23] at hr
    rw [e _ (by omega), e _ (by omega), e _ (by omega), e _ (by omega)]
    exact h.2 r r4 hr
theorem WLs.free {f : Nat → Int32} {k : Nat} {x : Int32} (h : WLs f) (hk : k < 4 ∨ (16 < k ∧ k < 23)) : WLs (upd f k x) := h.cong fun j hj => upd_n _ _ (by omega)
theorem WLs.qt {f : Nat → Int32} (h : WLs f) : WLs (qtF f) := (h.free (by omega)).free (by omega)
theorem WLs.lv {f : Nat → Int32} (h : WLs f) (h4 : nwF f ≤ 4) : WLs (lvF f) := by
  have e4 : nwF (lvF f) = nwF f - 1 := by
    have : lvF f 4 = nI (nwF f - 1) := by
      unfold lvF
      rw [if_neg (by omega), upd_s]
    exact nw_of this (by omega)
  have e23 : nkF (lvF f) = nkF f := by
    unfold nkF
    rw [lv_hi (by omega) h4]
  refine ⟨fun r r4 hr => ?_, fun r r4 hr => ?_⟩
  · rw [e4] at hr
    have e : lvF f (7 + 3 * r) = f (7 + 3 * (r + 1)) := by
      unfold lvF
      rw [if_pos (by omega), show 7 + 3 * r + 3 = 7 + 3 * (r + 1) by omega]
    rw [e]
    exact h.1 (r + 1) (by omega) (by omega)
  · rw [e23] at hr
    rw [lv_hi (by omega) h4, lv_hi (by omega) h4, lv_hi (by omega) h4, lv_hi (by omega) h4]
    exact h.2 r r4 hr
/-- first tries below a bound, the others too -/
theorem WLs.up7 {f : Nat → Int32} (h : WLs f) (h7 : 0 < nwF f → ∃ y, y < 100 ∧ f 7 + nI 1 = nI y) : WLs (guF f) := by
  refine WLs.qt (WLs.free ⟨fun r r4 hr => ?_, fun r r4 hr => ?_⟩ (by omega))
  · rw [nwF_n (by omega)] at hr
    by_cases e : r = 0
    · subst e
      rw [upd_s]
      exact h7 hr
    · rw [upd_n _ _ (by omega)]
      exact h.1 r r4 hr
  · rw [nkF_n (by omega)] at hr
    rw [upd_n _ _ (by omega), upd_n _ _ (by omega), upd_n _ _ (by omega), upd_n _ _ (by omega)]
    exact h.2 r r4 hr
theorem WLs.gl {f : Nat → Int32} (h : WLs f) (h4 : nwF f ≤ 4) : WLs (glF f) := by
  have e4 : nwF (upd (guF f) 20 (f 20 + nI 1)) = nwF f := by rw [nwF_n (by omega), gu_nw9]
  have a4 : glF f 4 = nI (nwF f - 1) := by
    unfold glF lvF
    rw [if_neg (by omega), upd_s, e4]
  have e5 : nwF (glF f) = nwF f - 1 := nw_of a4 (by omega)
  have ek : ∀ k, 22 < k → glF f k = f k := fun k hk => by
    unfold glF
    rw [lv_hi (by omega) (by omega), upd_n _ _ (by omega), gu_n (by omega)]
  have e23 : nkF (glF f) = nkF f := by
    unfold nkF
    rw [ek _ (by omega)]
  refine ⟨fun r r4 hr => ?_, fun r r4 hr => ?_⟩
  · rw [e5] at hr
    have e : glF f (7 + 3 * r) = f (7 + 3 * (r + 1)) := by
      unfold glF lvF
      rw [if_pos (by omega), show 7 + 3 * r + 3 = 7 + 3 * (r + 1) by omega, upd_n _ _ (by omega), gu_n (by omega)]
    rw [e]
    exact h.1 (r + 1) (by omega) (by omega)
  · rw [e23] at hr
    rw [ek _ (by omega), ek _ (by omega), ek _ (by omega), ek _ (by omega)]
    exact h.2 r r4 hr
theorem WLs.he {f : Nat → Int32} {x y z u : Int32} (h : WLs f) (hx : ∃ v, v < 256 ∧ x = nI v) (hy : ∃ v, v < 8 ∧ y = nI v) (hz : ∃ v, v < 8 ∧ z = nI v) (hu : ∃ v, v < 131072 ∧ u = nI v) : WLs (heF f x y z u) := by
  have e4 : nwF (heF f x y z u) = nwF f := by
    unfold nwF
    rw [he_lo (by omega)]
  have a23 : heF f x y z u 23 = nI (hkF f) := by
    unfold heF shL
    rw [upd_n _ _ (by omega), upd_n _ _ (by omega), upd_n _ _ (by omega), upd_n _ _ (by omega), if_neg (by omega), upd_s]
  have hk := hk_le f
  have e23 : nkF (heF f x y z u) = hkF f := by
    unfold nkF
    rw [a23, nI_clamp (by omega)]
  refine ⟨fun r r4 hr => ?_, fun r r4 hr => ?_⟩
  · rw [e4] at hr
    rw [he_lo (by omega)]
    exact h.1 r r4 hr
  · rw [e23] at hr
    by_cases e : r = 0
    · subst e
      unfold heF
      refine ⟨?_, ?_, ?_, ?_⟩
      · rw [upd_n _ _ (by omega), upd_n _ _ (by omega), upd_n _ _ (by omega), upd_s]
        exact hx
      · rw [upd_n _ _ (by omega), upd_n _ _ (by omega), upd_s]
        exact hy
      · rw [upd_n _ _ (by omega), upd_s]
        exact hz
      · rw [upd_s]
        exact hu
    · have hr2 : r - 1 < nkF f := by
        unfold hkF at hr
        unfold nkF
        split at hr <;> omega
      have ee : ∀ j, j < 4 → heF f x y z u (24 + 4 * r + j) = f (24 + 4 * (r - 1) + j) := fun j hj => by
        unfold heF shL
        rw [upd_n _ _ (by omega), upd_n _ _ (by omega), upd_n _ _ (by omega), upd_n _ _ (by omega), if_pos (by omega), show 24 + 4 * r + j - 4 = 24 + 4 * (r - 1) + j by omega, upd_n _ _ (by omega), upd_n _ _ (by omega)]
      have k9 := h.2 (r - 1) (by omega) hr2
      have e0 := ee 0 (by omega)
      have e1 := ee 1 (by omega)
      have e2 := ee 2 (by omega)
      have e3 := ee 3 (by omega)
      rw [show 24 + 4 * r + 0 = 24 + 4 * r by omega, show 24 + 4 * (r - 1) + 0 = 24 + 4 * (r - 1) by omega] at e0
      rw [show 24 + 4 * r + 1 = 25 + 4 * r by omega, show 24 + 4 * (r - 1) + 1 = 25 + 4 * (r - 1) by omega] at e1
      rw [show 24 + 4 * r + 2 = 26 + 4 * r by omega, show 24 + 4 * (r - 1) + 2 = 26 + 4 * (r - 1) by omega] at e2
      rw [show 24 + 4 * r + 3 = 27 + 4 * r by omega, show 24 + 4 * (r - 1) + 3 = 27 + 4 * (r - 1) by omega] at e3
      rw [e0, e1, e2, e3]
      exact k9
theorem WL.pS {B : Bs} {i : Nat} {f : Nat → Int32} (h : WL B) (hf : WLs f) : WL (setS B i f) := by
  intro j hj
  rw [nS_setS] at hj
  by_cases e : j = i
  · subst e
    rw [bS_setS_s]
    exact hf
  · rw [bS_setS_n _ _ e]
    exact h j hj
theorem WL.sW {B : Bs} {v k : Nat} {x : Int32} (h : WL B) : WL (setW B v k x) := h
theorem WL.sG {B : Bs} {k : Nat} {x : Int32} (h : WL B) (hk : k ≠ 6) : WL (setG B k x) := by
  intro j hj
  rw [nS_setG _ _ hk] at hj
  exact h j hj
theorem GDn.sW {n : Nat} {B : Bs} {v k : Nat} {x : Int32} (h : GDn n B) (hk : 2 ≤ k) : GDn n (setW B v k x) := ⟨h.1.setW2 hk, h.2.1.sW, h.2.2⟩
theorem GDn.pS {n i : Nat} {B : Bs} {f : Nat → Int32} (h : GDn n B) (hi : i < n) (hf : WS n f) (hc : f 1 ≤ bG B 1) (hl : WLs f) : GDn n (setS B i f) := ⟨h.1.pS (by rw [h.2.2]; exact hi) (by rw [h.2.2]; exact hf) hc, h.2.1.pS hl, h.2.2⟩
theorem GDn.s {n i : Nat} {B : Bs} (h : GDn n B) (hi : i < n) : WS n (bS B i) := by
  have := h.1.s (i := i) (by rw [h.2.2]; exact hi)
  rwa [h.2.2] at this
theorem GDn.c {n i : Nat} {B : Bs} (h : GDn n B) (hi : i < n) : bS B i 1 ≤ bG B 1 := h.1.c (by rw [h.2.2]; exact hi)
theorem GDn.l {n i : Nat} {B : Bs} (h : GDn n B) (hi : i < n) : WLs (bS B i) := h.2.1 i (by rw [h.2.2]; exact hi)
theorem GDn.wd {n i : Nat} {B : Bs} (h : GDn n B) (hi : i < n) (h0 : 0 < nwF (bS B i)) : ∃ v x y, v < 256 ∧ x < 6 ∧ y < 100 ∧ bS B i 5 = nI v ∧ bS B i 6 = nI x ∧ bS B i 7 = nI y := (h.l hi).wd (r := 0) (h.s hi) (by omega) h0
theorem GDn.gu {n i : Nat} {B : Bs} (h : GDn n B) (hi : i < n) : GDn n (guB B i) := by
  refine ⟨h.1.gu (by rw [h.2.2]; exact hi), ?_, Fr_gu.n.trans h.2.2⟩
  unfold guB
  split
  · exact (h.2.1.pS ((h.l hi).gl (h.s hi).w.2)).sW
  · rename_i h9
    refine h.2.1.pS ((h.l hi).up7 fun h0 => ?_)
    obtain ⟨s, s1, s2⟩ := h.1.2.1 4 (by omega)
    obtain ⟨v, x, y, -, -, hy, -, -, e7⟩ := h.wd hi h0
    rw [s2, e7, nI_add, nI_leI (by omega) (by omega)] at h9
    exact ⟨y + 1, by omega, by rw [e7, nI_add]⟩
theorem GDn.bgs {n k : Nat} {B : Bs} (h : GDn n B) (hk : k < n) : GDn n (bgS k B) := by
  refine ⟨h.1.kbg (by rw [h.2.2]; exact hk), ?_, Fr_bgS.n.trans h.2.2⟩
  unfold bgS
  by_cases hb : bgP B k
  · rw [cif_y hb]
    exact h.2.1.pS (((h.l hk).free (by omega)).free (by omega))
  · rw [cif_n hb]
    exact h.2.1
theorem GDn.it {n : Nat} {B : Bs} {f : Nat → Bs → Bs} (h : GDn n B) (hs : ∀ i C, i < n → GDn n C → GDn n (f i C)) : ∀ k, k ≤ n → GDn n (itr f k B)
  | 0, _ => h
  | k + 1, hk => hs k _ (by omega) (GDn.it h hs k (by omega))
theorem GDn.bgk {n k : Nat} {B : Bs} (h : GDn n B) (hk : k ≤ n) : GDn n (itr bgS k B) := h.it (fun _ _ hi hC => hC.bgs hi) k hk
theorem GDn.bg {n : Nat} {B : Bs} (h : GDn n B) : GDn n (bgB B) := by
  unfold bgB
  rw [h.2.2]
  exact h.bgk (Nat.le_refl _)
/-- the beats' number -/
def WT (m : Nat) (B : Bs) : Prop := ∃ t, t ≤ m ∧ bG B 5 = nI t
theorem WT.eq {m : Nat} {B C : Bs} (h : WT m B) (e : bG C 5 = bG B 5) : WT m C := by
  unfold WT
  rw [e]
  exact h
theorem GDn.g6 {n : Nat} {B : Bs} (h : GDn n B) : bG B 6 = nI n := by rw [h.1.hn, h.2.2]
theorem nz_le {a : Nat} (ha : a < 2 ^ 31) (h : nI a ≤ 0) : a = 0 := by
  rcases Nat.eq_zero_or_pos a with e | e
  · exact e
  · exact absurd h (nI_nle e ha)
theorem nz_nle {a : Nat} (h : ¬ nI a ≤ 0) : 0 < a := by
  rcases Nat.eq_zero_or_pos a with e | e
  · subst e
    exact absurd (by decide) h
  · exact e
theorem m1_neg : ¬ (0 : Int32) ≤ -1 := by decide
theorem m1_lt : (-1 : Int32) < 0 := by decide
theorem GDn.sp {n i : Nat} {B : Bs} (h : GDn n B) (hi : i < n) (hs : spB B i) : 0 < nwF (bS B i) ∧ ∃ k, k ≤ 10 ∧ bS B i 17 = nI k ∧ spV (bS B i 17) = nI k := by
  obtain ⟨h0, k, hk, e⟩ := (h.s hi).sp hs
  exact ⟨h0, k, hk, e, by rw [spV_n hs, e]⟩
theorem spV_no {B : Bs} {i : Nat} (hs : ¬ spB B i) : spV (bS B i 17) = -1 := spV_s (Classical.not_not.mp hs)
theorem lx_m6 {k : Nat} (h : k < 2 ^ 31) : nI k ≠ -6 := fun e => by
  have h0 := nI_pos h
  rw [e] at h0
  exact h0 (by decide)
