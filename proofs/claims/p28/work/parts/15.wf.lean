/-! What always holds of a bus -/
theorem itr_ind {α : Type} {f : Nat → α → α} {P : Nat → α → Prop} : ∀ {n : Nat} {a : α}, P 0 a → (∀ i x, i < n → P i x → P (i + 1) (f i x)) → P n (itr f n a)
  | 0, _, h0, _ => h0
  | n + 1, _, h0, hs => hs n _ (by omega) (itr_ind h0 fun i x hi hx => hs i x (by omega) hx)
def WSw (f : Nat → Int32) : Prop := ∃ w, w ≤ 4 ∧ f 4 = nI w ∧ (∀ r, r < w → (∃ x, x < 256 ∧ f (5 + 3 * r) = nI x) ∧ ∃ y, y < 6 ∧ f (6 + 3 * r) = nI y) ∧ (f 17 = -6 ∨ ∃ k, k ≤ 10 ∧ f 17 = nI k ∧ 0 < w)
def WSz (f : Nat → Int32) : Prop := (f 2 = nI 0 ∨ f 2 = nI 1) ∧ (f 3 = nI 0 ∨ f 3 = nI 1)
def WSk (f : Nat → Int32) : Prop := ∃ k, k ≤ 4 ∧ f 23 = nI k ∧ ∀ j, 24 + 4 * k ≤ j → j < 40 → f j = nI 0
def WSe (n : Nat) (f : Nat → Int32) : Prop := ∀ i, i < 32 → bt (f 18) i = true → i < n
def WS (n : Nat) (f : Nat → Int32) : Prop := WSw f ∧ WSz f ∧ WSk f ∧ WSe n f
def WF (B : Bs) : Prop := (bG B 6 = nI (nS B) ∧ nS B ≤ 8) ∧ (∀ k, k < 5 → ∃ s, s < 100 ∧ bG B k = nI s) ∧ (∀ w, w < 6 → (∃ h, h ≤ 999 ∧ bW B w 0 = nI h) ∧ (bW B w 1 = nI 0 ∨ bW B w 1 = nI 1)) ∧
  (∀ i, i < nS B → WS (nS B) (bS B i) ∧ bS B i 1 ≤ bG B 1) ∧ (∀ i, nS B ≤ i → i < 8 → ∀ k, k < 40 → bS B i k = nI 0)
theorem WF.n8 {B : Bs} (h : WF B) : nS B ≤ 8 := h.1.2
theorem WF.hn {B : Bs} (h : WF B) : bG B 6 = nI (nS B) := h.1.1
theorem WF.s {B : Bs} (h : WF B) {i : Nat} (hi : i < nS B) : WS (nS B) (bS B i) := (h.2.2.2.1 i hi).1
theorem WF.c {B : Bs} (h : WF B) {i : Nat} (hi : i < nS B) : bS B i 1 ≤ bG B 1 := (h.2.2.2.1 i hi).2
theorem WF.dead {B : Bs} (h : WF B) {i : Nat} (h1 : nS B ≤ i) (h2 : i < 8) {k : Nat} (hk : k < 40) : bS B i k = nI 0 := h.2.2.2.2 i h1 h2 k hk
theorem WSw.cong {f g : Nat → Int32} (h : WSw f) (e : ∀ k, (k = 4 ∨ k = 17 ∨ ∃ r, r < 4 ∧ (k = 5 + 3 * r ∨ k = 6 + 3 * r)) → g k = f k) : WSw g := by
  obtain ⟨w, h1, h2, h3, h4⟩ := h
  refine ⟨w, h1, by rw [e 4 (Or.inl rfl)]; exact h2, fun r hr => ?_, by rw [e 17 (Or.inr (Or.inl rfl))]; exact h4⟩
  rw [e (5 + 3 * r) (Or.inr (Or.inr ⟨r, by omega, Or.inl rfl⟩)), e (6 + 3 * r) (Or.inr (Or.inr ⟨r, by omega, Or.inr rfl⟩))]
  exact h3 r hr
theorem WSz.cong {f g : Nat → Int32} (h : WSz f) (e2 : g 2 = f 2) (e3 : g 3 = f 3) : WSz g := by unfold WSz; rw [e2, e3]; exact h
theorem WSk.cong {f g : Nat → Int32} (h : WSk f) (e : ∀ k, 23 ≤ k → g k = f k) : WSk g := by
  obtain ⟨k, h1, h2, h3⟩ := h
  exact ⟨k, h1, by rw [e 23 (by omega)]; exact h2, fun j h4 h5 => by rw [e j (by omega)]; exact h3 j h4 h5⟩
theorem WSe.cong {n : Nat} {f g : Nat → Int32} (h : WSe n f) (e : g 18 = f 18) : WSe n g := by unfold WSe; rw [e]; exact h
theorem WSe.z {n : Nat} {g : Nat → Int32} (e : g 18 = nI 0) : WSe n g := by
  intro i _ h
  rw [e, show bt (nI 0) i = false from b_0 i] at h
  cases h
/-- one number that nothing is said of -/
theorem WS.free {n : Nat} {f : Nat → Int32} {k : Nat} {x : Int32} (h : WS n f) (hk : k < 2 ∨ k = 7 ∨ (18 < k ∧ k < 23)) : WS n (upd f k x) := by
  refine ⟨h.1.cong fun j hj => upd_n _ _ ?_, h.2.1.cong (upd_n _ _ (by omega)) (upd_n _ _ (by omega)), h.2.2.1.cong fun j hj => upd_n _ _ (by omega), h.2.2.2.cong (upd_n _ _ (by omega))⟩
  rcases hj with rfl | rfl | ⟨r, _, rfl | rfl⟩ <;> omega
theorem WS.z {n : Nat} {f : Nat → Int32} {k : Nat} {x : Int32} (h : WS n f) (hk : k = 2 ∨ k = 3) (hx : x = nI 0 ∨ x = nI 1) : WS n (upd f k x) := by
  refine ⟨h.1.cong fun j hj => upd_n _ _ ?_, ?_, h.2.2.1.cong fun j hj => upd_n _ _ (by omega), h.2.2.2.cong (upd_n _ _ (by omega))⟩
  · rcases hj with rfl | rfl | ⟨r, _, rfl | rfl⟩ <;> omega
  · rcases hk with rfl | rfl
    · exact ⟨by rw [upd_s]; exact hx, by rw [upd_n _ _ (by omega)]; exact h.2.1.2⟩
    · exact ⟨by rw [upd_n _ _ (by omega)]; exact h.2.1.1, by rw [upd_s]; exact hx⟩
theorem WS.e {n : Nat} {f : Nat → Int32} {x : Int32} (h : WS n f) (hx : ∀ i, i < 32 → bt x i = true → i < n) : WS n (upd f 18 x) := by
  refine ⟨h.1.cong fun j hj => upd_n _ _ ?_, h.2.1.cong (upd_n _ _ (by omega)) (upd_n _ _ (by omega)), h.2.2.1.cong fun j hj => upd_n _ _ (by omega), ?_⟩
  · rcases hj with rfl | rfl | ⟨r, _, rfl | rfl⟩ <;> omega
  · unfold WSe
    rw [upd_s]
    exact hx
theorem WS.sil {n : Nat} {f : Nat → Int32} (h : WS n f) : WS n (upd f 17 (-6)) := by
  obtain ⟨⟨w, h1, h2, h3, -⟩, h5, h6, h7⟩ := h
  refine ⟨⟨w, h1, by rw [upd_n _ _ (by omega)]; exact h2, fun r hr => ?_, Or.inl (upd_s _ _ _)⟩, h5.cong (upd_n _ _ (by omega)) (upd_n _ _ (by omega)), h6.cong fun j hj => upd_n _ _ (by omega), h7.cong (upd_n _ _ (by omega))⟩
  rw [upd_n _ _ (by omega), upd_n _ _ (by omega)]
  exact h3 r hr
theorem WS.spk {n : Nat} {f : Nat → Int32} {k : Nat} (h : WS n f) (hk : k ≤ 10) (h0 : 0 < nwF f) : WS n (upd f 17 (nI k)) := by
  obtain ⟨⟨w, h1, h2, h3, -⟩, h5, h6, h7⟩ := h
  rw [nw_of h2 h1] at h0
  refine ⟨⟨w, h1, by rw [upd_n _ _ (by omega)]; exact h2, fun r hr => ?_, Or.inr ⟨k, hk, upd_s _ _ _, h0⟩⟩, h5.cong (upd_n _ _ (by omega)) (upd_n _ _ (by omega)), h6.cong fun j hj => upd_n _ _ (by omega), h7.cong (upd_n _ _ (by omega))⟩
  rw [upd_n _ _ (by omega), upd_n _ _ (by omega)]
  exact h3 r hr
theorem WS.qt {n : Nat} {f : Nat → Int32} (h : WS n f) : WS n (qtF f) := h.sil.e fun i _ hb => by rw [show bt (nI 0) i = false from b_0 i] at hb; cases hb
theorem WS.w {n : Nat} {f : Nat → Int32} (h : WS n f) : f 4 = nI (nwF f) ∧ nwF f ≤ 4 := by
  obtain ⟨w, h1, h2, -⟩ := h.1
  rw [nw_of h2 h1]
  exact ⟨h2, h1⟩
theorem WS.word {n : Nat} {f : Nat → Int32} (h : WS n f) {r : Nat} (hr : r < nwF f) : (∃ x, x < 256 ∧ f (5 + 3 * r) = nI x) ∧ ∃ y, y < 6 ∧ f (6 + 3 * r) = nI y := by
  obtain ⟨w, h1, h2, h3, -⟩ := h.1
  rw [nw_of h2 h1] at hr
  exact h3 r hr
theorem WS.sp {n : Nat} {f : Nat → Int32} (h : WS n f) (hs : f 17 ≠ -6) : 0 < nwF f ∧ ∃ k, k ≤ 10 ∧ f 17 = nI k := by
  obtain ⟨w, h1, h2, h3, h4⟩ := h.1
  rw [nw_of h2 h1]
  rcases h4 with h4 | ⟨k, k1, k2, k3⟩
  · exact absurd h4 hs
  · exact ⟨k3, k, k1, k2⟩
theorem WS.lv {n : Nat} {f : Nat → Int32} (h : WS n f) : WS n (lvF f) := by
  have h4 := h.w
  have e4 : lvF f 4 = nI (nwF f - 1) := by
    unfold lvF
    rw [if_neg (by omega), upd_s]
  have e17 : lvF f 17 = -6 := by
    unfold lvF qtF
    rw [if_neg (by omega), upd_n _ _ (by omega), upd_n _ _ (by omega), upd_s]
  have e18 : lvF f 18 = nI 0 := by
    unfold lvF qtF
    rw [if_neg (by omega), upd_n _ _ (by omega), upd_s]
  refine ⟨⟨nwF f - 1, by omega, e4, fun r hr => ?_, Or.inl e17⟩, h.2.1.cong (lv_hi (by omega) h4.2) (lv_hi (by omega) h4.2), h.2.2.1.cong fun j hj => lv_hi (by omega) h4.2, WSe.z e18⟩
  have e5 : lvF f (5 + 3 * r) = f (5 + 3 * (r + 1)) := by
    unfold lvF
    rw [if_pos (by omega), show 5 + 3 * r + 3 = 5 + 3 * (r + 1) by omega]
  have e6 : lvF f (6 + 3 * r) = f (6 + 3 * (r + 1)) := by
    unfold lvF
    rw [if_pos (by omega), show 6 + 3 * r + 3 = 6 + 3 * (r + 1) by omega]
  rw [e5, e6]
  exact h.word (by omega)
theorem WS.gu {n : Nat} {f : Nat → Int32} (h : WS n f) : WS n (guF f) := ((h.free (by omega)).free (by omega)).qt
theorem WS.gl {n : Nat} {f : Nat → Int32} (h : WS n f) : WS n (glF f) := (h.gu.free (by omega)).lv
theorem hk_le (f : Nat → Int32) : hkF f ≤ 4 ∧ 1 ≤ hkF f := by
  unfold hkF
  split <;> omega
theorem WS.he {n : Nat} {f : Nat → Int32} {x y z u : Int32} (h : WS n f) : WS n (heF f x y z u) := by
  refine ⟨h.1.cong fun k hk => he_lo ?_, h.2.1.cong (he_lo (by omega)) (he_lo (by omega)), ?_, h.2.2.2.cong (he_lo (by omega))⟩
  · rcases hk with rfl | rfl | ⟨r, _, rfl | rfl⟩ <;> omega
  · obtain ⟨k, h1, h2, h3⟩ := h.2.2.1
    have hk := hk_le f
    refine ⟨hkF f, hk.1, ?_, fun j h4 h5 => ?_⟩
    · unfold heF shL
      rw [upd_n _ _ (by omega), upd_n _ _ (by omega), upd_n _ _ (by omega), upd_n _ _ (by omega), if_neg (by omega), upd_s]
    · unfold heF shL
      rw [upd_n _ _ (by omega), upd_n _ _ (by omega), upd_n _ _ (by omega), upd_n _ _ (by omega), if_neg (by omega), upd_n _ _ (by omega), upd_n _ _ (by omega)]
      refine h3 j ?_ h5
      have e : hkF f = if k < 4 then k + 1 else 4 := by
        unfold hkF
        rw [h2, nI_clamp (by omega)]
      rw [e] at h4
      split at h4 <;> omega
/-- changes that keep it -/
theorem nS_setS (B : Bs) (i : Nat) (f : Nat → Int32) : nS (setS B i f) = nS B := rfl
theorem nS_setW (B : Bs) (w k : Nat) (x : Int32) : nS (setW B w k x) = nS B := rfl
theorem nS_setG (B : Bs) {k : Nat} (x : Int32) (h : k ≠ 6) : nS (setG B k x) = nS B := by
  unfold nS
  rw [bG_setG, upd_n _ _ (Ne.symm h)]
theorem WF.pS {B : Bs} {i : Nat} {f : Nat → Int32} (h : WF B) (hi : i < nS B) (hf : WS (nS B) f) (hc : f 1 ≤ bG B 1) : WF (setS B i f) := by
  refine ⟨h.1, h.2.1, h.2.2.1, fun j hj => ?_, fun j hj h8 k hk => ?_⟩
  · rw [nS_setS] at hj
    by_cases e : j = i
    · subst e
      rw [bS_setS_s]
      exact ⟨hf, hc⟩
    · rw [bS_setS_n _ _ e]
      exact h.2.2.2.1 j hj
  · rw [nS_setS] at hj
    rw [bS_setS_n _ _ (by omega)]
    exact h.dead hj h8 hk
theorem WF.setW2 {B : Bs} {w k : Nat} {x : Int32} (h : WF B) (hk : 2 ≤ k) : WF (setW B w k x) := by
  refine ⟨h.1, h.2.1, fun v hv => ?_, h.2.2.2.1, h.2.2.2.2⟩
  rw [((Fr_setW (B := B) (x := x) hk).2.1 v).1, ((Fr_setW (B := B) (x := x) hk).2.1 v).2]
  exact h.2.2.1 v hv
theorem WF.setW0 {B : Bs} {w e : Nat} (h : WF B) (he : e ≤ 999) : WF (setW B w 0 (nI e)) := by
  refine ⟨h.1, h.2.1, fun v hv => ?_, h.2.2.2.1, h.2.2.2.2⟩
  by_cases hvw : v = w
  · subst hvw
    rw [bW_setW_s, upd_s, upd_n _ _ (by omega)]
    exact ⟨⟨e, he, rfl⟩, (h.2.2.1 v hv).2⟩
  · rw [bW_setW_n _ _ _ hvw]
    exact h.2.2.1 v hv
theorem WF.setW1 {B : Bs} {w : Nat} {x : Int32} (h : WF B) (hx : x = nI 0 ∨ x = nI 1) : WF (setW B w 1 x) := by
  refine ⟨h.1, h.2.1, fun v hv => ?_, h.2.2.2.1, h.2.2.2.2⟩
  by_cases hvw : v = w
  · subst hvw
    rw [bW_setW_s, upd_s, upd_n _ _ (by omega)]
    exact ⟨(h.2.2.1 v hv).1, hx⟩
  · rw [bW_setW_n _ _ _ hvw]
    exact h.2.2.1 v hv
theorem WF.setG5 {B : Bs} {x : Int32} (h : WF B) : WF (setG B 5 x) := by
  have e : ∀ k, k ≠ 5 → bG (setG B 5 x) k = bG B k := fun k hk => by rw [bG_setG, upd_n _ _ hk]
  refine ⟨⟨by rw [e 6 (by omega), nS_setG _ _ (by omega)]; exact h.1.1, by rw [nS_setG _ _ (by omega)]; exact h.1.2⟩, fun k hk => by rw [e k (by omega)]; exact h.2.1 k hk, h.2.2.1, fun i hi => ?_, fun i hi => ?_⟩
  · rw [nS_setG _ _ (by omega)] at hi ⊢
    rw [e 1 (by omega)]
    exact h.2.2.2.1 i hi
  · rw [nS_setG _ _ (by omega)] at hi
    exact h.2.2.2.2 i hi
theorem WF.pG {B : Bs} {k s : Nat} (h : WF B) (hk : k < 5) (hs : s < 100) (hc : k = 1 → ∀ i, i < nS B → bS B i 1 ≤ nI s) : WF (setG B k (nI s)) := by
  refine ⟨⟨by rw [bG_setG, upd_n _ _ (by omega), nS_setG _ _ (by omega)]; exact h.1.1, by rw [nS_setG _ _ (by omega)]; exact h.1.2⟩, fun j hj => ?_, h.2.2.1, fun i hi => ?_, fun i hi => ?_⟩
  · rw [bG_setG]
    by_cases e : j = k
    · subst e
      rw [upd_s]
      exact ⟨s, hs, rfl⟩
    · rw [upd_n _ _ e]
      exact h.2.1 j hj
  · rw [nS_setG _ _ (by omega)] at hi ⊢
    refine ⟨(h.2.2.2.1 i hi).1, ?_⟩
    rw [bG_setG]
    by_cases e : k = 1
    · subst e
      rw [upd_s]
      exact hc rfl i hi
    · rw [upd_n _ _ (Ne.symm e)]
      exact (h.2.2.2.1 i hi).2
  · rw [nS_setG _ _ (by omega)] at hi
    exact h.2.2.2.2 i hi
theorem lv_1 (f : Nat → Int32) : lvF f 1 = f 1 := by
  unfold lvF qtF
  rw [if_neg (by omega), upd_n _ _ (by omega), upd_n _ _ (by omega), upd_n _ _ (by omega)]
theorem gu_1 (f : Nat → Int32) : guF f 1 = f 1 := by
  unfold guF qtF
  rw [upd_n _ _ (by omega), upd_n _ _ (by omega), upd_n _ _ (by omega), upd_n _ _ (by omega)]
theorem gl_1 (f : Nat → Int32) : glF f 1 = f 1 := by
  unfold glF
  rw [lv_1, upd_n _ _ (by omega), gu_1]
theorem WF.lv {B : Bs} {i : Nat} (h : WF B) (hi : i < nS B) : WF (lvB B i) := h.pS hi (h.s hi).lv (by rw [lv_1]; exact h.c hi)
theorem WF.ty {B : Bs} {w k : Nat} (h : WF B) (hk : 2 ≤ k) : WF (tyB B w k) := h.setW2 hk
theorem WF.gu {B : Bs} {i : Nat} (h : WF B) (hi : i < nS B) : WF (guB B i) := by
  unfold guB
  split
  · exact (h.pS hi (h.s hi).gl (by rw [gl_1]; exact h.c hi)).ty (by omega)
  · exact h.pS hi (h.s hi).gu (by rw [gu_1]; exact h.c hi)
theorem WF.kbg {B : Bs} {i : Nat} (h : WF B) (hi : i < nS B) : WF (bgS i B) := by
  unfold bgS
  by_cases hb : bgP B i
  · rw [cif_y hb]
    have h8 := h.n8
    refine h.pS hi (((h.s hi).spk (k := 0) (by omega) hb.2.2.1).e (msk_sub (by omega))) ?_
    rw [upd_n _ _ (by omega), upd_n _ _ (by omega)]
    exact h.c hi
  · rw [cif_n hb]
    exact h
theorem nS_itr {f : Nat → Bs → Bs} (h : ∀ i B, nS (f i B) = nS B) : ∀ n B, nS (itr f n B) = nS B
  | 0, _ => rfl
  | n + 1, B => (h n _).trans (nS_itr h n B)
theorem WF.bg {B : Bs} (h : WF B) : WF (bgB B) := (itr_ind (P := fun _ x => WF x ∧ nS x = nS B) ⟨h, rfl⟩ fun i x hi hx => ⟨hx.1.kbg (by omega), Fr_bgS.n.trans hx.2⟩ : WF (bgB B) ∧ nS (bgB B) = nS B).1
theorem WF.khe {B0 B : Bs} {i o : Nat} (h : WF B) (ho : o < nS B) : WF (heS B0 i o B) := by
  unfold heS
  by_cases hb : o ≠ i ∧ bi (bS B0 i 18) (nI o) = nI 1
  · rw [cif_y hb]
    exact h.pS ho (h.s ho).he (by rw [he_lo (by omega)]; exact h.c ho)
  · rw [cif_n hb]
    exact h
theorem WF.hr {B : Bs} {i : Nat} (h : WF B) : WF (hrB B i) := (itr_ind (P := fun _ x => WF x ∧ nS x = nS B) ⟨h, rfl⟩ fun _ x hi hx => ⟨hx.1.khe (by omega), Fr_heS.n.trans hx.2⟩ : WF (hrB B i) ∧ nS (hrB B i) = nS B).1
theorem WF.hd {B : Bs} {i : Nat} (h : WF B) (hi : i < nS B) : WF (hdB B i) := by
  have e : nS (hrB B i) = nS B := Fr_hr.n
  have h2 : WF (setS (hrB B i) i (upd (bS B i) 19 (bS B i 19 + nI 1))) := by
    refine h.hr.pS (by rw [e]; exact hi) ?_ ?_
    · rw [e]
      exact (h.s hi).free (by omega)
    · rw [upd_n _ _ (by omega), show bG (hrB B i) = bG B from Fr_hr.1]
      exact h.c hi
  exact (h2.ty (by omega)).lv (by show i < nS (hrB B i); rw [e]; exact hi)
theorem WF.nx {B : Bs} {i : Nat} (h : WF B) (hi : i < nS B) (hs : spB B i) (h10 : bS B i 17 ≠ nI 10) : WF (setS B i (upd (bS B i) 17 (bS B i 17 + nI 1))) := by
  obtain ⟨h0, k, k1, k2⟩ := (h.s hi).sp hs
  refine h.pS hi ?_ (by rw [upd_n _ _ (by omega)]; exact h.c hi)
  rw [k2, nI_add]
  refine (h.s hi).spk ?_ h0
  rcases Nat.lt_or_ge k 10 with q | q
  · omega
  · exact absurd (by rw [k2, show k = 10 by omega]) h10
theorem WF.go {L A : Nat → Prop} {n i : Nat} {P : Bs × Nat} (h : WF P.1) (hi : i < nS P.1) : WF (goP L A n i P).1 := by
  unfold goP
  by_cases h1 : spB P.1 i
  · rw [cif_y h1]
    by_cases h2 : gvP L A n P.1 i
    · rw [cif_y h2]
      exact h.gu hi
    · rw [cif_n h2]
      by_cases h3 : bS P.1 i 17 = nI 10
      · rw [cif_y h3]
        exact h.hd hi
      · rw [cif_n h3]
        exact h.nx hi h1 h3
  · rw [cif_n h1]
    exact h
theorem WF.goN {L A : Nat → Prop} {n k : Nat} {P : Bs × Nat} (h : WF P.1) (hk : k ≤ nS P.1) : WF (itr (goP L A n) k P).1 := (itr_ind (P := fun _ (x : Bs × Nat) => WF x.1 ∧ nS x.1 = nS P.1) ⟨h, rfl⟩ fun i x hi hx => ⟨hx.1.go (by omega), Fr_go.n.trans hx.2⟩ : WF (itr (goP L A n) k P).1 ∧ nS (itr (goP L A n) k P).1 = nS P.1).1
theorem clV_le {v F : Int32} (h : nI 0 ≤ F) : clV v F ≤ F := by
  unfold clV
  split
  · exact Int32.le_refl F
  · split
    · exact h
    · rename_i h2 _
      exact Int32.not_lt.mp h2
theorem WF.full {B : Bs} (h : WF B) : nI 0 ≤ bG B 1 := by
  obtain ⟨s, h1, h2⟩ := h.2.1 1 (by omega)
  rw [h2]
  exact nI_le (by omega) (by omega)
theorem WF.k1 {L : Nat → Prop} {B : Bs} {i : Nat} (h : WF B) (hi : i < nS B) : WF (ch1 L B i) := h.pS hi ((h.s hi).free (by omega)) (by rw [upd_s]; exact clV_le h.full)
theorem WF.k2 {B : Bs} {i : Nat} (h : WF B) (hi : i < nS B) : WF (ch2 B i) := by
  have h2 : WF (setS B i (upd (bS B i) 2 (nI 1))) := h.pS hi ((h.s hi).z (Or.inl rfl) (Or.inr rfl)) (by rw [upd_n _ _ (by omega)]; exact h.c hi)
  unfold ch2
  by_cases hb : spB B i
  · rw [cif_y hb]
    exact h2.gu hi
  · rw [cif_n hb]
    exact h2
theorem WF.k3 {B : Bs} {i : Nat} (h : WF B) (hi : i < nS B) : WF (ch3 B i) := by
  unfold ch3
  by_cases hb : wkP B i
  · rw [cif_y hb]
    exact h.pS hi ((h.s hi).z (Or.inl rfl) (Or.inl rfl)) (by rw [upd_n _ _ (by omega)]; exact h.c hi)
  · rw [cif_n hb]
    exact h
theorem n_ch1 (L : Nat → Prop) (B : Bs) (i : Nat) : nS (ch1 L B i) = nS B := rfl
theorem n_ch2 (B : Bs) (i : Nat) : nS (ch2 B i) = nS B := by
  unfold ch2
  by_cases hb : spB B i
  · rw [cif_y hb, Fr_gu.n]
    rfl
  · rw [cif_n hb]
    rfl
theorem n_ch3 (B : Bs) (i : Nat) : nS (ch3 B i) = nS B := by
  unfold ch3
  by_cases hb : wkP B i
  · rw [cif_y hb]
    rfl
  · rw [cif_n hb]
theorem n_chS (L : Nat → Prop) (i : Nat) (B : Bs) : nS (chS L i B) = nS B := by
  unfold chS
  rw [n_ch3]
  split
  · rw [n_ch2, n_ch1]
  · rw [n_ch1]
theorem WF.kch {L : Nat → Prop} {B : Bs} {i : Nat} (h : WF B) (hi : i < nS B) : WF (chS L i B) := by
  unfold chS
  split
  · exact ((h.k1 hi).k2 hi).k3 (by rw [n_ch2]; exact hi)
  · exact (h.k1 hi).k3 hi
theorem n_rsS (L : Nat → Prop) (w : Nat) (B : Bs) : nS (rsS L w B) = nS B := rfl
theorem WF.krs {L : Nat → Prop} {B : Bs} {w : Nat} (h : WF B) (hw : w < 6) : WF (rsS L w B) := by
  unfold rsS
  obtain ⟨e, he, e2⟩ := (h.2.2.1 w hw).1
  by_cases hl : L w
  · rw [cif_y hl]
    exact h.setW0 (by omega)
  · rw [cif_n hl, e2]
    split
    · rw [nI_add]
      rename_i h9
      rw [nI_ltI (by omega) (by omega)] at h9
      exact h.setW0 (by omega)
    · exact h.setW0 (by omega)
theorem n_go (B : Bs) : nS (goB B).1 = nS B := Fr_goN.n.trans Fr_bg.n
theorem n_ch (B : Bs) : nS (chB B) = nS B := (nS_itr (fun i x => n_chS _ i x) _ _).trans (n_go B)
theorem n_rs (B : Bs) : nS (rsB B) = nS B := (nS_itr (fun i x => n_rsS _ i x) _ _).trans (n_ch B)
theorem n_bt (B : Bs) : nS (btO B) = nS B := (nS_setG _ _ (by omega)).trans (n_rs B)
theorem WF.kgo {B : Bs} (h : WF B) : WF (goB B).1 := WF.goN (P := (bgB B, 0)) h.bg (by show nS B ≤ nS (bgB B); rw [Fr_bg.n]; exact Nat.le_refl _)
theorem WF.kchB {B : Bs} (h : WF B) : WF (chB B) := (itr_ind (P := fun _ x => WF x ∧ nS x = nS B) ⟨h.kgo, n_go B⟩ fun i x hi hx => ⟨hx.1.kch (by omega), (n_chS _ i x).trans hx.2⟩ : _ ∧ nS (itr (chS (lowB (bgB B))) (nS B) (goB B).1) = nS B).1
theorem WF.krsB {B : Bs} (h : WF B) : WF (rsB B) := itr_ind (P := fun _ x => WF x) h.kchB fun i x hi hx => hx.krs hi
theorem WF.bt {B : Bs} (h : WF B) : WF (btO B) := h.krsB.setG5

