/-! What words that are heard leave as it is; bounds behind a station's step -/
theorem hr_lo {B : Bs} {i : Nat} {C : Bs} : ∀ m s q, q < 21 → bS (itr (heS B i) m C) s q = bS C s q
  | 0, _, _, _ => rfl
  | m + 1, s, q, hq => by
    show bS (heS B i m (itr (heS B i) m C)) s q = _
    unfold heS
    by_cases h : m ≠ i ∧ bi (bS B i 18) (nI m) = nI 1
    · rw [cif_y h]
      by_cases e : s = m
      · subst e
        rw [bS_setS_s, he_lo hq]
        exact hr_lo s s q hq
      · rw [bS_setS_n _ _ e]
        exact hr_lo m s q hq
    · rw [cif_n h]
      exact hr_lo m s q hq
theorem gu_at {B : Bs} {i s : Nat} (h : s ≠ i) : bS (guB B i) s = bS B s := by
  unfold guB
  split
  · show bS (setS B i (glF (bS B i))) s = _
    exact bS_setS_n _ _ h
  · exact bS_setS_n _ _ h
theorem hd_lo {B : Bs} {i s q : Nat} (h : s ≠ i) (hq : q < 21) : bS (hdB B i) s q = bS B s q := by
  unfold hdB lvB
  rw [bS_setS_n _ _ h]
  show bS (setS (hrB B i) i _) s q = _
  rw [bS_setS_n _ _ h]
  exact hr_lo _ s q hq
theorem go_lo {L A : Nat → Prop} {n : Nat} {P : Bs × Nat} : ∀ k s, k ≤ s → ∀ q, q < 21 → bS (itr (goP L A n) k P).1 s q = bS P.1 s q
  | 0, _, _, _, _ => rfl
  | k + 1, s, hs, q, hq => by
    show bS (goP L A n k (itr (goP L A n) k P)).1 s q = _
    have ih := go_lo (L := L) (A := A) (n := n) (P := P) k s (by omega) q hq
    generalize itr (goP L A n) k P = R at ih
    rw [← ih]
    unfold goP
    by_cases h1 : spB R.1 k
    · rw [cif_y h1]
      by_cases h2 : gvP L A n R.1 k
      · rw [cif_y h2]
        show bS (guB R.1 k) s q = _
        rw [gu_at (by omega)]
      · rw [cif_n h2]
        by_cases h3 : bS R.1 k 17 = nI 10
        · rw [cif_y h3]
          exact hd_lo (by omega) hq
        · rw [cif_n h3]
          show bS (setS R.1 k _) s q = _
          rw [bS_setS_n _ _ (by omega)]
    · rw [cif_n h1]
theorem GDn.he {n i o m : Nat} {B D : Bs} (h : GDn n D) (ho : o < n) (hB : GDn n B) (hi : i < n) (h0 : 0 < nwF (bS B i)) (ht : WT m B) (hm : m < 131072) : GDn n (heS B i o D) := by
  unfold heS
  by_cases hb : o ≠ i ∧ bi (bS B i 18) (nI o) = nI 1
  · rw [cif_y hb]
    obtain ⟨v, x, y, hv, hx, hy, e5, e6, e7⟩ := hB.wd hi h0
    obtain ⟨t, ht1, ht2⟩ := ht
    have h8 := h.n8
    exact h.pS ho (h.s ho).he (by rw [he_lo (by omega)]; exact h.c ho) ((h.l ho).he ⟨v, hv, e5⟩ ⟨i, by omega, rfl⟩ ⟨x, by omega, e6⟩ ⟨t, by omega, ht2⟩)
  · rw [cif_n hb]
    exact h
theorem GDn.hrk {n i m k : Nat} {B : Bs} (h : GDn n B) (hi : i < n) (h0 : 0 < nwF (bS B i)) (ht : WT m B) (hm : m < 131072) (hk : k ≤ n) : GDn n (itr (heS B i) k B) := h.it (fun _ _ ho hD => hD.he ho h hi h0 ht hm) k hk
theorem GDn.hd {n i m : Nat} {B : Bs} (h : GDn n B) (hi : i < n) (h0 : 0 < nwF (bS B i)) (ht : WT m B) (hm : m < 131072) : GDn n (hdB B i) := by
  refine ⟨h.1.hd (by rw [h.2.2]; exact hi), ?_, Fr_hd.n.trans h.2.2⟩
  have h1 : GDn n (hrB B i) := by
    unfold hrB
    rw [h.2.2]
    exact h.hrk hi h0 ht hm (Nat.le_refl n)
  have h2 : WL (tyB (setS (hrB B i) i (upd (bS B i) 19 (bS B i 19 + nI 1))) (fwB B i) 2) := (h1.2.1.pS ((h.l hi).free (by omega))).sW
  unfold hdB lvB
  refine h2.pS (WLs.lv ?_ ?_)
  · show WLs (bS (setS (hrB B i) i (upd (bS B i) 19 (bS B i 19 + nI 1))) i)
    rw [bS_setS_s]
    exact (h.l hi).free (by omega)
  · show nwF (bS (setS (hrB B i) i (upd (bS B i) 19 (bS B i 19 + nI 1))) i) ≤ 4
    rw [bS_setS_s, nwF_n (by omega)]
    exact (h.s hi).w.2
theorem GDn.nx {n i : Nat} {B : Bs} (h : GDn n B) (hi : i < n) (hs : spB B i) (h10 : bS B i 17 ≠ nI 10) : GDn n (setS B i (upd (bS B i) 17 (bS B i 17 + nI 1))) := ⟨h.1.nx (by rw [h.2.2]; exact hi) hs h10, h.2.1.pS ((h.l hi).free (by omega)), h.2.2⟩
theorem GDn.go {L A : Nat → Prop} {n i m : Nat} {P : Bs × Nat} (h : GDn n P.1) (hi : i < n) (ht : WT m P.1) (hm : m < 131072) : GDn n (goP L A n i P).1 := by
  unfold goP
  by_cases h1 : spB P.1 i
  · rw [cif_y h1]
    by_cases h2 : gvP L A n P.1 i
    · rw [cif_y h2]
      exact h.gu hi
    · rw [cif_n h2]
      by_cases h3 : bS P.1 i 17 = nI 10
      · rw [cif_y h3]
        exact h.hd hi (h.sp hi h1).1 ht hm
      · rw [cif_n h3]
        exact h.nx hi h1 h3
  · rw [cif_n h1]
    exact h
theorem GDn.gok {L A : Nat → Prop} {n m : Nat} {B : Bs} (h : GDn n B) (ht : WT m B) (hm : m < 131072) : ∀ k, k ≤ n → GDn n (itr (goP L A n) k (B, 0)).1
  | 0, _ => h
  | k + 1, hk => (GDn.gok h ht hm k (by omega)).go (by omega) (ht.eq (by rw [show bG (itr (goP L A n) k (B, 0)).1 = bG B from Fr_goN.1])) hm
theorem LU.hear {κ : Prop} {μ0 μ ν : Mm} {p m kn : Nat} {D : Bs} {x y z u : Int32} (h : LU κ μ0 p D μ) (hm : m < 8) (hk : bS D m 23 = nI kn) (hk4 : kn ≤ 4) (e0 : ∀ a, a ≠ p + 1 → a ≠ p + 3 → ν a = μ a) (b1 : ν (p + 1) (8 + m) = bS D m 21 + nI 1) (b3 : ν (p + 1) (24 + m) = nI (hkF (bS D m)))
    (bo : ∀ j, j ≠ 8 + m → j ≠ 24 + m → ν (p + 1) j = μ (p + 1) j) (k0 : ν (p + 3) m = x + nI 256 * y + nI 2048 * z + nI 16384 * u) (k1 : ∀ r, r < 3 → ν (p + 3) (8 * (r + 1) + m) = μ (p + 3) (8 * r + m)) (ko : ∀ j, j < 8 → j ≠ m → ∀ r, ν (p + 3) (8 * r + j) = μ (p + 3) (8 * r + j)) : LU κ μ0 p (setS D m (heF (bS D m) x y z u)) ν := by
  have a23 : heF (bS D m) x y z u 23 = nI (hkF (bS D m)) := by
    unfold heF shL
    rw [upd_n _ _ (by omega), upd_n _ _ (by omega), upd_n _ _ (by omega), upd_n _ _ (by omega), if_neg (by omega), upd_s]
  have hkl := hk_le (bS D m)
  have e23 : nkF (heF (bS D m) x y z u) = hkF (bS D m) := by
    unfold nkF
    rw [a23, nI_clamp (by omega)]
  have ekn : nkF (bS D m) = kn := by
    unfold nkF
    rw [hk, nI_clamp (by omega)]
  have ehk : hkF (bS D m) = if kn < 4 then kn + 1 else 4 := by
    unfold hkF
    rw [hk, nI_clamp (by omega)]
  refine LU.st h hm (fun a a1 => e0 a (by omega) (by omega)) (fun c hc => ?_) (fun j hj hji c => by rw [e0 _ (by omega) (by omega)]) (fun c hc => ?_) (fun j hj hji c => bo _ (by omega) (by omega)) (fun r r4 hr => ?_) (fun j hj hji r => by rw [e0 _ (by omega) (by omega)]) (fun kk r r4 hr => ?_) (fun j hj hji r => ko j hj hji r) (e0 _ (by omega) (by omega)) (e0 _ (by omega) (by omega))
  · rw [e0 _ (by omega) (by omega), h.aa hm hc]
    unfold aV
    have : ∀ c, c < 8 → aF c < 21 := by decide
    rw [he_lo (this c hc), he_lo (by omega)]
  · rcases (by omega : c = 0 ∨ c = 1 ∨ c = 2 ∨ c = 3) with e | e | e | e
    · subst e
      rw [bo _ (by omega) (by omega), h.rb 0 20 rfl rfl hm (by omega)]
      exact (he_lo (by omega)).symm
    · subst e
      refine b1.trans ?_
      show _ = heF (bS D m) x y z u 21
      unfold heF shL
      rw [upd_n _ _ (by omega), upd_n _ _ (by omega), upd_n _ _ (by omega), upd_n _ _ (by omega), if_neg (by omega), upd_n _ _ (by omega), upd_s]
    · subst e
      rw [bo _ (by omega) (by omega), h.rb 2 22 rfl rfl hm (by omega)]
      show _ = heF (bS D m) x y z u 22
      unfold heF shL
      rw [upd_n _ _ (by omega), upd_n _ _ (by omega), upd_n _ _ (by omega), upd_n _ _ (by omega), if_neg (by omega), upd_n _ _ (by omega), upd_n _ _ (by omega)]
    · subst e
      exact b3.trans a23.symm
  · have e4 : nwF (heF (bS D m) x y z u) = nwF (bS D m) := by
      unfold nwF
      rw [he_lo (by omega)]
    rw [e4] at hr
    rw [e0 _ (by omega) (by omega), h.qq hm r4 hr]
    unfold qV
    rw [he_lo (by omega), he_lo (by omega), he_lo (by omega)]
  · rw [e23, ehk] at hr
    by_cases e : r = 0
    · subst e
      rw [show 8 * 0 + m = m by omega, k0]
      unfold kV heF
      rw [show 24 + 4 * 0 = 24 by omega, show 25 + 4 * 0 = 25 by omega, show 26 + 4 * 0 = 26 by omega, show 27 + 4 * 0 = 27 by omega]
      rw [upd_n _ _ (show 24 ≠ 27 by omega), upd_n _ _ (show 24 ≠ 26 by omega), upd_n _ _ (show 24 ≠ 25 by omega), upd_s, upd_n _ _ (show 25 ≠ 27 by omega), upd_n _ _ (show 25 ≠ 26 by omega), upd_s, upd_n _ _ (show 26 ≠ 27 by omega), upd_s, upd_s]
    · obtain ⟨r', rfl⟩ : ∃ r', r = r' + 1 := ⟨r - 1, by omega⟩
      have hr3 : r' < kn := by
        split at hr <;> omega
      rw [k1 r' (by omega), h.kk kk hm (by omega) (by omega)]
      have ee : ∀ j, 24 + 4 * r' ≤ j → j < 28 + 4 * r' → heF (bS D m) x y z u (j + 4) = bS D m j := fun j j1 j2 => by
        have hh : hkF (bS D m) = hkF (bS D m) := rfl
        unfold heF shL
        rw [ehk, upd_n _ _ (by omega), upd_n _ _ (by omega), upd_n _ _ (by omega), upd_n _ _ (by omega), if_pos (by split <;> omega), show j + 4 - 4 = j by omega, upd_n _ _ (by omega), upd_n _ _ (by omega)]
      unfold kV
      rw [show 24 + 4 * (r' + 1) = 24 + 4 * r' + 4 by omega, show 25 + 4 * (r' + 1) = 25 + 4 * r' + 4 by omega, show 26 + 4 * (r' + 1) = 26 + 4 * r' + 4 by omega, show 27 + 4 * (r' + 1) = 27 + 4 * r' + 4 by omega, ee _ (by omega) (by omega), ee _ (by omega) (by omega), ee _ (by omega) (by omega), ee _ (by omega) (by omega)]
