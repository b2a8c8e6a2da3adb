/-! The law's changes on its own rows (pure) -/
theorem up_B {A : Aw} {r : Int32} {B' : Bs} (h : r < 0 → B' = aB A) : aB (upA A r B') = B' := by
  unfold upA
  split
  · rename_i h9
    exact (h h9).symm
  · rfl
theorem up_S {A : Aw} {r : Int32} {B' : Bs} : aS (upA A r B') = aS A := by
  unfold upA
  split <;> rfl
section LOP
variable {κ : Prop} {μ0 μ ν : Mm} {p n : Nat} {B : Bs}
theorem cmF_z {x c : Int32} {k : Nat} (h0 : k ≠ 0) (h1 : k ≠ 1) (h17 : k ≠ 17) : cmF x c k = nI 0 := by
  unfold cmF
  rw [upd_n _ _ h17, upd_n _ _ h1, upd_n _ _ h0]
theorem cmF_nw (x c : Int32) : nwF (cmF x c) = 0 := nw_of (cmF_z (by omega) (by omega) (by omega)) (by omega)
theorem cmF_nk (x c : Int32) : nkF (cmF x c) = 0 := by
  unfold nkF
  rw [cmF_z (by omega) (by omega) (by omega)]
  rfl
theorem LU.cm (h : LU κ μ0 p B μ) (gd : GDn n B) (hn : n < 8) (x : Int32) : LU κ μ0 p (cmB B x) (wr (wr (wr (wr μ p n x) p (8 + n) (bG B 1)) p (40 + n) (-1)) (p + 5) 6 (nI (n + 1))) := by
  have hd : ∀ k, k < 40 → bS B n k = nI 0 := fun k hk => gd.wf.dead (by rw [gd.hn]; exact Nat.le_refl n) hn hk
  have e : cmB B x = setG (setS B n (cmF x (bG B 1))) 6 (nI (n + 1)) := by
    unfold cmB
    rw [gd.hn]
  rw [e]
  refine LU.wT (LU.st h hn (fun a a1 => ?_) (fun c hc => ?_) (fun j hj hji c => ?_) (fun c hc => ?_) (fun j hj hji c => ?_) (fun r h4 hr => ?_) (fun j hj hji r => ?_) (fun kk r h4 hr => ?_) (fun j hj hji r => ?_) ?_ ?_) 6 (by omega)
  · rw [wr_n _ _ _ (by omega), wr_n _ _ _ (by omega), wr_n _ _ _ (by omega)]
  · rcases (by omega : c = 0 ∨ c = 1 ∨ c = 5 ∨ (c ≠ 0 ∧ c ≠ 1 ∧ c ≠ 5)) with g | g | g | g
    · subst g
      rw [wr_at (by omega), wr_at (by omega), show 8 * 0 + n = n by omega, wr_it]
      rfl
    · subst g
      simp (disch := omega) only [wr_it, wr_at]
      rfl
    · subst g
      simp (disch := omega) only [wr_it, wr_at]
      rfl
    · rw [wr_at (by omega), wr_at (by omega), wr_at (by omega), h.aa hn hc]
      unfold aV
      have q9 : ∀ c, c < 8 → (c = 0 ∨ c = 1 ∨ c = 5) ∨ (aF c ≠ 0 ∧ aF c ≠ 1 ∧ aF c ≠ 17 ∧ aF c < 40) := by decide
      obtain ⟨q1, q2, q3, q4⟩ := (q9 c hc).resolve_left (by omega)
      rw [if_neg g.2.2, if_neg g.2.2, hd _ q4, cmF_z q1 q2 q3]
  · rw [wr_at (by omega), wr_at (by omega), wr_at (by omega)]
  · rw [lx_o (by omega), lx_o (by omega), lx_o (by omega), h.2.2.1 n hn c hc, hd _ (by omega), cmF_z (by omega) (by omega) (by omega)]
  · rw [lx_o (by omega), lx_o (by omega), lx_o (by omega)]
  · rw [cmF_nw] at hr
    exact absurd hr (Nat.not_lt_zero r)
  · rw [lx_o (by omega), lx_o (by omega), lx_o (by omega)]
  · rw [cmF_nk] at hr
    exact absurd hr (Nat.not_lt_zero r)
  · rw [lx_o (by omega), lx_o (by omega), lx_o (by omega)]
  · rw [wr_n _ _ _ (by omega), wr_n _ _ _ (by omega), wr_n _ _ _ (by omega)]
  · rw [wr_n _ _ _ (by omega), wr_n _ _ _ (by omega), wr_n _ _ _ (by omega)]
theorem GDn.cm {x : Int32} (gd : GDn n B) (hn : n < 8) : GDn (n + 1) (cmB B x) := by
  have en : nS (cmB B x) = n + 1 := by rw [nS_cm (by rw [gd.hn]; exact hn), gd.hn]
  refine ⟨gd.wf.cm (by rw [gd.hn]; exact hn), fun i hi => ?_, en⟩
  rw [en] at hi
  show WLs (bS (setS B (nS B) (cmF x (bG B 1))) i)
  by_cases e : i = nS B
  · rw [e, bS_setS_s]
    exact ⟨fun r _ hr => absurd hr (by rw [cmF_nw]; exact Nat.not_lt_zero r), fun r _ hr => absurd hr (by rw [cmF_nk]; exact Nat.not_lt_zero r)⟩
  · rw [bS_setS_n _ _ e]
    exact gd.wl i (by rw [gd.hn] at e ⊢; omega)
theorem gt_n {f : Nat → Int32} {w k : Nat} {x y : Int32} (h : k ≠ 4 ∧ k ≠ 5 + 3 * w ∧ k ≠ 6 + 3 * w ∧ k ≠ 7 + 3 * w) : gtF f w x y k = f k := by
  unfold gtF
  rw [upd_n _ _ h.1, upd_n _ _ h.2.2.2, upd_n _ _ h.2.2.1, upd_n _ _ h.2.1]
theorem LU.gt {i w v x : Nat} (h : LU κ μ0 p B μ) (hi : i < 8) (hw : nwF (bS B i) = w) (h4 : w < 4) : LU κ μ0 p (setS B i (gtF (bS B i) w (nI v) (nI x))) (wr (wr μ (p + 2) (8 * w + i) (nI (v + 256 * x))) p (32 + i) (nI (w + 1))) := by
  have e4 : gtF (bS B i) w (nI v) (nI x) 4 = nI (w + 1) := upd_s _ _ _
  have en : nwF (gtF (bS B i) w (nI v) (nI x)) = w + 1 := nw_of e4 (by omega)
  refine LU.st h hi (fun a a1 => ?_) (fun c hc => ?_) (fun j hj hji c => ?_) (fun c hc => ?_) (fun j hj hji c => ?_) (fun r r4 hr => ?_) (fun j hj hji r => ?_) (fun kk r r4 hr => ?_) (fun j hj hji r => ?_) ?_ ?_
  · rw [wr_n _ _ _ (by omega), wr_n _ _ _ (by omega)]
  · by_cases g : c = 4
    · subst g
      simp (disch := omega) only [wr_it, wr_at]
      exact e4.symm
    · rw [wr_at (by omega), lx_o (by omega), h.aa hi hc]
      unfold aV
      have : ∀ c, c < 8 → c ≠ 4 → aF c < 4 ∨ 16 < aF c := by decide
      have q := this c hc g
      rw [gt_n (by omega), gt_n (by omega)]
  · rw [wr_at (by omega), lx_o (by omega)]
  · rw [lx_o (by omega), lx_o (by omega), h.2.2.1 i hi c hc, gt_n (by omega)]
  · rw [lx_o (by omega), lx_o (by omega)]
  · rw [en] at hr
    rw [lx_o (by omega)]
    by_cases g : r = w
    · subst g
      rw [wr_it]
      unfold qV gtF
      rw [upd_n _ _ (by omega), upd_n _ _ (by omega), upd_n _ _ (by omega), upd_s, upd_n _ _ (by omega), upd_n _ _ (by omega), upd_s, upd_n _ _ (by omega), upd_s, pk_mul, pk_mul, nI_add, nI_add]
      exact congrArg nI (by omega)
    · rw [wr_at (by omega), h.qq hi r4 (by omega)]
      unfold qV
      rw [gt_n (by omega), gt_n (by omega), gt_n (by omega)]
  · rw [lx_o (by omega), wr_at (by omega)]
  · have ek : nkF (gtF (bS B i) w (nI v) (nI x)) = nkF (bS B i) := by
      unfold nkF
      rw [gt_n (by omega)]
    rw [ek] at hr
    rw [lx_o (by omega), lx_o (by omega), h.kk kk hi r4 hr]
    unfold kV
    rw [gt_n (by omega), gt_n (by omega), gt_n (by omega), gt_n (by omega)]
  · rw [lx_o (by omega), lx_o (by omega)]
  · rw [wr_n _ _ _ (by omega), wr_n _ _ _ (by omega)]
  · rw [wr_n _ _ _ (by omega), wr_n _ _ _ (by omega)]
theorem GDn.gt {i v x : Nat} (gd : GDn n B) (hi : i < n) (h4 : nwF (bS B i) < 4) (hv : v < 256) (hx : x < 6) : GDn n (setS B i (gtF (bS B i) (nwF (bS B i)) (nI v) (nI x))) := by
  refine ⟨gd.wf.gt (by rw [gd.hn]; exact hi) (by omega) hv hx, gd.wl.pS ?_, gd.hn⟩
  have e4 : gtF (bS B i) (nwF (bS B i)) (nI v) (nI x) 4 = nI (nwF (bS B i) + 1) := upd_s _ _ _
  have en := nw_of e4 (by omega)
  refine ⟨fun r r4 hr => ?_, fun r r4 hr => ?_⟩
  · rw [en] at hr
    by_cases g : r = nwF (bS B i)
    · refine ⟨0, by omega, ?_⟩
      rw [g]
      unfold gtF
      rw [upd_n _ _ (by omega), upd_s]
    · rw [gt_n (by omega)]
      exact (gd.l hi).1 r r4 (by omega)
  · have ek : nkF (gtF (bS B i) (nwF (bS B i)) (nI v) (nI x)) = nkF (bS B i) := by
      unfold nkF
      rw [gt_n (by omega)]
    rw [ek] at hr
    rw [gt_n (by omega), gt_n (by omega), gt_n (by omega), gt_n (by omega)]
    exact (gd.l hi).2 r r4 hr
theorem GDn.lv {i : Nat} (gd : GDn n B) (hi : i < n) : GDn n (lvB B i) := ⟨gd.wf.lv (by rw [gd.hn]; exact hi), gd.wl.pS ((gd.l hi).lv (gd.s hi).w.2), gd.hn⟩
theorem GDn.sk {v : Nat} (gd : GDn n B) (hv : v < 6) : GDn n (setW B v 1 (nI 1 - bW B v 1)) := ⟨gd.wf.setW1 (z_flip (gd.wf.2.2.1 v hv).2), gd.wl.sW, gd.hn⟩
theorem GDn.d1 {i : Nat} (gd : GDn n B) (hi : i < n) : GDn n (dz1 B i) := gd.pS hi ((gd.s hi).z (Or.inr rfl) (z_flip (gd.s hi).2.1.2)) (by rw [upd_n _ _ (by omega)]; exact gd.c hi) ((gd.l hi).free (by omega))
theorem GDn.cls {i : Nat} (gd : GDn n B) (hi : i < n) (h1 : WF (clS i B)) : GDn n (clS i B) := ⟨h1, gd.wl.pS ((gd.l hi).free (by omega)), gd.hn⟩
theorem WL.clk : ∀ k, k ≤ nS B → WL B → WL (itr clS k B) ∧ nS (itr clS k B) = nS B
  | 0, _, h => ⟨h, rfl⟩
  | k + 1, hk, h => by
    obtain ⟨h1, h2⟩ := WL.clk k (by omega) h
    exact ⟨h1.pS ((h1 k (by rw [h2]; omega)).free (by omega)), h2⟩
theorem GDn.se {k : Nat} {v : Int32} (gd : GDn n B) (h : seP (nI k) v) (hk : k < 5) : GDn n (seB B k v) := by
  have hn : nS (setG B k v) = nS B := nS_setG _ _ (by omega)
  obtain ⟨h1, h2⟩ := WL.clk (B := setG B k v) (nS B) (by rw [hn]; exact Nat.le_refl _) (gd.wl.sG (by omega))
  exact ⟨gd.wf.se h hk, h1, h2.trans (hn.trans gd.hn)⟩
end LOP
theorem seP_ok {k v : Nat} (hk : k < 5) (h : (k = 0 ∧ 1 ≤ v ∧ v ≤ 20) ∨ (k = 1 ∧ 2 ≤ v ∧ v ≤ 99) ∨ (k = 4 ∧ 1 ≤ v ∧ v ≤ 9) ∨ ((k = 2 ∨ k = 3) ∧ v ≤ 9)) : seP (nI k) (nI v) := by
  refine ⟨k, hk, rfl, ?_⟩
  rcases h with ⟨e, h1, h2⟩ | ⟨e, h1, h2⟩ | ⟨e, h1, h2⟩ | ⟨e | e, h2⟩
  · subst e
    exact ⟨nI_le (b := v) (a := 1) h1 (by omega), nI_le (a := v) (b := 20) h2 (by omega)⟩
  · subst e
    exact ⟨nI_le (b := v) (a := 2) h1 (by omega), nI_le (a := v) (b := 99) h2 (by omega)⟩
  · subst e
    exact ⟨nI_le (b := v) (a := 1) h1 (by omega), nI_le (a := v) (b := 9) h2 (by omega)⟩
  · subst e
    exact ⟨nI_le (b := v) (a := 0) (Nat.zero_le v) (by omega), nI_le (a := v) (b := 9) h2 (by omega)⟩
  · subst e
    exact ⟨nI_le (b := v) (a := 0) (Nat.zero_le v) (by omega), nI_le (a := v) (b := 9) h2 (by omega)⟩
/-- what the class answers to the law's changes -/
theorem cm_v {B : Bs} {n j : Nat} (hn : nS B = n) (h8 : n < 8) (h1 : 1 ≤ j) (h2 : j ≤ 63) : cmR B (nI j) = nI n ∧ cmN B (nI j) = cmB B (nI j) := by
  have hp : cmP (nI j) := ⟨j, h1, h2, rfl⟩
  unfold cmR cmN
  rw [cif_y hp, if_neg (by omega), hn, cif_y ⟨hp, by omega⟩]
  exact ⟨rfl, rfl⟩
theorem wd_v {B : Bs} {n i x v : Nat} (hn : nS B = n) (h8 : n ≤ 8) (hi : i < n) (hx : x < 6) (hv : v < 256) : wdR B (nI i) (nI x) (nI v) = cif (atB B i (nI x)) (if nwF (bS B i) = 4 then -4 else nI (nwF (bS B i) + 1)) (-5) ∧ wdN B (nI i) (nI x) (nI v) = cif (atB B i (nI x) ∧ nwF (bS B i) ≠ 4) (setS B i (gtF (bS B i) (nwF (bS B i)) (nI v) (nI x))) B := by
  have h1 : inN (nS B) (nI i) := inN_ok (by omega)
  have h2 : inN 6 (nI x) := inN_ok hx
  have h3 : inN 256 (nI v) := inN_ok hv
  have e : ixN (nI i) = i := ixN_nI (by omega)
  unfold wdR wdN
  rw [cif_y ⟨h1, h2⟩, cif_y h3, e]
  refine ⟨rfl, ?_⟩
  by_cases g : atB B i (nI x) ∧ nwF (bS B i) ≠ 4
  · rw [cif_y g, cif_y ⟨⟨h1, h2⟩, h3, g.1, g.2⟩]
  · rw [cif_n g, cif_n (fun h => g ⟨h.2.2.1, h.2.2.2⟩)]
theorem fg_v {B : Bs} {n i : Nat} (hn : nS B = n) (h8 : n ≤ 8) (hi : i < n) : fgR B (nI i) = (if nwF (bS B i) = 0 then -5 else bS B i 5) ∧ fgN B (nI i) = cif (nwF (bS B i) ≠ 0) (lvB B i) B := by
  have h1 : inN (nS B) (nI i) := inN_ok (by omega)
  have e : ixN (nI i) = i := ixN_nI (by omega)
  unfold fgR fgN
  rw [cif_y h1, e]
  refine ⟨rfl, ?_⟩
  by_cases g : nwF (bS B i) ≠ 0
  · rw [cif_y g, cif_y ⟨h1, g⟩]
  · rw [cif_n g, cif_n (fun h => g h.2)]
theorem sk_v {B : Bs} {x : Nat} (hx : x < 6) : skR B (nI x) = nI 1 - bW B x 1 ∧ skN B (nI x) = setW B x 1 (nI 1 - bW B x 1) := by
  have h1 : inN 6 (nI x) := inN_ok hx
  have e : ixN (nI x) = x := ixN_nI (by omega)
  unfold skR skN
  rw [cif_y h1, cif_y h1, e]
  exact ⟨rfl, rfl⟩
theorem dz_v {B : Bs} {n i : Nat} (hn : nS B = n) (h8 : n ≤ 8) (hi : i < n) : dzR B (nI i) = nI 1 - bS B i 3 ∧ dzN B (nI i) = dzB B i := by
  have h1 : inN (nS B) (nI i) := inN_ok (by omega)
  have e : ixN (nI i) = i := ixN_nI (by omega)
  unfold dzR dzN
  rw [cif_y h1, cif_y h1, e]
  exact ⟨rfl, rfl⟩
theorem se_v {B : Bs} {k v : Nat} (hk : k < 5) (h : seP (nI k) (nI v)) : seR B (nI k) (nI v) = bG B k ∧ seN B (nI k) (nI v) = seB B k (nI v) := by
  have e : ixN (nI k) = k := ixN_nI (by omega)
  unfold seR seN
  rw [cif_y h, cif_y h, e]
  exact ⟨rfl, rfl⟩
theorem ps_v {B : Bs} {b t : Nat} (h1 : 1 ≤ b) (h2 : b ≤ 60) (ht : bG B 5 = nI t) (h3 : t ≤ 3600) : psR B (nI b) = nI (btI b B).2 ∧ psN B (nI b) = bk B b := by
  have hp : psP (nI b) := ⟨b, h1, by omega, rfl⟩
  have h4 : ¬ nI 99999 < bG B 5 + nI b := by
    rw [ht, nI_add]
    exact nI_nlt (by omega) (by omega)
  have e : ixN (nI b) = b := ixN_nI (by omega)
  unfold psR psN
  rw [cif_y hp, if_neg h4, cif_y ⟨hp, h4⟩, e]
  exact ⟨rfl, rfl⟩
