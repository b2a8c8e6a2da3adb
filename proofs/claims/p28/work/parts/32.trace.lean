/-! What one beat does to a station's counts; a bus without words -/
theorem add1_ne (x : Int32) : x + nI 1 ≠ x := by
  intro e
  have h := congrArg Int32.toBitVec e
  rw [Int32.toBitVec_add] at h
  have h2 : (nI 1).toBitVec = 0#32 := by
    have h3 : x.toBitVec + (nI 1).toBitVec - x.toBitVec = x.toBitVec - x.toBitVec := by rw [h]
    rw [BitVec.sub_self, BitVec.add_comm, BitVec.add_sub_cancel] at h3
    exact h3
  exact absurd h2 (by decide)
/-- heard, lost, words: as they were, one heard, or one lost -/
def T0 (f g : Nat → Int32) : Prop := g 19 = f 19 ∧ g 20 = f 20 ∧ nwF g = nwF f
def T1 (f g : Nat → Int32) : Prop := g 19 = f 19 + nI 1 ∧ g 20 = f 20 ∧ nwF g + 1 = nwF f
def T2 (f g : Nat → Int32) : Prop := g 19 = f 19 ∧ g 20 = f 20 + nI 1 ∧ nwF g + 1 = nwF f
def TR (f g : Nat → Int32) : Prop := T0 f g ∨ ((T1 f g ∨ T2 f g) ∧ g 17 = -6)
theorem T0.rf (f : Nat → Int32) : T0 f f := ⟨rfl, rfl, rfl⟩
theorem T0.l {f g h : Nat → Int32} (a : T0 f g) (c : TR g h) : TR f h := by
  obtain ⟨a1, a2, a3⟩ := a
  unfold TR T0 T1 T2 at *
  rw [a1, a2, a3] at c
  exact c
theorem TR.r {f g h : Nat → Int32} (a : TR f g) (c : T0 g h) (c17 : g 17 = -6 → h 17 = -6) : TR f h := by
  obtain ⟨e1, e2, e3⟩ := c
  rcases a with a | ⟨a, b⟩
  · exact Or.inl ⟨e1.trans a.1, e2.trans a.2.1, e3.trans a.2.2⟩
  · refine Or.inr ⟨?_, c17 b⟩
    rcases a with a | a
    · exact Or.inl ⟨e1.trans a.1, e2.trans a.2.1, by rw [e3]; exact a.2.2⟩
    · exact Or.inr ⟨e1.trans a.1, e2.trans a.2.1, by rw [e3]; exact a.2.2⟩
theorem nw_upd {f : Nat → Int32} {k : Nat} {x : Int32} (h : k ≠ 4) : nwF (upd f k x) = nwF f := by
  unfold nwF
  rw [upd_n _ _ (Ne.symm h)]
theorem T0.upd {f : Nat → Int32} {k : Nat} {x : Int32} (h : k ≠ 4 ∧ k ≠ 19 ∧ k ≠ 20) : T0 f (upd f k x) := ⟨upd_n _ _ (by omega), upd_n _ _ (by omega), nw_upd h.1⟩
theorem nw_lv {f : Nat → Int32} (h4 : nwF f ≤ 4) : nwF (lvF f) = nwF f - 1 := by
  have e : lvF f 4 = nI (nwF f - 1) := by
    unfold lvF
    rw [if_neg (by omega), upd_s]
  exact nw_of e (by omega)
theorem lv_17 {f : Nat → Int32} (h4 : nwF f ≤ 4) : lvF f 17 = -6 := by
  unfold lvF qtF
  rw [if_neg (by omega), upd_n _ _ (by omega), upd_n _ _ (by omega), upd_s]
theorem TR.gu {B : Bs} {i : Nat} (wf : WF B) (hi : i < nS B) (hs : spB B i) : TR (bS B i) (bS (guB B i) i) := by
  have h8 := wf.n8
  have hw := (wf.w (i := i) (by omega)).2
  have h0 := ((wf.s hi).sp hs).1
  unfold guB
  split
  · refine Or.inr ⟨Or.inr ?_, ?_⟩
    · show T2 _ (bS (setS B i (glF (bS B i))) i)
      rw [bS_setS_s]
      unfold glF
      have e4 : nwF (upd (guF (bS B i)) 20 (bS B i 20 + nI 1)) = nwF (bS B i) := (nw_upd (by omega)).trans (gu_nw _)
      refine ⟨?_, ?_, ?_⟩
      · rw [lv_hi (by omega) (by rw [e4]; exact hw), upd_n _ _ (by omega), gu_o _ (by omega)]
      · rw [lv_hi (by omega) (by rw [e4]; exact hw), upd_s]
      · rw [nw_lv (by rw [e4]; exact hw), e4]
        omega
    · show bS (setS B i (glF (bS B i))) i 17 = -6
      rw [bS_setS_s]
      unfold glF
      exact lv_17 (by rw [nw_upd (by omega), gu_nw]; exact hw)
  · rw [bS_setS_s]
    exact Or.inl ⟨gu_o _ (by omega), gu_o _ (by omega), gu_nw _⟩
theorem gu_st {B : Bs} {i s : Nat} (h : s ≠ i) : bS (guB B i) s = bS B s := by
  unfold guB
  split
  · show bS (setS B i (glF (bS B i))) s = _
    exact bS_setS_n _ _ h
  · exact bS_setS_n _ _ h
theorem nw_he {f : Nat → Int32} {x y z u : Int32} : nwF (heF f x y z u) = nwF f := by
  unfold nwF
  rw [he_lo (by omega)]
theorem T0.he {f : Nat → Int32} {x y z u : Int32} : T0 f (heF f x y z u) := ⟨he_lo (by omega), he_lo (by omega), nw_he⟩
theorem hr_T0 {B : Bs} {i s : Nat} : ∀ n, T0 (bS B s) (bS (itr (heS B i) n B) s) ∧ bS (itr (heS B i) n B) s 17 = bS B s 17
  | 0 => ⟨T0.rf _, rfl⟩
  | n + 1 => by
    have ih := hr_T0 (B := B) (i := i) (s := s) n
    show T0 (bS B s) (bS (heS B i n (itr (heS B i) n B)) s) ∧ bS (heS B i n (itr (heS B i) n B)) s 17 = bS B s 17
    generalize itr (heS B i) n B = C at ih
    unfold heS
    by_cases h : n ≠ i ∧ bi (bS B i 18) (nI n) = nI 1
    · rw [cif_y h]
      by_cases e : s = n
      · subst e
        rw [bS_setS_s]
        have t := T0.he (f := bS C s) (x := bS B i 5) (y := nI i) (z := bS B i 6) (u := bG B 5)
        exact ⟨⟨t.1.trans ih.1.1, t.2.1.trans ih.1.2.1, t.2.2.trans ih.1.2.2⟩, (he_lo (by omega)).trans ih.2⟩
      · rw [bS_setS_n _ _ e]
        exact ih
    · rw [cif_n h]
      exact ih
theorem hd_st {B : Bs} {i s : Nat} (h : s ≠ i) : T0 (bS B s) (bS (hdB B i) s) ∧ bS (hdB B i) s 17 = bS B s 17 := by
  unfold hdB lvB tyB
  rw [bS_setS_n _ _ h, bS_setW, bS_setS_n _ _ h]
  exact hr_T0 _
theorem TR.hd {B : Bs} {i : Nat} (wf : WF B) (hi : i < nS B) (hs : spB B i) : TR (bS B i) (bS (hdB B i) i) := by
  have h8 := wf.n8
  have hw := (wf.w (i := i) (by omega)).2
  have h0 := ((wf.s hi).sp hs).1
  have e : bS (hdB B i) i = lvF (upd (bS B i) 19 (bS B i 19 + nI 1)) := by
    unfold hdB lvB tyB
    rw [bS_setS_s, bS_setW, bS_setS_s]
  have e4 : nwF (upd (bS B i) 19 (bS B i 19 + nI 1)) = nwF (bS B i) := nw_upd (by omega)
  rw [e]
  refine Or.inr ⟨Or.inl ⟨?_, ?_, ?_⟩, lv_17 (by rw [e4]; exact hw)⟩
  · rw [lv_hi (by omega) (by rw [e4]; exact hw), upd_s]
  · rw [lv_hi (by omega) (by rw [e4]; exact hw), upd_n _ _ (by omega)]
  · rw [nw_lv (by rw [e4]; exact hw), e4]
    omega
/-- the others in a step of going on -/
theorem go_st {L A : Nat → Prop} {n i s : Nat} {P : Bs × Nat} (h : s ≠ i) : T0 (bS P.1 s) (bS (goP L A n i P).1 s) ∧ bS (goP L A n i P).1 s 17 = bS P.1 s 17 := by
  unfold goP
  by_cases h1 : spB P.1 i
  · rw [cif_y h1]
    by_cases h2 : gvP L A n P.1 i
    · rw [cif_y h2]
      show T0 (bS P.1 s) (bS (guB P.1 i) s) ∧ bS (guB P.1 i) s 17 = _
      rw [gu_st h]
      exact ⟨T0.rf _, rfl⟩
    · rw [cif_n h2]
      by_cases h3 : bS P.1 i 17 = nI 10
      · rw [cif_y h3]
        exact hd_st h
      · rw [cif_n h3]
        show T0 (bS P.1 s) (bS (setS P.1 i _) s) ∧ bS (setS P.1 i _) s 17 = _
        rw [bS_setS_n _ _ h]
        exact ⟨T0.rf _, rfl⟩
  · rw [cif_n h1]
    exact ⟨T0.rf _, rfl⟩
theorem TR.go {L A : Nat → Prop} {n i : Nat} {P : Bs × Nat} (wf : WF P.1) (hi : i < nS P.1) : TR (bS P.1 i) (bS (goP L A n i P).1 i) := by
  unfold goP
  by_cases h1 : spB P.1 i
  · rw [cif_y h1]
    by_cases h2 : gvP L A n P.1 i
    · rw [cif_y h2]
      exact TR.gu wf hi h1
    · rw [cif_n h2]
      by_cases h3 : bS P.1 i 17 = nI 10
      · rw [cif_y h3]
        exact TR.hd wf hi h1
      · rw [cif_n h3]
        show TR _ (bS (setS P.1 i _) i)
        rw [bS_setS_s]
        exact Or.inl (T0.upd (by omega))
  · rw [cif_n h1]
    exact Or.inl (T0.rf _)
/-- going on, up to n: those ahead once, the others not yet -/
theorem go_TR {L A : Nat → Prop} {n s : Nat} {B : Bs} (wf : WF B) : ∀ k, k ≤ nS B → (s < k → TR (bS B s) (bS (itr (goP L A n) k (B, 0)).1 s)) ∧ (k ≤ s → T0 (bS B s) (bS (itr (goP L A n) k (B, 0)).1 s) ∧ bS (itr (goP L A n) k (B, 0)).1 s 17 = bS B s 17)
  | 0, _ => ⟨fun h => absurd h (by omega), fun _ => ⟨T0.rf _, rfl⟩⟩
  | k + 1, hk => by
    obtain ⟨i1, i2⟩ := go_TR (L := L) (A := A) (n := n) (s := s) wf k (by omega)
    have g := go_wf (L := L) (A := A) (n := n) (k := k) (P := (B, 0)) wf (show k ≤ nS B by omega)
    show (s < k + 1 → TR (bS B s) (bS (goP L A n k (itr (goP L A n) k (B, 0))).1 s)) ∧ (k + 1 ≤ s → T0 (bS B s) (bS (goP L A n k (itr (goP L A n) k (B, 0))).1 s) ∧ bS (goP L A n k (itr (goP L A n) k (B, 0))).1 s 17 = bS B s 17)
    have en : nS (itr (goP L A n) k (B, 0)).1 = nS B := g.2.n
    generalize itr (goP L A n) k (B, 0) = C at i1 i2 g en
    refine ⟨fun h => ?_, fun h => ?_⟩
    · by_cases e : s = k
      · subst e
        exact (i2 (Nat.le_refl _)).1.l (TR.go g.1 (by omega))
      · have c := go_st (L := L) (A := A) (n := n) (P := C) e
        exact (i1 (by omega)).r c.1 fun q => c.2.trans q
    · have c := go_st (L := L) (A := A) (n := n) (P := C) (show s ≠ k by omega)
      obtain ⟨a, b⟩ := i2 (by omega)
      exact ⟨⟨c.1.1.trans a.1, c.1.2.1.trans a.2.1, c.1.2.2.trans a.2.2⟩, c.2.trans b⟩
theorem ch_other {L : Nat → Prop} {B : Bs} {i s : Nat} (h : s ≠ i) : bS (chS L i B) s = bS B s := by
  have h3 : ∀ C, bS (ch3 C i) s = bS C s := fun C => by
    unfold ch3
    by_cases hb : wkP C i
    · rw [cif_y hb, bS_setS_n _ _ h]
    · rw [cif_n hb]
  have h2 : ∀ C, bS (ch2 C i) s = bS C s := fun C => by
    unfold ch2
    by_cases hb : spB C i
    · rw [cif_y hb, gu_st h, bS_setS_n _ _ h]
    · rw [cif_n hb, bS_setS_n _ _ h]
  unfold chS
  rw [h3]
  split
  · rw [h2]
    exact bS_setS_n _ _ h
  · exact bS_setS_n _ _ h
theorem ch3_T0 {B : Bs} {i : Nat} : T0 (bS B i) (bS (ch3 B i) i) ∧ bS (ch3 B i) i 17 = bS B i 17 := by
  unfold ch3
  by_cases hb : wkP B i
  · rw [cif_y hb, bS_setS_s]
    exact ⟨T0.upd (by omega), upd_n _ _ (by omega)⟩
  · rw [cif_n hb]
    exact ⟨T0.rf _, rfl⟩
theorem ch_quiet {L : Nat → Prop} {B : Bs} {i : Nat} (hs : ¬ spB B i) : T0 (bS B i) (bS (chS L i B) i) ∧ bS (chS L i B) i 17 = bS B i 17 := by
  have e1 : T0 (bS B i) (bS (ch1 L B i) i) ∧ bS (ch1 L B i) i 17 = bS B i 17 := by
    unfold ch1
    rw [bS_setS_s]
    exact ⟨T0.upd (by omega), upd_n _ _ (by omega)⟩
  have tr : ∀ {f g h : Nat → Int32}, T0 f g ∧ g 17 = f 17 → T0 g h ∧ h 17 = g 17 → T0 f h ∧ h 17 = f 17 := fun a c => ⟨⟨c.1.1.trans a.1.1, c.1.2.1.trans a.1.2.1, c.1.2.2.trans a.1.2.2⟩, c.2.trans a.2⟩
  unfold chS
  split
  · refine tr ?_ ch3_T0
    refine tr e1 ?_
    unfold ch2
    rw [cif_n (show ¬ spB (ch1 L B i) i from fun q => hs (fun e => q (e1.2.trans e))), bS_setS_s]
    exact ⟨T0.upd (by omega), upd_n _ _ (by omega)⟩
  · exact tr e1 ch3_T0
theorem TR.ch {L : Nat → Prop} {B : Bs} {i : Nat} (wf : WF B) (hi : i < nS B) : TR (bS B i) (bS (chS L i B) i) := by
  by_cases hs : spB B i
  · have e1 : T0 (bS B i) (bS (ch1 L B i) i) := by
      unfold ch1
      rw [bS_setS_s]
      exact T0.upd (by omega)
    unfold chS
    split
    · have wf1 := wf.k1 (L := L) hi
      have wf3 : WF (setS (ch1 L B i) i (upd (bS (ch1 L B i) i) 2 (nI 1))) := wf1.pS hi ((wf1.s hi).z (Or.inl rfl) (Or.inr rfl)) (by rw [upd_n _ _ (by omega)]; exact wf1.c hi)
      have c := ch3_T0 (B := ch2 (ch1 L B i) i) (i := i)
      refine TR.r ?_ c.1 (fun q => c.2.trans q)
      have h17 : bS (ch1 L B i) i 17 = bS B i 17 := by
        unfold ch1
        rw [bS_setS_s, upd_n _ _ (by omega)]
      have hs1 : spB (ch1 L B i) i := fun e => hs (h17.symm.trans e)
      have hs3 : spB (setS (ch1 L B i) i (upd (bS (ch1 L B i) i) 2 (nI 1))) i := fun e => hs1 (by rw [bS_setS_s, upd_n _ _ (by omega)] at e; exact e)
      have g := TR.gu wf3 hi hs3
      rw [bS_setS_s] at g
      unfold ch2
      rw [cif_y hs1]
      refine e1.l ?_
      exact (T0.upd (f := bS (ch1 L B i) i) (k := 2) (x := nI 1) (by omega)).l g
    · have c := ch3_T0 (B := ch1 L B i) (i := i)
      exact TR.r (Or.inl e1) c.1 (fun q => c.2.trans q)
  · exact Or.inl (ch_quiet hs).1
theorem ch_TR {L : Nat → Prop} {s : Nat} {B : Bs} (wf : WF B) : ∀ k, k ≤ nS B → (s < k → TR (bS B s) (bS (itr (chS L) k B) s) ∧ (¬ spB B s → T0 (bS B s) (bS (itr (chS L) k B) s) ∧ bS (itr (chS L) k B) s 17 = bS B s 17)) ∧ (k ≤ s → bS (itr (chS L) k B) s = bS B s)
  | 0, _ => ⟨fun h => absurd h (by omega), fun _ => rfl⟩
  | k + 1, hk => by
    obtain ⟨i1, i2⟩ := ch_TR (L := L) (s := s) wf k (by omega)
    have g := ch_wf (L := L) (k := k) wf (show k ≤ nS B by omega)
    show (s < k + 1 → TR (bS B s) (bS (chS L k (itr (chS L) k B)) s) ∧ (¬ spB B s → T0 (bS B s) (bS (chS L k (itr (chS L) k B)) s) ∧ bS (chS L k (itr (chS L) k B)) s 17 = bS B s 17)) ∧ (k + 1 ≤ s → bS (chS L k (itr (chS L) k B)) s = bS B s)
    have en : nS (itr (chS L) k B) = nS B := nS_G g.2
    generalize itr (chS L) k B = C at i1 i2 g en
    refine ⟨fun h => ?_, fun h => by rw [ch_other (by omega)]; exact i2 (by omega)⟩
    by_cases e : s = k
    · subst e
      have e2 := i2 (Nat.le_refl _)
      refine ⟨by rw [← e2]; exact TR.ch g.1 (by omega), fun hq => ?_⟩
      rw [← e2]
      exact ch_quiet (fun q => hq (fun e9 => q (by rw [e2]; exact e9)))
    · rw [ch_other e]
      exact i1 (by omega)
theorem rs_st {L : Nat → Prop} {B : Bs} : ∀ k, bS (itr (rsS L) k B) = bS B
  | 0 => rfl
  | k + 1 => rs_st k
theorem bg_T0 {B : Bs} {s : Nat} : ∀ k, T0 (bS B s) (bS (itr bgS k B) s)
  | 0 => T0.rf _
  | k + 1 => by
    have ih := bg_T0 (B := B) (s := s) k
    show T0 (bS B s) (bS (bgS k (itr bgS k B)) s)
    generalize itr bgS k B = C at ih
    unfold bgS
    by_cases hb : bgP C k
    · rw [cif_y hb]
      by_cases e : s = k
      · subst e
        rw [bS_setS_s]
        exact ⟨by rw [upd_n _ _ (by omega), upd_n _ _ (by omega)]; exact ih.1, by rw [upd_n _ _ (by omega), upd_n _ _ (by omega)]; exact ih.2.1, by rw [nw_upd (by omega), nw_upd (by omega)]; exact ih.2.2⟩
      · rw [bS_setS_n _ _ e]
        exact ih
    · rw [cif_n hb]
      exact ih
theorem bt_st {B : Bs} : bS (btO B) = bS (chB B) := by
  unfold btO rsB
  rw [bS_setG]
  exact rs_st (L := lowB (bgB B)) (B := chB B) 6
/-- a beat -/
theorem bt_TR {B : Bs} {s : Nat} (wf : WF B) (hs : s < nS B) : T0 (bS B s) (bS (btO B) s) ∨ T1 (bS B s) (bS (btO B) s) ∨ T2 (bS B s) (bS (btO B) s) := by
  have en : nS (bgB B) = nS B := Fr_bg.n
  have g := (go_TR (L := lowB (bgB B)) (A := awB (bgB B)) (n := nS B) (s := s) wf.bg (nS B) (by omega)).1 hs
  have c := (ch_TR (L := lowB (bgB B)) (s := s) wf.kgo (nS B) (by rw [n_go]; exact Nat.le_refl _)).1 hs
  have e : bS (btO B) s = bS (chB B) s := congrFun bt_st s
  rw [e]
  have g2 : TR (bS B s) (bS (goB B).1 s) := (bg_T0 (nS B)).l g
  have c2 : TR (bS (goB B).1 s) (bS (chB B) s) ∧ (¬ spB (goB B).1 s → T0 (bS (goB B).1 s) (bS (chB B) s) ∧ _) := c
  rcases g2 with g2 | ⟨g2, g17⟩
  · rcases g2.l c2.1 with q | ⟨q, -⟩
    · exact Or.inl q
    · exact Or.inr q
  · have q := (c2.2 (fun k => k g17)).1
    rcases g2 with g2 | g2
    · exact Or.inr (Or.inl ⟨q.1.trans g2.1, q.2.1.trans g2.2.1, by rw [q.2.2]; exact g2.2.2⟩)
    · exact Or.inr (Or.inr ⟨q.1.trans g2.1, q.2.1.trans g2.2.1, by rw [q.2.2]; exact g2.2.2⟩)
/-- no words -/
def NW (B : Bs) : Prop := ∀ s, s < nS B → nwF (bS B s) = 0
theorem NW.sp {B : Bs} (wf : WF B) (h : NW B) {s : Nat} (hs : s < nS B) : ¬ spB B s := fun q => by
  have := ((wf.s hs).sp q).1
  have := h s hs
  omega
theorem bg_NW {B : Bs} (h : NW B) : bgB B = B := (itr_ind (P := fun _ x => x = B) rfl fun i x hi hx => by
  subst hx
  exact cif_n fun hh => absurd hh.2.2.1 (by have := h i hi; omega) : bgB B = B)
theorem go_NW {L A : Nat → Prop} {n : Nat} {B : Bs} (wf : WF B) (h : NW B) : ∀ k, k ≤ nS B → itr (goP L A n) k (B, 0) = (B, 0)
  | 0, _ => rfl
  | k + 1, hk => by
    show goP L A n k (itr (goP L A n) k (B, 0)) = _
    rw [go_NW wf h k (by omega)]
    exact cif_n (h.sp wf (by omega))
theorem bt_NW {B : Bs} (wf : WF B) (h : NW B) : btN B = 0 ∧ NW (btO B) := by
  have eb := bg_NW h
  have eg : goB B = (B, 0) := by
    unfold goB
    rw [eb]
    exact go_NW wf h _ (Nat.le_refl _)
  refine ⟨by unfold btN; rw [eg], fun s hs => ?_⟩
  rw [n_bt] at hs
  have e : bS (btO B) s = bS (chB B) s := congrFun bt_st s
  rw [e]
  have ec : chB B = itr (chS (lowB B)) (nS B) B := by
    unfold chB
    rw [eb, eg]
  rw [ec]
  have c := ((ch_TR (L := lowB B) (s := s) wf (nS B) (Nat.le_refl _)).1 hs).2 (h.sp wf hs)
  rw [c.1.2.2]
  exact h s hs
theorem bI_NW {B : Bs} (wf : WF B) (k : Nat) (h : NW (btI k B).1) : ∀ j, NW (btI (k + j) B).1 ∧ (btI (k + j) B).2 = (btI k B).2
  | 0 => ⟨h, rfl⟩
  | j + 1 => by
    obtain ⟨h1, h2⟩ := bI_NW wf k h j
    have q := bt_NW (bI_wf wf (k + j)) h1
    refine ⟨q.2, ?_⟩
    show (btI (k + j) B).2 + btN (btI (k + j) B).1 = _
    rw [q.1, h2]
    rfl

