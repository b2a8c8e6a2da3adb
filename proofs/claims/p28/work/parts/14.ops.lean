/-! What a beat does, and the other changes, on the bus as numbers -/
def nS (B : Bs) : Nat := (bG B 6).toNatClampNeg
/-- how many words; begins to speak -/
def bgP (B : Bs) (i : Nat) : Prop := awB B i ∧ ¬ spB B i ∧ 0 < nwF (bS B i) ∧ bG B 0 ≤ bW B (fwB B i) 0
noncomputable def awM (B : Bs) (x : Int32) : Int32 := msk (fun s => awB B s ∧ atB B s x) (nS B)
noncomputable def bgS (i : Nat) (B : Bs) : Bs := cif (bgP B i) (setS B i (upd (upd (bS B i) 17 (nI 0)) 18 (awM B (bS B i 6)))) B
noncomputable def bgB (B : Bs) : Bs := itr bgS (nS B) B
/-- the bit of the beat -/
def btB (B : Bs) (i : Nat) : Int32 := if bS B i 17 < nI 3 then bi (nI i) (nI 2 - bS B i 17) else bi (bS B i 5) (nI 10 - bS B i 17)
def lowB (B : Bs) (w : Nat) : Prop := bW B w 1 = nI 1 ∨ ∃ s, s < nS B ∧ spB B s ∧ btB B s = nI 0 ∧ fwB B s = w
/-- one hears a word -/
def hkF (f : Nat → Int32) : Nat := if (f 23).toNatClampNeg < 4 then (f 23).toNatClampNeg + 1 else 4
def shL (g : Nat → Int32) (k : Nat) : Nat → Int32 := fun j => if 28 ≤ j ∧ j < 24 + 4 * k then g (j - 4) else g j
def heF (f : Nat → Int32) (x y z u : Int32) : Nat → Int32 := upd (upd (upd (upd (shL (upd (upd f 21 (f 21 + nI 1)) 23 (nI (hkF f))) (hkF f)) 24 x) 25 y) 26 z) 27 u
noncomputable def heS (B0 : Bs) (i : Nat) (o : Nat) (B : Bs) : Bs := cif (o ≠ i ∧ bi (bS B0 i 18) (nI o) = nI 1) (setS B o (heF (bS B o) (bS B0 i 5) (nI i) (bS B0 i 6) (bG B0 5))) B
noncomputable def hrB (B : Bs) (i : Nat) : Bs := itr (heS B i) (nS B) B
noncomputable def hdB (B : Bs) (i : Nat) : Bs := lvB (tyB (setS (hrB B i) i (upd (bS B i) 19 (bS B i 19 + nI 1))) (fwB B i) 2) i
/-- gives up; is heard; goes on -/
def gvP (L A : Nat → Prop) (n : Nat) (B : Bs) (i : Nat) : Prop := (btB B i = nI 1 ∧ L (fwB B i)) ∨ (bS B i 17 = nI 10 ∧ ¬ ∀ s, s < n → bi (bS B i 18) (nI s) = nI 1 → A s)
noncomputable def goP (L A : Nat → Prop) (n : Nat) (i : Nat) (P : Bs × Nat) : Bs × Nat :=
  cif (spB P.1 i) (cif (gvP L A n P.1 i) (guB P.1 i, P.2) (cif (bS P.1 i 17 = nI 10) (hdB P.1 i, P.2 + 1) (setS P.1 i (upd (bS P.1 i) 17 (bS P.1 i 17 + nI 1)), P.2))) P
/-- charge -/
noncomputable def hiC (f : Nat → Int32) (L : Nat → Prop) : Nat := cntP (fun w => bi (f 0) (nI w) = nI 1 ∧ ¬ L w) 6
noncomputable def chV (L : Nat → Prop) (B : Bs) (i : Nat) : Int32 := bS B i 1 + bG B 3 * nI (hiC (bS B i) L) - cif (awB B i) (bG B 2) (nI 0)
def clV (v F : Int32) : Int32 := if F < v then F else if v < 0 then nI 0 else v
noncomputable def ch1 (L : Nat → Prop) (B : Bs) (i : Nat) : Bs := setS B i (upd (bS B i) 1 (clV (chV L B i) (bG B 1)))
noncomputable def ch2 (B : Bs) (i : Nat) : Bs := cif (spB B i) (guB (setS B i (upd (bS B i) 2 (nI 1))) i) (setS B i (upd (bS B i) 2 (nI 1)))
def wkP (B : Bs) (i : Nat) : Prop := bS B i 2 = nI 1 ∧ bS B i 3 = nI 0 ∧ bG B 1 / nI 2 ≤ bS B i 1
noncomputable def ch3 (B : Bs) (i : Nat) : Bs := cif (wkP B i) (setS B i (upd (bS B i) 2 (nI 0))) B
noncomputable def chS (L : Nat → Prop) (i : Nat) (B : Bs) : Bs := ch3 (if chV L B i < 0 then ch2 (ch1 L B i) i else ch1 L B i) i
noncomputable def rsS (L : Nat → Prop) (w : Nat) (B : Bs) : Bs := setW B w 0 (cif (L w) (nI 0) (if bW B w 0 < nI 999 then bW B w 0 + nI 1 else nI 999))
/-- a beat: the bus behind it, how many words are heard -/
noncomputable def goB (B : Bs) : Bs × Nat := itr (goP (lowB (bgB B)) (awB (bgB B)) (nS B)) (nS B) (bgB B, 0)
noncomputable def chB (B : Bs) : Bs := itr (chS (lowB (bgB B))) (nS B) (goB B).1
noncomputable def rsB (B : Bs) : Bs := itr (rsS (lowB (bgB B))) 6 (chB B)
noncomputable def btO (B : Bs) : Bs := setG (rsB B) 5 (bG B 5 + nI 1)
noncomputable def btN (B : Bs) : Nat := (goB B).2
/-- what changes leave as it is -/
def Fr (B B' : Bs) : Prop := bG B' = bG B ∧ (∀ w, bW B' w 0 = bW B w 0 ∧ bW B' w 1 = bW B w 1) ∧ ∀ s, bS B' s 0 = bS B s 0 ∧ bS B' s 2 = bS B s 2 ∧ bS B' s 3 = bS B s 3
theorem Fr.rf (B : Bs) : Fr B B := ⟨rfl, fun _ => ⟨rfl, rfl⟩, fun _ => ⟨rfl, rfl, rfl⟩⟩
theorem Fr.tr {A B C : Bs} (h : Fr A B) (k : Fr B C) : Fr A C := ⟨k.1.trans h.1, fun w => ⟨(k.2.1 w).1.trans (h.2.1 w).1, (k.2.1 w).2.trans (h.2.1 w).2⟩, fun s => ⟨(k.2.2 s).1.trans (h.2.2 s).1, (k.2.2 s).2.1.trans (h.2.2 s).2.1, (k.2.2 s).2.2.trans (h.2.2 s).2.2⟩⟩
theorem Fr.aw {B B' : Bs} (h : Fr B B') (s : Nat) : awB B' s ↔ awB B s := by unfold awB; rw [(h.2.2 s).2.1, (h.2.2 s).2.2]
theorem Fr.at {B B' : Bs} (h : Fr B B') (s : Nat) (x : Int32) : atB B' s x ↔ atB B s x := by unfold atB; rw [(h.2.2 s).1]
theorem Fr.n {B B' : Bs} (h : Fr B B') : nS B' = nS B := by unfold nS; rw [h.1]
theorem Fr_awM {B B' : Bs} (h : Fr B B') (x : Int32) : awM B' x = awM B x := by
  unfold awM
  rw [h.n]
  exact msk_cong fun i _ => and_congr (h.aw i) (h.at i x)
theorem Fr_setS {B : Bs} {i : Nat} {f : Nat → Int32} (h : f 0 = bS B i 0 ∧ f 2 = bS B i 2 ∧ f 3 = bS B i 3) : Fr B (setS B i f) := by
  refine ⟨rfl, fun _ => ⟨rfl, rfl⟩, fun s => ?_⟩
  by_cases hs : s = i
  · subst hs
    rw [bS_setS_s]
    exact h
  · rw [bS_setS_n _ _ hs]
    exact ⟨rfl, rfl, rfl⟩
theorem Fr_setW {B : Bs} {w k : Nat} {x : Int32} (h : 2 ≤ k) : Fr B (setW B w k x) := by
  refine ⟨rfl, fun v => ?_, fun _ => ⟨rfl, rfl, rfl⟩⟩
  by_cases hv : v = w
  · subst hv
    rw [bW_setW_s, upd_n _ _ (by omega), upd_n _ _ (by omega)]
    exact ⟨rfl, rfl⟩
  · rw [bW_setW_n _ _ _ hv]
    exact ⟨rfl, rfl⟩
theorem Fr_itr {α : Type} {p : α → Bs} {f : Nat → α → α} (h : ∀ i a, Fr (p a) (p (f i a))) : ∀ n a, Fr (p a) (p (itr f n a))
  | 0, a => Fr.rf _
  | n + 1, a => (Fr_itr h n a).tr (h n _)
theorem lv_hi {f : Nat → Int32} {k : Nat} (h : k < 4 ∨ 18 < k) (h4 : nwF f ≤ 4) : lvF f k = f k := by
  unfold lvF qtF
  rw [if_neg (by omega), upd_n _ _ (by omega), upd_n _ _ (by omega), upd_n _ _ (by omega)]
theorem Fr_lv {B : Bs} {i : Nat} : Fr B (lvB B i) := by
  refine Fr_setS ⟨?_, ?_, ?_⟩ <;> · unfold lvF qtF; rw [if_neg (by omega), upd_n _ _ (by omega), upd_n _ _ (by omega), upd_n _ _ (by omega)]
theorem Fr_ty {B : Bs} {w k : Nat} (h : 2 ≤ k) : Fr B (tyB B w k) := Fr_setW h
theorem Fr_gu {B : Bs} {i : Nat} : Fr B (guB B i) := by
  have e : ∀ k, k < 4 → guF (bS B i) k = bS B i k := fun k hk => by
    unfold guF qtF
    rw [upd_n _ _ (by omega), upd_n _ _ (by omega), upd_n _ _ (by omega), upd_n _ _ (by omega)]
  unfold guB
  split
  · refine Fr.tr (B := setS B i (glF (bS B i))) (Fr_setS ?_) (Fr_ty (by omega))
    have e2 : ∀ k, k < 4 → glF (bS B i) k = bS B i k := fun k hk => by
      unfold glF lvF qtF
      rw [if_neg (by omega), upd_n _ _ (by omega), upd_n _ _ (by omega), upd_n _ _ (by omega), upd_n _ _ (by omega), e k hk]
    exact ⟨e2 0 (by omega), e2 2 (by omega), e2 3 (by omega)⟩
  · exact Fr_setS ⟨e 0 (by omega), e 2 (by omega), e 3 (by omega)⟩
theorem Fr_bgS {B : Bs} {i : Nat} : Fr B (bgS i B) := by
  unfold bgS
  by_cases h : bgP B i
  · rw [cif_y h]
    exact Fr_setS ⟨by rw [upd_n _ _ (by omega), upd_n _ _ (by omega)], by rw [upd_n _ _ (by omega), upd_n _ _ (by omega)], by rw [upd_n _ _ (by omega), upd_n _ _ (by omega)]⟩
  · rw [cif_n h]
    exact Fr.rf _
theorem Fr_bg {B : Bs} : Fr B (bgB B) := Fr_itr (p := id) (fun _ _ => Fr_bgS) _ _
theorem he_lo {f : Nat → Int32} {x y z u : Int32} {k : Nat} (h : k < 21) : heF f x y z u k = f k := by
  unfold heF shL
  rw [upd_n _ _ (by omega), upd_n _ _ (by omega), upd_n _ _ (by omega), upd_n _ _ (by omega), if_neg (by omega), upd_n _ _ (by omega), upd_n _ _ (by omega)]
theorem Fr_heS {B0 B : Bs} {i o : Nat} : Fr B (heS B0 i o B) := by
  unfold heS
  by_cases h : o ≠ i ∧ bi (bS B0 i 18) (nI o) = nI 1
  · rw [cif_y h]
    exact Fr_setS ⟨he_lo (by omega), he_lo (by omega), he_lo (by omega)⟩
  · rw [cif_n h]
    exact Fr.rf _
theorem Fr_hr {B : Bs} {i : Nat} : Fr B (hrB B i) := Fr_itr (p := id) (fun _ _ => Fr_heS) _ _
theorem hr_st {B : Bs} {i : Nat} : ∀ n, bS (itr (heS B i) n B) i = bS B i
  | 0 => rfl
  | n + 1 => by
    show bS (heS B i n (itr (heS B i) n B)) i = _
    unfold heS
    by_cases h : n ≠ i ∧ bi (bS B i 18) (nI n) = nI 1
    · rw [cif_y h, bS_setS_n _ _ (Ne.symm h.1)]
      exact hr_st n
    · rw [cif_n h]
      exact hr_st n
theorem Fr_hd {B : Bs} {i : Nat} : Fr B (hdB B i) := by
  unfold hdB
  refine Fr.tr (Fr.tr (Fr.tr Fr_hr (Fr_setS ?_)) (Fr_ty (by omega))) Fr_lv
  rw [show bS (hrB B i) i = bS B i from hr_st _, upd_n _ _ (by omega), upd_n _ _ (by omega), upd_n _ _ (by omega)]
  exact ⟨rfl, rfl, rfl⟩
theorem Fr_go {L A : Nat → Prop} {n i : Nat} {P : Bs × Nat} : Fr P.1 (goP L A n i P).1 := by
  unfold goP
  by_cases h : spB P.1 i
  · rw [cif_y h]
    by_cases h2 : gvP L A n P.1 i
    · rw [cif_y h2]
      exact Fr_gu
    · rw [cif_n h2]
      by_cases h3 : bS P.1 i 17 = nI 10
      · rw [cif_y h3]
        exact Fr_hd
      · rw [cif_n h3]
        exact Fr_setS ⟨upd_n _ _ (by omega), upd_n _ _ (by omega), upd_n _ _ (by omega)⟩
  · rw [cif_n h]
    exact Fr.rf _
theorem Fr_goN {L A : Nat → Prop} {n k : Nat} {P : Bs × Nat} : Fr P.1 (itr (goP L A n) k P).1 := Fr_itr (p := Prod.fst) (fun _ _ => Fr_go) _ _

