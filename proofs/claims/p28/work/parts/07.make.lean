/-! Makings, natives, static rows, over the pure memory -/
theorem pw_fv0 : ∀ c, c < 9 → ∀ j, j < pw_N c → defaultValue (pw_ty c j) = vp_V (pw_fv c (fun _ => none) (fun _ => 0)) j := by
  refine pw_nine ?_ ?_ ?_ ?_ ?_ ?_ ?_ ?_ ?_
  · intro j hj
    match j, hj with
    | 0, _ => rfl
    | 1, _ => rfl
    | 2, _ => rfl
    | 3, _ => rfl
    | 4, _ => rfl
    | 5, _ => rfl
    | 6, _ => rfl
    | 7, _ => rfl
    | j + 8, hj => exact absurd hj (by show ¬ j + 8 < 8; omega)
  · intro j hj
    match j, hj with
    | 0, _ => rfl
    | 1, _ => rfl
    | 2, _ => rfl
    | j + 3, hj => exact absurd hj (by show ¬ j + 3 < 3; omega)
  · intro j hj
    match j, hj with
    | 0, _ => rfl
    | 1, _ => rfl
    | j + 2, hj => exact absurd hj (by show ¬ j + 2 < 2; omega)
  · intro j hj
    match j, hj with
    | 0, _ => rfl
    | 1, _ => rfl
    | j + 2, hj => exact absurd hj (by show ¬ j + 2 < 2; omega)
  · intro j hj
    match j, hj with
    | 0, _ => rfl
    | 1, _ => rfl
    | 2, _ => rfl
    | 3, _ => rfl
    | 4, _ => rfl
    | 5, _ => rfl
    | 6, _ => rfl
    | j + 7, hj => exact absurd hj (by show ¬ j + 7 < 7; omega)
  · intro j hj
    match j, hj with
    | 0, _ => rfl
    | 1, _ => rfl
    | 2, _ => rfl
    | 3, _ => rfl
    | j + 4, hj => exact absurd hj (by show ¬ j + 4 < 4; omega)
  · intro j hj
    match j, hj with
    | 0, _ => rfl
    | 1, _ => rfl
    | 2, _ => rfl
    | 3, _ => rfl
    | 4, _ => rfl
    | 5, _ => rfl
    | 6, _ => rfl
    | 7, _ => rfl
    | 8, _ => rfl
    | 9, _ => rfl
    | 10, _ => rfl
    | 11, _ => rfl
    | 12, _ => rfl
    | 13, _ => rfl
    | 14, _ => rfl
    | j + 15, hj => exact absurd hj (by show ¬ j + 15 < 15; omega)
  · intro j hj
    match j, hj with
    | 0, _ => rfl
    | 1, _ => rfl
    | 2, _ => rfl
    | 3, _ => rfl
    | 4, _ => rfl
    | 5, _ => rfl
    | j + 6, hj => exact absurd hj (by show ¬ j + 6 < 6; omega)
  · intro j hj
    match j, hj with
    | 0, _ => rfl
    | 1, _ => rfl
    | 2, _ => rfl
    | 3, _ => rfl
    | 4, _ => rfl
    | 5, _ => rfl
    | j + 6, hj => exact absurd hj (by show ¬ j + 6 < 6; omega)
theorem HP.push {X : Cx} {σ : Sp} {μ : Mm} {H H1 : Heap} {a t l : Nat} {f : Nat → Int32} (h : HP X σ μ H) (ha : a = cxB X + nn σ) (e1 : va_at (cxD X) vwCl (a, pw_ce X (wN σ (cxB X) t l) (wC μ a f) a) H1) (z1 : H1.size = H.size + 1) (o1 : ∀ q, q < H.size → H1[q]? = H[q]?) (hb : t = 7 → (f 5 = 0 ∨ f 5 = 1) ∧ (f 6 = 0 ∨ f 6 = 1)) : HP X (wN σ (cxB X) t l) (wC μ a f) H1 := by
  subst ha
  have hk : ∀ (k : Nat) (x : Nat × va_E), (pw_ws X σ μ)[k]? = some x → H1[x.1]? = H[x.1]? := fun k x hx => o1 x.1 ((h.1 k x hx).lt)
  have ho : ∀ b, b ≠ cxB X + nn σ → pw_ce X (wN σ (cxB X) t l) (wC μ (cxB X + nn σ) f) b = pw_ce X σ μ b := by
    intro b hb
    have g1 : tg (wN σ (cxB X) t l) b = tg σ b := if_neg hb
    have g2 : ln (wN σ (cxB X) t l) b = ln σ b := if_neg hb
    have g3 : rf (wN σ (cxB X) t l) b = rf σ b := if_neg hb
    have g4 : wC μ (cxB X + nn σ) f b = μ b := if_neg hb
    unfold pw_ce
    rw [g1, g2, g3, g4]
  have hP := (h.1.kept hk).app (fun k x hx => by
    have hz : k < 1 := (List.getElem?_eq_some_iff.mp hx).1
    rw [show k = 0 by omega] at hx
    cases hx
    exact e1 : va_P (cxD X) vwCl [(cxB X + nn σ, pw_ce X (wN σ (cxB X) t l) (wC μ (cxB X + nn σ) f) (cxB X + nn σ))] H1)
  rw [pw_ws_push rfl rfl rfl ho] at hP
  refine ⟨hP, by rw [z1, h.2.1]; show _ = cxB X + (nn σ + 1); omega, fun b hb2 => ?_, fun b hb2 => ?_⟩
  · show cxB X ≤ b ∧ b < cxB X + (nn σ + 1)
    by_cases hbn : b = cxB X + nn σ
    · omega
    · have g1 : tg (wN σ (cxB X) t l) b = tg σ b := if_neg hbn
      rw [g1] at hb2
      have := h.2.2.1 b hb2
      omega
  · by_cases hbn : b = cxB X + nn σ
    · have g1 : tg (wN σ (cxB X) t l) b = t := if_pos hbn
      have g4 : wC μ (cxB X + nn σ) f b = f := if_pos hbn
      rw [g4]
      exact hb (g1.symm.trans hb2)
    · have g1 : tg (wN σ (cxB X) t l) b = tg σ b := if_neg hbn
      have g4 : wC μ (cxB X + nn σ) f b = μ b := if_neg hbn
      rw [g4]
      exact h.2.2.2 b (g1.symm.trans hb2)
theorem va_S.push {A : Nat → Prop} {H0 H H1 : Heap} {locs : List Loc} (hS : va_S A H0 H locs) (z1 : H1.size = H.size + 1) (o1 : ∀ q, q < H.size → H1[q]? = H[q]?) : va_S A H0 H1 locs :=
  ⟨Nat.le_trans hS.1 (by omega), fun x h1 h2 => (o1 x (Nat.lt_of_lt_of_le h1 hS.1)).trans (hS.2.1 x h1 h2), hS.2.2⟩
theorem wN_tg {σ : Sp} {B t l a : Nat} (h : a = B + nn σ) : tg (wN σ B t l) a = t := if_pos h
theorem wN_ln {σ : Sp} {B t l a : Nat} (h : a = B + nn σ) : ln (wN σ B t l) a = l := if_pos h
theorem wN_rf {σ : Sp} {B t l a : Nat} (h : a = B + nn σ) : rf (wN σ B t l) a = fun _ => none := if_pos h
theorem wN_nn {σ : Sp} {B t l : Nat} : nn (wN σ B t l) = nn σ + 1 := rfl
theorem wN_tg_ne {σ : Sp} {B t l a : Nat} (h : a ≠ B + nn σ) : tg (wN σ B t l) a = tg σ a := if_neg h
theorem wN_ln_ne {σ : Sp} {B t l a : Nat} (h : a ≠ B + nn σ) : ln (wN σ B t l) a = ln σ a := if_neg h
theorem wN_rf_ne {σ : Sp} {B t l a : Nat} (h : a ≠ B + nn σ) : rf (wN σ B t l) a = rf σ a := if_neg h
section PWM
variable {X : Cx} {M : Mt} {b1 b2 pc : Nat} {ls : List (Option Value)} {st : List Value} {σ : Sp} {μ : Mm} {Q : Option Value → Sp → Mm → Prop}
theorem pw_new {i a b1' b2' : Nat} (c : Nat) (d : decode (mB M) pc = .ok (.new i, 3)) (hcl : Cond.classLink (mY M).cls i (pw_R c) ∈ pw_Tb) (hin : Cond.instantiable (pw_R c) (pw_N c) ∈ pw_Tb) (hini : Cond.initialized (pw_R c) ∈ pw_Tb) (hc : c < 9) (ha : a = cxB X + nn σ) (hb1 : b1' + 1 ≤ b1) (hb2 : b2' + pw_N c ≤ b2) (kk : PW X M b1' b2' (pc + 3) ls (.ref a :: st) (wN σ (cxB X) (c + 1) 0) (wC μ a (fun _ => 0)) Q) : PW X M b1 b2 pc ls st σ μ Q := by
  intro p e R s m args below meth cd H locs cells slots ar Z B S P F L c1 c2 K
  have hts := B.2.2.2.2.2.1
  have hKn := S.1.1 c _ (pw_cl c hc)
  have hz := P.2.1
  refine W.newcK B.1 B.2.1 B.2.2.2.2.1 (hts _ hcl) (hts _ hin) (hts _ hini) rfl d (by omega) (by omega) hKn.2.1 (h := a) (by rw [hz, ha]) fun H1 kC hkC e1 z1 o1 => ?_
  have z2 : H1.size = H.size + 1 := by rw [z1, hz, ha]
  have o2 : ∀ q, q < H.size → H1[q]? = H[q]? := fun q hq => o1 q (by rw [ha, ← hz]; exact hq)
  refine kk p e R s m args below meth cd H1 locs _ _ ar Z B S (P.push ha ?_ z2 o2 (fun _ => ⟨Or.inl rfl, Or.inl rfl⟩)) (F.push z2 o2) L (by omega) (by omega) K
  rw [pw_ce_o (c := c) (wN_tg ha) hc, wN_rf ha, wC_self]
  exact ⟨_, pw_cl c hc, (u_born (pw_ty c) hts (pw_hin c hc) hKn hkC e1 (pw_hty c hc)).to (pw_fv0 c hc)⟩
theorem pw_newaC {a N b1' b2' : Nat} {n : Int32} (d : decode (mB M) pc = .ok (.newarray .char, 2)) (hw : Cond.arrayClass .char ∈ pw_Tb) (hn : ¬ n < 0) (hN : n.toNatClampNeg = N) (hs : N < 100000000) (ha : a = cxB X + nn σ) (hb1 : b1' + 1 ≤ b1) (hb2 : b2' + N ≤ b2) (kk : PW X M b1' b2' (pc + 2) ls (.ref a :: st) (wN σ (cxB X) 10 N) (wC μ a (fun _ => 0)) Q) : PW X M b1 b2 pc ls (.int n :: st) σ μ Q := by
  intro p e R s m args below meth cd H locs cells slots ar Z B S P F L c1 c2 K
  have hz := P.2.1
  have hcb : componentBytes .char ≤ 4 := by decide
  refine va_newaK (atype := .char) B.1 B.2.1 (B.2.2.2.2.2.1 _ hw) rfl d rfl hn hN (Nat.le_trans (Nat.mul_le_mul_left N hcb) (by omega)) (by omega) (by omega) (h := a) (by rw [hz, ha]) fun H1 cA e1 z1 o1 hAr hNm => ?_
  have z2 : H1.size = H.size + 1 := by rw [z1, hz, ha]
  have o2 : ∀ q, q < H.size → H1[q]? = H[q]? := fun q hq => o1 q (by rw [ha, ← hz]; exact hq)
  have hcA : cA = (cxC X).1 := Option.some.inj (hNm.symm.trans (S.1.2 0 _ rfl).2)
  refine kk p e R s m args below meth cd H1 locs _ _ ar Z B S (P.push ha ?_ z2 o2 (fun h => by cases h)) (F.push z2 o2) L (by omega) (by omega) K
  rw [pw_ce_C (wN_tg ha), wN_ln ha, wC_self]
  show H1[a]? = some (vp_cell _ _)
  rw [e1, hcA]
  rfl
theorem pw_newaI {a N b1' b2' : Nat} {n : Int32} (d : decode (mB M) pc = .ok (.newarray .int, 2)) (hw : Cond.arrayClass .int ∈ pw_Tb) (hn : ¬ n < 0) (hN : n.toNatClampNeg = N) (hs : N < 100000000) (ha : a = cxB X + nn σ) (hb1 : b1' + 1 ≤ b1) (hb2 : b2' + N ≤ b2) (kk : PW X M b1' b2' (pc + 2) ls (.ref a :: st) (wN σ (cxB X) 11 N) (wC μ a (fun _ => 0)) Q) : PW X M b1 b2 pc ls (.int n :: st) σ μ Q := by
  intro p e R s m args below meth cd H locs cells slots ar Z B S P F L c1 c2 K
  have hz := P.2.1
  have hcb : componentBytes .int ≤ 4 := by decide
  refine va_newaK (atype := .int) B.1 B.2.1 (B.2.2.2.2.2.1 _ hw) rfl d rfl hn hN (Nat.le_trans (Nat.mul_le_mul_left N hcb) (by omega)) (by omega) (by omega) (h := a) (by rw [hz, ha]) fun H1 cA e1 z1 o1 hAr hNm => ?_
  have z2 : H1.size = H.size + 1 := by rw [z1, hz, ha]
  have o2 : ∀ q, q < H.size → H1[q]? = H[q]? := fun q hq => o1 q (by rw [ha, ← hz]; exact hq)
  have hcA : cA = (cxC X).2.1 := Option.some.inj (hNm.symm.trans (S.1.2 1 _ rfl).2)
  refine kk p e R s m args below meth cd H1 locs _ _ ar Z B S (P.push ha ?_ z2 o2 (fun h => by cases h)) (F.push z2 o2) L (by omega) (by omega) K
  rw [pw_ce_I (wN_tg ha), wN_ln ha, wC_self]
  show H1[a]? = some (vp_cell _ _)
  rw [e1, hcA]
  rfl
theorem pw_newqB {i a N b1' b2' : Nat} {n : Int32} (d : decode (mB M) pc = .ok (.anewarray i, 3)) (hcl : Cond.classLink (mY M).cls i RX0 ∈ pw_Tb) (hn : ¬ n < 0) (hN : n.toNatClampNeg = N) (hs : N < 100000000) (ha : a = cxB X + nn σ) (hb1 : b1' + 1 ≤ b1) (hb2 : b2' + N ≤ b2) (kk : PW X M b1' b2' (pc + 3) ls (.ref a :: st) (wN σ (cxB X) 13 N) (wC μ a (fun _ => 0)) Q) : PW X M b1 b2 pc ls (.int n :: st) σ μ Q := by
  intro p e R s m args below meth cd H locs cells slots ar Z B S P F L c1 c2 K
  have hz := P.2.1
  subst hN
  refine W.anew B.1 B.2.1 B.2.2.2.2.1 (B.2.2.2.2.2.1 _ hcl) (va_AO.use S.2.2.1) rfl d rfl hn (by omega) (by omega) (by omega) fun cA kA comp f1 f2 f3 f4 => ?_
  generalize hH1 : H.push ({ cls := cA, slots := Array.replicate n.toNatClampNeg .null, vm := .none } : Cell) = H1
  have z2 : H1.size = H.size + 1 := by rw [← hH1, Array.size_push]
  have e1 : H1[H.size]? = some (arrV cA n.toNatClampNeg (fun _ => .null)) := by rw [← hH1, Array.getElem?_push_size, ← arrV_new]
  have o2 : ∀ q : Nat, q < H.size → H1[q]? = H[q]? := fun q hq => by rw [← hH1, Array.getElem?_push, if_neg (Nat.ne_of_lt hq)]
  obtain ⟨_, _, _, _, _, g4⟩ := (S.1.2 3 _ rfl).2
  have hcA : cA = (cxC X).2.2.2.1 := Option.some.inj (f1.symm.trans g4)
  have haz : H.size = a := by rw [hz, ha]
  rw [haz] at e1 ⊢
  refine kk p e R s m args below meth cd H1 locs _ _ ar Z B S (P.push ha ?_ z2 o2 (fun h => by cases h)) (F.push z2 o2) L (by omega) (by omega) K
  rw [pw_ce_B (wN_tg ha), wN_ln ha, wN_rf ha]
  show H1[a]? = some (vp_cell _ _)
  rw [e1, hcA]
  rfl
theorem pw_aastB {a v : Nat} {i : Int32} (d : decode (mB M) pc = .ok (.aastore, 1)) (ht : tg σ a = 13) (hv : tg σ v = 0 + 1) (hin : vp_in i (ln σ a)) (kk : PW X M b1 b2 (pc + 1) ls st (wR σ a i.toNatClampNeg (some v)) μ Q) : PW X M b1 b2 pc ls (.ref v :: .int i :: .ref a :: st) σ μ Q := by
  intro p e R s m args below meth cd H locs cells slots ar Z B S P F L c1 c2 K
  have ha := P.at (a := a) (by omega)
  rw [pw_ce_B ht] at ha
  have hlt : i.toNatClampNeg < ln σ a := Nat.not_le.mp fun q => hin (Or.inr q)
  have h0 : ¬ i < 0 := fun q => hin (Or.inl q)
  obtain ⟨cellV, g1, g2, g3⟩ := pw_recv S P (c := 0) (by omega) hv
  have hcls := (S.1.1 0 _ (pw_cl 0 (by omega))).2
  have hcv : cellV.cls = (cxD X).1 0 := Option.some.inj (g3.symm.trans hcls.1)
  obtain ⟨kA, comp, k1, k2, k3, -⟩ := (S.1.2 3 _ rfl).2
  have hcomp : comp = (cxD X).1 0 := Option.some.inj (k3.symm.trans hcls.1)
  subst hcomp
  obtain ⟨kC, hkC, -⟩ := hcls.2
  refine W.aast B.1 B.2.1 (P.1 _ _ ha) (fun q h => by cases h) (fun h => by cases h) k1 k2 rfl hkC ⟨h0, by show _ < (arrV _ _ _).slots.size; rw [arrV_size]; exact hlt⟩ g1 (fun q h => by rw [h] at g2; cases g2) (by rw [hcv]; exact hkC) (by rw [hcv]; exact va_assign hcls) rfl rfl d fun H1 e1 z oq => ?_
  refine kk p e R s m args below meth cd H1 _ cells slots ar Z B S (P.upd (a := a) (e := _) (by omega) rfl rfl (P.1.set (pw_D X σ μ) ha (e := pw_ce X (wR σ a i.toNatClampNeg (some v)) μ a) ?_ oq) z rfl pw_ce_wR P.2.2.2) (F.put z oq (P.2.2.1 a (by omega)).1) L c1 c2 K
  rw [pw_ce_B (show tg (wR σ a i.toNatClampNeg (some v)) a = 13 from ht)]
  have hrf : rf (wR σ a i.toNatClampNeg (some v)) a = va_up (rf σ a) i.toNatClampNeg (some v) := if_pos rfl
  rw [hrf]
  show H1[a]? = some (vp_cell _ _)
  rw [e1, vp_cell_q, vp_cell_q, arrV_store]
  congr 2
  funext q
  by_cases hq : q = i.toNatClampNeg
  · subst hq
    simp [updV, va_up, va_rf]
  · simp [updV, va_up, hq]
theorem pw_newqS {i a N b1' b2' : Nat} {n : Int32} (d : decode (mB M) pc = .ok (.anewarray i, 3)) (hcl : Cond.classLink (mY M).cls i RX6 ∈ pw_Tb) (hn : ¬ n < 0) (hN : n.toNatClampNeg = N) (hs : N < 100000000) (ha : a = cxB X + nn σ) (hb1 : b1' + 1 ≤ b1) (hb2 : b2' + N ≤ b2) (kk : PW X M b1' b2' (pc + 3) ls (.ref a :: st) (wN σ (cxB X) 14 N) (wC μ a (fun _ => 0)) Q) : PW X M b1 b2 pc ls (.int n :: st) σ μ Q := by
  intro p e R s m args below meth cd H locs cells slots ar Z B S P F L c1 c2 K
  have hz := P.2.1
  subst hN
  refine W.anew B.1 B.2.1 B.2.2.2.2.1 (B.2.2.2.2.2.1 _ hcl) (va_AO.use S.2.2.2.1) rfl d rfl hn (by omega) (by omega) (by omega) fun cA kA comp f1 f2 f3 f4 => ?_
  generalize hH1 : H.push ({ cls := cA, slots := Array.replicate n.toNatClampNeg .null, vm := .none } : Cell) = H1
  have z2 : H1.size = H.size + 1 := by rw [← hH1, Array.size_push]
  have e1 : H1[H.size]? = some (arrV cA n.toNatClampNeg (fun _ => .null)) := by rw [← hH1, Array.getElem?_push_size, ← arrV_new]
  have o2 : ∀ q : Nat, q < H.size → H1[q]? = H[q]? := fun q hq => by rw [← hH1, Array.getElem?_push, if_neg (Nat.ne_of_lt hq)]
  obtain ⟨_, _, _, _, _, g4⟩ := (S.1.2 4 _ rfl).2
  have hcA : cA = (cxC X).2.2.2.2 := Option.some.inj (f1.symm.trans g4)
  have haz : H.size = a := by rw [hz, ha]
  rw [haz] at e1 ⊢
  refine kk p e R s m args below meth cd H1 locs _ _ ar Z B S (P.push ha ?_ z2 o2 (fun h => by cases h)) (F.push z2 o2) L (by omega) (by omega) K
  rw [pw_ce_S (wN_tg ha), wN_ln ha, wN_rf ha]
  show H1[a]? = some (vp_cell _ _)
  rw [e1, hcA]
  rfl
theorem pw_aastS {a v : Nat} {i : Int32} (d : decode (mB M) pc = .ok (.aastore, 1)) (ht : tg σ a = 14) (hv : tg σ v = 6 + 1) (hin : vp_in i (ln σ a)) (kk : PW X M b1 b2 (pc + 1) ls st (wR σ a i.toNatClampNeg (some v)) μ Q) : PW X M b1 b2 pc ls (.ref v :: .int i :: .ref a :: st) σ μ Q := by
  intro p e R s m args below meth cd H locs cells slots ar Z B S P F L c1 c2 K
  have ha := P.at (a := a) (by omega)
  rw [pw_ce_S ht] at ha
  have hlt : i.toNatClampNeg < ln σ a := Nat.not_le.mp fun q => hin (Or.inr q)
  have h0 : ¬ i < 0 := fun q => hin (Or.inl q)
  obtain ⟨cellV, g1, g2, g3⟩ := pw_recv S P (c := 6) (by omega) hv
  have hcls := (S.1.1 6 _ (pw_cl 6 (by omega))).2
  have hcv : cellV.cls = (cxD X).1 6 := Option.some.inj (g3.symm.trans hcls.1)
  obtain ⟨kA, comp, k1, k2, k3, -⟩ := (S.1.2 4 _ rfl).2
  have hcomp : comp = (cxD X).1 6 := Option.some.inj (k3.symm.trans hcls.1)
  subst hcomp
  obtain ⟨kC, hkC, -⟩ := hcls.2
  refine W.aast B.1 B.2.1 (P.1 _ _ ha) (fun q h => by cases h) (fun h => by cases h) k1 k2 rfl hkC ⟨h0, by show _ < (arrV _ _ _).slots.size; rw [arrV_size]; exact hlt⟩ g1 (fun q h => by rw [h] at g2; cases g2) (by rw [hcv]; exact hkC) (by rw [hcv]; exact va_assign hcls) rfl rfl d fun H1 e1 z oq => ?_
  refine kk p e R s m args below meth cd H1 _ cells slots ar Z B S (P.upd (a := a) (e := _) (by omega) rfl rfl (P.1.set (pw_D X σ μ) ha (e := pw_ce X (wR σ a i.toNatClampNeg (some v)) μ a) ?_ oq) z rfl pw_ce_wR P.2.2.2) (F.put z oq (P.2.2.1 a (by omega)).1) L c1 c2 K
  rw [pw_ce_S (show tg (wR σ a i.toNatClampNeg (some v)) a = 14 from ht)]
  have hrf : rf (wR σ a i.toNatClampNeg (some v)) a = va_up (rf σ a) i.toNatClampNeg (some v) := if_pos rfl
  rw [hrf]
  show H1[a]? = some (vp_cell _ _)
  rw [e1, vp_cell_q, vp_cell_q, arrV_store]
  congr 2
  funext q
  by_cases hq : q = i.toNatClampNeg
  · subst hq
    simp [updV, va_up, va_rf]
  · simp [updV, va_up, hq]
/-- static rows -/
theorem pw_gets {i : Nat} {n : String} {t : Nat} (d : decode (mB M) pc = .ok (.getstatic i, 3)) (hw : Cond.fieldLink (mY M).cls i RX7 n "[I" ∈ pw_Tb) (hZ : ∀ s, SX X s → va_Z RX7 n "[I" (.ref t) (fun q => cxB X ≤ q) s s.heap) (kk : PW X M b1 b2 (pc + 3) ls (.ref t :: st) σ μ Q) : PW X M b1 b2 pc ls st σ μ Q :=
  fun p e R s m args below meth cd H locs cells slots ar Z B S P F L c1 c2 K => va_gets B.1 B.2.1 (hZ s S) F B.2.2.2.2.1 (B.2.2.2.2.2.1 _ hw) (fun _ h => h) d (kk p e R s m args below meth cd H locs cells slots ar Z B S P F L c1 c2 K)
theorem pw_getsN {i : Nat} {n : String} {t : Nat} (d : decode (mB M) pc = .ok (.getstatic i, 3)) (hw : Cond.fieldLinkNest (mY M).cls i RX7 n "[I" RX7 ∈ pw_nest) (hZ : ∀ s, SX X s → va_Z RX7 n "[I" (.ref t) (fun q => cxB X ≤ q) s s.heap) (kk : PW X M b1 b2 (pc + 3) ls (.ref t :: st) σ μ Q) : PW X M b1 b2 pc ls st σ μ Q :=
  fun p e R s m args below meth cd H locs cells slots ar Z B S P F L c1 c2 K => va_getsN B.1 B.2.1 (hZ s S) F B.2.2.2.2.1 (va_Nw.use (pw_nest_on _ hw) (S.2.1 _ hw)) (fun _ h => h) d (kk p e R s m args below meth cd H locs cells slots ar Z B S P F L c1 c2 K)
theorem pw_sa_arr {s : State} {c : ClassId} {t : Nat} {f : Nat → Int32} {H : Heap} (h : pw_SA c t f H) (ha : ArrOfT s c .int) : ∃ cell : Cell, H[t]? = some cell ∧ s.isArrayOf cell .int ∧ cell.vm ≠ .unknown ∧ cell.slots.size = 5 ∧ (∀ j, j < 5 → cell.slots[j]? = some (.int (f j))) ∧ cell.cls = c ∧ cell.slots = (arrV c 5 (fun j => .int (f j))).slots ∧ cell.vm.isStatics = false := by
  obtain ⟨cell, h1, h2, h3, h4, h5⟩ := h
  obtain ⟨-, k, hk, comp, hkk⟩ := ha 0 (fun _ => .null)
  refine ⟨cell, h1, ⟨fun k hk => (by rw [hk] at h4; cases h4), k, by rw [h2]; exact hk, comp, hkk⟩, h5, by rw [h3, arrV_size], fun j hj => by rw [h3, arrV_read _ _ hj], h2, h3, h4⟩
theorem pw_tald {i : Int32} {t : Nat} {f : Nat → Int32} (d : decode (mB M) pc = .ok (.iaload, 1)) (hT : ∀ s, SX X s → pw_SA (cxC X).2.1 t f s.heap ∧ t < cxB X) (hin : vp_in i 5) (kk : PW X M b1 b2 (pc + 1) ls (.int (f i.toNatClampNeg) :: st) σ μ Q) : PW X M b1 b2 pc ls (.int i :: .ref t :: st) σ μ Q := by
  intro p e R s m args below meth cd H locs cells slots ar Z B S P F L c1 c2 K
  obtain ⟨hSA, htb⟩ := hT s S
  obtain ⟨cell, h1, h2, h3, h4, h5, -⟩ := pw_sa_arr hSA (S.1.2 1 _ rfl).1
  have hlt : i.toNatClampNeg < 5 := Nat.not_le.mp fun q => hin (Or.inr q)
  exact W.iald (v := .int (f i.toNatClampNeg)) B.1 B.2.1 (by rw [F.2.1 t (Array.getElem?_eq_some_iff.mp h1).1 (by omega)]; exact h1) h2 h3 (by rw [h4]; exact hin) (h5 _ hlt) rfl rfl d (kk p e R s m args below meth cd H locs cells slots ar Z B S P F L c1 c2 K)
theorem pw_clone {i t a b1' b2' : Nat} {f : Nat → Int32} (d : decode (mB M) pc = .ok (.invokevirtual i, 3)) (hl : Cond.methodLink (mY M).cls i ⟨"[I", "clone", "()Ljava/lang/Object;"⟩ ∈ pw_Tb) (h1 : Cond.sameMethod "[I" "java/lang/Object" "clone" "()Ljava/lang/Object;" ∈ pw_Tb) (h2 : Cond.native ⟨"java/lang/Object", "clone", "()Ljava/lang/Object;"⟩ ∈ pw_Tb) (h3 : Cond.instanceMethod ⟨"java/lang/Object", "clone", "()Ljava/lang/Object;"⟩ ∈ pw_Tb) (h4 : Cond.selects "[I" ⟨"[I", "clone", "()Ljava/lang/Object;"⟩ ⟨"java/lang/Object", "clone", "()Ljava/lang/Object;"⟩ ∈ pw_Tb)
    (hT : ∀ s, SX X s → pw_SA (cxC X).2.1 t f s.heap ∧ t < cxB X) (hf1 : 1 ≤ mF M) (hlo : (st.map fun v => v.category).sum + 14 ≤ mLo M) (ha : a = cxB X + nn σ) (hb1 : b1' + 1 ≤ b1) (hb2 : b2' + 5 ≤ b2) (kk : PW X M b1' b2' (pc + 3) ls (.ref a :: st) (wN σ (cxB X) 11 5) (wC μ a f) Q) : PW X M b1 b2 pc ls (.ref t :: st) σ μ Q := by
  intro p e R s m args below meth cd H locs cells slots ar Z B S P F L c1 c2 K
  have hts := B.2.2.2.2.2.1
  have hz := P.2.1
  obtain ⟨hSA, htb⟩ := hT s S
  obtain ⟨cell, g1, g2, g3, g4, g5, g6, g7, g8⟩ := pw_sa_arr hSA (S.1.2 1 _ rfl).1
  have hnm : s.vm.findClass "[I" = some (cxC X).2.1 := va_nm_int (S.1.2 1 _ rfl).2
  obtain ⟨c0, t0', f1, f2, f3⟩ := Cond.castable_spec (va_Nw.use (A := args) rfl (S.2.1 (.castable "[I" "java/lang/Cloneable") (by decide +kernel)))
  cases hnm.symm.trans f1
  intro T hT X0
  have hcellH : H[t]? = some cell := by rw [F.2.1 t (Array.getElem?_eq_some_iff.mp g1).1 (by omega)]; exact g1
  obtain ⟨-, kS, hkS, compS, hkindS⟩ := (S.1.2 1 _ rfl).1 0 (fun _ => .null)
  obtain ⟨-, kA, hkA, comp, hkind⟩ := State.isArrayOf_alike X0.warmed.alike ((S.1.2 1 _ rfl).1 0 (fun _ => .null))
  obtain ⟨vm', X', stp⟩ := X0.cloneArray B.1 B.2.2.2.2.1 (hts _ hl) (hts _ h1) (hts _ h2) (hts _ h3) (hts _ h4) (a := t) (cell := cell) (by rw [hT]; exact hcellH) (fun k h => by rw [h] at g8; cases g8) g3 (by rw [g6]; exact hnm) f2 (by rw [g6]; exact f3)
    (fun i v hv => by
      rw [g6]
      have hk' : T.vm.classes[(cxC X).2.1]? = some kA := hkA
      have hi5 : i < 5 := by rw [← g4]; exact (Array.getElem?_eq_some_iff.mp hv).1
      rw [g5 i hi5] at hv
      cases hv
      simp [State.fitsSlot, State.slotType?, hk', hkind, fits])
    (g := F0 m pc ar (.ref t :: st)) rfl (L.1.trans B.2.2.2.1.symm) rfl (by rw [B.2.1]; exact d) (Nat.le_trans hf1 B.2.2.2.2.2.2.2.2.1) (by show 2 * 0 + _ + 14 ≤ _; exact Nat.le_trans (by omega) B.2.2.2.2.2.2.2.2.2) (by omega) (by rw [g4]; omega) (hloader := by rw [g6]; exact Vm.clonesLoader_of_array hkS hkindS)
  have hce : ({ cls := cell.cls, slots := cell.slots } : Cell) = arrV (cxC X).2.1 5 (fun j => .int (f j)) := by rw [g6, g7]; rfl
  rw [hce, g4] at X'
  generalize hH1 : H.push (arrV (cxC X).2.1 5 (fun j => .int (f j))) = H1
  have z2 : H1.size = H.size + 1 := by rw [← hH1, Array.size_push]
  have e1 : H1[H.size]? = some (arrV (cxC X).2.1 5 (fun j => .int (f j))) := by rw [← hH1, Array.getElem?_push_size]
  have o2 : ∀ q : Nat, q < H.size → H1[q]? = H[q]? := fun q hq => by rw [← hH1, Array.getElem?_push, if_neg (Nat.ne_of_lt hq)]
  have haz : H.size = a := by rw [hz, ha]
  obtain ⟨t9, a1, b9⟩ := kk p e R s m args below meth cd H1 locs (cells + 1) (slots + 5) ar Z B S (P.push ha (by
      rw [pw_ce_I (wN_tg ha), wN_ln ha, wC_self]
      show H1[a]? = some (vp_cell _ _)
      rw [← haz]
      exact e1) z2 o2 (fun h => by cases h)) (F.push z2 o2) L (by omega) (by omega) K ((T.setVm vm').pushCell (arrV (cxC X).2.1 5 (fun j => .int (f j)))) (by rw [← hH1, ← hT]; rfl) X'
  refine ⟨t9, stp t9 ?_, b9⟩
  rw [hce, hT, haz]
  exact a1
theorem pw_castI {i a : Nat} (d : decode (mB M) pc = .ok (.checkcast i, 3)) (hl : Cond.classLink (mY M).cls i "[I" ∈ pw_Tb) (ht : tg σ a = 11) (kk : PW X M b1 b2 (pc + 3) ls (.ref a :: st) σ μ Q) : PW X M b1 b2 pc ls (.ref a :: st) σ μ Q :=
  fun p e R s m args below meth cd H locs cells slots ar Z B S P F L c1 c2 K => va_castA B.1 B.2.1 B.2.2.2.2.1 (B.2.2.2.2.2.1 _ hl) P.1 (a - cxB X) (by rw [P.at (by omega), pw_ce_I ht]) (va_nm_int (S.1.2 1 _ rfl).2) d (kk p e R s m args below meth cd H locs cells slots ar Z B S P F L c1 c2 K)
theorem pw_acopy {i a0 a : Nat} {sp dp n : Int32} (d : decode (mB M) pc = .ok (.invokestatic i, 3)) (hl : Cond.methodLink (mY M).cls i arraycopyName ∈ pw_Tb) (hnat : Cond.native arraycopyName ∈ pw_Tb) (hst : Cond.static arraycopyName ∈ pw_Tb) (hini : Cond.initialized "java/lang/System" ∈ pw_Tb) (ht0 : tg σ a0 = 11) (ht : tg σ a = 11)
    (h1 : ¬ sp < 0) (h2 : ¬ dp < 0) (h3 : ¬ n < 0) (h4 : sp.toNatClampNeg + n.toNatClampNeg ≤ ln σ a0) (h5 : dp.toNatClampNeg + n.toNatClampNeg ≤ ln σ a) (hf1 : 1 ≤ mF M) (hlo : (st.map fun v => v.category).sum + (nativeFrameWords "java/lang/System" "arraycopy" 5 + 11) ≤ mLo M)
    (kk : PW X M b1 b2 (pc + 3) ls st σ (wC μ a (va_cpy (μ a0) (μ a) sp.toNatClampNeg dp.toNatClampNeg n.toNatClampNeg)) Q) : PW X M b1 b2 pc ls (.int n :: .int dp :: .ref a :: .int sp :: .ref a0 :: st) σ μ Q := by
  intro p e R s m args below meth cd H locs cells slots ar Z B S P F L c1 c2 K
  have hts := B.2.2.2.2.2.1
  have nnz : ∀ z : Int32, ¬ z < 0 → z.toInt = (z.toNatClampNeg : Int) := by
    intro z hz
    have hz0 : (0 : Int) ≤ z.toInt := by
      have := Int32.not_lt.mp hz
      simpa using Int32.le_iff_toInt_le.mp this
    show z.toInt = ((z.toInt.toNat : Nat) : Int)
    omega
  have ha0 := P.at (a := a0) (by omega)
  rw [pw_ce_I ht0] at ha0
  have ha1 := P.at (a := a) (by omega)
  rw [pw_ce_I ht] at ha1
  intro T hT X0
  have hc0 : H[a0]? = some (vp_cell (cxC X).2.1 (ln σ a0, .inl (μ a0))) := P.1 _ _ ha0
  have hc1 : H[a]? = some (vp_cell (cxC X).2.1 (ln σ a, .inl (μ a))) := P.1 _ _ ha1
  obtain ⟨-, k0, hk0, cm0, hkk0⟩ := (S.1.2 1 _ rfl).1 (ln σ a0) (fun j => .int (μ a0 j))
  obtain ⟨-, k1, hk1, cm1, hkk1⟩ := (S.1.2 1 _ rfl).1 (ln σ a) (fun j => .int (μ a j))
  obtain ⟨vm', X', step⟩ := X0.arraycopy B.1 B.2.2.2.2.1 (hts _ hl) (hts _ hnat) (hts _ hst) (hts _ hini) (src := a0) (dst := a) (cs := vp_cell (cxC X).2.1 (ln σ a0, .inl (μ a0))) (cd := vp_cell (cxC X).2.1 (ln σ a, .inl (μ a))) (srcPos := sp) (destPos := dp) (n := n) (by rw [hT]; exact hc0) (by rw [hT]; exact hc1)
    (fun _ h => by cases h) (fun _ h => by cases h) (fun h => by cases h) (fun h => by cases h) hk0 hk1 hkk0 hkk1 (by simp [refKind]) h1 h2 h3
    (by rw [nnz sp h1, nnz n h3]; show ¬ _ > ((arrV (cxC X).2.1 (ln σ a0) (fun j => .int (μ a0 j))).slots.size : Int); rw [arrV_size]; omega)
    (by rw [nnz dp h2, nnz n h3]; show ¬ _ > ((arrV (cxC X).2.1 (ln σ a) (fun j => .int (μ a j))).slots.size : Int); rw [arrV_size]; omega)
    (fun vm₁ _ i hi => by
      have e : (vp_cell (cxC X).2.1 (ln σ a0, .inl (μ a0))).slots.getD (sp.toNatClampNeg + i) .null = .int (μ a0 (sp.toNatClampNeg + i)) := by
        show (arrV (cxC X).2.1 (ln σ a0) (fun j => .int (μ a0 j))).slots.getD _ _ = _
        rw [Array.getD_eq_getD_getElem?, arrV_read _ _ (by omega)]
        rfl
      refine ⟨?_, ?_⟩
      · rw [e]
        rfl
      · rw [e]
        exact trivial)
    (g := F0 m pc ar (.int n :: .int dp :: .ref a :: .int sp :: .ref a0 :: st)) rfl (L.1.trans B.2.2.2.1.symm) (rest := st) rfl (by rw [B.2.1]; exact d) (Nat.le_trans hf1 B.2.2.2.2.2.2.2.2.1) (by show 2 * 0 + _ + _ ≤ _; exact Nat.le_trans (by omega) B.2.2.2.2.2.2.2.2.2)
  have e1 : copied (vp_cell (cxC X).2.1 (ln σ a0, .inl (μ a0))) (vp_cell (cxC X).2.1 (ln σ a, .inl (μ a))) sp dp n = vp_cell (cxC X).2.1 (ln σ a, .inl (va_cpy (μ a0) (μ a) sp.toNatClampNeg dp.toNatClampNeg n.toNatClampNeg)) := va_copied (fun z => .int z) (cxC X).2.1 (cxC X).2.1 (μ a0) (μ a) h4
  rw [e1] at X' step
  generalize hcn : vp_cell (cxC X).2.1 (ln σ a, .inl (va_cpy (μ a0) (μ a) sp.toNatClampNeg dp.toNatClampNeg n.toNatClampNeg)) = cn at X' step
  have hl : a < H.size := (Array.getElem?_eq_some_iff.mp hc1).1
  have hheap : ((T.setVm vm').setCell a cn).heap = H.setIfInBounds a cn := by rw [← hT]; rfl
  have oq : ∀ q : Nat, q ≠ a → (H.setIfInBounds a cn)[q]? = H[q]? := fun q hq => by simp [Array.getElem?_setIfInBounds, Ne.symm hq]
  have hz : (H.setIfInBounds a cn).size = H.size := by simp
  obtain ⟨t9, a1, b9⟩ := kk p e R s m args below meth cd (H.setIfInBounds a cn) _ cells slots ar Z B S (P.upd (a := a) (e := _) (by omega) rfl rfl (P.1.set (pw_D X σ μ) ha1 (e := pw_ce X σ (wC μ a (va_cpy (μ a0) (μ a) sp.toNatClampNeg dp.toNatClampNeg n.toNatClampNeg)) a) (by
      rw [pw_ce_I ht, wC_self]
      show (H.setIfInBounds a cn)[a]? = some (vp_cell _ _)
      rw [hcn]
      simp [Array.getElem?_setIfInBounds, hl]) oq) hz rfl pw_ce_wC (pw_bo_wC P.2.2.2 (by omega))) ⟨by rw [hz]; exact F.1, fun q g1 g2 => by
      rw [oq q (fun e => g2 (by rw [e]; exact (P.2.2.1 a (by omega)).1))]
      exact F.2.1 q g1 g2, fun q hq => by
      rcases List.mem_append.mp hq with h | h
      · exact F.2.2 q h
      · obtain ⟨z, -, hz⟩ := List.mem_map.mp h
        rw [← hz]
        exact (P.2.2.1 a (by omega)).1⟩ L c1 c2 K _ hheap X'
  exact ⟨t9, step t9 a1, b9⟩
theorem pw_min {i : Nat} {x y : Int32} (d : decode (mB M) pc = .ok (.invokestatic i, 3)) (hl : Cond.methodLink (mY M).cls i Lib.Math.min.name ∈ pw_Tb) (hst : Cond.static Lib.Math.min.name ∈ pw_Tb) (hini : Cond.initialized "java/lang/Math" ∈ pw_Tb) (hcode : Cond.code Lib.Math.min.name Lib.Math.min.code 2 (some .int) ∈ pw_Tb) (hf1 : 1 ≤ mF M) (hlo : (st.map fun v => v.category).sum + 13 ≤ mLo M) (kk : PW X M b1 b2 (pc + 3) ls (.int (if y < x then y else x) :: st) σ μ Q) : PW X M b1 b2 pc ls (.int y :: .int x :: st) σ μ Q :=
  fun p e R s m args below meth cd H locs cells slots ar Z B S P F L c1 c2 K => va_mmin B.1 B.2.1 (B.2.2.2.1.trans L.1.symm) B.2.2.2.2.1 (B.2.2.2.2.2.1 _ hl) (B.2.2.2.2.2.1 _ hst) (B.2.2.2.2.2.1 _ hini) (B.2.2.2.2.2.1 _ hcode) (Nat.le_trans hf1 B.2.2.2.2.2.2.2.2.1) (Nat.le_trans hlo B.2.2.2.2.2.2.2.2.2) (by omega) (by omega) d (kk p e R s m args below meth cd H locs cells slots ar Z B S P F L c1 c2 K)
theorem pw_max {i : Nat} {x y : Int32} (d : decode (mB M) pc = .ok (.invokestatic i, 3)) (hl : Cond.methodLink (mY M).cls i Lib.Math.max.name ∈ pw_Tb) (hst : Cond.static Lib.Math.max.name ∈ pw_Tb) (hini : Cond.initialized "java/lang/Math" ∈ pw_Tb) (hcode : Cond.code Lib.Math.max.name Lib.Math.max.code 2 (some .int) ∈ pw_Tb) (hf1 : 1 ≤ mF M) (hlo : (st.map fun v => v.category).sum + 13 ≤ mLo M) (kk : PW X M b1 b2 (pc + 3) ls (.int (if x < y then y else x) :: st) σ μ Q) : PW X M b1 b2 pc ls (.int y :: .int x :: st) σ μ Q :=
  fun p e R s m args below meth cd H locs cells slots ar Z B S P F L c1 c2 K => va_mmax B.1 B.2.1 (B.2.2.2.1.trans L.1.symm) B.2.2.2.2.1 (B.2.2.2.2.2.1 _ hl) (B.2.2.2.2.2.1 _ hst) (B.2.2.2.2.2.1 _ hini) (B.2.2.2.2.2.1 _ hcode) (Nat.le_trans hf1 B.2.2.2.2.2.2.2.2.1) (Nat.le_trans hlo B.2.2.2.2.2.2.2.2.2) (by omega) (by omega) d (kk p e R s m args below meth cd H locs cells slots ar Z B S P F L c1 c2 K)
theorem pw_oinit {i a : Nat} (d : decode (mB M) pc = .ok (.invokespecial i, 3)) (hl : Cond.methodLink (mY M).cls i objectInit ∈ pw_Tb) (hin : Cond.instanceMethod objectInit ∈ pw_Tb) (hcode : Cond.code objectInit ⟨#[0xb1]⟩ 1 none ∈ pw_Tb) (hf1 : 1 ≤ mF M) (hlo : (st.map fun v => v.category).sum + 12 ≤ mLo M) (kk : PW X M b1 b2 (pc + 3) ls st σ μ Q) : PW X M b1 b2 pc ls (.ref a :: st) σ μ Q :=
  fun p e R s m args below meth cd H locs cells slots ar Z B S P F L c1 c2 K => W.objInit B.1 B.2.1 B.2.2.2.2.1 (B.2.2.2.2.2.1 _ hl) (B.2.2.2.2.2.1 _ hin) (B.2.2.2.2.2.1 _ hcode) rfl (L.1.trans B.2.2.2.1.symm) rfl d (Nat.le_trans hf1 B.2.2.2.2.2.2.2.2.1) (by show 2 * 0 + _ + 12 ≤ _; exact Nat.le_trans (by omega) B.2.2.2.2.2.2.2.2.2) (kk p e R s m args below meth cd H locs cells slots ar Z B S P F L c1 c2 K)
end PWM
