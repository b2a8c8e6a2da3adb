/-! Constructors: what stays as it is -/
theorem pw_genA {X : Cx} {M : Mt} {b1 b2 pc : Nat} {ls : List (Option Value)} {st0 : List Value} {σ : Sp} {μ : Mm} {Q : Option Value → Sp → Mm → Prop} {P : Sp → Mm → Prop} (h : P σ μ) (k : ∀ σ' μ', P σ' μ' → PW X M b1 b2 pc ls st0 σ' μ' Q) : PW X M b1 b2 pc ls st0 σ μ Q := k σ μ h
def SEq (σ σ' : Sp) (c : Nat) : Prop := tg σ' c = tg σ c ∧ ln σ' c = ln σ c ∧ rf σ' c = rf σ c
theorem SEq.rfl' {σ : Sp} {c : Nat} : SEq σ σ c := ⟨rfl, rfl, rfl⟩
theorem SEq.tr {σ σ' σ'' : Sp} {c : Nat} (h : SEq σ σ' c) (k : SEq σ' σ'' c) : SEq σ σ'' c := ⟨k.1.trans h.1, k.2.1.trans h.2.1, k.2.2.trans h.2.2⟩
theorem seqN {σ : Sp} {B t l c : Nat} (h : c ≠ B + nn σ) : SEq σ (wN σ B t l) c := ⟨wN_tg_ne h, wN_ln_ne h, wN_rf_ne h⟩
theorem seqR {σ : Sp} {a k c : Nat} {v : Option Nat} (h : c ≠ a) : SEq σ (wR σ a k v) c := ⟨rfl, rfl, if_neg h⟩
theorem wR_s {σ : Sp} {a k : Nat} {v : Option Nat} : rf (wR σ a k v) a k = v := by
  show (if a = a then va_up (rf σ a) k v else rf σ a) k = v
  rw [if_pos rfl]
  exact if_pos rfl
theorem wR_n {σ : Sp} {a k j : Nat} {v : Option Nat} (h : j ≠ k) : rf (wR σ a k v) a j = rf σ a j := by
  show (if a = a then va_up (rf σ a) k v else rf σ a) j = _
  rw [if_pos rfl]
  exact if_neg h
def OLD (a : Nat) (σ : Sp) (μ : Mm) (σ' : Sp) (μ' : Mm) : Prop := ∀ c, c < a → SEq σ σ' c ∧ μ' c = μ c
theorem OLD.rf {a : Nat} {σ : Sp} {μ : Mm} : OLD a σ μ σ μ := fun _ _ => ⟨SEq.rfl', rfl⟩
theorem OLD.n {a b B t l : Nat} {σ σ' : Sp} {μ μ' : Mm} {f : Nat → Int32} (h : OLD a σ μ σ' μ') (hb : b = B + nn σ') (hab : a ≤ b) : OLD a σ μ (wN σ' B t l) (wC μ' b f) := fun c hc => ⟨(h c hc).1.tr (seqN (by omega)), (wC_ne _ _ (by omega)).trans (h c hc).2⟩
theorem OLD.r {a b k : Nat} {v : Option Nat} {σ σ' : Sp} {μ μ' : Mm} (h : OLD a σ μ σ' μ') (hab : a ≤ b) : OLD a σ μ (wR σ' b k v) μ' := fun c hc => ⟨(h c hc).1.tr (seqR (by omega)), (h c hc).2⟩
theorem OLD.w {a b k : Nat} {x : Int32} {σ σ' : Sp} {μ μ' : Mm} (h : OLD a σ μ σ' μ') (hab : a ≤ b) : OLD a σ μ σ' (wr μ' b k x) := fun c hc => ⟨(h c hc).1, (wr_n _ _ _ (by omega)).trans (h c hc).2⟩
theorem OLD.c {a b : Nat} {σ σ' σ'' : Sp} {μ μ' μ'' : Mm} (h : OLD a σ μ σ' μ') (k : OLD b σ' μ' σ'' μ'') (hab : a ≤ b) : OLD a σ μ σ'' μ'' := fun c hc => ⟨(h c hc).1.tr (k c (by omega)).1, (k c (by omega)).2.trans (h c hc).2⟩
theorem ShA.cg {σ σ' : Sp} {a t l : Nat} (h : ShA σ a t l) (e : SEq σ σ' a) : ShA σ' a t l := ⟨e.1.trans h.1, e.2.1.trans h.2⟩
theorem rf_cg {σ σ' : Sp} {a k : Nat} {v : Option Nat} (h : rf σ a k = v) (e : SEq σ σ' a) : rf σ' a k = v := (congrFun e.2.2 k).trans h
theorem ShSt.cg {σ σ' : Sp} {a : Nat} (h : ShSt σ a) (e : ∀ c, a ≤ c → c < a + 7 → SEq σ σ' c) : ShSt σ' a := by
  have e0 := e a (by omega) (by omega)
  have e1 := e (a + 1) (by omega) (by omega)
  have e5 := e (a + 5) (by omega) (by omega)
  exact ⟨e0.1.trans h.t, rf_cg h.r1 e0, rf_cg h.r2 e0, ⟨e1.1.trans h.w, rf_cg h.w0 e1, rf_cg h.w1 e1, rf_cg h.w2 e1⟩, h.n.cg (e _ (by omega) (by omega)), h.x.cg (e _ (by omega) (by omega)), h.y.cg (e _ (by omega) (by omega)), ⟨e5.1.trans h.l, rf_cg h.l0 e5⟩, h.f.cg (e _ (by omega) (by omega))⟩
theorem ShBus.cg {σ σ' : Sp} {b : Nat} (h : ShBus σ b) (e : ∀ c, b ≤ c → c < b + 62 → SEq σ σ' c) : ShBus σ' b := by
  have e0 := e b (by omega) (by omega)
  have hs : ∀ i, i < 8 → b + 6 ≤ st b i ∧ st b i + 7 ≤ b + 62 := fun i hi => by unfold st; omega
  exact ⟨⟨e0.1.trans h.t, rf_cg h.r0 e0, rf_cg h.r1 e0, rf_cg h.r2 e0, rf_cg h.r3 e0, rf_cg h.r4 e0⟩, h.a1.cg (e _ (by omega) (by omega)), h.a2.cg (e _ (by omega) (by omega)), h.a3.cg (e _ (by omega) (by omega)), h.a4.cg (e _ (by omega) (by omega)), h.a5.cg (e _ (by omega) (by omega)), fun i hi => ⟨rf_cg (h.s hi) (e _ (by omega) (by omega)), (h.S hi).cg (fun c h1 h2 => e c (by have := hs i hi; omega) (by have := hs i hi; omega))⟩⟩
theorem ShPad.cg {σ σ' : Sp} {p : Nat} (h : ShPad σ p) (e : ∀ c, p ≤ c → c < p + 2 → SEq σ σ' c) : ShPad σ' p := ⟨(e p (by omega) (by omega)).1.trans h.t, rf_cg h.r0 (e p (by omega) (by omega)), h.a.cg (e _ (by omega) (by omega))⟩
theorem ShHist.cg {σ σ' : Sp} {b : Nat} (h : ShHist σ b) (e : ∀ c, b ≤ c → c < b + 436 → SEq σ σ' c) : ShHist σ' b := by
  have e0 := e b (by omega) (by omega)
  exact ⟨e0.1.trans h.t, rf_cg h.r0 e0, h.a.cg (e _ (by omega) (by omega)), fun j hj => ⟨rf_cg (h.s hj) (e _ (by omega) (by omega)), (h.B hj).cg (fun c h1 h2 => e c (by have := hb_in (hh := b) hj; omega) (by have := hb_in (hh := b) hj; omega))⟩⟩
theorem ShX.cg {σ σ' : Sp} {o : Nat} (h : ShX σ o) (e : ∀ c, o ≤ c → c < o + 565 → c ≠ o + 561 → SEq σ σ' c) (e1 : tg σ' (o + 561) = tg σ (o + 561)) (e2 : ln σ' (o + 561) = ln σ (o + 561)) : ShX σ' o := by
  have e0 := e o (by omega) (by omega) (by omega)
  have e4 := e (o + 564) (by omega) (by omega) (by omega)
  have hp : ShPad σ' (o + 562) := h.pad.cg (fun c h1 h2 => e c (by omega) (by omega) (by omega))
  exact ⟨⟨e0.1.trans h.t, rf_cg h.r0 e0, rf_cg h.r1 e0, rf_cg h.r2 e0, rf_cg h.r3 e0, rf_cg h.r4 e0, rf_cg h.r5 e0⟩, h.now.cg (fun c h1 h2 => e c (by omega) (by omega) (by omega)), h.trial.cg (fun c h1 h2 => e c (by omega) (by omega) (by omega)), h.hist.cg (fun c h1 h2 => e c (by omega) (by omega) (by omega)), ⟨e1.trans h.slots.1, e2.trans h.slots.2⟩, hp, ⟨e4.1.trans h.rd.t, rf_cg h.rd.r0 e4, hp⟩⟩
theorem ShM.cg {σ σ' : Sp} {m : Nat} (h : ShM σ m) (e : ∀ c, m ≤ c → c < m + 9 → SEq σ σ' c) : ShM σ' m := by
  have e0 := e m (by omega) (by omega)
  exact ⟨⟨e0.1.trans h.t, rf_cg h.r0 e0, rf_cg h.r1 e0, rf_cg h.r3 e0, rf_cg h.r4 e0, rf_cg h.r5 e0, rf_cg h.r6 e0, rf_cg h.r8 e0, rf_cg h.r9 e0⟩, h.a1.cg (e _ (by omega) (by omega)), h.a2.cg (e _ (by omega) (by omega)), h.a3.cg (e _ (by omega) (by omega)), h.a4.cg (e _ (by omega) (by omega)), h.a5.cg (e _ (by omega) (by omega)), h.a6.cg (e _ (by omega) (by omega)), h.a7.cg (e _ (by omega) (by omega)), h.a8.cg (e _ (by omega) (by omega))⟩
section PWI
variable {X : Cx} {M : Mt} {b1 b2 pc : Nat} {ls : List (Option Value)} {st : List Value} {σ : Sp} {μ : Mm} {Q : Option Value → Sp → Mm → Prop}
theorem pw_cI0 {M' : Mt} {i a b1' b2' : Nat} {rest : List Value} (d : decode (mB M) pc = .ok (.invokespecial i, 3)) (hl : Cond.methodLink (mY M).cls i (mY M') ∈ pw_Tb) (hv : MV M' 0) (hi : Cond.instanceMethod (mY M') ∈ pw_Tb) (hret : mRet M' = none) (hy : (mY M').name = "<init>") (hR : MR M M') (hrest : (rest.map fun v => v.category).sum ≤ 8) (hb1 : b1' + mCe M' ≤ b1) (hb2 : b2' + mSl M' ≤ b2)
    (h : CTv X M' [.ref a] σ μ (fun σ' μ' => PW X M b1' b2' (pc + 3) ls rest σ' μ' Q)) : PW X M b1 b2 pc ls (.ref a :: rest) σ μ Q :=
  pw_callI (As := []) d hl hv hi hret hy hR rfl hrest hb1 hb2 h (fun r σ' μ' ⟨hr, hq⟩ => by subst hr; exact hq)
theorem pw_cI1 {M' : Mt} {i a b1' b2' : Nat} {a1 : Value} {rest : List Value} (d : decode (mB M) pc = .ok (.invokespecial i, 3)) (hl : Cond.methodLink (mY M).cls i (mY M') ∈ pw_Tb) (hv : MV M' 1) (hi : Cond.instanceMethod (mY M') ∈ pw_Tb) (hret : mRet M' = none) (hy : (mY M').name = "<init>") (hR : MR M M') (hrest : (rest.map fun v => v.category).sum ≤ 8) (hb1 : b1' + mCe M' ≤ b1) (hb2 : b2' + mSl M' ≤ b2)
    (h : CTv X M' [.ref a, a1] σ μ (fun σ' μ' => PW X M b1' b2' (pc + 3) ls rest σ' μ' Q)) : PW X M b1 b2 pc ls (a1 :: .ref a :: rest) σ μ Q :=
  pw_callI (As := [a1]) d hl hv hi hret hy hR rfl hrest hb1 hb2 h (fun r σ' μ' ⟨hr, hq⟩ => by subst hr; exact hq)
theorem pw_cIN0 {M' : Mt} {i a b1' b2' : Nat} {rest : List Value} (d : decode (mB M) pc = .ok (.invokespecial i, 3)) (hl : Cond.methodLinkNest (mY M).cls i (mY M') RX7 ∈ pw_nest) (hv : MV M' 0) (hi : Cond.instanceMethod (mY M') ∈ pw_Tb) (hret : mRet M' = none) (hy : (mY M').name = "<init>") (hR : MR M M') (hrest : (rest.map fun v => v.category).sum ≤ 8) (hb1 : b1' + mCe M' ≤ b1) (hb2 : b2' + mSl M' ≤ b2)
    (h : CTv X M' [.ref a] σ μ (fun σ' μ' => PW X M b1' b2' (pc + 3) ls rest σ' μ' Q)) : PW X M b1 b2 pc ls (.ref a :: rest) σ μ Q :=
  pw_callIN (As := []) d hl hv hi hret hy hR rfl hrest hb1 hb2 h (fun r σ' μ' ⟨hr, hq⟩ => by subst hr; exact hq)
end PWI
