/-! What the class's small methods answer of a station of a bus -/
theorem pw_gen {X : Cx} {M : Mt} {b1 b2 pc : Nat} {ls : List (Option Value)} {st0 : List Value} {σ : Sp} {μ : Mm} {Q : Option Value → Sp → Mm → Prop} {P : Mm → Prop} (h : P μ) (k : ∀ μ', P μ' → PW X M b1 b2 pc ls st0 σ μ' Q) : PW X M b1 b2 pc ls st0 σ μ Q := k μ h
theorem BU.s0 {μ0 μ : Mm} {b i : Nat} {B : Bs} (h : BU μ0 b B μ) (hi : i < 8) : μ (st b i) 0 = nI i := (h.2.2 i hi).1
theorem BU.s3 {μ0 μ : Mm} {b i : Nat} {B : Bs} (h : BU μ0 b B μ) (hi : i < 8) : μ (st b i) 3 = bS B i 0 := (h.2.2 i hi).2.1
theorem BU.s4 {μ0 μ : Mm} {b i : Nat} {B : Bs} (h : BU μ0 b B μ) (hi : i < 8) : μ (st b i) 4 = bS B i 1 := (h.2.2 i hi).2.2.1
theorem BU.s5 {μ0 μ : Mm} {b i : Nat} {B : Bs} (h : BU μ0 b B μ) (hi : i < 8) : μ (st b i) 5 = bS B i 2 := (h.2.2 i hi).2.2.2.1
theorem BU.s6 {μ0 μ : Mm} {b i : Nat} {B : Bs} (h : BU μ0 b B μ) (hi : i < 8) : μ (st b i) 6 = bS B i 3 := (h.2.2 i hi).2.2.2.2.1
theorem BU.sil0 {μ0 μ : Mm} {b i : Nat} {B : Bs} (h : BU μ0 b B μ) (hi : i < 8) (q : nS B ≤ i ∨ bS B i 17 = -6) : μ (st b i) 7 = -1 ∧ μ (st b i) 8 = nI 0 ∧ μ (st b i) 9 = nI 0 := (h.2.2 i hi).2.2.2.2.2.1 q
theorem BU.spk0 {μ0 μ : Mm} {b i : Nat} {B : Bs} (h : BU μ0 b B μ) (hi : i < 8) (q : i < nS B) (q2 : bS B i 17 ≠ -6) : μ (st b i) 7 = bS B i 17 ∧ μ (st b i) 8 = nI 1 <<< (bS B i 6 &&& 31) ∧ μ (st b i) 9 = (nI i <<< (nI 8 &&& 31)) ||| bS B i 5 := (h.2.2 i hi).2.2.2.2.2.2.1 q q2
theorem BU.s10 {μ0 μ : Mm} {b i : Nat} {B : Bs} (h : BU μ0 b B μ) (hi : i < 8) : μ (st b i) 10 = bS B i 18 := (h.2.2 i hi).2.2.2.2.2.2.2.1
theorem BU.s11 {μ0 μ : Mm} {b i : Nat} {B : Bs} (h : BU μ0 b B μ) (hi : i < 8) : μ (st b i) 11 = bS B i 19 := (h.2.2 i hi).2.2.2.2.2.2.2.2.1
theorem BU.s12 {μ0 μ : Mm} {b i : Nat} {B : Bs} (h : BU μ0 b B μ) (hi : i < 8) : μ (st b i) 12 = bS B i 20 := (h.2.2 i hi).2.2.2.2.2.2.2.2.2.1
theorem BU.s13 {μ0 μ : Mm} {b i : Nat} {B : Bs} (h : BU μ0 b B μ) (hi : i < 8) : μ (st b i) 13 = bS B i 21 := (h.2.2 i hi).2.2.2.2.2.2.2.2.2.2.1
theorem BU.s14 {μ0 μ : Mm} {b i : Nat} {B : Bs} (h : BU μ0 b B μ) (hi : i < 8) : μ (st b i) 14 = bS B i 22 := (h.2.2 i hi).2.2.2.2.2.2.2.2.2.2.2.1
theorem BU.sl {μ0 μ : Mm} {b i : Nat} {B : Bs} (h : BU μ0 b B μ) (hi : i < 8) : μ (st b i + 1) 3 = bS B i 4 := (h.2.2 i hi).2.2.2.2.2.2.2.2.2.2.2.2.1
theorem BU.sn {μ0 μ : Mm} {b i r : Nat} {B : Bs} (h : BU μ0 b B μ) (hi : i < 8) (hr : r < 4) : μ (st b i + 2) r = bS B i (5 + 3 * r) := (h.2.2 i hi).2.2.2.2.2.2.2.2.2.2.2.2.2.1 r hr
theorem BU.sx {μ0 μ : Mm} {b i r : Nat} {B : Bs} (h : BU μ0 b B μ) (hi : i < 8) (hr : r < 4) : μ (st b i + 3) r = bS B i (6 + 3 * r) := (h.2.2 i hi).2.2.2.2.2.2.2.2.2.2.2.2.2.2.1 r hr
theorem BU.sy {μ0 μ : Mm} {b i r : Nat} {B : Bs} (h : BU μ0 b B μ) (hi : i < 8) (hr : r < 4) : μ (st b i + 4) r = bS B i (7 + 3 * r) := (h.2.2 i hi).2.2.2.2.2.2.2.2.2.2.2.2.2.2.2.1 r hr
theorem BU.sk {μ0 μ : Mm} {b i : Nat} {B : Bs} (h : BU μ0 b B μ) (hi : i < 8) : μ (st b i + 5) 1 = bS B i 23 := (h.2.2 i hi).2.2.2.2.2.2.2.2.2.2.2.2.2.2.2.2.1
theorem BU.sf {μ0 μ : Mm} {b i k : Nat} {B : Bs} (h : BU μ0 b B μ) (hi : i < 8) (hk : k < 16) : μ (st b i + 6) k = bS B i (24 + k) := (h.2.2 i hi).2.2.2.2.2.2.2.2.2.2.2.2.2.2.2.2.2 k hk
theorem BU.g {μ0 μ : Mm} {b k : Nat} {B : Bs} (h : BU μ0 b B μ) (hk : k < 5) : μ (b + 1) k = bG B k := h.2.1.1 k hk
theorem BU.w0 {μ0 μ : Mm} {b v : Nat} {B : Bs} (h : BU μ0 b B μ) (hv : v < 6) : μ (b + 2) v = bW B v 0 := (h.2.1.2.1 v hv).1
theorem BU.w2 {μ0 μ : Mm} {b v : Nat} {B : Bs} (h : BU μ0 b B μ) (hv : v < 6) : μ (b + 3) v = bW B v 2 := (h.2.1.2.1 v hv).2.1
theorem BU.w3 {μ0 μ : Mm} {b v : Nat} {B : Bs} (h : BU μ0 b B μ) (hv : v < 6) : μ (b + 4) v = bW B v 3 := (h.2.1.2.1 v hv).2.2
theorem BU.n {μ0 μ : Mm} {b n : Nat} {B : Bs} (h : BU μ0 b B μ) (w : WF B) (hn : nS B = n) : μ b 5 = nI n := by rw [h.2.1.2.2.1, w.hn, hn]
theorem BU.f {μ0 μ : Mm} {b : Nat} {B : Bs} (h : BU μ0 b B μ) : μ b 6 = msk (fun v => bW B v 1 = nI 1) 6 := h.2.1.2.2.2.1
theorem BU.b {μ0 μ : Mm} {b : Nat} {B : Bs} (h : BU μ0 b B μ) : μ b 7 = bG B 5 := h.2.1.2.2.2.2
/-- words in a row, also of one that has not come -/
theorem WF.w {B : Bs} {i : Nat} (h : WF B) (hi : i < 8) : bS B i 4 = nI (nwF (bS B i)) ∧ nwF (bS B i) ≤ 4 := by
  rcases Nat.lt_or_ge i (nS B) with q | q
  · exact (h.s q).w
  · have e : bS B i 4 = nI 0 := h.dead q hi (by omega)
    have e2 : nwF (bS B i) = 0 := nw_of e (by omega)
    rw [e2]
    exact ⟨e, by omega⟩
def nkF (f : Nat → Int32) : Nat := (f 23).toNatClampNeg
theorem WF.k {B : Bs} {i : Nat} (h : WF B) (hi : i < 8) : bS B i 23 = nI (nkF (bS B i)) ∧ nkF (bS B i) ≤ 4 ∧ ∀ j, 24 + 4 * nkF (bS B i) ≤ j → j < 40 → bS B i j = nI 0 := by
  rcases Nat.lt_or_ge i (nS B) with q | q
  · obtain ⟨k, k1, k2, k3⟩ := (h.s q).2.2.1
    have e : nkF (bS B i) = k := by unfold nkF; rw [k2, nI_clamp (by omega)]
    rw [e]
    exact ⟨k2, k1, k3⟩
  · have e : bS B i 23 = nI 0 := h.dead q hi (by omega)
    have e2 : nkF (bS B i) = 0 := by unfold nkF; rw [e, nI_clamp (by omega)]
    rw [e2]
    exact ⟨e, by omega, fun j _ hj => h.dead q hi hj⟩
theorem m6_ne {k : Nat} (h : k ≤ 20) : nI k ≠ -6 := by
  intro e
  have := congrArg Int32.toInt e
  rw [nI_toInt (by omega)] at this
  have e2 : (-6 : Int32).toInt = -6 := by decide
  omega
theorem m1_ne {k : Nat} (h : k ≤ 20) : nI k ≠ -1 := by
  intro e
  have := congrArg Int32.toInt e
  rw [nI_toInt (by omega)] at this
  have e2 : (-1 : Int32).toInt = -1 := by decide
  omega
theorem BU.spk {μ0 μ : Mm} {b i : Nat} {B : Bs} (h : BU μ0 b B μ) (w : WF B) (hi : i < nS B) : μ (st b i) 7 ≠ -1 ↔ spB B i := by
  have h8 := w.n8
  constructor
  · intro q e
    exact q (h.sil0 (by omega) (Or.inr e)).1
  · intro q
    obtain ⟨-, k, k1, k2⟩ := (w.s hi).sp q
    rw [(h.spk0 (by omega) hi q).1, k2]
    exact m1_ne (by omega)
theorem bt_nat {x j : Nat} (hj : j < 32) : bt (nI x) j = x.testBit j := by
  show (BitVec.ofNat 32 x).getLsbD j = _
  rw [BitVec.getLsbD_ofNat, decide_eq_true hj, Bool.true_and]
theorem bit_eq {i x k : Nat} (hi : i < 8) (hx : x < 256) (hk : k ≤ 10) : bi ((nI i <<< (nI 8 &&& 31)) ||| nI x) (nI 10 - nI k) = if nI k < nI 3 then bi (nI i) (nI 2 - nI k) else bi (nI x) (nI 10 - nI k) := by
  rw [pk_sub hk, bi_if _ (by omega), b_or, b_shl 8 (by omega) _ (by omega), bt_nat (x := x) (by omega)]
  rcases Nat.lt_or_ge k 3 with h | h
  · rw [if_pos (nI_lt h (by omega)), pk_sub (by omega), bi_if _ (by omega), decide_eq_true (by omega), Bool.true_and, show 10 - k - 8 = 2 - k by omega]
    have e : x.testBit (10 - k) = false := Nat.testBit_lt_two_pow (Nat.lt_of_lt_of_le hx (Nat.pow_le_pow_right (n := 2) (by decide) (show 8 ≤ 10 - k by omega)))
    rw [e, Bool.or_false]
  · rw [if_neg (nI_nlt h (by omega)), bi_if _ (by omega), decide_eq_false (by omega), Bool.false_and, Bool.false_or, bt_nat (by omega)]
theorem BU.bit {μ0 μ : Mm} {b i : Nat} {B : Bs} (h : BU μ0 b B μ) (w : WF B) (hi : i < nS B) (hs : spB B i) : bi (μ (st b i) 9) (nI 10 - μ (st b i) 7) = btB B i := by
  have h8 := w.n8
  obtain ⟨h0, k, k1, k2⟩ := (w.s hi).sp hs
  obtain ⟨⟨x, x1, x2⟩, -⟩ := (w.s hi).word h0
  obtain ⟨e7, -, e9⟩ := h.spk0 (by omega) hi hs
  unfold btB
  rw [e7, e9, k2, show bS B i 5 = nI x from x2]
  exact bit_eq (by omega) x1 k1
/-- words for a wire -/
noncomputable def wcB (B : Bs) (i : Nat) (x : Int32) : Nat := cntP (fun r => bS B i (6 + 3 * r) = x) (nwF (bS B i))
theorem cntF_eq {g f : Nat → Int32} {x : Int32} : ∀ {n : Nat}, (∀ r, r < n → g r = f (6 + 3 * r)) → cntF g x n = cntP (fun r => f (6 + 3 * r) = x) n
  | 0, _ => rfl
  | n + 1, h => by
    have ih := cntF_eq (x := x) (n := n) fun r hr => h r (by omega)
    unfold cntF
    rw [ih, h n (by omega)]
    by_cases e : f (6 + 3 * n) = x
    · rw [if_pos e, cntP_y e]
    · rw [if_neg e, cntP_n e]
      rfl
section KST
variable {X : Cx} {σ : Sp} {μ0 μ : Mm} {b i : Nat} {B : Bs}
theorem k_isAwake {Q : Int32 → Sp → Mm → Prop} (h : ShBus σ b) (hb : BU μ0 b B μ) (hi : i < 8) (q1 : awB B i → Q (nI 1) σ μ) (q0 : ¬ awB B i → Q (nI 0) σ μ) : CTi X mX6_isAwake [.ref (st b i)] σ μ Q :=
  c_X6_isAwake (h.S hi) (fun e1 e2 => q1 ⟨(hb.s5 hi).symm.trans e1, (hb.s6 hi).symm.trans e2⟩) (fun e => q0 fun k => e ⟨(hb.s5 hi).trans k.1, (hb.s6 hi).trans k.2⟩)
theorem k_isSpeaking {Q : Int32 → Sp → Mm → Prop} (h : ShBus σ b) (hb : BU μ0 b B μ) (w : WF B) (hi : i < nS B) (q1 : spB B i → Q (nI 1) σ μ) (q0 : ¬ spB B i → Q (nI 0) σ μ) : CTi X mX6_isSpeaking [.ref (st b i)] σ μ Q :=
  c_X6_isSpeaking (h.S (Nat.lt_of_lt_of_le hi w.n8)) (fun e => q1 ((hb.spk w hi).mp e)) (fun e => q0 fun k => (hb.spk w hi).mpr k e)
theorem k_isAt {Q : Int32 → Sp → Mm → Prop} {x : Int32} (h : ShBus σ b) (hb : BU μ0 b B μ) (hi : i < 8) (q1 : atB B i x → Q (nI 1) σ μ) (q0 : ¬ atB B i x → Q (nI 0) σ μ) : CTi X mX6_isAt [.ref (st b i), .int x] σ μ Q :=
  c_X6_isAt (h.S hi) (fun e => q1 (by rw [hb.s3 hi] at e; exact e)) (fun e => q0 (by rw [hb.s3 hi] at e; exact e))
theorem k_letsGo {Q : Int32 → Sp → Mm → Prop} (h : ShBus σ b) (hb : BU μ0 b B μ) (w : WF B) (hi : i < nS B) (hs : spB B i) (q1 : btB B i = nI 1 → Q (nI 1) σ μ) (q0 : btB B i ≠ nI 1 → Q (nI 0) σ μ) : CTi X mX6_letsGo [.ref (st b i)] σ μ Q :=
  c_X6_letsGo (h.S (Nat.lt_of_lt_of_le hi w.n8)) (fun e => q1 (by rw [hb.bit w hi hs] at e; exact e)) (fun e => q0 (by rw [hb.bit w hi hs] at e; exact e))
theorem k_numberAt {Q : Int32 → Sp → Mm → Prop} {e : Nat} (h : ShBus σ b) (hb : BU μ0 b B μ) (w : WF B) (hi : i < 8) (he : e < 2 ^ 31) (q1 : e < nwF (bS B i) → Q (bS B i (5 + 3 * e)) σ μ) (q0 : nwF (bS B i) ≤ e → Q (-6) σ μ) : CTi X mX5_numberAt [.ref (st b i + 1), .int (nI e)] σ μ Q :=
  c_X5_numberAt (h.S hi) ((hb.sl hi).trans (w.w hi).1) (w.w hi).2 he (fun k => by rw [hb.sn hi (Nat.lt_of_lt_of_le k (w.w hi).2)]; exact q1 k) q0
theorem k_wireAt {Q : Int32 → Sp → Mm → Prop} {e : Nat} (h : ShBus σ b) (hb : BU μ0 b B μ) (w : WF B) (hi : i < 8) (he : e < 2 ^ 31) (q1 : e < nwF (bS B i) → Q (bS B i (6 + 3 * e)) σ μ) (q0 : nwF (bS B i) ≤ e → Q (-6) σ μ) : CTi X mX5_wireAt [.ref (st b i + 1), .int (nI e)] σ μ Q :=
  c_X5_wireAt (h.S hi) ((hb.sl hi).trans (w.w hi).1) (w.w hi).2 he (fun k => by rw [hb.sx hi (Nat.lt_of_lt_of_le k (w.w hi).2)]; exact q1 k) q0
theorem k_triesAt {Q : Int32 → Sp → Mm → Prop} {e : Nat} (h : ShBus σ b) (hb : BU μ0 b B μ) (w : WF B) (hi : i < 8) (he : e < 2 ^ 31) (q1 : e < nwF (bS B i) → Q (bS B i (7 + 3 * e)) σ μ) (q0 : nwF (bS B i) ≤ e → Q (-6) σ μ) : CTi X mX5_triesAt [.ref (st b i + 1), .int (nI e)] σ μ Q :=
  c_X5_triesAt (h.S hi) ((hb.sl hi).trans (w.w hi).1) (w.w hi).2 he (fun k => by rw [hb.sy hi (Nat.lt_of_lt_of_le k (w.w hi).2)]; exact q1 k) q0
theorem k_has {Q : Int32 → Sp → Mm → Prop} {x : Int32} (h : ShBus σ b) (hb : BU μ0 b B μ) (w : WF B) (hi : i < 8) (q1 : ∀ j, x = nI j → j < nwF (bS B i) → Q (nI 1) σ μ) (q0 : (∀ j, j < nwF (bS B i) → x ≠ nI j) → Q (nI 0) σ μ) : CTi X mX5_has [.ref (st b i + 1), .int x] σ μ Q :=
  c_X5_has (h.S hi) ((hb.sl hi).trans (w.w hi).1) (w.w hi).2 q1 q0
theorem k_number0 {Q : Int32 → Sp → Mm → Prop} (h : ShBus σ b) (hb : BU μ0 b B μ) (w : WF B) (hi : i < 8) (h0 : 0 < nwF (bS B i)) (q1 : Q (bS B i 5) σ μ) : CTi X mX5_numberAt [.ref (st b i + 1), .int (nI 0)] σ μ Q :=
  k_numberAt h hb w hi (by decide) (fun _ => q1) (fun k => absurd k (by omega))
theorem k_wire0 {Q : Int32 → Sp → Mm → Prop} (h : ShBus σ b) (hb : BU μ0 b B μ) (w : WF B) (hi : i < 8) (h0 : 0 < nwF (bS B i)) (q1 : Q (bS B i 6) σ μ) : CTi X mX5_wireAt [.ref (st b i + 1), .int (nI 0)] σ μ Q :=
  k_wireAt h hb w hi (by decide) (fun _ => q1) (fun k => absurd k (by omega))
theorem k_countFor {Q : Int32 → Sp → Mm → Prop} {x : Int32} (h : ShBus σ b) (hb : BU μ0 b B μ) (w : WF B) (hi : i < 8) (q : Q (nI (wcB B i x)) σ μ) : CTi X mX5_countFor [.ref (st b i + 1), .int x] σ μ Q :=
  c_X5_countFor (h.S hi) ((hb.sl hi).trans (w.w hi).1) (w.w hi).2 (by rw [cntF_eq (f := bS B i) fun r hr => hb.sx hi (Nat.lt_of_lt_of_le hr (w.w hi).2)]; exact q)
theorem k_tryFirst {Q : Int32 → Sp → Mm → Prop} {w : Nat} (h : ShBus σ b) (hb : BU μ0 b B μ) (hi : i < 8) (hw : bS B i 4 = nI w) (hw4 : w ≤ 4) (h0 : 0 < w) (q : ∀ μ', BU μ0 b (setS B i (upd (bS B i) 7 (bS B i 7 + nI 1))) μ' → Q (bS B i 7 + nI 1) σ μ') : CTi X mX5_tryFirst [.ref (st b i + 1)] σ μ Q :=
  c_X5_tryFirst (h.S hi) ((hb.sl hi).trans hw) hw4 h0 (by rw [hb.sy hi (show 0 < 4 by omega)]; exact q _ (hb.try hi))
theorem k_fallSilent {Q : Sp → Mm → Prop} (h : ShBus σ b) (hb : BU μ0 b B μ) (hi : i < 8) (q : ∀ μ', BU μ0 b (setS B i (qtF (bS B i))) μ' → Q σ μ') : CTv X mX6_fallSilent [.ref (st b i)] σ μ Q :=
  c_X6_fallSilent (h.S hi) (q _ (hb.sil hi))
theorem k_dropFirst {Q : Sp → Mm → Prop} {w : Nat} (h : ShBus σ b) (hb : BU μ0 b B μ) (hi : i < 8) (hw : bS B i 4 = nI w) (hw4 : w ≤ 4) (h0 : 0 < w) (h17 : bS B i 17 = -6) (h18 : bS B i 18 = nI 0) (q : ∀ μ', BU μ0 b (setS B i (lvF (bS B i))) μ' → Q σ μ') : CTv X mX5_dropFirst [.ref (st b i + 1)] σ μ Q :=
  c_X5_dropFirst (h.S hi) ((hb.sl hi).trans hw) hw4 h0 (q _ (hb.drop hi hw hw4 h0 h17 h18))
theorem k_begin {Q : Sp → Mm → Prop} {x y : Int32} (h : ShBus σ b) (hb : BU μ0 b B μ) (w : WF B) (hi : i < nS B) (h0 : 0 < nwF (bS B i)) (hx : bS B i 6 = x) (q : ∀ μ', BU μ0 b (setS B i (upd (upd (bS B i) 17 (nI 0)) 18 y)) μ' → Q σ μ') : CTv X mX6_begin [.ref (st b i), .int x, .int y] σ μ Q := by
  subst hx
  have h8 := w.n8
  have hi8 : i < 8 := by omega
  refine c_X6_begin (h.S hi8) ((hb.sl hi8).trans (w.w hi8).1) (w.w hi8).2 h0 ?_
  rw [hb.sn hi8 (show 0 < 4 by omega)]
  exact q _ (hb.beg hi8 hi y)
end KST
