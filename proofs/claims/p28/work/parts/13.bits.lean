/-! Bits of an Int32: the rows bt to b_sshr are a starting text, kit/laws/BITS.to-paste; sets as bits -/
def bt (x : Int32) (i : Nat) : Bool := x.toBitVec.getLsbD i
theorem b_ext {x y : Int32} (h : ∀ i, i < 32 → bt x i = bt y i) : x = y := Int32.toBitVec_inj.mp (BitVec.eq_of_getLsbD_eq (fun i hi => h i hi))
theorem b_or (x y : Int32) (i : Nat) : bt (x ||| y) i = (bt x i || bt y i) := by unfold bt; rw [Int32.toBitVec_or, BitVec.getLsbD_or]
theorem b_and (x y : Int32) (i : Nat) : bt (x &&& y) i = (bt x i && bt y i) := by unfold bt; rw [Int32.toBitVec_and, BitVec.getLsbD_and]
theorem b_xor (x y : Int32) (i : Nat) : bt (x ^^^ y) i = (bt x i ^^ bt y i) := by unfold bt; rw [Int32.toBitVec_xor, BitVec.getLsbD_xor]
theorem b_m1 : ∀ i, i < 32 → bt (-1) i = true := by decide +kernel
theorem b_0 (i : Nat) : bt 0 i = false := BitVec.getLsbD_zero
theorem s_l : ∀ n, n < 32 → ((nI n &&& 31).toBitVec.smod 32).toNat = n := by decide +kernel
theorem b_shl (n : Nat) (hn : n < 32) (x : Int32) {i : Nat} (hi : i < 32) : bt (x <<< (nI n &&& 31)) i = (decide (n ≤ i) && bt x (i - n)) := by
  unfold bt
  rw [Int32.toBitVec_shiftLeft]
  show (x.toBitVec <<< ((nI n &&& 31).toBitVec.smod 32).toNat).getLsbD i = _
  rw [s_l n hn, BitVec.getLsbD_shiftLeft]
  rcases Nat.lt_or_ge i n with h | h
  · simp [h, Nat.not_le.mpr h]
  · simp [hi, h, Nat.not_lt.mpr h]
theorem b_sshr (n : Nat) (hn : n < 32) (x : Int32) {i : Nat} (hi : i < 32) : bt (x >>> (nI n &&& 31)) i = if n + i < 32 then bt x (n + i) else bt x 31 := by
  unfold bt
  rw [Int32.toBitVec_shiftRight]
  show (x.toBitVec.sshiftRight ((nI n &&& 31).toBitVec.smod 32).toNat).getLsbD i = _
  rw [s_l n hn, BitVec.getLsbD_sshiftRight, BitVec.msb_eq_getLsbD_last]
  simp [hi]
theorem b_xm1 (x : Int32) {i : Nat} (hi : i < 32) : bt (x ^^^ (-1)) i = !bt x i := by
  rw [b_xor, b_m1 i hi]
  cases bt x i <;> rfl
theorem b_one : ∀ i, i < 32 → bt (nI 1) i = decide (i = 0) := by decide +kernel
theorem b_sh1 {n i : Nat} (hn : n < 32) (hi : i < 32) : bt (nI 1 <<< (nI n &&& 31)) i = decide (i = n) := by
  rw [b_shl n hn _ hi, b_one _ (by omega)]
  by_cases h : i = n
  · subst h
    simp
  · rw [decide_eq_false h]
    rcases Nat.lt_or_ge i n with h2 | h2
    · rw [decide_eq_false (by omega), Bool.false_and]
    · rw [decide_eq_true h2, Bool.true_and, decide_eq_false (by omega)]
theorem b_and1 (z : Int32) : z &&& nI 1 = if bt z 0 = true then nI 1 else nI 0 := by
  refine b_ext fun i hi => ?_
  rw [b_and, b_one i hi]
  by_cases h : i = 0
  · subst h
    cases hz : bt z 0
    · rw [if_neg (by decide)]
      exact (b_0 0).symm
    · rw [if_pos rfl, b_one 0 (by decide)]
      rfl
  · rw [decide_eq_false h, Bool.and_false]
    split
    · rw [b_one i hi, decide_eq_false h]
    · exact (b_0 i).symm
theorem bi_if (x : Int32) {j : Nat} (hj : j < 32) : bi x (nI j) = if bt x j = true then nI 1 else nI 0 := by
  unfold bi
  rw [b_and1, b_sshr j hj x (by decide), if_pos (show j + 0 < 32 by omega)]
  rfl
theorem bi_01 (x y : Int32) : bi x y = nI 0 ∨ bi x y = nI 1 := by
  unfold bi
  rw [b_and1]
  split
  · exact Or.inr rfl
  · exact Or.inl rfl
theorem bi_1 {x : Int32} {j : Nat} (hj : j < 32) : bi x (nI j) = nI 1 ↔ bt x j = true := by
  rw [bi_if x hj]
  by_cases h : bt x j = true
  · rw [if_pos h]
    exact ⟨fun _ => h, fun _ => rfl⟩
  · rw [if_neg h]
    exact ⟨fun hh => absurd hh (by decide), fun hh => absurd hh h⟩
theorem bi_n1 {x y : Int32} (h : bi x y ≠ nI 1) : bi x y = nI 0 := (bi_01 x y).resolve_right h
theorem bi_n0 {x y : Int32} (h : bi x y ≠ nI 0) : bi x y = nI 1 := (bi_01 x y).resolve_left h
theorem bi_10 {x y : Int32} (h : bi x y = nI 1) : bi x y ≠ nI 0 := by rw [h]; decide
theorem bi_z (j : Nat) (hj : j < 32) : bi (nI 0) (nI j) = nI 0 := by
  rw [bi_if _ hj, if_neg]
  rw [show bt (nI 0) j = false from b_0 j]
  decide
theorem msk_bt {p : Nat → Prop} : ∀ {n : Nat}, n ≤ 31 → ∀ {i : Nat}, i < 32 → (bt (msk p n) i = true ↔ i < n ∧ p i)
  | 0, _, i, _ => ⟨fun h => by (rw [show msk p 0 = 0 from rfl, b_0] at h; cases h), fun h => absurd h.1 (by omega)⟩
  | n + 1, hn, i, hi => by
    have ih := msk_bt (p := p) (n := n) (by omega) hi
    by_cases hp : p n
    · rw [msk_y hp, b_or, b_sh1 (by omega) hi]
      by_cases h : i = n
      · subst h
        simp [hp]
      · rw [decide_eq_false h, Bool.or_false, ih]
        constructor
        · exact fun q => ⟨by omega, q.2⟩
        · exact fun q => ⟨by omega, q.2⟩
    · rw [msk_n hp, ih]
      constructor
      · exact fun q => ⟨by omega, q.2⟩
      · rintro ⟨q1, q2⟩
        refine ⟨?_, q2⟩
        rcases Nat.lt_or_ge i n with h | h
        · exact h
        · have : i = n := by omega
          subst this
          exact absurd q2 hp
theorem msk_of {x : Int32} {p : Nat → Prop} {n : Nat} (hn : n ≤ 31) (h : ∀ i, i < 32 → (bt x i = true ↔ i < n ∧ p i)) : x = msk p n :=
  b_ext fun i hi => Bool.eq_iff_iff.mpr ((h i hi).trans (msk_bt hn hi).symm)
theorem msk_bi {p : Nat → Prop} {n i : Nat} (hn : n ≤ 31) (hi : i < n) : bi (msk p n) (nI i) = nI 1 ↔ p i := by
  rw [bi_1 (by omega), msk_bt hn (by omega)]
  exact ⟨fun h => h.2, fun h => ⟨hi, h⟩⟩
theorem msk_and {p q : Nat → Prop} {n : Nat} (hn : n ≤ 31) : msk p n &&& msk q n = msk (fun i => p i ∧ q i) n := by
  refine msk_of hn fun i hi => ?_
  rw [b_and, Bool.and_eq_true, msk_bt hn hi, msk_bt hn hi]
  exact ⟨fun h => ⟨h.1.1, h.1.2, h.2.2⟩, fun h => ⟨⟨h.1, h.2.1⟩, h.1, h.2.2⟩⟩
theorem and_msk {x : Int32} {p : Nat → Prop} {n : Nat} (hn : n ≤ 31) : x &&& msk p n = msk (fun i => bi x (nI i) = nI 1 ∧ p i) n := by
  refine msk_of hn fun i hi => ?_
  rw [b_and, Bool.and_eq_true, msk_bt hn hi, bi_1 hi]
  exact ⟨fun h => ⟨h.2.1, h.1, h.2.2⟩, fun h => ⟨h.2.1, h.1, h.2.2⟩⟩
theorem msk_or1 {p : Nat → Prop} {n w : Nat} (hn : n ≤ 31) (hw : w < n) : msk p n ||| (nI 1 <<< (nI w &&& 31)) = msk (fun i => p i ∨ w = i) n := by
  refine msk_of hn fun i hi => ?_
  rw [b_or, Bool.or_eq_true, msk_bt hn hi, b_sh1 (by omega) hi, decide_eq_true_iff]
  constructor
  · rintro (h | h)
    · exact ⟨h.1, Or.inl h.2⟩
    · exact ⟨by omega, Or.inr h.symm⟩
  · rintro ⟨h1, h | h⟩
    · exact Or.inl ⟨h1, h⟩
    · exact Or.inr h.symm
theorem msk_x1 {p : Nat → Prop} {n w : Nat} (hn : n ≤ 31) (hw : w < n) : msk p n ^^^ (nI 1 <<< (nI w &&& 31)) = msk (fun i => (w = i ∧ ¬ p i) ∨ (w ≠ i ∧ p i)) n := by
  refine msk_of hn fun i hi => ?_
  rw [b_xor, b_sh1 (by omega) hi]
  by_cases h : i = w
  · subst h
    rw [decide_eq_true rfl]
    have h2 := msk_bt (p := p) hn hi
    cases hb : bt (msk p n) i
    · rw [hb] at h2
      refine ⟨fun _ => ⟨hw, Or.inl ⟨rfl, fun hp => ?_⟩⟩, fun _ => rfl⟩
      exact absurd (h2.mpr ⟨hw, hp⟩) (by decide)
    · rw [hb] at h2
      refine ⟨fun h => (by cases h), ?_⟩
      rintro ⟨_, h | h⟩
      · exact absurd (h2.mp rfl).2 h.2
      · exact absurd rfl h.1
  · rw [decide_eq_false h, Bool.xor_false, msk_bt hn hi]
    exact ⟨fun q => ⟨q.1, Or.inr ⟨Ne.symm h, q.2⟩⟩, fun q => ⟨q.1, q.2.elim (fun r => absurd r.1.symm h) (fun r => r.2)⟩⟩
theorem msk_hi {p q : Nat → Prop} : nI 63 &&& ((msk p 6 ||| msk q 6) ^^^ (-1)) = msk (fun w => ¬ (p w ∨ q w)) 6 := by
  refine msk_of (by decide) fun i hi => ?_
  have h63 : ∀ i, i < 32 → bt (nI 63) i = decide (i < 6) := by decide +kernel
  rw [b_and, b_xm1 _ hi, b_or, h63 i hi, Bool.and_eq_true, decide_eq_true_iff, Bool.not_eq_true', Bool.or_eq_false_iff]
  constructor
  · rintro ⟨h1, h2, h3⟩
    refine ⟨h1, ?_⟩
    rintro (h | h)
    · rw [(msk_bt (by decide) hi).mpr ⟨h1, h⟩] at h2
      cases h2
    · rw [(msk_bt (by decide) hi).mpr ⟨h1, h⟩] at h3
      cases h3
  · rintro ⟨h1, h2⟩
    refine ⟨h1, ?_, ?_⟩
    · exact Bool.eq_false_iff.mpr fun h => h2 (Or.inl ((msk_bt (by decide) hi).mp h).2)
    · exact Bool.eq_false_iff.mpr fun h => h2 (Or.inr ((msk_bt (by decide) hi).mp h).2)
theorem i0_bits {x : Int32} : x = 0 ↔ ∀ i, i < 32 → bt x i = false :=
  ⟨fun h i _ => by rw [h]; exact b_0 i, fun h => b_ext fun i hi => by rw [h i hi]; exact (b_0 i).symm⟩
theorem sh1_msk {p : Nat → Prop} {n w : Nat} (hn : n ≤ 31) (hw : w < n) : (nI 1 <<< (nI w &&& 31)) &&& msk p n = 0 ↔ ¬ p w := by
  rw [i0_bits]
  constructor
  · intro h hp
    have := h w (by omega)
    rw [b_and, b_sh1 (by omega) (by omega), decide_eq_true rfl, Bool.true_and, (msk_bt hn (by omega)).mpr ⟨hw, hp⟩] at this
    cases this
  · intro h i hi
    rw [b_and, b_sh1 (by omega) hi]
    by_cases e : i = w
    · subst e
      rw [decide_eq_true rfl, Bool.true_and]
      exact Bool.eq_false_iff.mpr fun hh => h ((msk_bt hn hi).mp hh).2
    · rw [decide_eq_false e, Bool.false_and]
theorem sub_msk {x : Int32} {q : Nat → Prop} {n : Nat} (hn : n ≤ 31) (hx : ∀ i, i < 32 → bt x i = true → i < n) : x &&& (msk q n ^^^ (-1)) = 0 ↔ ∀ s, s < n → bi x (nI s) = nI 1 → q s := by
  rw [i0_bits]
  constructor
  · intro h s hs hb
    have := h s (by omega)
    rw [b_and, b_xm1 _ (by omega), (bi_1 (by omega)).mp hb, Bool.true_and, Bool.not_eq_false'] at this
    exact ((msk_bt hn (by omega)).mp this).2
  · intro h i hi
    rw [b_and, b_xm1 _ hi]
    cases hb : bt x i
    · rfl
    · rw [Bool.true_and, (msk_bt hn hi).mpr ⟨hx i hi hb, h i (hx i hi hb) ((bi_1 hi).mpr hb)⟩]
      rfl
theorem msk_sub {p : Nat → Prop} {n : Nat} (hn : n ≤ 31) : ∀ i, i < 32 → bt (msk p n) i = true → i < n := fun _ hi h => ((msk_bt hn hi).mp h).1
/-- all but one -/
theorem bi_but {x : Int32} {i s : Nat} (hi : i < 32) (hs : s < 32) : bi (x &&& ((nI 1 <<< (nI i &&& 31)) ^^^ (-1))) (nI s) = nI 1 ↔ s ≠ i ∧ bi x (nI s) = nI 1 := by
  rw [bi_1 hs, bi_1 hs, b_and, b_xm1 _ hs, b_sh1 hi hs, Bool.and_eq_true, Bool.not_eq_true', decide_eq_false_iff_not]
  exact And.comm
theorem msk_0 {p : Nat → Prop} {n : Nat} (h : ∀ i, i < n → ¬ p i) : msk p n = nI 0 := by
  induction n with
  | zero => rfl
  | succ n ih =>
    rw [msk_n (h n (by omega))]
    exact ih fun i hi => h i (by omega)
theorem msk_ne0 {p : Nat → Prop} {n i : Nat} (hn : n ≤ 31) (hi : i < n) (h : p i) : msk p n ≠ nI 0 := by
  intro e
  have := (msk_bt (p := p) hn (i := i) (by omega)).mpr ⟨hi, h⟩
  rw [e] at this
  rw [show bt (nI 0) i = false from b_0 i] at this
  cases this
/-- how many -/
noncomputable def cntP (p : Nat → Prop) : Nat → Nat
  | 0 => 0
  | n + 1 => cntP p n + @ite _ (p n) (Classical.propDecidable _) 1 0
theorem cntP_y {p : Nat → Prop} {n : Nat} (h : p n) : cntP p (n + 1) = cntP p n + 1 := by simp [cntP, h]
theorem cntP_n {p : Nat → Prop} {n : Nat} (h : ¬ p n) : cntP p (n + 1) = cntP p n := by simp [cntP, h]
theorem cntP_cong {p q : Nat → Prop} : ∀ {n : Nat}, (∀ i, i < n → (p i ↔ q i)) → cntP p n = cntP q n
  | 0, _ => rfl
  | n + 1, h => by
    have ih := cntP_cong (n := n) (fun i hi => h i (by omega))
    by_cases hp : p n
    · rw [cntP_y hp, cntP_y ((h n (by omega)).mp hp), ih]
    · rw [cntP_n hp, cntP_n (fun hq => hp ((h n (by omega)).mpr hq)), ih]
theorem cntP_le (p : Nat → Prop) : ∀ n, cntP p n ≤ n
  | 0 => Nat.le_refl _
  | n + 1 => by
    have := cntP_le p n
    by_cases h : p n
    · rw [cntP_y h]
      omega
    · rw [cntP_n h]
      omega
noncomputable def cif {α : Type} (p : Prop) (a b : α) : α := @ite α p (Classical.propDecidable p) a b
theorem cif_y {α : Type} {p : Prop} {a b : α} (h : p) : cif p a b = a := by simp [cif, h]
theorem cif_n {α : Type} {p : Prop} {a b : α} (h : ¬ p) : cif p a b = b := by simp [cif, h]
theorem cif_cong {α : Type} {p q : Prop} {a b : α} (h : p ↔ q) : cif p a b = cif q a b := by
  rw [show p = q from propext h]

