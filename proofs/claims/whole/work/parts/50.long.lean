/-! Texts: what is put behind the pad; longs as eight codes -/
theorem pw_topL {X : Cx} {M : Mt} {b1 b2 pc : Nat} {ls : List (Option Value)} {st0 : List Value} {σ : Sp} {μ : Mm} {Q : Option Value → Sp → Mm → Prop} {x y : Int64} (h : x = y) (k : PW X M b1 b2 pc ls (.long y :: st0) σ μ Q) : PW X M b1 b2 pc ls (.long x :: st0) σ μ Q := h ▸ k
def u64 (x : Int64) : Nat := x.toBitVec.toNat
def nL (c : Nat) : Int64 := Int64.ofNat c
def shr (x : Int64) (k : Nat) : Int64 := (x.toUInt64 >>> ((nI k).toInt64.toUInt64 &&& Int64.toUInt64 63)).toInt64
theorem u64_lt (x : Int64) : u64 x < 256 ^ 8 := x.toBitVec.isLt
theorem u64_0 {x : Int64} : lg_cmp x 0 = 0 ↔ u64 x = 0 := by
  rw [lg_cmp_eq]
  constructor
  · intro h
    rw [h]
    rfl
  · intro h
    apply Int64.toBitVec_inj.mp
    apply BitVec.eq_of_toNat_eq
    exact h
theorem shr_k : ∀ k, k < 64 → ((nI k).toInt64.toUInt64 &&& Int64.toUInt64 63).toNat % 64 = k := by decide +kernel
theorem u64_shr {x : Int64} {k : Nat} (hk : k < 64) : u64 (shr x k) = u64 x / 2 ^ k := by
  unfold u64 shr
  have hn := shr_k k hk
  generalize ((nI k).toInt64.toUInt64 &&& Int64.toUInt64 63) = n at hn
  simp only [UInt64.toBitVec_toInt64, UInt64.toBitVec_shiftRight, Int64.toBitVec_toUInt64]
  simp [BitVec.toNat_ushiftRight, Nat.shiftRight_eq_div_pow, hn, Nat.mod_eq_of_lt hk]
theorem land255 {x : Int64} : x &&& 255 = nL (u64 x % 256) := by
  apply Int64.toBitVec_inj.mp
  apply BitVec.eq_of_toNat_eq
  rw [Int64.toBitVec_and, BitVec.toNat_and]
  show x.toBitVec.toNat &&& (2 ^ 8 - 1) = (u64 x % 256) % 2 ^ 64
  rw [Nat.and_two_pow_sub_one_eq_mod]
  unfold u64
  omega
theorem nL_cmp : ∀ c, c < 256 → (lg_cmp (nL c) 33 < 0 ↔ c < 33) ∧ (lg_cmp (nL c) 126 ≤ 0 ↔ c ≤ 126) := by decide +kernel
theorem nL_i : ∀ c, c < 256 → (nL c).toInt32 = nI c := by decide +kernel
theorem nI_c : ∀ c, c < 256 → ((nI c).toUInt32 % 65536).toInt32 = nI c := by decide +kernel
theorem nI_nar : ∀ c, c < 256 → vp_nar .char (nI c) = nI c := by decide +kernel
def gdC (c : Nat) : Prop := 33 ≤ c ∧ c ≤ 126
noncomputable def cnG : Nat → Nat → Option Nat
  | 0, _ => some 0
  | f + 1, u => if u = 0 then some 0 else cif (gdC (u % 256)) ((cnG f (u / 256)).map (· + 1)) none
theorem cn_0 {f u : Nat} (h : u = 0) : cnG f u = some 0 := by
  cases f with
  | zero => rfl
  | succ f => exact if_pos h
theorem cn_no {f u : Nat} (h : ¬ u = 0) (g : ¬ gdC (u % 256)) : cnG (f + 1) u = none := (if_neg h).trans (cif_n g)
theorem cn_go {f u : Nat} (h : ¬ u = 0) (g : gdC (u % 256)) : cnG (f + 1) u = (cnG f (u / 256)).map (· + 1) := (if_neg h).trans (cif_y g)
theorem cn_le : ∀ {f u t : Nat}, cnG f u = some t → t ≤ f
  | 0, u, t, h => by
    have e : (0 : Nat) = t := Option.some.inj h
    omega
  | f + 1, u, t, h => by
    rcases Classical.em (u = 0) with c | c
    · have e : (0 : Nat) = t := Option.some.inj ((cn_0 c).symm.trans h)
      omega
    · rcases Classical.em (gdC (u % 256)) with g | g
      · rw [cn_go c g] at h
        cases e : cnG f (u / 256) with
        | none =>
          rw [e] at h
          cases h
        | some r =>
          rw [e] at h
          have k := cn_le e
          have e2 : r + 1 = t := Option.some.inj h
          omega
      · rw [cn_no c g] at h
        cases h
noncomputable def ptn (x : Int64) : Nat := (cnG 8 (u64 x)).getD 0
theorem ptn_le (x : Int64) : ptn x ≤ 8 := by
  unfold ptn
  cases e : cnG 8 (u64 x) with
  | none => exact Nat.zero_le _
  | some t => exact cn_le e
noncomputable def ptP (P : Pd) (x : Int64) : Pd := (fun j => if j < P.2 then P.1 j else nI (u64 x / 256 ^ (ptn x - 1 - (j - P.2)) % 256), P.2 + ptn x)
noncomputable def ptR (A : Aw) (x : Int64) : Int32 := if ptn x = 0 then -2 else if 80 < (aP A).2 + ptn x then -4 else nI ((aP A).2 + ptn x)
noncomputable def ptA (A : Aw) (x : Int64) : Aw := if ptn x = 0 ∨ 80 < (aP A).2 + ptn x then A else (aB A, aH A, aS A, ptP (aP A) x)
theorem m1_n {r : Nat} : nI (r + 1) - nI 1 = nI r := by
  rw [Nat.add_comm]
  exact i32_cs
theorem m1_lt {p : Nat} (h : p ≤ 80) : nI p - nI 1 < nI p := by
  cases p with
  | zero => decide
  | succ p =>
    rw [m1_n, nI_ltI (by omega) (by omega)]
    omega
theorem nI_m1 {r : Nat} : nI r + -1 = nI r - nI 1 := by
  rw [Int32.sub_eq_add_neg]
  rfl
set_option maxRecDepth 100000 in
set_option maxHeartbeats 4000000 in
theorem k_charactersIn {X : Cx} {σ : Sp} {μ : Mm} {Q : Int32 → Sp → Mm → Prop} {x : Int64} (qy : ∀ t, cnG 8 (u64 x) = some t → Q (nI t) σ μ) (qn : cnG 8 (u64 x) = none → Q (nI 0) σ μ) : CTi X mX3_charactersIn [.long x] σ μ Q := by
  refine CT.of (by decide +kernel) (Nat.le_of_ble_eq_true rfl) ?_
  show PW X mX3_charactersIn 0 0 0 [some (.long x), none, none, none, none, none, none] [] σ μ (LI Q)
  refine pw_iconst (v := nI 0) dX3_charactersIn_0 (by decide) ?_
  refine pw_istore_2 dX3_charactersIn_1 (by decide) ?_
  refine pw_lload_0 dX3_charactersIn_2 ?_
  refine pw_lstore_3 dX3_charactersIn_3 (by decide) ?_
  have loop : ∀ f j r c9, j + f = 8 → (∀ t, cnG f (u64 r) = some t → Q (nI (j + t)) σ μ) → (cnG f (u64 r) = none → Q (nI 0) σ μ) → PW X mX3_charactersIn 0 0 4 [some (.long x), none, some (.int (nI j)), some (.long r), none, c9, none] [] σ μ (LI Q) := by
    intro f
    induction f with
    | zero =>
      intro j r c9 hj qy qn
      refine pw_lload_3 dX3_charactersIn_4 ?_
      refine pw_lconst (v := 0) dX3_charactersIn_5 (by decide) ?_
      refine pw_lcmp dX3_charactersIn_6 ?_
      refine pw_if_eq 54 dX3_charactersIn_7 (by decide) (fun h1 => ?_) (fun h1 => ?_)
      · skip
        refine pw_iload_2 dX3_charactersIn_54 ?_
        refine pw_ireturn dX3_charactersIn_55 rfl ?_
        have e9 := qy 0 rfl
        rw [Nat.add_zero] at e9
        exact e9
      · skip
        refine pw_iload_2 dX3_charactersIn_10 ?_
        refine pw_bipush (v := nI 8) dX3_charactersIn_11 (by decide) ?_
        refine pw_icmp_ge 54 dX3_charactersIn_13 (by decide) (fun h2 => ?_) (fun h2 => ?_)
        · skip
          refine pw_iload_2 dX3_charactersIn_54 ?_
          refine pw_ireturn dX3_charactersIn_55 rfl ?_
          have e9 := qy 0 rfl
          rw [Nat.add_zero] at e9
          exact e9
        · skip
          exact absurd (by rw [nI_leI (by omega) (by omega)]; omega) h2
    | succ f ih =>
      intro j r c9 hj qy qn
      refine pw_lload_3 dX3_charactersIn_4 ?_
      refine pw_lconst (v := 0) dX3_charactersIn_5 (by decide) ?_
      refine pw_lcmp dX3_charactersIn_6 ?_
      refine pw_if_eq 54 dX3_charactersIn_7 (by decide) (fun h3 => ?_) (fun h3 => ?_)
      · skip
        refine pw_iload_2 dX3_charactersIn_54 ?_
        refine pw_ireturn dX3_charactersIn_55 rfl ?_
        have e9 := qy 0 (cn_0 (u64_0.mp h3))
        rw [Nat.add_zero] at e9
        exact e9
      · skip
        refine pw_iload_2 dX3_charactersIn_10 ?_
        refine pw_bipush (v := nI 8) dX3_charactersIn_11 (by decide) ?_
        refine pw_icmp_ge 54 dX3_charactersIn_13 (by decide) (fun hh => absurd hh (by rw [nI_leI (by omega) (by omega)]; omega)) (fun _ => ?_)
        refine pw_lload_3 dX3_charactersIn_16 ?_
        refine pw_ldc2 dX3_charactersIn_17 qX3_23 ?_
        refine pw_land dX3_charactersIn_20 ?_
        refine pw_topL land255 ?_
        refine pw_lstore_5 dX3_charactersIn_21 (by decide) ?_
        refine pw_lload_5 dX3_charactersIn_23 ?_
        refine pw_ldc2 dX3_charactersIn_25 qX3_25 ?_
        refine pw_lcmp dX3_charactersIn_28 ?_
        refine pw_if_lt 41 dX3_charactersIn_29 (by decide) (fun h4 => ?_) (fun h4 => ?_)
        · skip
          refine pw_iconst (v := nI 0) dX3_charactersIn_41 (by decide) ?_
          refine pw_ireturn dX3_charactersIn_42 rfl ?_
          exact qn (cn_no (fun h95 => h3 (u64_0.mpr h95)) (fun g => by have h95 := (nL_cmp (u64 r % 256) (by omega)).1.mp h4; have h96 : 33 ≤ u64 r % 256 := g.1; omega))
        · skip
          refine pw_lload_5 dX3_charactersIn_32 ?_
          refine pw_ldc2 dX3_charactersIn_34 qX3_27 ?_
          refine pw_lcmp dX3_charactersIn_37 ?_
          refine pw_if_le 43 dX3_charactersIn_38 (by decide) (fun h5 => ?_) (fun h5 => ?_)
          · skip
            refine pw_iincN_2 dX3_charactersIn_43 (by decide) ?_
            refine pw_lload_3 dX3_charactersIn_46 ?_
            refine pw_bipush (v := nI 8) dX3_charactersIn_47 (by decide) ?_
            refine pw_lushr dX3_charactersIn_49 ?_
            refine pw_topL (show _ = shr r 8 from rfl) ?_
            refine pw_lstore_3 dX3_charactersIn_50 (by decide) ?_
            refine pw_goto 4 dX3_charactersIn_51 (by decide) ?_
            have gd9 : gdC (u64 r % 256) := ⟨by have h95 := mt (nL_cmp (u64 r % 256) (by omega)).1.mpr h4; omega, (nL_cmp (u64 r % 256) (by omega)).2.mp h5⟩
            have e9 := cn_go (f := f) (fun h95 => h3 (u64_0.mpr h95)) gd9
            have e8 : u64 (shr r 8) = u64 r / 256 := u64_shr (by omega)
            rw [← e8] at e9
            refine ih (j + 1) (shr r 8) _ (by omega) (fun t ht => ?_) (fun hn => qn (by rw [e9, hn]; rfl))
            rw [show j + 1 + t = j + (t + 1) by omega]
            exact qy (t + 1) (by rw [e9, ht]; rfl)
          · skip
            refine pw_iconst (v := nI 0) dX3_charactersIn_41 (by decide) ?_
            refine pw_ireturn dX3_charactersIn_42 rfl ?_
            exact qn (cn_no (fun h95 => h3 (u64_0.mpr h95)) (fun g => h5 ((nL_cmp (u64 r % 256) (by omega)).2.mpr g.2)))
  exact loop 8 0 x _ rfl (fun t ht => by rw [Nat.zero_add]; exact qy t ht) qn
theorem k_chars {X : Cx} {σ : Sp} {μ : Mm} {Q : Int32 → Sp → Mm → Prop} {x : Int64} (q : Q (nI (ptn x)) σ μ) : CTi X mX3_charactersIn [.long x] σ μ Q := by
  refine k_charactersIn (fun t ht => ?_) (fun hn => ?_)
  · rw [show ptn x = t from by unfold ptn; rw [ht]; rfl] at q
    exact q
  · rw [show ptn x = 0 from by unfold ptn; rw [hn]; rfl] at q
    exact q
