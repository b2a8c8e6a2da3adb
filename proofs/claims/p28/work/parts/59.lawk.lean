/-! The law: what its rows need -/
section PWS
variable {X : Cx} {M : Mt} {b1 b2 pc : Nat} {ls : List (Option Value)} {st0 : List Value} {σ : Sp} {μ : Mm} {Q : Option Value → Sp → Mm → Prop}
theorem pw_sld {i : Int32} (d : decode (mB M) pc = .ok (.iaload, 1)) (hin : vp_in i (cxS X).2.1) (k : PW X M b1 b2 (pc + 1) ls (.int ((cxS X).2.2 i.toNatClampNeg) :: st0) σ μ Q) : PW X M b1 b2 pc ls (.int i :: .ref (cxS X).1 :: st0) σ μ Q :=
  fun p e R s m args below meth c H locs cells slots ar Z B S P F L c1 c2 K => va_sld B.1 B.2.1 S.2.2.2.2.2.2.2.1 (Nat.lt_of_lt_of_le S.2.2.2.2.2.2.2.2.1 S.2.2.2.2.2.2.2.2.2) (Nat.not_le.mpr S.2.2.2.2.2.2.2.2.1) F hin d (k p e R s m args below meth c H locs cells slots ar Z B S P F L c1 c2 K)
theorem pw_sldN {e : Nat} (d : decode (mB M) pc = .ok (.iaload, 1)) (he : e < (cxS X).2.1) (hL : (cxS X).2.1 ≤ 2048) (k : PW X M b1 b2 (pc + 1) ls (.int ((cxS X).2.2 e) :: st0) σ μ Q) : PW X M b1 b2 pc ls (.int (nI e) :: .ref (cxS X).1 :: st0) σ μ Q :=
  pw_sld d (vp_in_nI he (by omega)) (by rw [nI_clamp (by omega)]; exact k)
theorem pw_slen (d : decode (mB M) pc = .ok (.arraylength, 1)) (k : PW X M b1 b2 (pc + 1) ls (.int (nI (cxS X).2.1) :: st0) σ μ Q) : PW X M b1 b2 pc ls (.ref (cxS X).1 :: st0) σ μ Q :=
  fun p e R s m args below meth c H locs cells slots ar Z B S P F L c1 c2 K => va_slen B.1 B.2.1 S.2.2.2.2.2.2.2.1 (Nat.lt_of_lt_of_le S.2.2.2.2.2.2.2.2.1 S.2.2.2.2.2.2.2.2.2) (Nat.not_le.mpr S.2.2.2.2.2.2.2.2.1) F d (k p e R s m args below meth c H locs cells slots ar Z B S P F L c1 c2 K)
end PWS
theorem and31 (x : Int32) : ∃ w, w < 32 ∧ x &&& nI 31 = nI w := by
  refine ⟨(x &&& nI 31).toBitVec.toNat, ?_, ?_⟩
  · rw [Int32.toBitVec_and, BitVec.toNat_and]
    show x.toBitVec.toNat &&& (2 ^ 5 - 1) < 32
    rw [Nat.and_two_pow_sub_one_eq_mod]
    omega
  · apply Int32.toBitVec_inj.mp
    apply BitVec.eq_of_toNat_eq
    show _ = (x &&& nI 31).toBitVec.toNat % 2 ^ 32
    rw [Nat.mod_eq_of_lt (x &&& nI 31).toBitVec.isLt]
theorem CX.o {σ σ' : Sp} {μ μ' : Mm} {o x n : Nat} {A : Aw} (h : CX σ μ o x A) (hno : ∀ k, aS A k = none) (old : OLD n σ μ σ' μ') (hn : o + 565 ≤ n) : CX σ' μ' o x A := by
  obtain ⟨c1, c2, c3, c4, c5, c6⟩ := h
  have u : ∀ a, a < o + 565 → μ' a = μ a := fun a ha => (old a (by omega)).2
  exact ⟨c1.cg (fun c _ e2 _ => (old c (by omega)).1) (old _ (by omega)).1.1 (old _ (by omega)).1.2.1, c2.at fun a a1 a2 => u a (by omega), c3.at fun a a1 a2 => u a (by omega), c4.at fun a a1 a2 => u a (by omega), ⟨fun k hk hS => rf_cg (c5.1 k hk hS) (old _ (by omega)).1, fun k C hk hC => absurd ((hno k).symm.trans hC) (fun h => by cases h), fun p c hp hc => absurd ((rf_cg (c5.1 0 (by omega) (hno 0)) (old _ (by omega)).1).symm.trans hp) (fun h => by cases h)⟩, c6.at fun a a1 a2 => u a (by omega)⟩

