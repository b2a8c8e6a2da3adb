/-! The law's small methods -/
def ShL (σ : Sp) (p : Nat) : Prop := ShA σ p 11 64 ∧ ShA σ (p + 1) 11 32 ∧ ShA σ (p + 2) 11 32 ∧ ShA σ (p + 3) 11 32 ∧ ShA σ (p + 4) 11 24 ∧ ShA σ (p + 5) 11 7
theorem ShL.a {σ : Sp} {p : Nat} (h : ShL σ p) : ShA σ p 11 64 := h.1
theorem ShL.b {σ : Sp} {p : Nat} (h : ShL σ p) : ShA σ (p + 1) 11 32 := h.2.1
theorem ShL.q {σ : Sp} {p : Nat} (h : ShL σ p) : ShA σ (p + 2) 11 32 := h.2.2.1
theorem ShL.k {σ : Sp} {p : Nat} (h : ShL σ p) : ShA σ (p + 3) 11 32 := h.2.2.2.1
theorem ShL.w {σ : Sp} {p : Nat} (h : ShL σ p) : ShA σ (p + 4) 11 24 := h.2.2.2.2.1
theorem ShL.t {σ : Sp} {p : Nat} (h : ShL σ p) : ShA σ (p + 5) 11 7 := h.2.2.2.2.2
theorem and_pos (x : Int32) : ∃ m, m < 2 ^ 31 ∧ x &&& 2147483647 = nI m := by
  refine ⟨(x &&& 2147483647).toBitVec.toNat, ?_, ?_⟩
  · rw [Int32.toBitVec_and, BitVec.toNat_and]
    show x.toBitVec.toNat &&& (2 ^ 31 - 1) < 2 ^ 31
    rw [Nat.and_two_pow_sub_one_eq_mod]
    omega
  · apply Int32.toBitVec_inj.mp
    apply BitVec.eq_of_toNat_eq
    show _ = (x &&& 2147483647).toBitVec.toNat % 2 ^ 32
    rw [Nat.mod_eq_of_lt (x &&& 2147483647).toBitVec.isLt]
theorem lx_o {μ : Mm} {a b j k : Nat} {x : Int32} (h : b ≠ a) : wr μ a k x b j = μ b j := congrFun (wr_n μ k x h) j
set_option maxRecDepth 100000 in
set_option maxHeartbeats 4000000 in
theorem c_low {X : Cx} {σ : Sp} {μ : Mm} {Q : Int32 → Sp → Mm → Prop} {v : Int32} {n : Nat} (h0 : 0 < n) (hn : n < 2 ^ 31) (q : ∀ j, j < n → Q (nI j) σ μ) : CTi X mL_low [.int v, .int (nI n)] σ μ Q := by
  refine CT.of (by decide +kernel) (Nat.le_of_ble_eq_true rfl) ?_
  show PW X mL_low 0 0 0 [some (.int v), some (.int (nI n))] [] σ μ (LI Q)
  refine pw_iload_0 dL_low_0 ?_
  refine pw_ldc dL_low_1 qL_9 ?_
  refine pw_iand dL_low_3 ?_
  refine pw_iload_1 dL_low_4 ?_
  refine pw_irem dL_low_5 (nI_ne0 h0 hn) ?_
  refine pw_ireturn dL_low_6 rfl ?_
  obtain ⟨m, hm, em⟩ := and_pos v
  rw [em, pk_rem hm h0 hn]
  exact q _ (Nat.mod_lt _ h0)
set_option maxRecDepth 100000 in
set_option maxHeartbeats 4000000 in
theorem c_cell {X : Cx} {σ : Sp} {μ : Mm} {Q : Int32 → Sp → Mm → Prop} {k : Nat} (hL : (cxS X).2.1 ≤ 260) (hk9 : k < 2 ^ 31) (q : ∀ x, Q x σ μ) : CTi X mL_cell [.ref (cxS X).1, .int (nI k)] σ μ Q := by
  refine CT.of (by decide +kernel) (Nat.le_of_ble_eq_true rfl) ?_
  show PW X mL_cell 0 0 0 [some (.ref (cxS X).1), some (.int (nI k))] [] σ μ (LI Q)
  refine pw_iload_1 dL_cell_0 ?_
  refine pw_aload_0 dL_cell_1 ?_
  refine pw_slen dL_cell_2 ?_
  refine pw_icmp_ge 12 dL_cell_3 (by decide) (fun h1 => ?_) (fun h1 => ?_)
  · skip
    refine pw_ldc dL_cell_12 qL_7 ?_
    refine pw_iload_1 dL_cell_14 ?_
    refine pw_imul dL_cell_15 ?_
    refine pw_ldc dL_cell_16 qL_8 ?_
    refine pw_iadd dL_cell_18 ?_
    refine pw_ireturn dL_cell_19 rfl ?_
    exact q _
  · skip
    refine pw_aload_0 dL_cell_6 ?_
    refine pw_iload_1 dL_cell_7 ?_
    have hk := h1
    rw [nI_leI (by omega) (by omega)] at hk
    refine pw_sldN dL_cell_8 (by omega) (by omega) ?_
    refine pw_goto 19 dL_cell_9 (by decide) ?_
    refine pw_ireturn dL_cell_19 rfl ?_
    exact q _
theorem up_0 {x y : Int32} (hx : x = nI 0 ∨ x = nI 1) (hy : y = nI 0 ∨ y = nI 1) (h : x + y = 0) : x = nI 0 ∧ y = nI 0 := by
  rcases hx with rfl | rfl <;> rcases hy with rfl | rfl
  · exact ⟨rfl, rfl⟩
  · exact absurd h (by decide)
  · exact absurd h (by decide)
  · exact absurd h (by decide)
theorem up_n {x y : Int32} (h : ¬ (x + y = 0)) : ¬ (x = nI 0 ∧ y = nI 0) := by
  rintro ⟨rfl, rfl⟩
  exact h (by decide)
set_option maxRecDepth 100000 in
set_option maxHeartbeats 4000000 in
theorem k_up {X : Cx} {σ : Sp} {μ : Mm} {Q : Int32 → Sp → Mm → Prop} {κ : Prop} {μ0 : Mm} {p i : Nat} {B : Bs} (hs : ShL σ p) (hl : LU κ μ0 p B μ) (wf : WF B) (hi : i < nS B) (q1 : awB B i → Q (nI 1) σ μ) (q0 : ¬ awB B i → Q (nI 0) σ μ) : CTi X mL_up [.ref p, .int (nI i)] σ μ Q := by
  refine CT.of (by decide +kernel) (Nat.le_of_ble_eq_true rfl) ?_
  show PW X mL_up 0 0 0 [some (.ref p), some (.int (nI i))] [] σ μ (LI Q)
  have h8 := wf.n8
  have e2 : μ p (16 + i) = bS B i 2 := hl.ra 2 (by omega) (by omega) (by omega)
  have e3 : μ p (24 + i) = bS B i 3 := hl.ra 3 (by omega) (by omega) (by omega)
  refine pw_aload_0 dL_up_0 ?_
  refine pw_bipush (v := nI 16) dL_up_1 (by decide) ?_
  refine pw_iload_1 dL_up_3 ?_
  refine pw_iaddN dL_up_4 ?_
  refine pw_ialdN dL_up_5 hs.a (by omega) (by decide) ?_
  refine pw_top e2 ?_
  refine pw_aload_0 dL_up_6 ?_
  refine pw_bipush (v := nI 24) dL_up_7 (by decide) ?_
  refine pw_iload_1 dL_up_9 ?_
  refine pw_iaddN dL_up_10 ?_
  refine pw_ialdN dL_up_11 hs.a (by omega) (by decide) ?_
  refine pw_top e3 ?_
  refine pw_iadd dL_up_12 ?_
  refine pw_if_ne 20 dL_up_13 (by decide) (fun h1 => ?_) (fun h1 => ?_)
  · skip
    refine pw_iconst (v := nI 0) dL_up_20 (by decide) ?_
    refine pw_zreturn dL_up_21 rfl (by decide) ?_
    exact q0 (fun h9 => up_n h1 ⟨h9.1, h9.2⟩)
  · skip
    refine pw_iconst (v := nI 1) dL_up_16 (by decide) ?_
    refine pw_goto 21 dL_up_17 (by decide) ?_
    refine pw_zreturn dL_up_21 rfl (by decide) ?_
    have h9 := up_0 (wf.s hi).2.1.1 (wf.s hi).2.1.2 h1
    exact q1 ⟨h9.1, h9.2⟩
set_option maxRecDepth 100000 in
set_option maxHeartbeats 4000000 in
theorem c_wireOf {X : Cx} {σ : Sp} {μ : Mm} {Q : Int32 → Sp → Mm → Prop} {a i z x : Nat} (hs : ShA σ a 11 32) (hi : i < 32) (hz : μ a i = nI z) (hz2 : z < 2 ^ 31) (hx : z / 256 % 8 = x) (q : Q (nI x) σ μ) : CTi X mL_wireOf [.ref a, .int (nI i)] σ μ Q := by
  refine CT.of (by decide +kernel) (Nat.le_of_ble_eq_true rfl) ?_
  show PW X mL_wireOf 0 0 0 [some (.ref a), some (.int (nI i))] [] σ μ (LI Q)
  refine pw_aload_0 dL_wireOf_0 ?_
  refine pw_iload_1 dL_wireOf_1 ?_
  refine pw_ialdN dL_wireOf_2 hs (by omega) (by decide) ?_
  refine pw_top hz ?_
  refine pw_sipush (v := nI 256) dL_wireOf_3 (by decide) ?_
  refine pw_idiv dL_wireOf_6 (by decide) ?_
  refine pw_top (pk_div (d := 256) hz2 (by decide) (by decide)) ?_
  refine pw_bipush (v := nI 8) dL_wireOf_7 (by decide) ?_
  refine pw_irem dL_wireOf_9 (by decide) ?_
  refine pw_top (pk_rem (a := z / 256) (d := 8) (by omega) (by decide) (by decide)) ?_
  refine pw_ireturn dL_wireOf_10 rfl ?_
  rw [hx]
  exact q
theorem LU.away {κ : Prop} {μ0 μ ν : Mm} {p i w : Nat} {B : Bs} {g : Nat → Int32} (h : LU κ μ0 p (setS B i g) μ) (hi : i < 8) (hw : g 4 = nI w) (hw4 : w ≤ 4) (h0 : 0 < w) (e0 : ∀ a, a ≠ p → a ≠ p + 2 → ν a = μ a) (e4 : ν p (32 + i) = nI (w - 1)) (e5 : ν p (40 + i) = -1) (e6 : ν p (48 + i) = nI 0)
    (eo : ∀ j, j ≠ 32 + i → j ≠ 40 + i → j ≠ 48 + i → ν p j = μ p j) (eq : ∀ r, r < 3 → ν (p + 2) (8 * r + i) = μ (p + 2) (8 * (r + 1) + i)) (eqo : ∀ j, j < 8 → j ≠ i → ∀ r, ν (p + 2) (8 * r + j) = μ (p + 2) (8 * r + j)) : LU κ μ0 p (setS B i (lvF g)) ν := by
  have hn : nwF g = w := nw_of hw hw4
  have lo : ∀ k, (k < 4 ∨ 18 < k) → lvF g k = g k := fun k hk => lv_hi hk (by omega)
  have l4 : lvF g 4 = nI (w - 1) := by
    unfold lvF
    rw [if_neg (by omega), upd_s, hn]
  have l17 : lvF g 17 = -6 := by
    unfold lvF qtF
    rw [if_neg (by omega), upd_n _ _ (by omega), upd_n _ _ (by omega), upd_s]
  have l18 : lvF g 18 = nI 0 := by
    unfold lvF qtF
    rw [if_neg (by omega), upd_n _ _ (by omega), upd_s]
  have ln9 : nwF (lvF g) = w - 1 := nw_of l4 (by omega)
  have lq : ∀ r, r < w - 1 → qV (lvF g) r = qV g (r + 1) := fun r hr => by
    unfold qV lvF
    rw [if_pos (by omega), if_pos (by omega), if_pos (by omega), show 5 + 3 * r + 3 = 5 + 3 * (r + 1) by omega, show 6 + 3 * r + 3 = 6 + 3 * (r + 1) by omega, show 7 + 3 * r + 3 = 7 + 3 * (r + 1) by omega]
  have h' := h
  rw [← setS_setS B i g (lvF g)]
  refine LU.st h hi (fun a a1 => e0 a (by omega) (by omega)) (fun c hc => ?_) (fun j hj hji c => eo _ (by omega) (by omega) (by omega)) (fun c hc => ?_) (fun j hj hji c => by rw [e0 _ (by omega) (by omega)]) (fun r r4 hr => ?_) (fun j hj hji r => eqo j hj hji r) (fun kk r r4 hr => ?_) (fun j hj hji r => by rw [e0 _ (by omega) (by omega)]) (e0 _ (by omega) (by omega)) (e0 _ (by omega) (by omega))
  · rcases (by omega : c = 4 ∨ c = 5 ∨ c = 6 ∨ (c ≠ 4 ∧ c ≠ 5 ∧ c ≠ 6)) with e | e | e | e
    · subst e
      exact e4.trans l4.symm
    · subst e
      rw [show aV (lvF g) 5 = spV (lvF g 17) from if_pos rfl, l17, spV_s rfl]
      exact e5
    · subst e
      exact e6.trans l18.symm
    · rw [eo _ (by omega) (by omega) (by omega), h'.aag hi hc]
      unfold aV
      rw [if_neg e.2.1, if_neg e.2.1, lo]
      have : ∀ c, c < 8 → c ≠ 4 → c ≠ 5 → c ≠ 6 → aF c < 4 ∨ 18 < aF c := by decide
      exact this c hc e.1 e.2.1 e.2.2
  · rw [e0 _ (by omega) (by omega), h'.bbg hi hc, lo _ (by omega)]
  · rw [ln9] at hr
    rw [eq r (by omega), lq r hr]
    exact h'.qqg hi (by omega) (by omega)
  · have ek : nkF (lvF g) = nkF g := by
      unfold nkF
      rw [lo _ (by omega)]
    rw [ek] at hr
    rw [e0 _ (by omega) (by omega), h'.kkg kk hi r4 hr]
    unfold kV
    rw [lo _ (by omega), lo _ (by omega), lo _ (by omega), lo _ (by omega)]
theorem pw_isubC {X : Cx} {M : Mt} {b1 b2 pc : Nat} {ls : List (Option Value)} {st0 : List Value} {σ : Sp} {μ : Mm} {Q : Option Value → Sp → Mm → Prop} {x y z : Int32} (d : decode (mB M) pc = .ok (.isub, 1)) (h : x - y = z) (k : PW X M b1 b2 (pc + 1) ls (.int z :: st0) σ μ Q) : PW X M b1 b2 pc ls (.int y :: .int x :: st0) σ μ Q := pw_isub d (by rw [h]; exact k)
set_option maxRecDepth 100000 in
set_option maxHeartbeats 4000000 in
theorem k_away {X : Cx} {σ : Sp} {μ : Mm} {Q : Sp → Mm → Prop} {κ : Prop} {μ0 : Mm} {p i w : Nat} {B : Bs} {g : Nat → Int32} (hs : ShL σ p) (hl : LU κ μ0 p (setS B i g) μ) (hi : i < 8) (hw : g 4 = nI w) (hw4 : w ≤ 4) (h0 : 0 < w) (q : ∀ ν, LU κ μ0 p (setS B i (lvF g)) ν → Q σ ν) : CTv X mL_away [.ref p, .ref (p + 2), .int (nI i)] σ μ Q := by
  refine CT.of (by decide +kernel) (Nat.le_of_ble_eq_true rfl) ?_
  show PW X mL_away 0 0 0 [some (.ref p), some (.ref (p + 2)), some (.int (nI i)), none] [] σ μ (LV Q)
  have e4 : μ p (32 + i) = nI w := (hl.rag 4 (by omega) hi (by omega)).trans hw
  refine pw_aload_0 dL_away_0 ?_
  refine pw_bipush (v := nI 32) dL_away_1 (by decide) ?_
  refine pw_iload_2 dL_away_3 ?_
  refine pw_iaddN dL_away_4 ?_
  refine pw_dup2_11 dL_away_5 ?_
  refine pw_ialdN dL_away_6 hs.a (by omega) (by decide) ?_
  refine pw_top e4 ?_
  refine pw_iconst (v := nI 1) dL_away_7 (by decide) ?_
  refine pw_isubN dL_away_8 (by omega) ?_
  refine pw_iastN dL_away_9 hs.a (by omega) (by decide) ?_
  refine pw_aload_0 dL_away_10 ?_
  refine pw_bipush (v := nI 40) dL_away_11 (by decide) ?_
  refine pw_iload_2 dL_away_13 ?_
  refine pw_iaddN dL_away_14 ?_
  refine pw_iconst (v := -1) dL_away_15 (by decide) ?_
  refine pw_iastN dL_away_16 hs.a (by omega) (by decide) ?_
  refine pw_aload_0 dL_away_17 ?_
  refine pw_bipush (v := nI 48) dL_away_18 (by decide) ?_
  refine pw_iload_2 dL_away_20 ?_
  refine pw_iaddN dL_away_21 ?_
  refine pw_iconst (v := nI 0) dL_away_22 (by decide) ?_
  refine pw_iastN dL_away_23 hs.a (by omega) (by decide) ?_
  refine pw_iconst (v := nI 0) dL_away_24 (by decide) ?_
  refine pw_istore_3 dL_away_25 (by decide) ?_
  refine pw_iload_3 dL_away_26 ?_
  refine pw_iconst (v := nI 3) dL_away_27 (by decide) ?_
  refine pw_icmp_ge 56 dL_away_28 (by decide) (fun hh => absurd hh (by decide)) (fun _ => ?_)
  refine pw_aload_1 dL_away_31 ?_
  refine pw_bipush (v := nI 8) dL_away_32 (by decide) ?_
  refine pw_iload_3 dL_away_34 ?_
  refine pw_imulN dL_away_35 ?_
  refine pw_iload_2 dL_away_36 ?_
  refine pw_iaddN dL_away_37 ?_
  refine pw_aload_1 dL_away_38 ?_
  refine pw_bipush (v := nI 8) dL_away_39 (by decide) ?_
  refine pw_iload_3 dL_away_41 ?_
  refine pw_imulN dL_away_42 ?_
  refine pw_bipush (v := nI 8) dL_away_43 (by decide) ?_
  refine pw_iaddN dL_away_45 ?_
  refine pw_iload_2 dL_away_46 ?_
  refine pw_iaddN dL_away_47 ?_
  refine pw_ialdN dL_away_48 hs.q (by omega) (by decide) ?_
  refine pw_iastN dL_away_49 hs.q (by omega) (by decide) ?_
  refine pw_iincN_3 dL_away_50 (by decide) ?_
  refine pw_goto 26 dL_away_53 (by decide) ?_
  refine pw_iload_3 dL_away_26 ?_
  refine pw_iconst (v := nI 3) dL_away_27 (by decide) ?_
  refine pw_icmp_ge 56 dL_away_28 (by decide) (fun hh => absurd hh (by decide)) (fun _ => ?_)
  refine pw_aload_1 dL_away_31 ?_
  refine pw_bipush (v := nI 8) dL_away_32 (by decide) ?_
  refine pw_iload_3 dL_away_34 ?_
  refine pw_imulN dL_away_35 ?_
  refine pw_iload_2 dL_away_36 ?_
  refine pw_iaddN dL_away_37 ?_
  refine pw_aload_1 dL_away_38 ?_
  refine pw_bipush (v := nI 8) dL_away_39 (by decide) ?_
  refine pw_iload_3 dL_away_41 ?_
  refine pw_imulN dL_away_42 ?_
  refine pw_bipush (v := nI 8) dL_away_43 (by decide) ?_
  refine pw_iaddN dL_away_45 ?_
  refine pw_iload_2 dL_away_46 ?_
  refine pw_iaddN dL_away_47 ?_
  refine pw_ialdN dL_away_48 hs.q (by omega) (by decide) ?_
  refine pw_iastN dL_away_49 hs.q (by omega) (by decide) ?_
  refine pw_iincN_3 dL_away_50 (by decide) ?_
  refine pw_goto 26 dL_away_53 (by decide) ?_
  refine pw_iload_3 dL_away_26 ?_
  refine pw_iconst (v := nI 3) dL_away_27 (by decide) ?_
  refine pw_icmp_ge 56 dL_away_28 (by decide) (fun hh => absurd hh (by decide)) (fun _ => ?_)
  refine pw_aload_1 dL_away_31 ?_
  refine pw_bipush (v := nI 8) dL_away_32 (by decide) ?_
  refine pw_iload_3 dL_away_34 ?_
  refine pw_imulN dL_away_35 ?_
  refine pw_iload_2 dL_away_36 ?_
  refine pw_iaddN dL_away_37 ?_
  refine pw_aload_1 dL_away_38 ?_
  refine pw_bipush (v := nI 8) dL_away_39 (by decide) ?_
  refine pw_iload_3 dL_away_41 ?_
  refine pw_imulN dL_away_42 ?_
  refine pw_bipush (v := nI 8) dL_away_43 (by decide) ?_
  refine pw_iaddN dL_away_45 ?_
  refine pw_iload_2 dL_away_46 ?_
  refine pw_iaddN dL_away_47 ?_
  refine pw_ialdN dL_away_48 hs.q (by omega) (by decide) ?_
  refine pw_iastN dL_away_49 hs.q (by omega) (by decide) ?_
  refine pw_iincN_3 dL_away_50 (by decide) ?_
  refine pw_goto 26 dL_away_53 (by decide) ?_
  refine pw_iload_3 dL_away_26 ?_
  refine pw_iconst (v := nI 3) dL_away_27 (by decide) ?_
  refine pw_icmp_ge 56 dL_away_28 (by decide) (fun _ => ?_) (fun hh => absurd (by decide) hh)
  refine pw_return dL_away_56 rfl ?_
  refine q _ (LU.away hl hi hw hw4 h0 (fun a a1 a2 => ?_) ?_ ?_ ?_ (fun j j1 j2 j3 => ?_) (fun r hr => ?_) (fun j hj hji r => ?_))
  · rw [wr_n _ _ _ a2, wr_n _ _ _ a2, wr_n _ _ _ a2, wr_n _ _ _ a1, wr_n _ _ _ a1, wr_n _ _ _ a1]
  · simp (disch := omega) only [wr_it, wr_at, lx_o]
  · simp (disch := omega) only [wr_it, wr_at, lx_o]
  · simp (disch := omega) only [wr_it, wr_at, lx_o]
  · simp (disch := omega) only [wr_it, wr_at, lx_o]
  · rcases (by omega : r = 0 ∨ r = 1 ∨ r = 2) with e | e | e
    · subst e
      simp (disch := omega) only [wr_it, wr_at, lx_o]
    · subst e
      simp (disch := omega) only [wr_it, wr_at, lx_o]
    · subst e
      simp (disch := omega) only [wr_it, wr_at, lx_o]
  · simp (disch := omega) only [wr_it, wr_at, lx_o]
theorem k_fa1 {κ : Prop} {μ0 μ : Mm} {p i : Nat} {B : Bs} {X9 : Int32} (hl : LU κ μ0 p B μ) (hi : i < 8) (hx : qV (upd (bS B i) 7 (bS B i 7 + nI 1)) 0 = X9) : LU κ μ0 p (setS B i (guF (bS B i))) (wr (wr (wr (wr μ (p + 2) i X9) (p + 1) (16 + i) (bS B i 22 + nI 1)) p (40 + i) (-1)) p (48 + i) (nI 0)) :=
  ((((hl.self i).wQ hi hx).wB 2 22 (by omega) rfl hi (by omega)).wA 5 17 (by omega) hi (by omega) rfl (by omega) (aV_5.trans (spV_s rfl))).wA 6 18 (by omega) hi (by omega) rfl (by omega) (aV_s (d := 6) (by omega))
set_option maxRecDepth 100000 in
set_option maxHeartbeats 4000000 in
theorem k_fails {X : Cx} {σ : Sp} {μ : Mm} {Q : Sp → Mm → Prop} {κ : Prop} {μ0 : Mm} {p i : Nat} {B : Bs} (hs : ShL σ p) (hl : LU κ μ0 p B μ) (wf : WF B) (wl : WL B) (hi : i < nS B) (h0 : 0 < nwF (bS B i)) (q : ∀ ν, LU κ μ0 p (guB B i) ν → Q σ ν) : CTv X mL_fails [.ref p, .ref (p + 1), .ref (p + 2), .ref (p + 4), .ref (p + 5), .int (nI i)] σ μ Q := by
  refine CT.of (by decide +kernel) (Nat.le_of_ble_eq_true rfl) ?_
  show PW X mL_fails 0 0 0 [some (.ref p), some (.ref (p + 1)), some (.ref (p + 2)), some (.ref (p + 4)), some (.ref (p + 5)), some (.int (nI i))] [] σ μ (LV Q)
  have hi8 : i < 8 := by have := wf.n8; omega
  obtain ⟨v, x, y, hv, hx6, hy, e5, e6, e7⟩ := (wl i hi).wd (r := 0) (wf.s hi) (by omega) h0
  obtain ⟨s4, h4, hs4⟩ := wf.2.1 4 (by omega)
  obtain ⟨z, ez⟩ : ∃ z, z = v + 256 * x + 2048 * y := ⟨_, rfl⟩
  have hz : μ (p + 2) i = nI z := (hl.rq 0 (by omega) hi8 (by omega) h0).trans ((qV_of e5 e6 e7).trans (congrArg nI ez.symm))
  have hx9 : qV (upd (bS B i) 7 (bS B i 7 + nI 1)) 0 = nI (z + 2048) := (qV_of (v := v) (x := x) (y := y + 1) ((upd_n _ _ (by omega)).trans e5) ((upd_n _ _ (by omega)).trans e6) ((upd_s _ _ _).trans (by rw [show bS B i 7 = nI y from e7, nI_add]))).trans (congrArg nI (by omega))
  have hb2 : μ (p + 1) (16 + i) = bS B i 22 := hl.rb 2 22 (by omega) rfl hi8 (by omega)
  refine pw_aload_2 dL_fails_0 ?_
  refine pw_iload_5 dL_fails_1 ?_
  refine pw_dup2_11 dL_fails_3 ?_
  refine pw_ialdN dL_fails_4 hs.q (by omega) (by decide) ?_
  refine pw_top hz ?_
  refine pw_sipush (v := nI 2048) dL_fails_5 (by decide) ?_
  refine pw_iaddN dL_fails_8 ?_
  refine pw_iastN dL_fails_9 hs.q (by omega) (by decide) ?_
  refine pw_aload_1 dL_fails_10 ?_
  refine pw_bipush (v := nI 16) dL_fails_11 (by decide) ?_
  refine pw_iload_5 dL_fails_13 ?_
  refine pw_iaddN dL_fails_15 ?_
  refine pw_dup2_11 dL_fails_16 ?_
  refine pw_ialdN dL_fails_17 hs.b (by omega) (by decide) ?_
  refine pw_top ((lx_o (by omega)).trans hb2) ?_
  refine pw_iconst (v := nI 1) dL_fails_18 (by decide) ?_
  refine pw_iadd dL_fails_19 ?_
  refine pw_iastN dL_fails_20 hs.b (by omega) (by decide) ?_
  refine pw_aload_0 dL_fails_21 ?_
  refine pw_bipush (v := nI 40) dL_fails_22 (by decide) ?_
  refine pw_iload_5 dL_fails_24 ?_
  refine pw_iaddN dL_fails_26 ?_
  refine pw_iconst (v := -1) dL_fails_27 (by decide) ?_
  refine pw_iastN dL_fails_28 hs.a (by omega) (by decide) ?_
  refine pw_aload_0 dL_fails_29 ?_
  refine pw_bipush (v := nI 48) dL_fails_30 (by decide) ?_
  refine pw_iload_5 dL_fails_32 ?_
  refine pw_iaddN dL_fails_34 ?_
  refine pw_iconst (v := nI 0) dL_fails_35 (by decide) ?_
  refine pw_iastN dL_fails_36 hs.a (by omega) (by decide) ?_
  refine pw_gen (P := LU κ μ0 p (setS B i (guF (bS B i)))) (k_fa1 hl hi8 hx9) (fun ν hf => ?_)
  have hz4 : ν (p + 2) i = nI (z + 2048) := (hf.rqg 0 (by omega) hi8 (by omega) (by rw [gu_nw9]; exact h0)).trans ((qV_of (v := v) (x := x) (y := y + 1) ((gu_n (by omega)).trans e5) ((gu_n (by omega)).trans e6) ((gu_7 _).trans (by rw [e7, nI_add]))).trans (congrArg nI (by omega)))
  have hz5 : ν (p + 1) i = bS B i 20 := (hf.rbg 0 20 (by omega) rfl hi8 (by omega)).trans (gu_n (by omega))
  have hz6 : ν (p + 4) (18 + x) = bW B x 3 := hf.rw x 3 (by omega) hx6 (by omega)
  have hz7 : ν (p + 5) 4 = nI s4 := (hf.t (k := 4) (by omega)).trans hs4
  refine pw_aload_2 dL_fails_37 ?_
  refine pw_iload_5 dL_fails_38 ?_
  refine pw_ialdN dL_fails_40 hs.q (by omega) (by decide) ?_
  refine pw_top hz4 ?_
  refine pw_sipush (v := nI 2048) dL_fails_41 (by decide) ?_
  refine pw_idiv dL_fails_44 (by decide) ?_
  refine pw_top (pk_div (a := z + 2048) (d := 2048) (by omega) (by decide) (by decide)) ?_
  refine pw_top (congrArg nI (show (z + 2048) / 2048 = y + 1 by omega)) ?_
  refine pw_aload_4 dL_fails_45 ?_
  refine pw_iconst (v := nI 4) dL_fails_47 (by decide) ?_
  refine pw_ialdN dL_fails_48 hs.t (by omega) (by decide) ?_
  refine pw_top hz7 ?_
  refine pw_icmp_lt 82 dL_fails_49 (by decide) (fun h1 => ?_) (fun h1 => ?_)
  · skip
    refine pw_return dL_fails_82 rfl ?_
    have hc9 : ¬ bG B 4 ≤ bS B i 7 + nI 1 := by
      have h95 := h1
      rw [nI_ltI (by omega) (by omega)] at h95
      rw [hs4, e7, nI_add, nI_leI (by omega) (by omega)]
      omega
    have eg : guB B i = setS B i (guF (bS B i)) := if_neg hc9
    rw [← eg] at hf
    exact q _ hf
  · skip
    refine pw_aload_1 dL_fails_52 ?_
    refine pw_iload_5 dL_fails_53 ?_
    refine pw_dup2_11 dL_fails_55 ?_
    refine pw_ialdN dL_fails_56 hs.b (by omega) (by decide) ?_
    refine pw_top hz5 ?_
    refine pw_iconst (v := nI 1) dL_fails_57 (by decide) ?_
    refine pw_iadd dL_fails_58 ?_
    refine pw_iastN dL_fails_59 hs.b (by omega) (by decide) ?_
    refine pw_aload_3 dL_fails_60 ?_
    refine pw_bipush (v := nI 18) dL_fails_61 (by decide) ?_
    refine pw_aload_2 dL_fails_63 ?_
    refine pw_iload_5 dL_fails_64 ?_
    refine pw_cS2i dL_fails_66 kL_10 vL_wireOf sL_wireOf ⟨by decide, by decide⟩ ⟨rfl, rfl⟩ (Nat.le_of_ble_eq_true rfl) (c_wireOf (x := x) hs.q (by omega) ((lx_o (by omega)).trans hz4) (by omega) (by omega) ?_)
    refine pw_iaddN dL_fails_69 ?_
    refine pw_dup2_11 dL_fails_70 ?_
    refine pw_ialdN dL_fails_71 hs.w (by omega) (by decide) ?_
    refine pw_top ((lx_o (by omega)).trans hz6) ?_
    refine pw_iconst (v := nI 1) dL_fails_72 (by decide) ?_
    refine pw_iadd dL_fails_73 ?_
    refine pw_iastN dL_fails_74 hs.w (by omega) (by decide) ?_
    refine pw_aload_0 dL_fails_75 ?_
    refine pw_aload_2 dL_fails_76 ?_
    refine pw_iload_5 dL_fails_77 ?_
    refine pw_cS3v dL_fails_79 kL_16 vL_away sL_away ⟨by decide, by decide⟩ ⟨rfl, rfl⟩ (Nat.le_of_ble_eq_true rfl) (k_away (κ := κ) (μ0 := μ0) (B := setW B x 3 (bW B x 3 + nI 1)) (g := upd (guF (bS B i)) 20 (bS B i 20 + nI 1)) hs ((hf.wB 0 20 (by omega) rfl hi8 (by omega)).wW x 3 (by omega) hx6 (by omega)) hi8 ((upd_n _ _ (by omega)).trans ((gu_n (by omega)).trans (wf.s hi).w.1)) (wf.s hi).w.2 h0 (fun ν2 hf2 => ?_))
    refine pw_return dL_fails_82 rfl ?_
    have hc9 : bG B 4 ≤ bS B i 7 + nI 1 := by
      have h95 := h1
      rw [nI_ltI (by omega) (by omega)] at h95
      rw [hs4, e7, nI_add, nI_leI (by omega) (by omega)]
      omega
    have eg : guB B i = setS (setW B x 3 (bW B x 3 + nI 1)) i (lvF (upd (guF (bS B i)) 20 (bS B i 20 + nI 1))) := by
      have hw9 : fwB B i = x := by
        unfold fwB
        rw [show bS B i 6 = nI x from e6, nI_clamp (by omega)]
      unfold guB
      rw [if_pos hc9, hw9]
      rfl
    rw [← eg] at hf2
    exact q _ hf2
set_option maxRecDepth 100000 in
set_option maxHeartbeats 4000000 in
theorem c_copy {X : Cx} {σ : Sp} {μ : Mm} {Q : Sp → Mm → Prop} {a c n : Nat} (ha : ShA σ a 11 n) (hc : ShA σ c 11 n) (hne : a ≠ c) (hn : n < 1000) (q : ∀ f, (∀ j, j < n → f j = μ a j) → Q σ (wC μ c f)) : CTv X mL_copy [.ref a, .ref c] σ μ Q := by
  refine CT.of (by decide +kernel) (Nat.le_of_ble_eq_true rfl) ?_
  show PW X mL_copy 0 0 0 [some (.ref a), some (.ref c), none] [] σ μ (LV Q)
  refine pw_iconst (v := nI 0) dL_copy_0 (by decide) ?_
  refine pw_istore_2 dL_copy_1 (by decide) ?_
  refine pw_fg (ls' := [some (.ref a), some (.ref c), some (.int (nI 0))]) ⟨Or.inr rfl, Or.inr rfl, Or.inr rfl, trivial⟩ ?_
  have loop : ∀ k, k ≤ n → ∀ f, (∀ j, j < k → f j = μ a j) → PW X mL_copy 0 0 2 [some (.ref a), some (.ref c), some (.int (nI k))] [] σ (wC μ c f) (LV Q) := by
    refine pw_up (P := fun k => ∀ f, (∀ j, j < k → f j = μ a j) → PW X mL_copy 0 0 2 [some (.ref a), some (.ref c), some (.int (nI k))] [] σ (wC μ c f) (LV Q)) n ?_ ?_
    · intro f hf
      refine pw_iload_2 dL_copy_2 ?_
      refine pw_aload_0 dL_copy_3 ?_
      refine pw_alenI dL_copy_4 ha.1 ?_
      refine pw_top (congrArg nI ha.2) ?_
      refine pw_icmp_ge 20 dL_copy_5 (by decide) (fun _ => ?_) (fun hh => absurd (by rw [nI_leI (by omega) (by omega)]; omega) hh)
      refine pw_return dL_copy_20 rfl ?_
      exact q f hf
    · intro k hk ih f hf
      refine pw_iload_2 dL_copy_2 ?_
      refine pw_aload_0 dL_copy_3 ?_
      refine pw_alenI dL_copy_4 ha.1 ?_
      refine pw_top (congrArg nI ha.2) ?_
      refine pw_icmp_ge 20 dL_copy_5 (by decide) (fun hh => absurd hh (by rw [nI_leI (by omega) (by omega)]; omega)) (fun _ => ?_)
      refine pw_aload_1 dL_copy_8 ?_
      refine pw_iload_2 dL_copy_9 ?_
      refine pw_aload_0 dL_copy_10 ?_
      refine pw_iload_2 dL_copy_11 ?_
      refine pw_ialdN dL_copy_12 ha (by omega) (by omega) ?_
      refine pw_iastN dL_copy_13 hc (by omega) (by omega) ?_
      refine pw_iincN_2 dL_copy_14 (by decide) ?_
      refine pw_goto 2 dL_copy_17 (by decide) ?_
      rw [wr_wC_s]
      refine ih _ (fun j hj => ?_)
      by_cases e : j = k
      · subst e
        rw [upd_s, wC_ne _ _ hne]
      · rw [upd_n _ _ e]
        exact hf j (by omega)
  have e9 := loop 0 (Nat.zero_le _) (μ c) (fun j hj => absurd hj (Nat.not_lt_zero j))
  rw [wC_id] at e9
  exact e9
