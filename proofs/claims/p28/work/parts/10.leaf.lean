/-! Pure rows, and the contracts of the class's small methods -/
theorem wr_s (μ : Mm) (a k : Nat) (x : Int32) : wr μ a k x a = upd (μ a) k x := by simp [wr]
theorem wr_n (μ : Mm) {a b : Nat} (k : Nat) (x : Int32) (h : b ≠ a) : wr μ a k x b = μ b := by simp [wr, h]
theorem upd_s (f : Nat → Int32) (k : Nat) (x : Int32) : upd f k x k = x := by simp [upd]
theorem upd_n (f : Nat → Int32) {k j : Nat} (x : Int32) (h : j ≠ k) : upd f k x j = f j := by simp [upd, h]
theorem wr_wC_s (μ : Mm) (a k : Nat) (f : Nat → Int32) (x : Int32) : wr (wC μ a f) a k x = wC μ a (upd f k x) := by
  funext b
  by_cases h : b = a <;> simp [wr, wC, h]
theorem wr_wC_n (μ : Mm) {a b : Nat} (k : Nat) (g : Nat → Int32) (x : Int32) (h : a ≠ b) : wr (wC μ b g) a k x = wC (wr μ a k x) b g := by
  funext c
  by_cases h1 : c = a
  · subst h1
    simp [wr, wC, h]
  · by_cases h2 : c = b <;> simp [wr, wC, h1, h2, Ne.symm h]
theorem wC_id (μ : Mm) (a : Nat) : wC μ a (μ a) = μ := by
  funext b
  by_cases h : b = a <;> simp [wC, h]
theorem wC_wC (μ : Mm) (a : Nat) (f g : Nat → Int32) : wC (wC μ a f) a g = wC μ a g := by
  funext b
  by_cases h : b = a <;> simp [wC, h]
theorem wC_comm (μ : Mm) {a b : Nat} (f g : Nat → Int32) (h : a ≠ b) : wC (wC μ a f) b g = wC (wC μ b g) a f := by
  funext c
  by_cases h1 : c = a
  · subst h1
    simp [wC, h]
  · by_cases h2 : c = b <;> simp [wC, h1, h2, Ne.symm h]
theorem ix_of {x : Int32} {n : Nat} (hn : n < 2 ^ 31) (h0 : ¬ x < 0) (h1 : ¬ nI n ≤ x) : ∃ j, j < n ∧ x = nI j := by
  obtain ⟨j, hj, rfl⟩ := nI_of h0
  refine ⟨j, ?_, rfl⟩
  rcases Nat.lt_or_ge j n with h | h
  · exact h
  · exact absurd (nI_le h hj) h1
theorem ix_no {x : Int32} {n : Nat} (hn : n < 2 ^ 31) (h : x < 0 ∨ nI n ≤ x) : ∀ j, j < n → x ≠ nI j := by
  rintro j hj rfl
  rcases h with h | h
  · exact nI_pos (by omega) h
  · exact nI_ge hj hn h
/-- rows shifted by one, up to a place -/
def shf (f : Nat → Int32) (i : Nat) : Nat → Int32 := fun j => if j + 1 < i then f (j + 1) else f j
theorem shf_1 (f : Nat → Int32) : shf f 1 = f := by
  funext j
  simp [shf]
theorem shf_S (f : Nat → Int32) {i : Nat} (h : 1 ≤ i) : upd (shf f i) (i - 1) (shf f i i) = shf f (i + 1) := by
  funext j
  by_cases hj : j = i - 1
  · subst hj
    have : i - 1 + 1 = i := by omega
    simp [shf, upd, this]
    intro hh
    omega
  · simp only [upd, hj, if_false, shf]
    by_cases h2 : j + 1 < i
    · rw [if_pos h2, if_pos (by omega)]
    · rw [if_neg h2, if_neg (by omega)]
def dropW (μ : Mm) (a i : Nat) : Mm := wC (wC (wC μ (a + 2) (shf (μ (a + 2)) i)) (a + 3) (shf (μ (a + 3)) i)) (a + 4) (shf (μ (a + 4)) i)
theorem dropW_1 (μ : Mm) (a : Nat) : dropW μ a 1 = μ := by simp [dropW, shf_1, wC_id]
def dropF (μ : Mm) (a n : Nat) : Mm := if n = 0 then μ else wr (dropW μ a n) (a + 1) 3 (nI (n - 1))
def tryF (μ : Mm) (a : Nat) : Mm := wr μ (a + 4) 0 (μ (a + 4) 0 + nI 1)
def addF (μ : Mm) (a n : Nat) (x y : Int32) : Mm := wr (wr (wr (wr μ (a + 2) n x) (a + 3) n y) (a + 4) n (nI 0)) (a + 1) 3 (nI (n + 1))
def silF (μ : Mm) (a : Nat) : Mm := wr (wr (wr (wr μ a 7 (-1)) a 8 (nI 0)) a 9 (nI 0)) a 10 (nI 0)
def ltF (f : Nat → Int32) (x y z u : Int32) : Nat → Int32 := upd (upd (upd (upd (va_cpy f f 0 4 12) 0 x) 1 y) 2 z) 3 u
def ladF (μ : Mm) (a n : Nat) (x y z u : Int32) : Mm := wr (wC μ (a + 6) (ltF (μ (a + 6)) x y z u)) (a + 5) 1 (nI (if n < 4 then n + 1 else 4))
def begF (μ : Mm) (a : Nat) (x y z : Int32) : Mm := wr (wr (wr (wr μ a 7 (nI 0)) a 8 (nI 1 <<< (x &&& 31))) a 9 ((μ a 0 <<< (nI 8 &&& 31)) ||| y)) a 10 z
theorem min4 {n : Nat} (h : n ≤ 4) : (if nI 4 < nI (n + 1) then nI 4 else nI (n + 1)) = nI (if n < 4 then n + 1 else 4) := by
  rcases Nat.lt_or_ge n 4 with h5 | h5
  · rw [if_pos h5, if_neg (by rw [nI_ltI (by decide) (by omega)]; omega)]
  · have h6 : n = 4 := by omega
    subst h6
    decide
/-- the bit of a number at a place -/
def bi (x y : Int32) : Int32 := (x >>> (y &&& 31)) &&& nI 1
/-- how many words of the row are for a wire -/
def cntF (f : Nat → Int32) (x : Int32) : Nat → Nat
  | 0 => 0
  | n + 1 => cntF f x n + (if f n = x then 1 else 0)
theorem cntF_le (f : Nat → Int32) (x : Int32) : ∀ n, cntF f x n ≤ n
  | 0 => Nat.le_refl _
  | n + 1 => by
    have := cntF_le f x n
    simp only [cntF]
    split <;> omega
set_option maxRecDepth 100000 in
set_option maxHeartbeats 4000000 in
theorem c_X5_has {X : Cx} {σ : Sp} {μ : Mm} {Q : Int32 → Sp → Mm → Prop} {a n : Nat} {x : Int32} (h : ShSt σ a) (hn : μ (a + 1) 3 = nI n) (h4 : n ≤ 4) (q1 : ∀ j, x = nI j → j < n → Q (nI 1) σ μ) (q0 : (∀ j, j < n → x ≠ nI j) → Q (nI 0) σ μ) : CTi X mX5_has [.ref (a + 1), .int x] σ μ Q := by
  refine CT.of (by decide +kernel) (Nat.le_of_ble_eq_true rfl) ?_
  show PW X mX5_has 0 0 0 [some (.ref (a + 1)), some (.int x)] [] σ μ (LI Q)
  refine pw_iload_1 dX5_has_0 ?_
  refine pw_if_lt 21 dX5_has_1 (by decide) (fun h1 => ?_) (fun h1 => ?_)
  · skip
    refine pw_iconst (v := nI 0) dX5_has_21 (by decide) ?_
    refine pw_zreturn dX5_has_22 rfl (by decide) ?_
    exact q0 (ix_no (by omega) (Or.inl h1))
  · skip
    refine pw_iload_1 dX5_has_4 ?_
    refine pw_aload_0 dX5_has_5 ?_
    refine pw_getI 5 3 dX5_has_6 fX5_25 rfl (by decide) rfl h.w ?_
    refine pw_top hn ?_
    refine pw_icmp_ge 21 dX5_has_9 (by decide) (fun h2 => ?_) (fun h2 => ?_)
    · skip
      refine pw_iconst (v := nI 0) dX5_has_21 (by decide) ?_
      refine pw_zreturn dX5_has_22 rfl (by decide) ?_
      exact q0 (ix_no (by omega) (Or.inr h2))
    · skip
      refine pw_iload_1 dX5_has_12 ?_
      refine pw_iconst (v := nI 4) dX5_has_13 (by decide) ?_
      refine pw_icmp_ge 21 dX5_has_14 (by decide) (fun h3 => ?_) (fun h3 => ?_)
      · skip
        refine pw_iconst (v := nI 0) dX5_has_21 (by decide) ?_
        refine pw_zreturn dX5_has_22 rfl (by decide) ?_
        exact q0 (fun j hj e => nI_ge (a := j) (b := 4) (by omega) (by decide) (by rw [← e]; exact h3))
      · skip
        refine pw_iconst (v := nI 1) dX5_has_17 (by decide) ?_
        refine pw_goto 22 dX5_has_18 (by decide) ?_
        refine pw_zreturn dX5_has_22 rfl (by decide) ?_
        obtain ⟨j, hj, rfl⟩ := ix_of (by omega) h1 h2
        exact q1 j rfl hj
theorem c_X5_hasN {X : Cx} {σ : Sp} {μ : Mm} {Q : Int32 → Sp → Mm → Prop} {a n e : Nat} (h : ShSt σ a) (hn : μ (a + 1) 3 = nI n) (h4 : n ≤ 4) (he : e < 2 ^ 31) (q1 : e < n → Q (nI 1) σ μ) (q0 : n ≤ e → Q (nI 0) σ μ) : CTi X mX5_has [.ref (a + 1), .int (nI e)] σ μ Q := by
  refine c_X5_has h hn h4 (fun j hj hjn => ?_) (fun hno => ?_)
  · have : e = j := (nI_eq he (by omega)).mp hj
    subst this
    exact q1 hjn
  · rcases Nat.lt_or_ge e n with h | h
    · exact absurd rfl (hno e h)
    · exact q0 h
set_option maxRecDepth 100000 in
set_option maxHeartbeats 4000000 in
theorem c_X5_numberAt {X : Cx} {σ : Sp} {μ : Mm} {Q : Int32 → Sp → Mm → Prop} {a n e : Nat} (h : ShSt σ a) (hn : μ (a + 1) 3 = nI n) (h4 : n ≤ 4) (he : e < 2 ^ 31) (q1 : e < n → Q (μ (a + 2) e) σ μ) (q0 : n ≤ e → Q (-6) σ μ) : CTi X mX5_numberAt [.ref (a + 1), .int (nI e)] σ μ Q := by
  refine CT.of (by decide +kernel) (Nat.le_of_ble_eq_true rfl) ?_
  show PW X mX5_numberAt 0 0 0 [some (.ref (a + 1)), some (.int (nI e))] [] σ μ (LI Q)
  refine pw_aload_0 dX5_numberAt_0 ?_
  refine pw_iload_1 dX5_numberAt_1 ?_
  refine pw_cV1i 5 dX5_numberAt_2 kX5_29 vX5_has iX5_has ⟨by decide, by decide⟩ ⟨rfl, rfl⟩ (by decide) rfl (Nat.le_of_ble_eq_true rfl) h.w (c_X5_hasN h hn h4 (by omega) (fun h1 => ?_) (fun h2 => ?_))
  · skip
    refine pw_if_eq 17 dX5_numberAt_5 (by decide) (fun hh => absurd hh (by decide)) (fun _ => ?_)
    refine pw_aload_0 dX5_numberAt_8 ?_
    refine pw_getr 5 0 dX5_numberAt_9 fX5_9 rfl (by decide) rfl h.w h.w0 ?_
    refine pw_iload_1 dX5_numberAt_12 ?_
    refine pw_ialdN dX5_numberAt_13 h.n (by omega) (by decide) ?_
    refine pw_goto 19 dX5_numberAt_14 (by decide) ?_
    refine pw_ireturn dX5_numberAt_19 rfl ?_
    exact q1 h1
  · skip
    refine pw_if_eq 17 dX5_numberAt_5 (by decide) (fun _ => ?_) (fun hh => absurd (by decide) hh)
    refine pw_bipush (v := -6) dX5_numberAt_17 (by decide) ?_
    refine pw_ireturn dX5_numberAt_19 rfl ?_
    exact q0 h2
set_option maxRecDepth 100000 in
set_option maxHeartbeats 4000000 in
theorem c_X5_wireAt {X : Cx} {σ : Sp} {μ : Mm} {Q : Int32 → Sp → Mm → Prop} {a n e : Nat} (h : ShSt σ a) (hn : μ (a + 1) 3 = nI n) (h4 : n ≤ 4) (he : e < 2 ^ 31) (q1 : e < n → Q (μ (a + 3) e) σ μ) (q0 : n ≤ e → Q (-6) σ μ) : CTi X mX5_wireAt [.ref (a + 1), .int (nI e)] σ μ Q := by
  refine CT.of (by decide +kernel) (Nat.le_of_ble_eq_true rfl) ?_
  show PW X mX5_wireAt 0 0 0 [some (.ref (a + 1)), some (.int (nI e))] [] σ μ (LI Q)
  refine pw_aload_0 dX5_wireAt_0 ?_
  refine pw_iload_1 dX5_wireAt_1 ?_
  refine pw_cV1i 5 dX5_wireAt_2 kX5_29 vX5_has iX5_has ⟨by decide, by decide⟩ ⟨rfl, rfl⟩ (by decide) rfl (Nat.le_of_ble_eq_true rfl) h.w (c_X5_hasN h hn h4 (by omega) (fun h1 => ?_) (fun h2 => ?_))
  · skip
    refine pw_if_eq 17 dX5_wireAt_5 (by decide) (fun hh => absurd hh (by decide)) (fun _ => ?_)
    refine pw_aload_0 dX5_wireAt_8 ?_
    refine pw_getr 5 1 dX5_wireAt_9 fX5_15 rfl (by decide) rfl h.w h.w1 ?_
    refine pw_iload_1 dX5_wireAt_12 ?_
    refine pw_ialdN dX5_wireAt_13 h.x (by omega) (by decide) ?_
    refine pw_goto 19 dX5_wireAt_14 (by decide) ?_
    refine pw_ireturn dX5_wireAt_19 rfl ?_
    exact q1 h1
  · skip
    refine pw_if_eq 17 dX5_wireAt_5 (by decide) (fun _ => ?_) (fun hh => absurd (by decide) hh)
    refine pw_bipush (v := -6) dX5_wireAt_17 (by decide) ?_
    refine pw_ireturn dX5_wireAt_19 rfl ?_
    exact q0 h2
set_option maxRecDepth 100000 in
set_option maxHeartbeats 4000000 in
theorem c_X5_triesAt {X : Cx} {σ : Sp} {μ : Mm} {Q : Int32 → Sp → Mm → Prop} {a n e : Nat} (h : ShSt σ a) (hn : μ (a + 1) 3 = nI n) (h4 : n ≤ 4) (he : e < 2 ^ 31) (q1 : e < n → Q (μ (a + 4) e) σ μ) (q0 : n ≤ e → Q (-6) σ μ) : CTi X mX5_triesAt [.ref (a + 1), .int (nI e)] σ μ Q := by
  refine CT.of (by decide +kernel) (Nat.le_of_ble_eq_true rfl) ?_
  show PW X mX5_triesAt 0 0 0 [some (.ref (a + 1)), some (.int (nI e))] [] σ μ (LI Q)
  refine pw_aload_0 dX5_triesAt_0 ?_
  refine pw_iload_1 dX5_triesAt_1 ?_
  refine pw_cV1i 5 dX5_triesAt_2 kX5_29 vX5_has iX5_has ⟨by decide, by decide⟩ ⟨rfl, rfl⟩ (by decide) rfl (Nat.le_of_ble_eq_true rfl) h.w (c_X5_hasN h hn h4 (by omega) (fun h1 => ?_) (fun h2 => ?_))
  · skip
    refine pw_if_eq 17 dX5_triesAt_5 (by decide) (fun hh => absurd hh (by decide)) (fun _ => ?_)
    refine pw_aload_0 dX5_triesAt_8 ?_
    refine pw_getr 5 2 dX5_triesAt_9 fX5_18 rfl (by decide) rfl h.w h.w2 ?_
    refine pw_iload_1 dX5_triesAt_12 ?_
    refine pw_ialdN dX5_triesAt_13 h.y (by omega) (by decide) ?_
    refine pw_goto 19 dX5_triesAt_14 (by decide) ?_
    refine pw_ireturn dX5_triesAt_19 rfl ?_
    exact q1 h1
  · skip
    refine pw_if_eq 17 dX5_triesAt_5 (by decide) (fun _ => ?_) (fun hh => absurd (by decide) hh)
    refine pw_bipush (v := -6) dX5_triesAt_17 (by decide) ?_
    refine pw_ireturn dX5_triesAt_19 rfl ?_
    exact q0 h2
set_option maxRecDepth 100000 in
set_option maxHeartbeats 4000000 in
theorem c_X5_countFor {X : Cx} {σ : Sp} {μ : Mm} {Q : Int32 → Sp → Mm → Prop} {a n : Nat} {x : Int32} (h : ShSt σ a) (hn : μ (a + 1) 3 = nI n) (h4 : n ≤ 4) (q : Q (nI (cntF (μ (a + 3)) x n)) σ μ) : CTi X mX5_countFor [.ref (a + 1), .int x] σ μ Q := by
  refine CT.of (by decide +kernel) (Nat.le_of_ble_eq_true rfl) ?_
  show PW X mX5_countFor 0 0 0 [some (.ref (a + 1)), some (.int x), none, none] [] σ μ (LI Q)
  refine pw_iconst (v := nI 0) dX5_countFor_0 (by decide) ?_
  refine pw_istore_2 dX5_countFor_1 (by decide) ?_
  refine pw_iconst (v := nI 0) dX5_countFor_2 (by decide) ?_
  refine pw_istore_3 dX5_countFor_3 (by decide) ?_
  refine pw_up (P := fun i => PW X mX5_countFor 0 0 4 [some (.ref (a + 1)), some (.int x), some (.int (nI (cntF (μ (a + 3)) x i))), some (.int (nI i))] [] σ μ (LI Q)) n ?_ ?_ 0 (by omega)
  · skip
    refine pw_iload_3 dX5_countFor_4 ?_
    refine pw_aload_0 dX5_countFor_5 ?_
    refine pw_getI 5 3 dX5_countFor_6 fX5_25 rfl (by decide) rfl h.w ?_
    refine pw_top hn ?_
    refine pw_icmp_ge 30 dX5_countFor_9 (by decide) (fun _ => ?_) (fun hh => absurd (by rw [nI_leI (by omega) (by omega)]; omega) hh)
    refine pw_iload_2 dX5_countFor_30 ?_
    refine pw_ireturn dX5_countFor_31 rfl ?_
    exact q
  · intro i hi ih
    refine pw_iload_3 dX5_countFor_4 ?_
    refine pw_aload_0 dX5_countFor_5 ?_
    refine pw_getI 5 3 dX5_countFor_6 fX5_25 rfl (by decide) rfl h.w ?_
    refine pw_top hn ?_
    refine pw_icmp_ge 30 dX5_countFor_9 (by decide) (fun hh => absurd hh (by rw [nI_leI (by omega) (by omega)]; omega)) (fun _ => ?_)
    refine pw_aload_0 dX5_countFor_12 ?_
    refine pw_iload_3 dX5_countFor_13 ?_
    refine pw_cV1i 5 dX5_countFor_14 kX5_33 vX5_wireAt iX5_wireAt ⟨by decide, by decide⟩ ⟨rfl, rfl⟩ (by decide) rfl (Nat.le_of_ble_eq_true rfl) h.w (c_X5_wireAt h hn h4 (by omega) (fun h1 => ?_) (fun hh => absurd hh (by omega)))
    refine pw_iload_1 dX5_countFor_17 ?_
    refine pw_icmp_ne 24 dX5_countFor_18 (by decide) (fun h2 => ?_) (fun h2 => ?_)
    · skip
      refine pw_iincN_3 dX5_countFor_24 (by decide) ?_
      refine pw_goto 4 dX5_countFor_27 (by decide) ?_
      simp only [cntF, if_neg h2] at ih
      exact ih
    · skip
      refine pw_iincN_2 dX5_countFor_21 (by decide) ?_
      refine pw_iincN_3 dX5_countFor_24 (by decide) ?_
      refine pw_goto 4 dX5_countFor_27 (by decide) ?_
      simp only [cntF, if_pos h2] at ih
      exact ih
set_option maxRecDepth 100000 in
set_option maxHeartbeats 4000000 in
theorem c_X5_add {X : Cx} {σ : Sp} {μ : Mm} {Q : Sp → Mm → Prop} {a n : Nat} {x y : Int32} (h : ShSt σ a) (hn : μ (a + 1) 3 = nI n) (h4 : n < 4) (q : Q σ (addF μ a n x y)) : CTv X mX5_add [.ref (a + 1), .int x, .int y] σ μ Q := by
  refine CT.of (by decide +kernel) (Nat.le_of_ble_eq_true rfl) ?_
  show PW X mX5_add 0 0 0 [some (.ref (a + 1)), some (.int x), some (.int y)] [] σ μ (LV Q)
  refine pw_aload_0 dX5_add_0 ?_
  refine pw_getI 5 3 dX5_add_1 fX5_25 rfl (by decide) rfl h.w ?_
  refine pw_top hn ?_
  refine pw_iconst (v := nI 4) dX5_add_4 (by decide) ?_
  refine pw_icmp_lt 9 dX5_add_5 (by decide) (fun _ => ?_) (fun hh => absurd (show nI n < nI 4 from nI_lt h4 (by decide)) hh)
  refine pw_aload_0 dX5_add_9 ?_
  refine pw_getr 5 0 dX5_add_10 fX5_9 rfl (by decide) rfl h.w h.w0 ?_
  refine pw_aload_0 dX5_add_13 ?_
  refine pw_getI 5 3 dX5_add_14 fX5_25 rfl (by decide) rfl h.w ?_
  refine pw_top hn ?_
  refine pw_iload_1 dX5_add_17 ?_
  refine pw_iastN dX5_add_18 h.n (by omega) (by decide) ?_
  refine pw_aload_0 dX5_add_19 ?_
  refine pw_getr 5 1 dX5_add_20 fX5_15 rfl (by decide) rfl h.w h.w1 ?_
  refine pw_aload_0 dX5_add_23 ?_
  refine pw_getI 5 3 dX5_add_24 fX5_25 rfl (by decide) rfl h.w ?_
  refine pw_top (by simp (disch := omega) only [wr_s, wr_n, upd_s, upd_n, wC_self, wC_ne]; exact hn) ?_
  refine pw_iload_2 dX5_add_27 ?_
  refine pw_iastN dX5_add_28 h.x (by omega) (by decide) ?_
  refine pw_aload_0 dX5_add_29 ?_
  refine pw_getr 5 2 dX5_add_30 fX5_18 rfl (by decide) rfl h.w h.w2 ?_
  refine pw_aload_0 dX5_add_33 ?_
  refine pw_getI 5 3 dX5_add_34 fX5_25 rfl (by decide) rfl h.w ?_
  refine pw_top (by simp (disch := omega) only [wr_s, wr_n, upd_s, upd_n, wC_self, wC_ne]; exact hn) ?_
  refine pw_iconst (v := nI 0) dX5_add_37 (by decide) ?_
  refine pw_iastN dX5_add_38 h.y (by omega) (by decide) ?_
  refine pw_aload_0 dX5_add_39 ?_
  refine pw_dup dX5_add_40 ?_
  refine pw_getI 5 3 dX5_add_41 fX5_25 rfl (by decide) rfl h.w ?_
  refine pw_top (by simp (disch := omega) only [wr_s, wr_n, upd_s, upd_n, wC_self, wC_ne]; exact hn) ?_
  refine pw_iconst (v := nI 1) dX5_add_44 (by decide) ?_
  refine pw_iaddN dX5_add_45 ?_
  refine pw_putI 5 3 dX5_add_46 fX5_25 rfl (by decide) rfl (Or.inl rfl) rfl (by decide) h.w ?_
  refine pw_return dX5_add_49 rfl ?_
  exact q
set_option maxRecDepth 100000 in
set_option maxHeartbeats 4000000 in
theorem c_X5_tryFirst {X : Cx} {σ : Sp} {μ : Mm} {Q : Int32 → Sp → Mm → Prop} {a n : Nat} (h : ShSt σ a) (hn : μ (a + 1) 3 = nI n) (h4 : n ≤ 4) (h0 : 0 < n) (q : Q (μ (a + 4) 0 + nI 1) σ (tryF μ a)) : CTi X mX5_tryFirst [.ref (a + 1)] σ μ Q := by
  refine CT.of (by decide +kernel) (Nat.le_of_ble_eq_true rfl) ?_
  show PW X mX5_tryFirst 0 0 0 [some (.ref (a + 1))] [] σ μ (LI Q)
  refine pw_aload_0 dX5_tryFirst_0 ?_
  refine pw_getI 5 3 dX5_tryFirst_1 fX5_25 rfl (by decide) rfl h.w ?_
  refine pw_top hn ?_
  refine pw_if_ne 9 dX5_tryFirst_4 (by decide) (fun _ => ?_) (fun hh => absurd hh (nI_ne0 h0 (by omega)))
  refine pw_aload_0 dX5_tryFirst_9 ?_
  refine pw_getr 5 2 dX5_tryFirst_10 fX5_18 rfl (by decide) rfl h.w h.w2 ?_
  refine pw_iconst (v := nI 0) dX5_tryFirst_13 (by decide) ?_
  refine pw_dup2_11 dX5_tryFirst_14 ?_
  refine pw_ialdN dX5_tryFirst_15 h.y (by omega) (by decide) ?_
  refine pw_iconst (v := nI 1) dX5_tryFirst_16 (by decide) ?_
  refine pw_iadd dX5_tryFirst_17 ?_
  refine pw_iastN dX5_tryFirst_18 h.y (by omega) (by decide) ?_
  refine pw_aload_0 dX5_tryFirst_19 ?_
  refine pw_getr 5 2 dX5_tryFirst_20 fX5_18 rfl (by decide) rfl h.w h.w2 ?_
  refine pw_iconst (v := nI 0) dX5_tryFirst_23 (by decide) ?_
  refine pw_ialdN dX5_tryFirst_24 h.y (by omega) (by decide) ?_
  refine pw_ireturn dX5_tryFirst_25 rfl ?_
  refine Eq.mp (congrArg (fun z => Q z σ (tryF μ a)) ?_) q
  simp only [tryF, wr_s, upd_s]
set_option maxRecDepth 100000 in
set_option maxHeartbeats 4000000 in
theorem c_X5_dropFirst {X : Cx} {σ : Sp} {μ : Mm} {Q : Sp → Mm → Prop} {a n : Nat} (h : ShSt σ a) (hn : μ (a + 1) 3 = nI n) (h4 : n ≤ 4) (h0 : 0 < n) (q : Q σ (dropF μ a n)) : CTv X mX5_dropFirst [.ref (a + 1)] σ μ Q := by
  refine CT.of (by decide +kernel) (Nat.le_of_ble_eq_true rfl) ?_
  show PW X mX5_dropFirst 0 0 0 [some (.ref (a + 1)), none] [] σ μ (LV Q)
  refine pw_aload_0 dX5_dropFirst_0 ?_
  refine pw_getI 5 3 dX5_dropFirst_1 fX5_25 rfl (by decide) rfl h.w ?_
  refine pw_top hn ?_
  refine pw_if_ne 8 dX5_dropFirst_4 (by decide) (fun _ => ?_) (fun hh => absurd hh (nI_ne0 h0 (by omega)))
  refine pw_iconst (v := nI 1) dX5_dropFirst_8 (by decide) ?_
  refine pw_istore_1 dX5_dropFirst_9 (by decide) ?_
  rw [← dropW_1 μ a]
  refine pw_up (P := fun i => 1 ≤ i → PW X mX5_dropFirst 0 0 10 [some (.ref (a + 1)), some (.int (nI i))] [] σ (dropW μ a i) (LV Q)) n ?_ ?_ 1 (by omega) (Nat.le_refl 1)
  · intro _
    refine pw_iload_1 dX5_dropFirst_10 ?_
    refine pw_aload_0 dX5_dropFirst_11 ?_
    refine pw_getI 5 3 dX5_dropFirst_12 fX5_25 rfl (by decide) rfl h.w ?_
    refine pw_top (by simp (disch := omega) only [dropW, wr_n, wC_ne]; exact hn) ?_
    refine pw_icmp_ge 66 dX5_dropFirst_15 (by decide) (fun _ => ?_) (fun hh => absurd (Int32.le_refl _) hh)
    refine pw_aload_0 dX5_dropFirst_66 ?_
    refine pw_dup dX5_dropFirst_67 ?_
    refine pw_getI 5 3 dX5_dropFirst_68 fX5_25 rfl (by decide) rfl h.w ?_
    refine pw_top (by simp (disch := omega) only [dropW, wr_n, wC_ne]; exact hn) ?_
    refine pw_iconst (v := nI 1) dX5_dropFirst_71 (by decide) ?_
    refine pw_isubN dX5_dropFirst_72 (by omega) ?_
    refine pw_putI 5 3 dX5_dropFirst_73 fX5_25 rfl (by decide) rfl (Or.inl rfl) rfl (by decide) h.w ?_
    refine pw_return dX5_dropFirst_76 rfl ?_
    unfold dropF at q
    rw [if_neg (by omega)] at q
    exact q
  · intro i hi ih h1
    refine pw_iload_1 dX5_dropFirst_10 ?_
    refine pw_aload_0 dX5_dropFirst_11 ?_
    refine pw_getI 5 3 dX5_dropFirst_12 fX5_25 rfl (by decide) rfl h.w ?_
    refine pw_top (by simp (disch := omega) only [dropW, wr_n, wC_ne]; exact hn) ?_
    refine pw_icmp_ge 66 dX5_dropFirst_15 (by decide) (fun hh => absurd hh (by rw [nI_leI (by omega) (by omega)]; omega)) (fun _ => ?_)
    refine pw_aload_0 dX5_dropFirst_18 ?_
    refine pw_getr 5 0 dX5_dropFirst_19 fX5_9 rfl (by decide) rfl h.w h.w0 ?_
    refine pw_iload_1 dX5_dropFirst_22 ?_
    refine pw_iconst (v := nI 1) dX5_dropFirst_23 (by decide) ?_
    refine pw_isubN dX5_dropFirst_24 (by omega) ?_
    refine pw_aload_0 dX5_dropFirst_25 ?_
    refine pw_getr 5 0 dX5_dropFirst_26 fX5_9 rfl (by decide) rfl h.w h.w0 ?_
    refine pw_iload_1 dX5_dropFirst_29 ?_
    refine pw_ialdN dX5_dropFirst_30 h.n (by omega) (by decide) ?_
    refine pw_iastN dX5_dropFirst_31 h.n (by omega) (by decide) ?_
    refine pw_aload_0 dX5_dropFirst_32 ?_
    refine pw_getr 5 1 dX5_dropFirst_33 fX5_15 rfl (by decide) rfl h.w h.w1 ?_
    refine pw_iload_1 dX5_dropFirst_36 ?_
    refine pw_iconst (v := nI 1) dX5_dropFirst_37 (by decide) ?_
    refine pw_isubN dX5_dropFirst_38 (by omega) ?_
    refine pw_aload_0 dX5_dropFirst_39 ?_
    refine pw_getr 5 1 dX5_dropFirst_40 fX5_15 rfl (by decide) rfl h.w h.w1 ?_
    refine pw_iload_1 dX5_dropFirst_43 ?_
    refine pw_ialdN dX5_dropFirst_44 h.x (by omega) (by decide) ?_
    refine pw_iastN dX5_dropFirst_45 h.x (by omega) (by decide) ?_
    refine pw_aload_0 dX5_dropFirst_46 ?_
    refine pw_getr 5 2 dX5_dropFirst_47 fX5_18 rfl (by decide) rfl h.w h.w2 ?_
    refine pw_iload_1 dX5_dropFirst_50 ?_
    refine pw_iconst (v := nI 1) dX5_dropFirst_51 (by decide) ?_
    refine pw_isubN dX5_dropFirst_52 (by omega) ?_
    refine pw_aload_0 dX5_dropFirst_53 ?_
    refine pw_getr 5 2 dX5_dropFirst_54 fX5_18 rfl (by decide) rfl h.w h.w2 ?_
    refine pw_iload_1 dX5_dropFirst_57 ?_
    refine pw_ialdN dX5_dropFirst_58 h.y (by omega) (by decide) ?_
    refine pw_iastN dX5_dropFirst_59 h.y (by omega) (by decide) ?_
    refine pw_iincN_1 dX5_dropFirst_60 (by decide) ?_
    refine pw_goto 10 dX5_dropFirst_63 (by decide) ?_
    refine pw_mem ?_ (ih (by omega))
    simp (disch := omega) only [dropW, wr_wC_s, wr_wC_n, wC_self, wC_ne, wr_n, shf_S _ h1]
set_option maxRecDepth 100000 in
set_option maxHeartbeats 4000000 in
theorem c_X2_has {X : Cx} {σ : Sp} {μ : Mm} {Q : Int32 → Sp → Mm → Prop} {a n : Nat} {x : Int32} (h : ShSt σ a) (hn : μ (a + 5) 1 = nI n) (h4 : n ≤ 4) (q1 : ∀ j, x = nI j → j < n → Q (nI 1) σ μ) (q0 : (∀ j, j < n → x ≠ nI j) → Q (nI 0) σ μ) : CTi X mX2_has [.ref (a + 5), .int x] σ μ Q := by
  refine CT.of (by decide +kernel) (Nat.le_of_ble_eq_true rfl) ?_
  show PW X mX2_has 0 0 0 [some (.ref (a + 5)), some (.int x)] [] σ μ (LI Q)
  refine pw_iload_1 dX2_has_0 ?_
  refine pw_if_lt 21 dX2_has_1 (by decide) (fun h1 => ?_) (fun h1 => ?_)
  · skip
    refine pw_iconst (v := nI 0) dX2_has_21 (by decide) ?_
    refine pw_zreturn dX2_has_22 rfl (by decide) ?_
    exact q0 (ix_no (by omega) (Or.inl h1))
  · skip
    refine pw_iload_1 dX2_has_4 ?_
    refine pw_aload_0 dX2_has_5 ?_
    refine pw_getI 2 1 dX2_has_6 fX2_19 rfl (by decide) rfl h.l ?_
    refine pw_top hn ?_
    refine pw_icmp_ge 21 dX2_has_9 (by decide) (fun h2 => ?_) (fun h2 => ?_)
    · skip
      refine pw_iconst (v := nI 0) dX2_has_21 (by decide) ?_
      refine pw_zreturn dX2_has_22 rfl (by decide) ?_
      exact q0 (ix_no (by omega) (Or.inr h2))
    · skip
      refine pw_iload_1 dX2_has_12 ?_
      refine pw_iconst (v := nI 4) dX2_has_13 (by decide) ?_
      refine pw_icmp_ge 21 dX2_has_14 (by decide) (fun h3 => ?_) (fun h3 => ?_)
      · skip
        refine pw_iconst (v := nI 0) dX2_has_21 (by decide) ?_
        refine pw_zreturn dX2_has_22 rfl (by decide) ?_
        exact q0 (fun j hj e => nI_ge (a := j) (b := 4) (by omega) (by decide) (by rw [← e]; exact h3))
      · skip
        refine pw_iconst (v := nI 1) dX2_has_17 (by decide) ?_
        refine pw_goto 22 dX2_has_18 (by decide) ?_
        refine pw_zreturn dX2_has_22 rfl (by decide) ?_
        obtain ⟨j, hj, rfl⟩ := ix_of (by omega) h1 h2
        exact q1 j rfl hj
set_option maxRecDepth 100000 in
set_option maxHeartbeats 4000000 in
theorem c_X2_fact {X : Cx} {σ : Sp} {μ : Mm} {Q : Int32 → Sp → Mm → Prop} {a n e : Nat} {y : Int32} (h : ShSt σ a) (hn : μ (a + 5) 1 = nI n) (h4 : n ≤ 4) (he : e < n) (q1 : ∀ k, y = nI k → k < 4 → Q (μ (a + 6) (e * 4 + k)) σ μ) (q0 : (∀ k, k < 4 → y ≠ nI k) → Q (-2) σ μ) : CTi X mX2_fact [.ref (a + 5), .int (nI e), .int y] σ μ Q := by
  refine CT.of (by decide +kernel) (Nat.le_of_ble_eq_true rfl) ?_
  show PW X mX2_fact 0 0 0 [some (.ref (a + 5)), some (.int (nI e)), some (.int y)] [] σ μ (LI Q)
  refine pw_aload_0 dX2_fact_0 ?_
  refine pw_iload_1 dX2_fact_1 ?_
  refine pw_cV1i 2 dX2_fact_2 kX2_23 vX2_has iX2_has ⟨by decide, by decide⟩ ⟨rfl, rfl⟩ (by decide) rfl (Nat.le_of_ble_eq_true rfl) h.l (c_X2_has h hn h4 (fun j h1 h2 => ?_) (fun hh => absurd rfl (hh e he)))
  refine pw_if_ne 10 dX2_fact_5 (by decide) (fun _ => ?_) (fun hh => absurd hh (by decide))
  refine pw_iload_2 dX2_fact_10 ?_
  refine pw_if_lt 19 dX2_fact_11 (by decide) (fun h3 => ?_) (fun h3 => ?_)
  · skip
    refine pw_bipush (v := -2) dX2_fact_19 (by decide) ?_
    refine pw_ireturn dX2_fact_21 rfl ?_
    exact q0 (ix_no (by omega) (Or.inl h3))
  · skip
    refine pw_iload_2 dX2_fact_14 ?_
    refine pw_iconst (v := nI 4) dX2_fact_15 (by decide) ?_
    refine pw_icmp_lt 22 dX2_fact_16 (by decide) (fun h4 => ?_) (fun h4 => ?_)
    · skip
      obtain ⟨k, hk, rfl⟩ := ix_of (x := y) (n := 4) (by omega) h3 (Int32.not_le.mpr h4)
      refine pw_aload_0 dX2_fact_22 ?_
      refine pw_getr 2 0 dX2_fact_23 fX2_9 rfl (by decide) rfl h.l h.l0 ?_
      refine pw_iload_1 dX2_fact_26 ?_
      refine pw_iconst (v := nI 4) dX2_fact_27 (by decide) ?_
      refine pw_imulN dX2_fact_28 ?_
      refine pw_iload_2 dX2_fact_29 ?_
      refine pw_iaddN dX2_fact_30 ?_
      refine pw_ialdN dX2_fact_31 h.f (by omega) (by decide) ?_
      refine pw_ireturn dX2_fact_32 rfl ?_
      exact q1 k rfl hk
    · skip
      refine pw_bipush (v := -2) dX2_fact_19 (by decide) ?_
      refine pw_ireturn dX2_fact_21 rfl ?_
      exact q0 (ix_no (by omega) (Or.inr (Int32.not_lt.mp h4)))
set_option maxRecDepth 100000 in
set_option maxHeartbeats 4000000 in
theorem c_X2_add {X : Cx} {σ : Sp} {μ : Mm} {Q : Sp → Mm → Prop} {a n : Nat} {x y z u : Int32} (h : ShSt σ a) (hn : μ (a + 5) 1 = nI n) (h4 : n ≤ 4) (q : Q σ (ladF μ a n x y z u)) : CTv X mX2_add [.ref (a + 5), .int x, .int y, .int z, .int u] σ μ Q := by
  refine CT.of (by decide +kernel) (Nat.le_of_ble_eq_true rfl) ?_
  show PW X mX2_add 0 0 0 [some (.ref (a + 5)), some (.int x), some (.int y), some (.int z), some (.int u)] [] σ μ (LV Q)
  refine pw_aload_0 dX2_add_0 ?_
  refine pw_getr 2 0 dX2_add_1 fX2_9 rfl (by decide) rfl h.l h.l0 ?_
  refine pw_iconst (v := nI 0) dX2_add_4 (by decide) ?_
  refine pw_aload_0 dX2_add_5 ?_
  refine pw_getr 2 0 dX2_add_6 fX2_9 rfl (by decide) rfl h.l h.l0 ?_
  refine pw_iconst (v := nI 4) dX2_add_9 (by decide) ?_
  refine pw_bipush (v := nI 12) dX2_add_10 (by decide) ?_
  refine pw_acopy dX2_add_12 kX2_27 ts_n ts_s ts_i h.f.1 h.f.1 (by decide) (by decide) (by decide) (by rw [h.f.2]; decide) (by rw [h.f.2]; decide) (by decide) (Nat.le_of_ble_eq_true rfl) ?_
  refine pw_aload_0 dX2_add_15 ?_
  refine pw_getr 2 0 dX2_add_16 fX2_9 rfl (by decide) rfl h.l h.l0 ?_
  refine pw_iconst (v := nI 0) dX2_add_19 (by decide) ?_
  refine pw_iload_1 dX2_add_20 ?_
  refine pw_iastN dX2_add_21 h.f (by omega) (by decide) ?_
  refine pw_aload_0 dX2_add_22 ?_
  refine pw_getr 2 0 dX2_add_23 fX2_9 rfl (by decide) rfl h.l h.l0 ?_
  refine pw_iconst (v := nI 1) dX2_add_26 (by decide) ?_
  refine pw_iload_2 dX2_add_27 ?_
  refine pw_iastN dX2_add_28 h.f (by omega) (by decide) ?_
  refine pw_aload_0 dX2_add_29 ?_
  refine pw_getr 2 0 dX2_add_30 fX2_9 rfl (by decide) rfl h.l h.l0 ?_
  refine pw_iconst (v := nI 2) dX2_add_33 (by decide) ?_
  refine pw_iload_3 dX2_add_34 ?_
  refine pw_iastN dX2_add_35 h.f (by omega) (by decide) ?_
  refine pw_aload_0 dX2_add_36 ?_
  refine pw_getr 2 0 dX2_add_37 fX2_9 rfl (by decide) rfl h.l h.l0 ?_
  refine pw_iconst (v := nI 3) dX2_add_40 (by decide) ?_
  refine pw_iload_4 dX2_add_41 ?_
  refine pw_iastN dX2_add_43 h.f (by omega) (by decide) ?_
  refine pw_aload_0 dX2_add_44 ?_
  refine pw_aload_0 dX2_add_45 ?_
  refine pw_getI 2 1 dX2_add_46 fX2_19 rfl (by decide) rfl h.l ?_
  refine pw_top (by simp (disch := omega) only [wr_s, wr_n, upd_s, upd_n, wC_self, wC_ne]; exact hn) ?_
  refine pw_iconst (v := nI 1) dX2_add_49 (by decide) ?_
  refine pw_iaddN dX2_add_50 ?_
  refine pw_iconst (v := nI 4) dX2_add_51 (by decide) ?_
  refine pw_min dX2_add_52 kX2_33 tm_mins tm_i tm_minc (by decide) (Nat.le_of_ble_eq_true rfl) ?_
  refine pw_top (min4 h4) ?_
  refine pw_putI 2 1 dX2_add_55 fX2_19 rfl (by decide) rfl (Or.inl rfl) rfl (by decide) h.l ?_
  refine pw_return dX2_add_58 rfl ?_
  refine Eq.mp (congrArg (fun m => Q σ m) ?_) q
  unfold ladF ltF
  simp (disch := omega) only [wr_wC_s, nI_clamp]
set_option maxRecDepth 100000 in
set_option maxHeartbeats 4000000 in
theorem c_X6_isAt {X : Cx} {σ : Sp} {μ : Mm} {Q : Int32 → Sp → Mm → Prop} {a : Nat} {x : Int32} (h : ShSt σ a) (q1 : bi (μ a 3) x = nI 1 → Q (nI 1) σ μ) (q0 : bi (μ a 3) x ≠ nI 1 → Q (nI 0) σ μ) : CTi X mX6_isAt [.ref a, .int x] σ μ Q := by
  refine CT.of (by decide +kernel) (Nat.le_of_ble_eq_true rfl) ?_
  show PW X mX6_isAt 0 0 0 [some (.ref a), some (.int x)] [] σ μ (LI Q)
  refine pw_aload_0 dX6_isAt_0 ?_
  refine pw_getI 6 3 dX6_isAt_1 fX6_39 rfl (by decide) rfl h.t ?_
  refine pw_iload_1 dX6_isAt_4 ?_
  refine pw_ishr dX6_isAt_5 ?_
  refine pw_iconst (v := nI 1) dX6_isAt_6 (by decide) ?_
  refine pw_iand dX6_isAt_7 ?_
  refine pw_iconst (v := nI 1) dX6_isAt_8 (by decide) ?_
  refine pw_icmp_ne 16 dX6_isAt_9 (by decide) (fun h1 => ?_) (fun h1 => ?_)
  · skip
    refine pw_iconst (v := nI 0) dX6_isAt_16 (by decide) ?_
    refine pw_zreturn dX6_isAt_17 rfl (by decide) ?_
    exact q0 h1
  · skip
    refine pw_iconst (v := nI 1) dX6_isAt_12 (by decide) ?_
    refine pw_goto 17 dX6_isAt_13 (by decide) ?_
    refine pw_zreturn dX6_isAt_17 rfl (by decide) ?_
    exact q1 h1
set_option maxRecDepth 100000 in
set_option maxHeartbeats 4000000 in
theorem c_X6_isAwake {X : Cx} {σ : Sp} {μ : Mm} {Q : Int32 → Sp → Mm → Prop} {a : Nat} (h : ShSt σ a) (q1 : μ a 5 = 0 → μ a 6 = 0 → Q (nI 1) σ μ) (q0 : ¬ (μ a 5 = 0 ∧ μ a 6 = 0) → Q (nI 0) σ μ) : CTi X mX6_isAwake [.ref a] σ μ Q := by
  refine CT.of (by decide +kernel) (Nat.le_of_ble_eq_true rfl) ?_
  show PW X mX6_isAwake 0 0 0 [some (.ref a)] [] σ μ (LI Q)
  refine pw_aload_0 dX6_isAwake_0 ?_
  refine pw_getI 6 5 dX6_isAwake_1 fX6_45 rfl (by decide) rfl h.t ?_
  refine pw_if_ne 18 dX6_isAwake_4 (by decide) (fun h1 => ?_) (fun h1 => ?_)
  · skip
    refine pw_iconst (v := nI 0) dX6_isAwake_18 (by decide) ?_
    refine pw_zreturn dX6_isAwake_19 rfl (by decide) ?_
    exact q0 (fun hh => h1 hh.1)
  · skip
    refine pw_aload_0 dX6_isAwake_7 ?_
    refine pw_getI 6 6 dX6_isAwake_8 fX6_49 rfl (by decide) rfl h.t ?_
    refine pw_if_ne 18 dX6_isAwake_11 (by decide) (fun h2 => ?_) (fun h2 => ?_)
    · skip
      refine pw_iconst (v := nI 0) dX6_isAwake_18 (by decide) ?_
      refine pw_zreturn dX6_isAwake_19 rfl (by decide) ?_
      exact q0 (fun hh => h2 hh.2)
    · skip
      refine pw_iconst (v := nI 1) dX6_isAwake_14 (by decide) ?_
      refine pw_goto 19 dX6_isAwake_15 (by decide) ?_
      refine pw_zreturn dX6_isAwake_19 rfl (by decide) ?_
      exact q1 h1 h2
set_option maxRecDepth 100000 in
set_option maxHeartbeats 4000000 in
theorem c_X6_isSpeaking {X : Cx} {σ : Sp} {μ : Mm} {Q : Int32 → Sp → Mm → Prop} {a : Nat} (h : ShSt σ a) (q1 : μ a 7 ≠ -1 → Q (nI 1) σ μ) (q0 : μ a 7 = -1 → Q (nI 0) σ μ) : CTi X mX6_isSpeaking [.ref a] σ μ Q := by
  refine CT.of (by decide +kernel) (Nat.le_of_ble_eq_true rfl) ?_
  show PW X mX6_isSpeaking 0 0 0 [some (.ref a)] [] σ μ (LI Q)
  refine pw_aload_0 dX6_isSpeaking_0 ?_
  refine pw_getI 6 7 dX6_isSpeaking_1 fX6_25 rfl (by decide) rfl h.t ?_
  refine pw_iconst (v := -1) dX6_isSpeaking_4 (by decide) ?_
  refine pw_icmp_eq 12 dX6_isSpeaking_5 (by decide) (fun h1 => ?_) (fun h1 => ?_)
  · skip
    refine pw_iconst (v := nI 0) dX6_isSpeaking_12 (by decide) ?_
    refine pw_zreturn dX6_isSpeaking_13 rfl (by decide) ?_
    exact q0 h1
  · skip
    refine pw_iconst (v := nI 1) dX6_isSpeaking_8 (by decide) ?_
    refine pw_goto 13 dX6_isSpeaking_9 (by decide) ?_
    refine pw_zreturn dX6_isSpeaking_13 rfl (by decide) ?_
    exact q1 h1
set_option maxRecDepth 100000 in
set_option maxHeartbeats 4000000 in
theorem c_X6_letsGo {X : Cx} {σ : Sp} {μ : Mm} {Q : Int32 → Sp → Mm → Prop} {a : Nat} (h : ShSt σ a) (q1 : bi (μ a 9) (nI 10 - μ a 7) = nI 1 → Q (nI 1) σ μ) (q0 : bi (μ a 9) (nI 10 - μ a 7) ≠ nI 1 → Q (nI 0) σ μ) : CTi X mX6_letsGo [.ref a] σ μ Q := by
  refine CT.of (by decide +kernel) (Nat.le_of_ble_eq_true rfl) ?_
  show PW X mX6_letsGo 0 0 0 [some (.ref a)] [] σ μ (LI Q)
  refine pw_aload_0 dX6_letsGo_0 ?_
  refine pw_getI 6 9 dX6_letsGo_1 fX6_55 rfl (by decide) rfl h.t ?_
  refine pw_bipush (v := nI 10) dX6_letsGo_4 (by decide) ?_
  refine pw_aload_0 dX6_letsGo_6 ?_
  refine pw_getI 6 7 dX6_letsGo_7 fX6_25 rfl (by decide) rfl h.t ?_
  refine pw_isub dX6_letsGo_10 ?_
  refine pw_ishr dX6_letsGo_11 ?_
  refine pw_iconst (v := nI 1) dX6_letsGo_12 (by decide) ?_
  refine pw_iand dX6_letsGo_13 ?_
  refine pw_iconst (v := nI 1) dX6_letsGo_14 (by decide) ?_
  refine pw_icmp_ne 22 dX6_letsGo_15 (by decide) (fun h1 => ?_) (fun h1 => ?_)
  · skip
    refine pw_iconst (v := nI 0) dX6_letsGo_22 (by decide) ?_
    refine pw_zreturn dX6_letsGo_23 rfl (by decide) ?_
    exact q0 h1
  · skip
    refine pw_iconst (v := nI 1) dX6_letsGo_18 (by decide) ?_
    refine pw_goto 23 dX6_letsGo_19 (by decide) ?_
    refine pw_zreturn dX6_letsGo_23 rfl (by decide) ?_
    exact q1 h1
set_option maxRecDepth 100000 in
set_option maxHeartbeats 4000000 in
theorem c_X6_fallSilent {X : Cx} {σ : Sp} {μ : Mm} {Q : Sp → Mm → Prop} {a : Nat} (h : ShSt σ a) (q : Q σ (silF μ a)) : CTv X mX6_fallSilent [.ref a] σ μ Q := by
  refine CT.of (by decide +kernel) (Nat.le_of_ble_eq_true rfl) ?_
  show PW X mX6_fallSilent 0 0 0 [some (.ref a)] [] σ μ (LV Q)
  refine pw_aload_0 dX6_fallSilent_0 ?_
  refine pw_iconst (v := -1) dX6_fallSilent_1 (by decide) ?_
  refine pw_putI 6 7 dX6_fallSilent_2 fX6_25 rfl (by decide) rfl (Or.inl rfl) rfl (by decide) h.t ?_
  refine pw_aload_0 dX6_fallSilent_5 ?_
  refine pw_iconst (v := nI 0) dX6_fallSilent_6 (by decide) ?_
  refine pw_putI 6 8 dX6_fallSilent_7 fX6_52 rfl (by decide) rfl (Or.inl rfl) rfl (by decide) h.t ?_
  refine pw_aload_0 dX6_fallSilent_10 ?_
  refine pw_iconst (v := nI 0) dX6_fallSilent_11 (by decide) ?_
  refine pw_putI 6 9 dX6_fallSilent_12 fX6_55 rfl (by decide) rfl (Or.inl rfl) rfl (by decide) h.t ?_
  refine pw_aload_0 dX6_fallSilent_15 ?_
  refine pw_iconst (v := nI 0) dX6_fallSilent_16 (by decide) ?_
  refine pw_putI 6 10 dX6_fallSilent_17 fX6_58 rfl (by decide) rfl (Or.inl rfl) rfl (by decide) h.t ?_
  refine pw_return dX6_fallSilent_20 rfl ?_
  exact q
set_option maxRecDepth 100000 in
set_option maxHeartbeats 4000000 in
theorem c_X6_begin {X : Cx} {σ : Sp} {μ : Mm} {Q : Sp → Mm → Prop} {a n : Nat} {x y : Int32} (h : ShSt σ a) (hn : μ (a + 1) 3 = nI n) (h4 : n ≤ 4) (h0 : 0 < n) (q : Q σ (begF μ a x (μ (a + 2) 0) y)) : CTv X mX6_begin [.ref a, .int x, .int y] σ μ Q := by
  refine CT.of (by decide +kernel) (Nat.le_of_ble_eq_true rfl) ?_
  show PW X mX6_begin 0 0 0 [some (.ref a), some (.int x), some (.int y)] [] σ μ (LV Q)
  refine pw_aload_0 dX6_begin_0 ?_
  refine pw_iconst (v := nI 0) dX6_begin_1 (by decide) ?_
  refine pw_putI 6 7 dX6_begin_2 fX6_25 rfl (by decide) rfl (Or.inl rfl) rfl (by decide) h.t ?_
  refine pw_aload_0 dX6_begin_5 ?_
  refine pw_iconst (v := nI 1) dX6_begin_6 (by decide) ?_
  refine pw_iload_1 dX6_begin_7 ?_
  refine pw_ishl dX6_begin_8 ?_
  refine pw_putI 6 8 dX6_begin_9 fX6_52 rfl (by decide) rfl (Or.inl rfl) rfl (by decide) h.t ?_
  refine pw_aload_0 dX6_begin_12 ?_
  refine pw_aload_0 dX6_begin_13 ?_
  refine pw_getI 6 0 dX6_begin_14 fX6_29 rfl (by decide) rfl h.t ?_
  refine pw_bipush (v := nI 8) dX6_begin_17 (by decide) ?_
  refine pw_ishl dX6_begin_19 ?_
  refine pw_aload_0 dX6_begin_20 ?_
  refine pw_getr 6 1 dX6_begin_21 fX6_12 rfl (by decide) rfl h.t h.r1 ?_
  refine pw_iconst (v := nI 0) dX6_begin_24 (by decide) ?_
  refine pw_cV1i 5 dX6_begin_25 kX6_73 vX5_numberAt iX5_numberAt ⟨by decide, by decide⟩ ⟨rfl, rfl⟩ (by decide) rfl (Nat.le_of_ble_eq_true rfl) h.w (c_X5_numberAt h (n := n) (by simp (disch := omega) only [wr_n]; exact hn) h4 (by decide) (fun _ => ?_) (fun hh => absurd hh (by omega)))
  refine pw_ior dX6_begin_28 ?_
  refine pw_putI 6 9 dX6_begin_29 fX6_55 rfl (by decide) rfl (Or.inl rfl) rfl (by decide) h.t ?_
  refine pw_aload_0 dX6_begin_32 ?_
  refine pw_iload_2 dX6_begin_33 ?_
  refine pw_putI 6 10 dX6_begin_34 fX6_58 rfl (by decide) rfl (Or.inl rfl) rfl (by decide) h.t ?_
  refine pw_return dX6_begin_37 rfl ?_
  refine Eq.mp (congrArg (fun m => Q σ m) ?_) q
  unfold begF
  simp (disch := omega) only [wr_s, wr_n, upd_s, upd_n]

