/-! Shapes; rows at places that are counted -/
def ShA (σ : Sp) (a t l : Nat) : Prop := tg σ a = t ∧ ln σ a = l
/-- a station at a: its row at a + 1, the row's three arrays, its latest at a + 5, their array -/
def ShSt (σ : Sp) (a : Nat) : Prop := tg σ a = 7 ∧ rf σ a 1 = some (a + 1) ∧ rf σ a 2 = some (a + 5) ∧ (tg σ (a + 1) = 6 ∧ rf σ (a + 1) 0 = some (a + 2) ∧ rf σ (a + 1) 1 = some (a + 3) ∧ rf σ (a + 1) 2 = some (a + 4)) ∧ ShA σ (a + 2) 11 4 ∧ ShA σ (a + 3) 11 4 ∧ ShA σ (a + 4) 11 4 ∧ (tg σ (a + 5) = 3 ∧ rf σ (a + 5) 0 = some (a + 6)) ∧ ShA σ (a + 6) 11 16
def st (b i : Nat) : Nat := b + 6 + 7 * i
def ShBus (σ : Sp) (b : Nat) : Prop := (tg σ b = 1 ∧ rf σ b 0 = some (b + 1) ∧ rf σ b 1 = some (b + 2) ∧ rf σ b 2 = some (b + 3) ∧ rf σ b 3 = some (b + 4) ∧ rf σ b 4 = some (b + 5)) ∧ ShA σ (b + 1) 11 5 ∧ ShA σ (b + 2) 11 6 ∧ ShA σ (b + 3) 11 6 ∧ ShA σ (b + 4) 11 6 ∧ ShA σ (b + 5) 14 8 ∧ ∀ i, i < 8 → rf σ (b + 5) i = some (st b i) ∧ ShSt σ (st b i)
def ShPad (σ : Sp) (p : Nat) : Prop := tg σ p = 4 ∧ rf σ p 0 = some (p + 1) ∧ ShA σ (p + 1) 10 80
def ShRd (σ : Sp) (r p : Nat) : Prop := tg σ r = 5 ∧ rf σ r 0 = some p ∧ ShPad σ p
def hb (h j : Nat) : Nat := h + 2 + 62 * j
def ShHist (σ : Sp) (h : Nat) : Prop := tg σ h = 2 ∧ rf σ h 0 = some (h + 1) ∧ ShA σ (h + 1) 13 7 ∧ ∀ j, j < 7 → rf σ (h + 1) j = some (hb h j) ∧ ShBus σ (hb h j)
def ShX (σ : Sp) (o : Nat) : Prop := (tg σ o = 8 ∧ rf σ o 0 = some (o + 1) ∧ rf σ o 1 = some (o + 63) ∧ rf σ o 2 = some (o + 125) ∧ rf σ o 3 = some (o + 561) ∧ rf σ o 4 = some (o + 562) ∧ rf σ o 5 = some (o + 564)) ∧ ShBus σ (o + 1) ∧ ShBus σ (o + 63) ∧ ShHist σ (o + 125) ∧ ShA σ (o + 561) 13 2 ∧ ShPad σ (o + 562) ∧ ShRd σ (o + 564) (o + 562)
def ShM (σ : Sp) (m : Nat) : Prop := (tg σ m = 9 ∧ rf σ m 0 = some (m + 1) ∧ rf σ m 1 = some (m + 2) ∧ rf σ m 3 = some (m + 3) ∧ rf σ m 4 = some (m + 4) ∧ rf σ m 5 = some (m + 5) ∧ rf σ m 6 = some (m + 6) ∧ rf σ m 8 = some (m + 7) ∧ rf σ m 9 = some (m + 8)) ∧ ShA σ (m + 1) 11 351 ∧ ShA σ (m + 2) 11 2106 ∧ ShA σ (m + 3) 11 702 ∧ ShA σ (m + 4) 12 2 ∧ ShA σ (m + 5) 11 351 ∧ ShA σ (m + 6) 10 80 ∧ ShA σ (m + 7) 12 6 ∧ ShA σ (m + 8) 11 168
theorem ShSt.t {σ : Sp} {a : Nat} (h : ShSt σ a) : tg σ a = 6 + 1 := h.1
theorem ShSt.r1 {σ : Sp} {a : Nat} (h : ShSt σ a) : rf σ a 1 = some (a + 1) := h.2.1
theorem ShSt.r2 {σ : Sp} {a : Nat} (h : ShSt σ a) : rf σ a 2 = some (a + 5) := h.2.2.1
theorem ShSt.w {σ : Sp} {a : Nat} (h : ShSt σ a) : tg σ (a + 1) = 5 + 1 := h.2.2.2.1.1
theorem ShSt.w0 {σ : Sp} {a : Nat} (h : ShSt σ a) : rf σ (a + 1) 0 = some (a + 2) := h.2.2.2.1.2.1
theorem ShSt.w1 {σ : Sp} {a : Nat} (h : ShSt σ a) : rf σ (a + 1) 1 = some (a + 3) := h.2.2.2.1.2.2.1
theorem ShSt.w2 {σ : Sp} {a : Nat} (h : ShSt σ a) : rf σ (a + 1) 2 = some (a + 4) := h.2.2.2.1.2.2.2
theorem ShSt.n {σ : Sp} {a : Nat} (h : ShSt σ a) : ShA σ (a + 2) 11 4 := h.2.2.2.2.1
theorem ShSt.x {σ : Sp} {a : Nat} (h : ShSt σ a) : ShA σ (a + 3) 11 4 := h.2.2.2.2.2.1
theorem ShSt.y {σ : Sp} {a : Nat} (h : ShSt σ a) : ShA σ (a + 4) 11 4 := h.2.2.2.2.2.2.1
theorem ShSt.l {σ : Sp} {a : Nat} (h : ShSt σ a) : tg σ (a + 5) = 2 + 1 := h.2.2.2.2.2.2.2.1.1
theorem ShSt.l0 {σ : Sp} {a : Nat} (h : ShSt σ a) : rf σ (a + 5) 0 = some (a + 6) := h.2.2.2.2.2.2.2.1.2
theorem ShSt.f {σ : Sp} {a : Nat} (h : ShSt σ a) : ShA σ (a + 6) 11 16 := h.2.2.2.2.2.2.2.2
theorem ShBus.t {σ : Sp} {b : Nat} (h : ShBus σ b) : tg σ b = 0 + 1 := h.1.1
theorem ShBus.r0 {σ : Sp} {b : Nat} (h : ShBus σ b) : rf σ b 0 = some (b + 1) := h.1.2.1
theorem ShBus.r1 {σ : Sp} {b : Nat} (h : ShBus σ b) : rf σ b 1 = some (b + 2) := h.1.2.2.1
theorem ShBus.r2 {σ : Sp} {b : Nat} (h : ShBus σ b) : rf σ b 2 = some (b + 3) := h.1.2.2.2.1
theorem ShBus.r3 {σ : Sp} {b : Nat} (h : ShBus σ b) : rf σ b 3 = some (b + 4) := h.1.2.2.2.2.1
theorem ShBus.r4 {σ : Sp} {b : Nat} (h : ShBus σ b) : rf σ b 4 = some (b + 5) := h.1.2.2.2.2.2
theorem ShBus.a1 {σ : Sp} {b : Nat} (h : ShBus σ b) : ShA σ (b + 1) 11 5 := h.2.1
theorem ShBus.a2 {σ : Sp} {b : Nat} (h : ShBus σ b) : ShA σ (b + 2) 11 6 := h.2.2.1
theorem ShBus.a3 {σ : Sp} {b : Nat} (h : ShBus σ b) : ShA σ (b + 3) 11 6 := h.2.2.2.1
theorem ShBus.a4 {σ : Sp} {b : Nat} (h : ShBus σ b) : ShA σ (b + 4) 11 6 := h.2.2.2.2.1
theorem ShBus.a5 {σ : Sp} {b : Nat} (h : ShBus σ b) : ShA σ (b + 5) 14 8 := h.2.2.2.2.2.1
theorem ShBus.s {σ : Sp} {b i : Nat} (h : ShBus σ b) (hi : i < 8) : rf σ (b + 5) i = some (st b i) := (h.2.2.2.2.2.2 i hi).1
theorem ShBus.S {σ : Sp} {b i : Nat} (h : ShBus σ b) (hi : i < 8) : ShSt σ (st b i) := (h.2.2.2.2.2.2 i hi).2
theorem ShPad.t {σ : Sp} {p : Nat} (h : ShPad σ p) : tg σ p = 3 + 1 := h.1
theorem ShPad.r0 {σ : Sp} {p : Nat} (h : ShPad σ p) : rf σ p 0 = some (p + 1) := h.2.1
theorem ShPad.a {σ : Sp} {p : Nat} (h : ShPad σ p) : ShA σ (p + 1) 10 80 := h.2.2
theorem ShRd.t {σ : Sp} {r p : Nat} (h : ShRd σ r p) : tg σ r = 4 + 1 := h.1
theorem ShRd.r0 {σ : Sp} {r p : Nat} (h : ShRd σ r p) : rf σ r 0 = some p := h.2.1
theorem ShRd.p {σ : Sp} {r p : Nat} (h : ShRd σ r p) : ShPad σ p := h.2.2
theorem ShHist.t {σ : Sp} {h0 : Nat} (h : ShHist σ h0) : tg σ h0 = 1 + 1 := h.1
theorem ShHist.r0 {σ : Sp} {h0 : Nat} (h : ShHist σ h0) : rf σ h0 0 = some (h0 + 1) := h.2.1
theorem ShHist.a {σ : Sp} {h0 : Nat} (h : ShHist σ h0) : ShA σ (h0 + 1) 13 7 := h.2.2.1
theorem ShHist.s {σ : Sp} {h0 j : Nat} (h : ShHist σ h0) (hj : j < 7) : rf σ (h0 + 1) j = some (hb h0 j) := (h.2.2.2 j hj).1
theorem ShHist.B {σ : Sp} {h0 j : Nat} (h : ShHist σ h0) (hj : j < 7) : ShBus σ (hb h0 j) := (h.2.2.2 j hj).2
theorem ShX.t {σ : Sp} {o : Nat} (h : ShX σ o) : tg σ o = 7 + 1 := h.1.1
theorem ShX.r0 {σ : Sp} {o : Nat} (h : ShX σ o) : rf σ o 0 = some (o + 1) := h.1.2.1
theorem ShX.r1 {σ : Sp} {o : Nat} (h : ShX σ o) : rf σ o 1 = some (o + 63) := h.1.2.2.1
theorem ShX.r2 {σ : Sp} {o : Nat} (h : ShX σ o) : rf σ o 2 = some (o + 125) := h.1.2.2.2.1
theorem ShX.r3 {σ : Sp} {o : Nat} (h : ShX σ o) : rf σ o 3 = some (o + 561) := h.1.2.2.2.2.1
theorem ShX.r4 {σ : Sp} {o : Nat} (h : ShX σ o) : rf σ o 4 = some (o + 562) := h.1.2.2.2.2.2.1
theorem ShX.r5 {σ : Sp} {o : Nat} (h : ShX σ o) : rf σ o 5 = some (o + 564) := h.1.2.2.2.2.2.2
theorem ShX.now {σ : Sp} {o : Nat} (h : ShX σ o) : ShBus σ (o + 1) := h.2.1
theorem ShX.trial {σ : Sp} {o : Nat} (h : ShX σ o) : ShBus σ (o + 63) := h.2.2.1
theorem ShX.hist {σ : Sp} {o : Nat} (h : ShX σ o) : ShHist σ (o + 125) := h.2.2.2.1
theorem ShX.slots {σ : Sp} {o : Nat} (h : ShX σ o) : ShA σ (o + 561) 13 2 := h.2.2.2.2.1
theorem ShX.pad {σ : Sp} {o : Nat} (h : ShX σ o) : ShPad σ (o + 562) := h.2.2.2.2.2.1
theorem ShX.rd {σ : Sp} {o : Nat} (h : ShX σ o) : ShRd σ (o + 564) (o + 562) := h.2.2.2.2.2.2
theorem ShM.t {σ : Sp} {m : Nat} (h : ShM σ m) : tg σ m = 8 + 1 := h.1.1
theorem ShM.r0 {σ : Sp} {m : Nat} (h : ShM σ m) : rf σ m 0 = some (m + 1) := h.1.2.1
theorem ShM.r1 {σ : Sp} {m : Nat} (h : ShM σ m) : rf σ m 1 = some (m + 2) := h.1.2.2.1
theorem ShM.r3 {σ : Sp} {m : Nat} (h : ShM σ m) : rf σ m 3 = some (m + 3) := h.1.2.2.2.1
theorem ShM.r4 {σ : Sp} {m : Nat} (h : ShM σ m) : rf σ m 4 = some (m + 4) := h.1.2.2.2.2.1
theorem ShM.r5 {σ : Sp} {m : Nat} (h : ShM σ m) : rf σ m 5 = some (m + 5) := h.1.2.2.2.2.2.1
theorem ShM.r6 {σ : Sp} {m : Nat} (h : ShM σ m) : rf σ m 6 = some (m + 6) := h.1.2.2.2.2.2.2.1
theorem ShM.r8 {σ : Sp} {m : Nat} (h : ShM σ m) : rf σ m 8 = some (m + 7) := h.1.2.2.2.2.2.2.2.1
theorem ShM.r9 {σ : Sp} {m : Nat} (h : ShM σ m) : rf σ m 9 = some (m + 8) := h.1.2.2.2.2.2.2.2.2
theorem ShM.a1 {σ : Sp} {m : Nat} (h : ShM σ m) : ShA σ (m + 1) 11 351 := h.2.1
theorem ShM.a2 {σ : Sp} {m : Nat} (h : ShM σ m) : ShA σ (m + 2) 11 2106 := h.2.2.1
theorem ShM.a3 {σ : Sp} {m : Nat} (h : ShM σ m) : ShA σ (m + 3) 11 702 := h.2.2.2.1
theorem ShM.a4 {σ : Sp} {m : Nat} (h : ShM σ m) : ShA σ (m + 4) 12 2 := h.2.2.2.2.1
theorem ShM.a5 {σ : Sp} {m : Nat} (h : ShM σ m) : ShA σ (m + 5) 11 351 := h.2.2.2.2.2.1
theorem ShM.a6 {σ : Sp} {m : Nat} (h : ShM σ m) : ShA σ (m + 6) 10 80 := h.2.2.2.2.2.2.1
theorem ShM.a7 {σ : Sp} {m : Nat} (h : ShM σ m) : ShA σ (m + 7) 12 6 := h.2.2.2.2.2.2.2.1
theorem ShM.a8 {σ : Sp} {m : Nat} (h : ShM σ m) : ShA σ (m + 8) 11 168 := h.2.2.2.2.2.2.2.2
section PWN
variable {X : Cx} {M : Mt} {b1 b2 pc : Nat} {ls : List (Option Value)} {st0 : List Value} {σ : Sp} {μ : Mm} {Q : Option Value → Sp → Mm → Prop}
theorem pw_vin {n e : Nat} {a : Nat} (hl : ln σ a = n) (he : e < n) (hn : n < 2 ^ 31) : vp_in (nI e) (ln σ a) := by rw [hl]; exact vp_in_nI he hn
theorem pw_ialdN {a e n : Nat} (d : decode (mB M) pc = .ok (.iaload, 1)) (hA : ShA σ a 11 n) (he : e < n) (hn : n < 2 ^ 31) (kk : PW X M b1 b2 (pc + 1) ls (.int (μ a e) :: st0) σ μ Q) : PW X M b1 b2 pc ls (.int (nI e) :: .ref a :: st0) σ μ Q :=
  pw_iald d hA.1 (pw_vin hA.2 he hn) (by rw [nI_clamp (Nat.lt_trans he hn)]; exact kk)
theorem pw_zaldN {a e n : Nat} (d : decode (mB M) pc = .ok (.baload, 1)) (hA : ShA σ a 12 n) (he : e < n) (hn : n < 2 ^ 31) (kk : PW X M b1 b2 (pc + 1) ls (.int (μ a e) :: st0) σ μ Q) : PW X M b1 b2 pc ls (.int (nI e) :: .ref a :: st0) σ μ Q :=
  pw_zald d hA.1 (pw_vin hA.2 he hn) (by rw [nI_clamp (Nat.lt_trans he hn)]; exact kk)
theorem pw_caldN {a e n : Nat} (d : decode (mB M) pc = .ok (.caload, 1)) (hA : ShA σ a 10 n) (he : e < n) (hn : n < 2 ^ 31) (kk : PW X M b1 b2 (pc + 1) ls (.int (μ a e) :: st0) σ μ Q) : PW X M b1 b2 pc ls (.int (nI e) :: .ref a :: st0) σ μ Q :=
  pw_cald d hA.1 (pw_vin hA.2 he hn) (by rw [nI_clamp (Nat.lt_trans he hn)]; exact kk)
theorem pw_iastN {a e n : Nat} {x : Int32} (d : decode (mB M) pc = .ok (.iastore, 1)) (hA : ShA σ a 11 n) (he : e < n) (hn : n < 2 ^ 31) (kk : PW X M b1 b2 (pc + 1) ls st0 σ (wr μ a e x) Q) : PW X M b1 b2 pc ls (.int x :: .int (nI e) :: .ref a :: st0) σ μ Q :=
  pw_iast d hA.1 (pw_vin hA.2 he hn) (by rw [nI_clamp (Nat.lt_trans he hn)]; exact kk)
theorem pw_zastN {a e n : Nat} {x : Int32} (d : decode (mB M) pc = .ok (.bastore, 1)) (hA : ShA σ a 12 n) (he : e < n) (hn : n < 2 ^ 31) (kk : PW X M b1 b2 (pc + 1) ls st0 σ (wr μ a e (vp_nar .boolean x)) Q) : PW X M b1 b2 pc ls (.int x :: .int (nI e) :: .ref a :: st0) σ μ Q :=
  pw_zast d hA.1 (pw_vin hA.2 he hn) (by rw [nI_clamp (Nat.lt_trans he hn)]; exact kk)
theorem pw_castN {a e n : Nat} {x : Int32} (d : decode (mB M) pc = .ok (.castore, 1)) (hA : ShA σ a 10 n) (he : e < n) (hn : n < 2 ^ 31) (kk : PW X M b1 b2 (pc + 1) ls st0 σ (wr μ a e (vp_nar .char x)) Q) : PW X M b1 b2 pc ls (.int x :: .int (nI e) :: .ref a :: st0) σ μ Q :=
  pw_cast d hA.1 (pw_vin hA.2 he hn) (by rw [nI_clamp (Nat.lt_trans he hn)]; exact kk)
theorem pw_aaldBN {a e n : Nat} {o : Option Nat} (d : decode (mB M) pc = .ok (.aaload, 1)) (hA : ShA σ a 13 n) (he : e < n) (hn : n < 2 ^ 31) (ho : rf σ a e = o) (kk : PW X M b1 b2 (pc + 1) ls (va_rf o :: st0) σ μ Q) : PW X M b1 b2 pc ls (.int (nI e) :: .ref a :: st0) σ μ Q :=
  pw_aaldB d hA.1 (pw_vin hA.2 he hn) (by rw [nI_clamp (Nat.lt_trans he hn)]; exact ho) kk
theorem pw_aaldBr {a e n q : Nat} (d : decode (mB M) pc = .ok (.aaload, 1)) (hA : ShA σ a 13 n) (he : e < n) (hn : n < 2 ^ 31) (ho : rf σ a e = some q) (kk : PW X M b1 b2 (pc + 1) ls (.ref q :: st0) σ μ Q) : PW X M b1 b2 pc ls (.int (nI e) :: .ref a :: st0) σ μ Q :=
  pw_aaldBN d hA he hn ho kk
theorem pw_aaldSN {a e n : Nat} {o : Option Nat} (d : decode (mB M) pc = .ok (.aaload, 1)) (hA : ShA σ a 14 n) (he : e < n) (hn : n < 2 ^ 31) (ho : rf σ a e = o) (kk : PW X M b1 b2 (pc + 1) ls (va_rf o :: st0) σ μ Q) : PW X M b1 b2 pc ls (.int (nI e) :: .ref a :: st0) σ μ Q :=
  pw_aaldS d hA.1 (pw_vin hA.2 he hn) (by rw [nI_clamp (Nat.lt_trans he hn)]; exact ho) kk
theorem pw_aaldSr {a e n q : Nat} (d : decode (mB M) pc = .ok (.aaload, 1)) (hA : ShA σ a 14 n) (he : e < n) (hn : n < 2 ^ 31) (ho : rf σ a e = some q) (kk : PW X M b1 b2 (pc + 1) ls (.ref q :: st0) σ μ Q) : PW X M b1 b2 pc ls (.int (nI e) :: .ref a :: st0) σ μ Q :=
  pw_aaldSN d hA he hn ho kk
theorem pw_iaddN {a b : Nat} (d : decode (mB M) pc = .ok (.iadd, 1)) (k : PW X M b1 b2 (pc + 1) ls (.int (nI (a + b)) :: st0) σ μ Q) : PW X M b1 b2 pc ls (.int (nI b) :: .int (nI a) :: st0) σ μ Q := pw_iadd d (by rw [nI_add]; exact k)
theorem pw_imulN {a b : Nat} (d : decode (mB M) pc = .ok (.imul, 1)) (k : PW X M b1 b2 (pc + 1) ls (.int (nI (a * b)) :: st0) σ μ Q) : PW X M b1 b2 pc ls (.int (nI b) :: .int (nI a) :: st0) σ μ Q := pw_imul d (by rw [pk_mul]; exact k)
theorem pw_isubN {a b : Nat} (d : decode (mB M) pc = .ok (.isub, 1)) (h : b ≤ a) (k : PW X M b1 b2 (pc + 1) ls (.int (nI (a - b)) :: st0) σ μ Q) : PW X M b1 b2 pc ls (.int (nI b) :: .int (nI a) :: st0) σ μ Q := pw_isub d (by rw [pk_sub h]; exact k)
/-- the number on the stack under another name -/
theorem pw_top {x y : Int32} (h : x = y) (k : PW X M b1 b2 pc ls (.int y :: st0) σ μ Q) : PW X M b1 b2 pc ls (.int x :: st0) σ μ Q := h ▸ k
theorem pw_mem {μ' : Mm} (h : μ = μ') (k : PW X M b1 b2 pc ls st0 σ μ' Q) : PW X M b1 b2 pc ls st0 σ μ Q := h ▸ k
theorem pw_st {ls' : List (Option Value)} {st1 : List Value} (h1 : ls = ls') (h2 : st0 = st1) (k : PW X M b1 b2 pc ls' st1 σ μ Q) : PW X M b1 b2 pc ls st0 σ μ Q := h1 ▸ h2 ▸ k
theorem pw_iincN_0 {t : List (Option Value)} {e : Nat} (d : decode (mB M) pc = .ok (.iinc 0 1, 3)) (hn : 0 < mL M) (k : PW X M b1 b2 (pc + 3) (some (.int (nI (e + 1))) :: t) st0 σ μ Q) : PW X M b1 b2 pc (some (.int (nI e)) :: t) st0 σ μ Q := pw_iinc_0 (y := nI 1) d (by decide) hn (by rw [nI_add]; exact k)
theorem pw_iincM_0 {t : List (Option Value)} {e : Nat} (d : decode (mB M) pc = .ok (.iinc 0 (-1), 3)) (hn : 0 < mL M) (he : 0 < e) (k : PW X M b1 b2 (pc + 3) (some (.int (nI (e - 1))) :: t) st0 σ μ Q) : PW X M b1 b2 pc (some (.int (nI e)) :: t) st0 σ μ Q := pw_iinc_0 (y := -1) d (by decide) hn (by rw [show nI e + -1 = nI (e - 1) from sb_m1 he]; exact k)
theorem pw_iincN_1 {v0 : Option Value} {t : List (Option Value)} {e : Nat} (d : decode (mB M) pc = .ok (.iinc 1 1, 3)) (hn : 1 < mL M) (k : PW X M b1 b2 (pc + 3) (v0 :: some (.int (nI (e + 1))) :: t) st0 σ μ Q) (h1 : pw_c1 v0 = v0 := by rfl) : PW X M b1 b2 pc (v0 :: some (.int (nI e)) :: t) st0 σ μ Q := pw_iinc_1 (y := nI 1) d (by decide) hn (by rw [nI_add]; exact k) h1
theorem pw_iincM_1 {v0 : Option Value} {t : List (Option Value)} {e : Nat} (d : decode (mB M) pc = .ok (.iinc 1 (-1), 3)) (hn : 1 < mL M) (he : 0 < e) (k : PW X M b1 b2 (pc + 3) (v0 :: some (.int (nI (e - 1))) :: t) st0 σ μ Q) (h1 : pw_c1 v0 = v0 := by rfl) : PW X M b1 b2 pc (v0 :: some (.int (nI e)) :: t) st0 σ μ Q := pw_iinc_1 (y := -1) d (by decide) hn (by rw [show nI e + -1 = nI (e - 1) from sb_m1 he]; exact k) h1
theorem pw_iincN_2 {v0 v1 : Option Value} {t : List (Option Value)} {e : Nat} (d : decode (mB M) pc = .ok (.iinc 2 1, 3)) (hn : 2 < mL M) (k : PW X M b1 b2 (pc + 3) (v0 :: v1 :: some (.int (nI (e + 1))) :: t) st0 σ μ Q) (h1 : pw_c1 v1 = v1 := by rfl) : PW X M b1 b2 pc (v0 :: v1 :: some (.int (nI e)) :: t) st0 σ μ Q := pw_iinc_2 (y := nI 1) d (by decide) hn (by rw [nI_add]; exact k) h1
theorem pw_iincM_2 {v0 v1 : Option Value} {t : List (Option Value)} {e : Nat} (d : decode (mB M) pc = .ok (.iinc 2 (-1), 3)) (hn : 2 < mL M) (he : 0 < e) (k : PW X M b1 b2 (pc + 3) (v0 :: v1 :: some (.int (nI (e - 1))) :: t) st0 σ μ Q) (h1 : pw_c1 v1 = v1 := by rfl) : PW X M b1 b2 pc (v0 :: v1 :: some (.int (nI e)) :: t) st0 σ μ Q := pw_iinc_2 (y := -1) d (by decide) hn (by rw [show nI e + -1 = nI (e - 1) from sb_m1 he]; exact k) h1
theorem pw_iincN_3 {v0 v1 v2 : Option Value} {t : List (Option Value)} {e : Nat} (d : decode (mB M) pc = .ok (.iinc 3 1, 3)) (hn : 3 < mL M) (k : PW X M b1 b2 (pc + 3) (v0 :: v1 :: v2 :: some (.int (nI (e + 1))) :: t) st0 σ μ Q) (h1 : pw_c1 v2 = v2 := by rfl) : PW X M b1 b2 pc (v0 :: v1 :: v2 :: some (.int (nI e)) :: t) st0 σ μ Q := pw_iinc_3 (y := nI 1) d (by decide) hn (by rw [nI_add]; exact k) h1
theorem pw_iincM_3 {v0 v1 v2 : Option Value} {t : List (Option Value)} {e : Nat} (d : decode (mB M) pc = .ok (.iinc 3 (-1), 3)) (hn : 3 < mL M) (he : 0 < e) (k : PW X M b1 b2 (pc + 3) (v0 :: v1 :: v2 :: some (.int (nI (e - 1))) :: t) st0 σ μ Q) (h1 : pw_c1 v2 = v2 := by rfl) : PW X M b1 b2 pc (v0 :: v1 :: v2 :: some (.int (nI e)) :: t) st0 σ μ Q := pw_iinc_3 (y := -1) d (by decide) hn (by rw [show nI e + -1 = nI (e - 1) from sb_m1 he]; exact k) h1
theorem pw_iincN_4 {v0 v1 v2 v3 : Option Value} {t : List (Option Value)} {e : Nat} (d : decode (mB M) pc = .ok (.iinc 4 1, 3)) (hn : 4 < mL M) (k : PW X M b1 b2 (pc + 3) (v0 :: v1 :: v2 :: v3 :: some (.int (nI (e + 1))) :: t) st0 σ μ Q) (h1 : pw_c1 v3 = v3 := by rfl) : PW X M b1 b2 pc (v0 :: v1 :: v2 :: v3 :: some (.int (nI e)) :: t) st0 σ μ Q := pw_iinc_4 (y := nI 1) d (by decide) hn (by rw [nI_add]; exact k) h1
theorem pw_iincM_4 {v0 v1 v2 v3 : Option Value} {t : List (Option Value)} {e : Nat} (d : decode (mB M) pc = .ok (.iinc 4 (-1), 3)) (hn : 4 < mL M) (he : 0 < e) (k : PW X M b1 b2 (pc + 3) (v0 :: v1 :: v2 :: v3 :: some (.int (nI (e - 1))) :: t) st0 σ μ Q) (h1 : pw_c1 v3 = v3 := by rfl) : PW X M b1 b2 pc (v0 :: v1 :: v2 :: v3 :: some (.int (nI e)) :: t) st0 σ μ Q := pw_iinc_4 (y := -1) d (by decide) hn (by rw [show nI e + -1 = nI (e - 1) from sb_m1 he]; exact k) h1
theorem pw_iincN_5 {v0 v1 v2 v3 v4 : Option Value} {t : List (Option Value)} {e : Nat} (d : decode (mB M) pc = .ok (.iinc 5 1, 3)) (hn : 5 < mL M) (k : PW X M b1 b2 (pc + 3) (v0 :: v1 :: v2 :: v3 :: v4 :: some (.int (nI (e + 1))) :: t) st0 σ μ Q) (h1 : pw_c1 v4 = v4 := by rfl) : PW X M b1 b2 pc (v0 :: v1 :: v2 :: v3 :: v4 :: some (.int (nI e)) :: t) st0 σ μ Q := pw_iinc_5 (y := nI 1) d (by decide) hn (by rw [nI_add]; exact k) h1
theorem pw_iincM_5 {v0 v1 v2 v3 v4 : Option Value} {t : List (Option Value)} {e : Nat} (d : decode (mB M) pc = .ok (.iinc 5 (-1), 3)) (hn : 5 < mL M) (he : 0 < e) (k : PW X M b1 b2 (pc + 3) (v0 :: v1 :: v2 :: v3 :: v4 :: some (.int (nI (e - 1))) :: t) st0 σ μ Q) (h1 : pw_c1 v4 = v4 := by rfl) : PW X M b1 b2 pc (v0 :: v1 :: v2 :: v3 :: v4 :: some (.int (nI e)) :: t) st0 σ μ Q := pw_iinc_5 (y := -1) d (by decide) hn (by rw [show nI e + -1 = nI (e - 1) from sb_m1 he]; exact k) h1
theorem pw_iincN_6 {v0 v1 v2 v3 v4 v5 : Option Value} {t : List (Option Value)} {e : Nat} (d : decode (mB M) pc = .ok (.iinc 6 1, 3)) (hn : 6 < mL M) (k : PW X M b1 b2 (pc + 3) (v0 :: v1 :: v2 :: v3 :: v4 :: v5 :: some (.int (nI (e + 1))) :: t) st0 σ μ Q) (h1 : pw_c1 v5 = v5 := by rfl) : PW X M b1 b2 pc (v0 :: v1 :: v2 :: v3 :: v4 :: v5 :: some (.int (nI e)) :: t) st0 σ μ Q := pw_iinc_6 (y := nI 1) d (by decide) hn (by rw [nI_add]; exact k) h1
theorem pw_iincM_6 {v0 v1 v2 v3 v4 v5 : Option Value} {t : List (Option Value)} {e : Nat} (d : decode (mB M) pc = .ok (.iinc 6 (-1), 3)) (hn : 6 < mL M) (he : 0 < e) (k : PW X M b1 b2 (pc + 3) (v0 :: v1 :: v2 :: v3 :: v4 :: v5 :: some (.int (nI (e - 1))) :: t) st0 σ μ Q) (h1 : pw_c1 v5 = v5 := by rfl) : PW X M b1 b2 pc (v0 :: v1 :: v2 :: v3 :: v4 :: v5 :: some (.int (nI e)) :: t) st0 σ μ Q := pw_iinc_6 (y := -1) d (by decide) hn (by rw [show nI e + -1 = nI (e - 1) from sb_m1 he]; exact k) h1
theorem pw_iincN_7 {v0 v1 v2 v3 v4 v5 v6 : Option Value} {t : List (Option Value)} {e : Nat} (d : decode (mB M) pc = .ok (.iinc 7 1, 3)) (hn : 7 < mL M) (k : PW X M b1 b2 (pc + 3) (v0 :: v1 :: v2 :: v3 :: v4 :: v5 :: v6 :: some (.int (nI (e + 1))) :: t) st0 σ μ Q) (h1 : pw_c1 v6 = v6 := by rfl) : PW X M b1 b2 pc (v0 :: v1 :: v2 :: v3 :: v4 :: v5 :: v6 :: some (.int (nI e)) :: t) st0 σ μ Q := pw_iinc_7 (y := nI 1) d (by decide) hn (by rw [nI_add]; exact k) h1
theorem pw_iincM_7 {v0 v1 v2 v3 v4 v5 v6 : Option Value} {t : List (Option Value)} {e : Nat} (d : decode (mB M) pc = .ok (.iinc 7 (-1), 3)) (hn : 7 < mL M) (he : 0 < e) (k : PW X M b1 b2 (pc + 3) (v0 :: v1 :: v2 :: v3 :: v4 :: v5 :: v6 :: some (.int (nI (e - 1))) :: t) st0 σ μ Q) (h1 : pw_c1 v6 = v6 := by rfl) : PW X M b1 b2 pc (v0 :: v1 :: v2 :: v3 :: v4 :: v5 :: v6 :: some (.int (nI e)) :: t) st0 σ μ Q := pw_iinc_7 (y := -1) d (by decide) hn (by rw [show nI e + -1 = nI (e - 1) from sb_m1 he]; exact k) h1
theorem pw_iincN_8 {v0 v1 v2 v3 v4 v5 v6 v7 : Option Value} {t : List (Option Value)} {e : Nat} (d : decode (mB M) pc = .ok (.iinc 8 1, 3)) (hn : 8 < mL M) (k : PW X M b1 b2 (pc + 3) (v0 :: v1 :: v2 :: v3 :: v4 :: v5 :: v6 :: v7 :: some (.int (nI (e + 1))) :: t) st0 σ μ Q) (h1 : pw_c1 v7 = v7 := by rfl) : PW X M b1 b2 pc (v0 :: v1 :: v2 :: v3 :: v4 :: v5 :: v6 :: v7 :: some (.int (nI e)) :: t) st0 σ μ Q := pw_iinc_8 (y := nI 1) d (by decide) hn (by rw [nI_add]; exact k) h1
theorem pw_iincM_8 {v0 v1 v2 v3 v4 v5 v6 v7 : Option Value} {t : List (Option Value)} {e : Nat} (d : decode (mB M) pc = .ok (.iinc 8 (-1), 3)) (hn : 8 < mL M) (he : 0 < e) (k : PW X M b1 b2 (pc + 3) (v0 :: v1 :: v2 :: v3 :: v4 :: v5 :: v6 :: v7 :: some (.int (nI (e - 1))) :: t) st0 σ μ Q) (h1 : pw_c1 v7 = v7 := by rfl) : PW X M b1 b2 pc (v0 :: v1 :: v2 :: v3 :: v4 :: v5 :: v6 :: v7 :: some (.int (nI e)) :: t) st0 σ μ Q := pw_iinc_8 (y := -1) d (by decide) hn (by rw [show nI e + -1 = nI (e - 1) from sb_m1 he]; exact k) h1
theorem pw_iincN_9 {v0 v1 v2 v3 v4 v5 v6 v7 v8 : Option Value} {t : List (Option Value)} {e : Nat} (d : decode (mB M) pc = .ok (.iinc 9 1, 3)) (hn : 9 < mL M) (k : PW X M b1 b2 (pc + 3) (v0 :: v1 :: v2 :: v3 :: v4 :: v5 :: v6 :: v7 :: v8 :: some (.int (nI (e + 1))) :: t) st0 σ μ Q) (h1 : pw_c1 v8 = v8 := by rfl) : PW X M b1 b2 pc (v0 :: v1 :: v2 :: v3 :: v4 :: v5 :: v6 :: v7 :: v8 :: some (.int (nI e)) :: t) st0 σ μ Q := pw_iinc_9 (y := nI 1) d (by decide) hn (by rw [nI_add]; exact k) h1
theorem pw_iincM_9 {v0 v1 v2 v3 v4 v5 v6 v7 v8 : Option Value} {t : List (Option Value)} {e : Nat} (d : decode (mB M) pc = .ok (.iinc 9 (-1), 3)) (hn : 9 < mL M) (he : 0 < e) (k : PW X M b1 b2 (pc + 3) (v0 :: v1 :: v2 :: v3 :: v4 :: v5 :: v6 :: v7 :: v8 :: some (.int (nI (e - 1))) :: t) st0 σ μ Q) (h1 : pw_c1 v8 = v8 := by rfl) : PW X M b1 b2 pc (v0 :: v1 :: v2 :: v3 :: v4 :: v5 :: v6 :: v7 :: v8 :: some (.int (nI e)) :: t) st0 σ μ Q := pw_iinc_9 (y := -1) d (by decide) hn (by rw [show nI e + -1 = nI (e - 1) from sb_m1 he]; exact k) h1
end PWN
/-- a loop that counts up -/
theorem pw_up {P : Nat → Prop} (n : Nat) (h0 : P n) (hs : ∀ i, i < n → P (i + 1) → P i) : ∀ i, i ≤ n → P i := by
  intro i hi
  obtain ⟨k, rfl⟩ := Nat.exists_eq_add_of_le hi
  induction k generalizing i with
  | zero => exact h0
  | succ k ih => exact hs i (by omega) (by rw [show i + (k + 1) = (i + 1) + k by omega] at h0 hs; exact ih (i + 1) h0 hs (by omega))
def itr {α : Type} (f : Nat → α → α) : Nat → α → α
  | 0, x => x
  | n + 1, x => f n (itr f n x)
