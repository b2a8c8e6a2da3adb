/-! What both sides compute: a bus as numbers (globals, wires, stations), and what happens to it -/
abbrev Bs : Type := (Nat → Int32) × (Nat → Nat → Int32) × (Nat → Nat → Int32)
def bG (B : Bs) : Nat → Int32 := B.1
def bW (B : Bs) : Nat → Nat → Int32 := B.2.1
def bS (B : Bs) : Nat → Nat → Int32 := B.2.2
def setG (B : Bs) (k : Nat) (x : Int32) : Bs := (upd (bG B) k x, bW B, bS B)
def setW (B : Bs) (w k : Nat) (x : Int32) : Bs := (bG B, (fun v => if v = w then upd (bW B w) k x else bW B v), bS B)
def setS (B : Bs) (i : Nat) (f : Nat → Int32) : Bs := (bG B, bW B, fun j => if j = i then f else bS B j)
theorem bG_setG (B : Bs) (k : Nat) (x : Int32) : bG (setG B k x) = upd (bG B) k x := rfl
theorem bW_setG (B : Bs) (k : Nat) (x : Int32) : bW (setG B k x) = bW B := rfl
theorem bS_setG (B : Bs) (k : Nat) (x : Int32) : bS (setG B k x) = bS B := rfl
theorem bG_setW (B : Bs) (w k : Nat) (x : Int32) : bG (setW B w k x) = bG B := rfl
theorem bS_setW (B : Bs) (w k : Nat) (x : Int32) : bS (setW B w k x) = bS B := rfl
theorem bW_setW_s (B : Bs) (w k : Nat) (x : Int32) : bW (setW B w k x) w = upd (bW B w) k x := by simp [bW, setW]
theorem bW_setW_n (B : Bs) {w v : Nat} (k : Nat) (x : Int32) (h : v ≠ w) : bW (setW B w k x) v = bW B v := by simp [bW, setW, h]
theorem bG_setS (B : Bs) (i : Nat) (f : Nat → Int32) : bG (setS B i f) = bG B := rfl
theorem bW_setS (B : Bs) (i : Nat) (f : Nat → Int32) : bW (setS B i f) = bW B := rfl
theorem bS_setS_s (B : Bs) (i : Nat) (f : Nat → Int32) : bS (setS B i f) i = f := by simp [bS, setS]
theorem bS_setS_n (B : Bs) {i j : Nat} (f : Nat → Int32) (h : j ≠ i) : bS (setS B i f) j = bS B j := by simp [bS, setS, h]
theorem setS_setS (B : Bs) (i : Nat) (f g : Nat → Int32) : setS (setS B i f) i g = setS B i g := by
  refine Prod.ext rfl (Prod.ext rfl (funext fun j => ?_))
  by_cases h : j = i <;> simp [setS, bS, h]
theorem setS_id (B : Bs) (i : Nat) : setS B i (bS B i) = B := by
  refine Prod.ext rfl (Prod.ext rfl (funext fun j => ?_))
  by_cases h : j = i <;> simp [setS, bS, h]
theorem setS_setW (B : Bs) (i w k : Nat) (x : Int32) (f : Nat → Int32) : setS (setW B w k x) i f = setW (setS B i f) w k x := rfl
/-- a row of 351 numbers that holds a bus -/
def ZR (z : Nat → Int32) (B : Bs) : Prop := (∀ k, k < 7 → z k = bG B k) ∧ (∀ w, w < 6 → ∀ k, k < 4 → z (7 + 4 * w + k) = bW B w k) ∧ (∀ i, i < 8 → ∀ k, k < 40 → z (31 + 40 * i + k) = bS B i k)
theorem ZR.s {z : Nat → Int32} {B : Bs} {i k : Nat} (h : ZR z B) (hi : i < 8) (hk : k < 40) : z (31 + 40 * i + k) = bS B i k := h.2.2 i hi k hk
theorem ZR.w {z : Nat → Int32} {B : Bs} {w k : Nat} (h : ZR z B) (hw : w < 6) (hk : k < 4) : z (7 + 4 * w + k) = bW B w k := h.2.1 w hw k hk
theorem ZR.g {z : Nat → Int32} {B : Bs} {k : Nat} (h : ZR z B) (hk : k < 7) : z k = bG B k := h.1 k hk
theorem ZR.stS {z z' : Nat → Int32} {B : Bs} {i : Nat} {f : Nat → Int32} (h : ZR z B) (hi : i < 8) (h1 : ∀ k, k < 40 → z' (31 + 40 * i + k) = f k) (h2 : ∀ j, j < 351 → (j < 31 + 40 * i ∨ 31 + 40 * i + 40 ≤ j) → z' j = z j) : ZR z' (setS B i f) := by
  refine ⟨fun k hk => ?_, fun w hw k hk => ?_, fun j hj k hk => ?_⟩
  · rw [h2 k (by omega) (Or.inl (by omega)), bG_setS]
    exact h.g hk
  · rw [h2 _ (by omega) (Or.inl (by omega)), bW_setS]
    exact h.w hw hk
  · by_cases hji : j = i
    · subst hji
      rw [h1 k hk, bS_setS_s]
    · rw [h2 _ (by omega) (by rcases Nat.lt_or_gt_of_ne hji with q | q <;> omega), bS_setS_n _ _ hji]
      exact h.s hj hk
theorem ZR.updS {z : Nat → Int32} {B : Bs} {i k : Nat} (h : ZR z B) (hi : i < 8) (hk : k < 40) (x : Int32) : ZR (upd z (31 + 40 * i + k) x) (setS B i (upd (bS B i) k x)) := by
  refine h.stS hi (fun j hj => ?_) (fun j _ hj => ?_)
  · by_cases hjk : j = k
    · subst hjk
      simp [upd]
    · rw [upd_n _ _ (by omega), upd_n _ _ hjk]
      exact h.s hi hj
  · exact upd_n _ _ (by omega)
theorem ZR.updW {z : Nat → Int32} {B : Bs} {w k : Nat} (h : ZR z B) (hw : w < 6) (hk : k < 4) (x : Int32) : ZR (upd z (7 + 4 * w + k) x) (setW B w k x) := by
  refine ⟨fun j hj => ?_, fun v hv j hj => ?_, fun i hi j hj => ?_⟩
  · rw [upd_n _ _ (by omega), bG_setW]
    exact h.g hj
  · by_cases hvw : v = w
    · subst hvw
      rw [bW_setW_s]
      by_cases hjk : j = k
      · subst hjk
        simp [upd]
      · rw [upd_n _ _ (by omega), upd_n _ _ hjk]
        exact h.w hw hj
    · rw [bW_setW_n _ _ _ hvw, upd_n _ _ (by omega)]
      exact h.w hv hj
  · rw [upd_n _ _ (by omega), bS_setW]
    exact h.s hi hj
theorem ZR.updG {z : Nat → Int32} {B : Bs} {k : Nat} (h : ZR z B) (hk : k < 7) (x : Int32) : ZR (upd z k x) (setG B k x) := by
  refine ⟨fun j hj => ?_, fun v hv j hj => ?_, fun i hi j hj => ?_⟩
  · rw [bG_setG]
    by_cases hjk : j = k
    · subst hjk
      simp [upd]
    · rw [upd_n _ _ hjk, upd_n _ _ hjk]
      exact h.g hj
  · rw [bW_setG, upd_n _ _ (by omega)]
    exact h.w hv hj
  · rw [bS_setG, upd_n _ _ (by omega)]
    exact h.s hi hj
/-- stations: awake, speaking, at a wire; the first word's wire; how many words -/
def awB (B : Bs) (i : Nat) : Prop := bS B i 2 = 0 ∧ bS B i 3 = 0
def spB (B : Bs) (i : Nat) : Prop := bS B i 17 ≠ -6
def atB (B : Bs) (i : Nat) (x : Int32) : Prop := bi (bS B i 0) x = nI 1
/-- a set of those for which something holds, below a bound -/
noncomputable def msk (p : Nat → Prop) : Nat → Int32
  | 0 => nI 0
  | n + 1 => @ite _ (p n) (Classical.propDecidable _) (msk p n ||| (nI 1 <<< (nI n &&& 31))) (msk p n)
theorem msk_y {p : Nat → Prop} {n : Nat} (h : p n) : msk p (n + 1) = msk p n ||| (nI 1 <<< (nI n &&& 31)) := by simp [msk, h]
theorem msk_n {p : Nat → Prop} {n : Nat} (h : ¬ p n) : msk p (n + 1) = msk p n := by simp [msk, h]
theorem msk_cong {p q : Nat → Prop} : ∀ {n : Nat}, (∀ i, i < n → (p i ↔ q i)) → msk p n = msk q n
  | 0, _ => rfl
  | n + 1, h => by
    have ih := msk_cong (n := n) (fun i hi => h i (by omega))
    by_cases hp : p n
    · rw [msk_y hp, msk_y ((h n (by omega)).mp hp), ih]
    · rw [msk_n hp, msk_n (fun hq => hp ((h n (by omega)).mpr hq)), ih]
/-- the first word leaves the row; giving up -/
def qtF (f : Nat → Int32) : Nat → Int32 := upd (upd f 17 (-6)) 18 (nI 0)
def nwF (f : Nat → Int32) : Nat := (f 4).toNatClampNeg
def lvF (f : Nat → Int32) : Nat → Int32 := fun k => if 5 ≤ k ∧ k < 5 + 3 * (nwF f - 1) then f (k + 3) else upd (qtF f) 4 (nI (nwF f - 1)) k
def guF (f : Nat → Int32) : Nat → Int32 := qtF (upd (upd f 7 (f 7 + nI 1)) 22 (f 22 + nI 1))
def glF (f : Nat → Int32) : Nat → Int32 := lvF (upd (guF f) 20 (f 20 + nI 1))
def fwB (B : Bs) (i : Nat) : Nat := (bS B i 6).toNatClampNeg
def lvB (B : Bs) (i : Nat) : Bs := setS B i (lvF (bS B i))
/-- a wire's tally grows by one -/
def tyB (B : Bs) (w k : Nat) : Bs := setW B w k (bW B w k + nI 1)
def guB (B : Bs) (i : Nat) : Bs := if bG B 4 ≤ bS B i 7 + nI 1 then tyB (setS B i (glF (bS B i))) (fwB B i) 3 else setS B i (guF (bS B i))

