/-! The walk over the pure memory: a row an instruction -/
def pw_Tb : List Cond := lw_tbl.filter goodWord
/-- name, code, locals, answer, frames, locals' words, cells and slots of a method -/
abbrev Mt : Type := MethodName × ByteArray × Nat × Option FieldType × Nat × Nat × Nat × Nat
def mY (M : Mt) : MethodName := M.1
def mB (M : Mt) : ByteArray := M.2.1
def mL (M : Mt) : Nat := M.2.2.1
def mRet (M : Mt) : Option FieldType := M.2.2.2.1
def mF (M : Mt) : Nat := M.2.2.2.2.1
def mLo (M : Mt) : Nat := M.2.2.2.2.2.1
def mCe (M : Mt) : Nat := M.2.2.2.2.2.2.1
def mSl (M : Mt) : Nat := M.2.2.2.2.2.2.2
def mRm (M : Mt) : Room := { frames := mF M, cells := mCe M, slots := mSl M, locals := mLo M }
def mWs (M : Mt) : List Cond := Cond.code (mY M) (mB M) (mL M) (mRet M) :: pw_Tb
def Bd (M : Mt) (p : Program) (R : Room) (s : State) (m : MethodId) (args : Array Value) (meth : Method) (c : Code) : Prop :=
  p.tables.exec = Jvm.exec ∧ c.code = mB M ∧ meth.sig.returnType = mRet M ∧ c.maxLocals = mL M ∧ s.vm.findClass (mY M).cls = some m.cls ∧ (∀ w ∈ pw_Tb, w.before args s = true) ∧ meth.locks = false ∧ ((mY M).name = "<init>" → meth.name = "<init>") ∧ mF M ≤ R.frames ∧ mLo M ≤ R.locals
def pw_L (ar : Array Slot) (n : Nat) (ls : List (Option Value)) : Prop := ar.size = n ∧ lv_wf ar ∧ ∀ (i : Nat) (v : Value), ls[i]? = some (some v) → ar[i]? = some (.val v)
def pw_ret (M : Mt) (pc : Nat) (r : Option Value) : Prop :=
  (r = none ∧ mRet M = none ∧ decode (mB M) pc = .ok (.return_, 1)) ∨ (∃ (x : Int32) (ty : FieldType), r = some (.int x) ∧ mRet M = some ty ∧ narrow ty (.int x) = .int x ∧ decode (mB M) pc = .ok (.ireturn, 1)) ∨
  (∃ (v : Value) (C : String), r = some v ∧ (v = .null ∨ ∃ a, v = .ref a) ∧ mRet M = some (.object C) ∧ decode (mB M) pc = .ok (.areturn, 1))
/-- from here the method comes to its end, with Q -/
def PW (X : Cx) (M : Mt) (b1 b2 : Nat) (pc : Nat) (ls : List (Option Value)) (st : List Value) (σ : Sp) (μ : Mm) (Q : Option Value → Sp → Mm → Prop) : Prop :=
  ∀ (p : Program) (e : Env) (R : Room) (s : State) (m : MethodId) (args : Array Value) (below : List Frame) (meth : Method) (c : Code) (H : Heap) (locs : List Loc) (cells slots : Nat) (ar : Array Slot) (Z : State → Prop),
    Bd M p R s m args meth c → SX X s → HP X σ μ H → va_S (fun q => cxB X ≤ q) s.heap H locs → pw_L ar (mL M) ls → cells + b1 ≤ R.cells → slots + b2 ≤ R.slots →
    (∀ (H' : Heap) (locs' : List Loc) (cells' slots' : Nat) (ar' : Array Slot) (pc' : Nat) (r : Option Value) (σ' : Sp) (μ' : Mm), Q r σ' μ' → pw_ret M pc' r → HP X σ' μ' H' → va_S (fun q => cxB X ≤ q) s.heap H' locs' → cells' ≤ R.cells → slots' ≤ R.slots → W p (cxL X) e R s m args below meth c H' locs' cells' slots' Z (F0 m pc' ar' r.toList)) →
    W p (cxL X) e R s m args below meth c H locs cells slots Z (F0 m pc ar st)
def CT (X : Cx) (M : Mt) (av : List Value) (σ : Sp) (μ : Mm) (Q : Option Value → Sp → Mm → Prop) : Prop :=
  Met (cxL X) (mY M) (mWs M) (mRm M) (va_Pc av (fun U => SX X U ∧ HP X σ μ U.heap)) (fun _ st o t => (∃ (r : Option Value) (σ' : Sp) (μ' : Mm), o = .returned r ∧ Q r σ' μ' ∧ HP X σ' μ' t.heap) ∧ va_F (fun q => cxB X ≤ q) st t) (mCe M) (mSl M) (fun q => cxB X ≤ q)
def LI (Q : Int32 → Sp → Mm → Prop) : Option Value → Sp → Mm → Prop := fun r σ μ => ∃ x : Int32, r = some (.int x) ∧ Q x σ μ
def LV (Q : Sp → Mm → Prop) : Option Value → Sp → Mm → Prop := fun r σ μ => r = none ∧ Q σ μ
def LR (Q : Option Nat → Sp → Mm → Prop) : Option Value → Sp → Mm → Prop := fun r σ μ => ∃ o : Option Nat, r = some (va_rf o) ∧ Q o σ μ
abbrev CTi (X : Cx) (M : Mt) (av : List Value) (σ : Sp) (μ : Mm) (Q : Int32 → Sp → Mm → Prop) : Prop := CT X M av σ μ (LI Q)
abbrev CTv (X : Cx) (M : Mt) (av : List Value) (σ : Sp) (μ : Mm) (Q : Sp → Mm → Prop) : Prop := CT X M av σ μ (LV Q)
abbrev CTr (X : Cx) (M : Mt) (av : List Value) (σ : Sp) (μ : Mm) (Q : Option Nat → Sp → Mm → Prop) : Prop := CT X M av σ μ (LR Q)
section PWR
variable {X : Cx} {M : Mt} {b1 b2 pc : Nat} {ls : List (Option Value)} {st : List Value} {σ : Sp} {μ : Mm} {Q : Option Value → Sp → Mm → Prop}
theorem pw_mono {Q' : Option Value → Sp → Mm → Prop} (hQ : ∀ r σ' μ', Q r σ' μ' → Q' r σ' μ') (k : PW X M b1 b2 pc ls st σ μ Q) : PW X M b1 b2 pc ls st σ μ Q' :=
  fun p e R s m args below meth c H locs cells slots ar Z B S P F L c1 c2 K => k p e R s m args below meth c H locs cells slots ar Z B S P F L c1 c2 (fun H' locs' cells' slots' ar' pc' r σ' μ' q => K H' locs' cells' slots' ar' pc' r σ' μ' (hQ r σ' μ' q))
theorem pw_inv (k : pw_bo σ μ → (∀ a, tg σ a ≠ 0 → cxB X ≤ a ∧ a < cxB X + nn σ) → PW X M b1 b2 pc ls st σ μ Q) : PW X M b1 b2 pc ls st σ μ Q :=
  fun p e R s m args below meth c H locs cells slots ar Z B S P F L c1 c2 K => k P.2.2.2 P.2.2.1 p e R s m args below meth c H locs cells slots ar Z B S P F L c1 c2 K
theorem pw_bud {b1' b2' : Nat} (h1 : b1' ≤ b1) (h2 : b2' ≤ b2) (k : PW X M b1' b2' pc ls st σ μ Q) : PW X M b1 b2 pc ls st σ μ Q :=
  fun p e R s m args below meth c H locs cells slots ar Z B S P F L c1 c2 K => k p e R s m args below meth c H locs cells slots ar Z B S P F L (by omega) (by omega) K
theorem pw_iconst {n : Int} {v : Int32} (d : decode (mB M) pc = .ok (.iconst n, 1)) (hv : Int32.ofInt n = v) (k : PW X M b1 b2 (pc + 1) ls (.int v :: st) σ μ Q) : PW X M b1 b2 pc ls st σ μ Q :=
  fun p e R s m args below meth c H locs cells slots ar Z B S P F L c1 c2 K => lv_iconst B.1 B.2.1 d hv (k p e R s m args below meth c H locs cells slots ar Z B S P F L c1 c2 K)
theorem pw_bipush {n : Int} {v : Int32} (d : decode (mB M) pc = .ok (.bipush n, 2)) (hv : (Int8.ofInt n).toInt32 = v) (k : PW X M b1 b2 (pc + 2) ls (.int v :: st) σ μ Q) : PW X M b1 b2 pc ls st σ μ Q :=
  fun p e R s m args below meth c H locs cells slots ar Z B S P F L c1 c2 K => lv_bipush B.1 B.2.1 d hv (k p e R s m args below meth c H locs cells slots ar Z B S P F L c1 c2 K)
theorem pw_sipush {n : Int} {v : Int32} (d : decode (mB M) pc = .ok (.sipush n, 3)) (hv : (Int16.ofInt n).toInt32 = v) (k : PW X M b1 b2 (pc + 3) ls (.int v :: st) σ μ Q) : PW X M b1 b2 pc ls st σ μ Q :=
  fun p e R s m args below meth c H locs cells slots ar Z B S P F L c1 c2 K => lv_sipush B.1 B.2.1 d hv (k p e R s m args below meth c H locs cells slots ar Z B S P F L c1 c2 K)
theorem pw_lconst {n : Fin 2} {v : Int64} (d : decode (mB M) pc = .ok (.lconst n, 1)) (hv : Int64.ofNat (n : Nat) = v) (k : PW X M b1 b2 (pc + 1) ls (.long v :: st) σ μ Q) : PW X M b1 b2 pc ls st σ μ Q :=
  fun p e R s m args below meth c H locs cells slots ar Z B S P F L c1 c2 K => lv_lconst B.1 B.2.1 d hv (k p e R s m args below meth c H locs cells slots ar Z B S P F L c1 c2 K)
theorem pw_iadd {x y : Int32} (d : decode (mB M) pc = .ok (.iadd, 1)) (k : PW X M b1 b2 (pc + 1) ls (.int (x + y) :: st) σ μ Q) : PW X M b1 b2 pc ls (.int y :: .int x :: st) σ μ Q :=
  fun p e R s m args below meth c H locs cells slots ar Z B S P F L c1 c2 K => lv_iadd B.1 B.2.1 d (k p e R s m args below meth c H locs cells slots ar Z B S P F L c1 c2 K)
theorem pw_isub {x y : Int32} (d : decode (mB M) pc = .ok (.isub, 1)) (k : PW X M b1 b2 (pc + 1) ls (.int (x - y) :: st) σ μ Q) : PW X M b1 b2 pc ls (.int y :: .int x :: st) σ μ Q :=
  fun p e R s m args below meth c H locs cells slots ar Z B S P F L c1 c2 K => lv_isub B.1 B.2.1 d (k p e R s m args below meth c H locs cells slots ar Z B S P F L c1 c2 K)
theorem pw_imul {x y : Int32} (d : decode (mB M) pc = .ok (.imul, 1)) (k : PW X M b1 b2 (pc + 1) ls (.int (x * y) :: st) σ μ Q) : PW X M b1 b2 pc ls (.int y :: .int x :: st) σ μ Q :=
  fun p e R s m args below meth c H locs cells slots ar Z B S P F L c1 c2 K => lv_imul B.1 B.2.1 d (k p e R s m args below meth c H locs cells slots ar Z B S P F L c1 c2 K)
theorem pw_iand {x y : Int32} (d : decode (mB M) pc = .ok (.iand, 1)) (k : PW X M b1 b2 (pc + 1) ls (.int (x &&& y) :: st) σ μ Q) : PW X M b1 b2 pc ls (.int y :: .int x :: st) σ μ Q :=
  fun p e R s m args below meth c H locs cells slots ar Z B S P F L c1 c2 K => lv_iand B.1 B.2.1 d (k p e R s m args below meth c H locs cells slots ar Z B S P F L c1 c2 K)
theorem pw_ior {x y : Int32} (d : decode (mB M) pc = .ok (.ior, 1)) (k : PW X M b1 b2 (pc + 1) ls (.int (x ||| y) :: st) σ μ Q) : PW X M b1 b2 pc ls (.int y :: .int x :: st) σ μ Q :=
  fun p e R s m args below meth c H locs cells slots ar Z B S P F L c1 c2 K => lv_ior B.1 B.2.1 d (k p e R s m args below meth c H locs cells slots ar Z B S P F L c1 c2 K)
theorem pw_ixor {x y : Int32} (d : decode (mB M) pc = .ok (.ixor, 1)) (k : PW X M b1 b2 (pc + 1) ls (.int (x ^^^ y) :: st) σ μ Q) : PW X M b1 b2 pc ls (.int y :: .int x :: st) σ μ Q :=
  fun p e R s m args below meth c H locs cells slots ar Z B S P F L c1 c2 K => lv_ixor B.1 B.2.1 d (k p e R s m args below meth c H locs cells slots ar Z B S P F L c1 c2 K)
theorem pw_idiv {x y : Int32} (d : decode (mB M) pc = .ok (.idiv, 1)) (hne : ¬ y = 0) (k : PW X M b1 b2 (pc + 1) ls (.int (x / y) :: st) σ μ Q) : PW X M b1 b2 pc ls (.int y :: .int x :: st) σ μ Q :=
  fun p e R s m args below meth c H locs cells slots ar Z B S P F L c1 c2 K => lv_idiv B.1 B.2.1 d hne (k p e R s m args below meth c H locs cells slots ar Z B S P F L c1 c2 K)
theorem pw_irem {x y : Int32} (d : decode (mB M) pc = .ok (.irem, 1)) (hne : ¬ y = 0) (k : PW X M b1 b2 (pc + 1) ls (.int (x - x / y * y) :: st) σ μ Q) : PW X M b1 b2 pc ls (.int y :: .int x :: st) σ μ Q :=
  fun p e R s m args below meth c H locs cells slots ar Z B S P F L c1 c2 K => lv_irem B.1 B.2.1 d hne (k p e R s m args below meth c H locs cells slots ar Z B S P F L c1 c2 K)
theorem pw_ishl {x y : Int32} (d : decode (mB M) pc = .ok (.ishl, 1)) (k : PW X M b1 b2 (pc + 1) ls (.int (x <<< (y &&& 31)) :: st) σ μ Q) : PW X M b1 b2 pc ls (.int y :: .int x :: st) σ μ Q :=
  fun p e R s m args below meth c H locs cells slots ar Z B S P F L c1 c2 K => lv_ishl B.1 B.2.1 d (k p e R s m args below meth c H locs cells slots ar Z B S P F L c1 c2 K)
theorem pw_ishr {x y : Int32} (d : decode (mB M) pc = .ok (.ishr, 1)) (k : PW X M b1 b2 (pc + 1) ls (.int (x >>> (y &&& 31)) :: st) σ μ Q) : PW X M b1 b2 pc ls (.int y :: .int x :: st) σ μ Q :=
  fun p e R s m args below meth c H locs cells slots ar Z B S P F L c1 c2 K => lv_ishr B.1 B.2.1 d (k p e R s m args below meth c H locs cells slots ar Z B S P F L c1 c2 K)
theorem pw_iushr {x y : Int32} (d : decode (mB M) pc = .ok (.iushr, 1)) (k : PW X M b1 b2 (pc + 1) ls (.int ((x.toUInt32 >>> (y.toUInt32 &&& Int32.toUInt32 31)).toInt32) :: st) σ μ Q) : PW X M b1 b2 pc ls (.int y :: .int x :: st) σ μ Q :=
  fun p e R s m args below meth c H locs cells slots ar Z B S P F L c1 c2 K => lv_iushr B.1 B.2.1 d rfl (k p e R s m args below meth c H locs cells slots ar Z B S P F L c1 c2 K)
theorem pw_i2l {x : Int32} (d : decode (mB M) pc = .ok (.i2l, 1)) (k : PW X M b1 b2 (pc + 1) ls (.long x.toInt64 :: st) σ μ Q) : PW X M b1 b2 pc ls (.int x :: st) σ μ Q :=
  fun p e R s m args below meth c H locs cells slots ar Z B S P F L c1 c2 K => lv_i2l B.1 B.2.1 d rfl (k p e R s m args below meth c H locs cells slots ar Z B S P F L c1 c2 K)
theorem pw_l2i {x : Int64} (d : decode (mB M) pc = .ok (.l2i, 1)) (k : PW X M b1 b2 (pc + 1) ls (.int x.toInt32 :: st) σ μ Q) : PW X M b1 b2 pc ls (.long x :: st) σ μ Q :=
  fun p e R s m args below meth c H locs cells slots ar Z B S P F L c1 c2 K => lv_l2i B.1 B.2.1 d rfl (k p e R s m args below meth c H locs cells slots ar Z B S P F L c1 c2 K)
theorem pw_i2c {x : Int32} (d : decode (mB M) pc = .ok (.i2c, 1)) (k : PW X M b1 b2 (pc + 1) ls (.int (x.toUInt32 % 65536).toInt32 :: st) σ μ Q) : PW X M b1 b2 pc ls (.int x :: st) σ μ Q :=
  fun p e R s m args below meth c H locs cells slots ar Z B S P F L c1 c2 K => lv_i2c B.1 B.2.1 d rfl (k p e R s m args below meth c H locs cells slots ar Z B S P F L c1 c2 K)
theorem pw_land {x y : Int64} (d : decode (mB M) pc = .ok (.land, 1)) (k : PW X M b1 b2 (pc + 1) ls (.long (x &&& y) :: st) σ μ Q) : PW X M b1 b2 pc ls (.long y :: .long x :: st) σ μ Q :=
  fun p e R s m args below meth c H locs cells slots ar Z B S P F L c1 c2 K => lv_land B.1 B.2.1 d (k p e R s m args below meth c H locs cells slots ar Z B S P F L c1 c2 K)
theorem pw_lor {x y : Int64} (d : decode (mB M) pc = .ok (.lor, 1)) (k : PW X M b1 b2 (pc + 1) ls (.long (x ||| y) :: st) σ μ Q) : PW X M b1 b2 pc ls (.long y :: .long x :: st) σ μ Q :=
  fun p e R s m args below meth c H locs cells slots ar Z B S P F L c1 c2 K => lv_lor B.1 B.2.1 d (k p e R s m args below meth c H locs cells slots ar Z B S P F L c1 c2 K)
theorem pw_lushr {x : Int64} {y : Int32} (d : decode (mB M) pc = .ok (.lushr, 1)) (k : PW X M b1 b2 (pc + 1) ls (.long (x.toUInt64 >>> (y.toInt64.toUInt64 &&& Int64.toUInt64 63)).toInt64 :: st) σ μ Q) : PW X M b1 b2 pc ls (.int y :: .long x :: st) σ μ Q :=
  fun p e R s m args below meth c H locs cells slots ar Z B S P F L c1 c2 K => lv_lushr B.1 B.2.1 d rfl (k p e R s m args below meth c H locs cells slots ar Z B S P F L c1 c2 K)
theorem pw_lshl {x : Int64} {y : Int32} (d : decode (mB M) pc = .ok (.lshl, 1)) (k : PW X M b1 b2 (pc + 1) ls (.long (x <<< (y.toInt64 &&& 63)) :: st) σ μ Q) : PW X M b1 b2 pc ls (.int y :: .long x :: st) σ μ Q :=
  fun p e R s m args below meth c H locs cells slots ar Z B S P F L c1 c2 K => lv_lshl B.1 B.2.1 d rfl (k p e R s m args below meth c H locs cells slots ar Z B S P F L c1 c2 K)
theorem pw_dup {va : Value} (d : decode (mB M) pc = .ok (.dup, 1)) (k : PW X M b1 b2 (pc + 1) ls (va :: va :: st) σ μ Q) (hva : va.category = 1 := by rfl) : PW X M b1 b2 pc ls (va :: st) σ μ Q :=
  fun p e R s m args below meth c H locs cells slots ar Z B S P F L c1 c2 K => lv_dup B.1 B.2.1 d hva (k p e R s m args below meth c H locs cells slots ar Z B S P F L c1 c2 K)
theorem pw_pop {va : Value} (d : decode (mB M) pc = .ok (.pop, 1)) (k : PW X M b1 b2 (pc + 1) ls st σ μ Q) (hva : va.category = 1 := by rfl) : PW X M b1 b2 pc ls (va :: st) σ μ Q :=
  fun p e R s m args below meth c H locs cells slots ar Z B S P F L c1 c2 K => lv_pop B.1 B.2.1 d hva (k p e R s m args below meth c H locs cells slots ar Z B S P F L c1 c2 K)
theorem pw_dup2_11 {va vb : Value} (d : decode (mB M) pc = .ok (.dup2, 1)) (k : PW X M b1 b2 (pc + 1) ls (va :: vb :: va :: vb :: st) σ μ Q) (hva : va.category = 1 := by rfl) (hvb : vb.category = 1 := by rfl) : PW X M b1 b2 pc ls (va :: vb :: st) σ μ Q :=
  fun p e R s m args below meth c H locs cells slots ar Z B S P F L c1 c2 K => lv_dup2_11 B.1 B.2.1 d hva hvb (k p e R s m args below meth c H locs cells slots ar Z B S P F L c1 c2 K)
theorem pw_null (d : decode (mB M) pc = .ok (.aconst_null, 1)) (k : PW X M b1 b2 (pc + 1) ls (.null :: st) σ μ Q) : PW X M b1 b2 pc ls st σ μ Q :=
  fun p e R s m args below meth c H locs cells slots ar Z B S P F L c1 c2 K => lv_null B.1 B.2.1 d (k p e R s m args below meth c H locs cells slots ar Z B S P F L c1 c2 K)
theorem pw_lcmp {x y : Int64} (d : decode (mB M) pc = .ok (.lcmp, 1)) (k : PW X M b1 b2 (pc + 1) ls (.int (lg_cmp x y) :: st) σ μ Q) : PW X M b1 b2 pc ls (.long y :: .long x :: st) σ μ Q :=
  fun p e R s m args below meth c H locs cells slots ar Z B S P F L c1 c2 K => W.lcmp B.1 B.2.1 d (k p e R s m args below meth c H locs cells slots ar Z B S P F L c1 c2 K)
theorem pw_iload_gn {n : Fin 4} {x : Int32} (d : decode (mB M) pc = .ok (.iload_n n, 1)) (h : ls[(n : Nat)]? = some (some (.int x))) (k : PW X M b1 b2 (pc + 1) ls (.int x :: st) σ μ Q) : PW X M b1 b2 pc ls st σ μ Q :=
  fun p e R s m args below meth c H locs cells slots ar Z B S P F L c1 c2 K => lv_iload_n B.1 B.2.1 d rfl (L.2.2 _ _ h) (k p e R s m args below meth c H locs cells slots ar Z B S P F L c1 c2 K)
theorem pw_iload_g {i : Nat} {x : Int32} (d : decode (mB M) pc = .ok (.iload i, 2)) (h : ls[i]? = some (some (.int x))) (k : PW X M b1 b2 (pc + 2) ls (.int x :: st) σ μ Q) : PW X M b1 b2 pc ls st σ μ Q :=
  fun p e R s m args below meth c H locs cells slots ar Z B S P F L c1 c2 K => lv_iload B.1 B.2.1 d (L.2.2 _ _ h) (k p e R s m args below meth c H locs cells slots ar Z B S P F L c1 c2 K)
theorem pw_iload_0 {t : List (Option Value)} {x : Int32} (d : decode (mB M) pc = .ok (.iload_n 0, 1)) (k : PW X M b1 b2 (pc + 1) (some (.int x) :: t) (.int x :: st) σ μ Q) : PW X M b1 b2 pc (some (.int x) :: t) st σ μ Q := pw_iload_gn d rfl k
theorem pw_iload_1 {v0 : Option Value} {t : List (Option Value)} {x : Int32} (d : decode (mB M) pc = .ok (.iload_n 1, 1)) (k : PW X M b1 b2 (pc + 1) (v0 :: some (.int x) :: t) (.int x :: st) σ μ Q) : PW X M b1 b2 pc (v0 :: some (.int x) :: t) st σ μ Q := pw_iload_gn d rfl k
theorem pw_iload_2 {v0 v1 : Option Value} {t : List (Option Value)} {x : Int32} (d : decode (mB M) pc = .ok (.iload_n 2, 1)) (k : PW X M b1 b2 (pc + 1) (v0 :: v1 :: some (.int x) :: t) (.int x :: st) σ μ Q) : PW X M b1 b2 pc (v0 :: v1 :: some (.int x) :: t) st σ μ Q := pw_iload_gn d rfl k
theorem pw_iload_3 {v0 v1 v2 : Option Value} {t : List (Option Value)} {x : Int32} (d : decode (mB M) pc = .ok (.iload_n 3, 1)) (k : PW X M b1 b2 (pc + 1) (v0 :: v1 :: v2 :: some (.int x) :: t) (.int x :: st) σ μ Q) : PW X M b1 b2 pc (v0 :: v1 :: v2 :: some (.int x) :: t) st σ μ Q := pw_iload_gn d rfl k
theorem pw_iload_4 {v0 v1 v2 v3 : Option Value} {t : List (Option Value)} {x : Int32} (d : decode (mB M) pc = .ok (.iload 4, 2)) (k : PW X M b1 b2 (pc + 2) (v0 :: v1 :: v2 :: v3 :: some (.int x) :: t) (.int x :: st) σ μ Q) : PW X M b1 b2 pc (v0 :: v1 :: v2 :: v3 :: some (.int x) :: t) st σ μ Q := pw_iload_g d rfl k
theorem pw_iload_5 {v0 v1 v2 v3 v4 : Option Value} {t : List (Option Value)} {x : Int32} (d : decode (mB M) pc = .ok (.iload 5, 2)) (k : PW X M b1 b2 (pc + 2) (v0 :: v1 :: v2 :: v3 :: v4 :: some (.int x) :: t) (.int x :: st) σ μ Q) : PW X M b1 b2 pc (v0 :: v1 :: v2 :: v3 :: v4 :: some (.int x) :: t) st σ μ Q := pw_iload_g d rfl k
theorem pw_iload_6 {v0 v1 v2 v3 v4 v5 : Option Value} {t : List (Option Value)} {x : Int32} (d : decode (mB M) pc = .ok (.iload 6, 2)) (k : PW X M b1 b2 (pc + 2) (v0 :: v1 :: v2 :: v3 :: v4 :: v5 :: some (.int x) :: t) (.int x :: st) σ μ Q) : PW X M b1 b2 pc (v0 :: v1 :: v2 :: v3 :: v4 :: v5 :: some (.int x) :: t) st σ μ Q := pw_iload_g d rfl k
theorem pw_iload_7 {v0 v1 v2 v3 v4 v5 v6 : Option Value} {t : List (Option Value)} {x : Int32} (d : decode (mB M) pc = .ok (.iload 7, 2)) (k : PW X M b1 b2 (pc + 2) (v0 :: v1 :: v2 :: v3 :: v4 :: v5 :: v6 :: some (.int x) :: t) (.int x :: st) σ μ Q) : PW X M b1 b2 pc (v0 :: v1 :: v2 :: v3 :: v4 :: v5 :: v6 :: some (.int x) :: t) st σ μ Q := pw_iload_g d rfl k
theorem pw_iload_8 {v0 v1 v2 v3 v4 v5 v6 v7 : Option Value} {t : List (Option Value)} {x : Int32} (d : decode (mB M) pc = .ok (.iload 8, 2)) (k : PW X M b1 b2 (pc + 2) (v0 :: v1 :: v2 :: v3 :: v4 :: v5 :: v6 :: v7 :: some (.int x) :: t) (.int x :: st) σ μ Q) : PW X M b1 b2 pc (v0 :: v1 :: v2 :: v3 :: v4 :: v5 :: v6 :: v7 :: some (.int x) :: t) st σ μ Q := pw_iload_g d rfl k
theorem pw_iload_9 {v0 v1 v2 v3 v4 v5 v6 v7 v8 : Option Value} {t : List (Option Value)} {x : Int32} (d : decode (mB M) pc = .ok (.iload 9, 2)) (k : PW X M b1 b2 (pc + 2) (v0 :: v1 :: v2 :: v3 :: v4 :: v5 :: v6 :: v7 :: v8 :: some (.int x) :: t) (.int x :: st) σ μ Q) : PW X M b1 b2 pc (v0 :: v1 :: v2 :: v3 :: v4 :: v5 :: v6 :: v7 :: v8 :: some (.int x) :: t) st σ μ Q := pw_iload_g d rfl k
theorem pw_iload_10 {v0 v1 v2 v3 v4 v5 v6 v7 v8 v9 : Option Value} {t : List (Option Value)} {x : Int32} (d : decode (mB M) pc = .ok (.iload 10, 2)) (k : PW X M b1 b2 (pc + 2) (v0 :: v1 :: v2 :: v3 :: v4 :: v5 :: v6 :: v7 :: v8 :: v9 :: some (.int x) :: t) (.int x :: st) σ μ Q) : PW X M b1 b2 pc (v0 :: v1 :: v2 :: v3 :: v4 :: v5 :: v6 :: v7 :: v8 :: v9 :: some (.int x) :: t) st σ μ Q := pw_iload_g d rfl k
theorem pw_iload_11 {v0 v1 v2 v3 v4 v5 v6 v7 v8 v9 v10 : Option Value} {t : List (Option Value)} {x : Int32} (d : decode (mB M) pc = .ok (.iload 11, 2)) (k : PW X M b1 b2 (pc + 2) (v0 :: v1 :: v2 :: v3 :: v4 :: v5 :: v6 :: v7 :: v8 :: v9 :: v10 :: some (.int x) :: t) (.int x :: st) σ μ Q) : PW X M b1 b2 pc (v0 :: v1 :: v2 :: v3 :: v4 :: v5 :: v6 :: v7 :: v8 :: v9 :: v10 :: some (.int x) :: t) st σ μ Q := pw_iload_g d rfl k
theorem pw_iload_12 {v0 v1 v2 v3 v4 v5 v6 v7 v8 v9 v10 v11 : Option Value} {t : List (Option Value)} {x : Int32} (d : decode (mB M) pc = .ok (.iload 12, 2)) (k : PW X M b1 b2 (pc + 2) (v0 :: v1 :: v2 :: v3 :: v4 :: v5 :: v6 :: v7 :: v8 :: v9 :: v10 :: v11 :: some (.int x) :: t) (.int x :: st) σ μ Q) : PW X M b1 b2 pc (v0 :: v1 :: v2 :: v3 :: v4 :: v5 :: v6 :: v7 :: v8 :: v9 :: v10 :: v11 :: some (.int x) :: t) st σ μ Q := pw_iload_g d rfl k
theorem pw_iload_13 {v0 v1 v2 v3 v4 v5 v6 v7 v8 v9 v10 v11 v12 : Option Value} {t : List (Option Value)} {x : Int32} (d : decode (mB M) pc = .ok (.iload 13, 2)) (k : PW X M b1 b2 (pc + 2) (v0 :: v1 :: v2 :: v3 :: v4 :: v5 :: v6 :: v7 :: v8 :: v9 :: v10 :: v11 :: v12 :: some (.int x) :: t) (.int x :: st) σ μ Q) : PW X M b1 b2 pc (v0 :: v1 :: v2 :: v3 :: v4 :: v5 :: v6 :: v7 :: v8 :: v9 :: v10 :: v11 :: v12 :: some (.int x) :: t) st σ μ Q := pw_iload_g d rfl k
theorem pw_iload_14 {v0 v1 v2 v3 v4 v5 v6 v7 v8 v9 v10 v11 v12 v13 : Option Value} {t : List (Option Value)} {x : Int32} (d : decode (mB M) pc = .ok (.iload 14, 2)) (k : PW X M b1 b2 (pc + 2) (v0 :: v1 :: v2 :: v3 :: v4 :: v5 :: v6 :: v7 :: v8 :: v9 :: v10 :: v11 :: v12 :: v13 :: some (.int x) :: t) (.int x :: st) σ μ Q) : PW X M b1 b2 pc (v0 :: v1 :: v2 :: v3 :: v4 :: v5 :: v6 :: v7 :: v8 :: v9 :: v10 :: v11 :: v12 :: v13 :: some (.int x) :: t) st σ μ Q := pw_iload_g d rfl k
theorem pw_iload_15 {v0 v1 v2 v3 v4 v5 v6 v7 v8 v9 v10 v11 v12 v13 v14 : Option Value} {t : List (Option Value)} {x : Int32} (d : decode (mB M) pc = .ok (.iload 15, 2)) (k : PW X M b1 b2 (pc + 2) (v0 :: v1 :: v2 :: v3 :: v4 :: v5 :: v6 :: v7 :: v8 :: v9 :: v10 :: v11 :: v12 :: v13 :: v14 :: some (.int x) :: t) (.int x :: st) σ μ Q) : PW X M b1 b2 pc (v0 :: v1 :: v2 :: v3 :: v4 :: v5 :: v6 :: v7 :: v8 :: v9 :: v10 :: v11 :: v12 :: v13 :: v14 :: some (.int x) :: t) st σ μ Q := pw_iload_g d rfl k
theorem pw_iload_16 {v0 v1 v2 v3 v4 v5 v6 v7 v8 v9 v10 v11 v12 v13 v14 v15 : Option Value} {t : List (Option Value)} {x : Int32} (d : decode (mB M) pc = .ok (.iload 16, 2)) (k : PW X M b1 b2 (pc + 2) (v0 :: v1 :: v2 :: v3 :: v4 :: v5 :: v6 :: v7 :: v8 :: v9 :: v10 :: v11 :: v12 :: v13 :: v14 :: v15 :: some (.int x) :: t) (.int x :: st) σ μ Q) : PW X M b1 b2 pc (v0 :: v1 :: v2 :: v3 :: v4 :: v5 :: v6 :: v7 :: v8 :: v9 :: v10 :: v11 :: v12 :: v13 :: v14 :: v15 :: some (.int x) :: t) st σ μ Q := pw_iload_g d rfl k
theorem pw_iload_17 {v0 v1 v2 v3 v4 v5 v6 v7 v8 v9 v10 v11 v12 v13 v14 v15 v16 : Option Value} {t : List (Option Value)} {x : Int32} (d : decode (mB M) pc = .ok (.iload 17, 2)) (k : PW X M b1 b2 (pc + 2) (v0 :: v1 :: v2 :: v3 :: v4 :: v5 :: v6 :: v7 :: v8 :: v9 :: v10 :: v11 :: v12 :: v13 :: v14 :: v15 :: v16 :: some (.int x) :: t) (.int x :: st) σ μ Q) : PW X M b1 b2 pc (v0 :: v1 :: v2 :: v3 :: v4 :: v5 :: v6 :: v7 :: v8 :: v9 :: v10 :: v11 :: v12 :: v13 :: v14 :: v15 :: v16 :: some (.int x) :: t) st σ μ Q := pw_iload_g d rfl k
theorem pw_iload_18 {v0 v1 v2 v3 v4 v5 v6 v7 v8 v9 v10 v11 v12 v13 v14 v15 v16 v17 : Option Value} {t : List (Option Value)} {x : Int32} (d : decode (mB M) pc = .ok (.iload 18, 2)) (k : PW X M b1 b2 (pc + 2) (v0 :: v1 :: v2 :: v3 :: v4 :: v5 :: v6 :: v7 :: v8 :: v9 :: v10 :: v11 :: v12 :: v13 :: v14 :: v15 :: v16 :: v17 :: some (.int x) :: t) (.int x :: st) σ μ Q) : PW X M b1 b2 pc (v0 :: v1 :: v2 :: v3 :: v4 :: v5 :: v6 :: v7 :: v8 :: v9 :: v10 :: v11 :: v12 :: v13 :: v14 :: v15 :: v16 :: v17 :: some (.int x) :: t) st σ μ Q := pw_iload_g d rfl k
theorem pw_iload_19 {v0 v1 v2 v3 v4 v5 v6 v7 v8 v9 v10 v11 v12 v13 v14 v15 v16 v17 v18 : Option Value} {t : List (Option Value)} {x : Int32} (d : decode (mB M) pc = .ok (.iload 19, 2)) (k : PW X M b1 b2 (pc + 2) (v0 :: v1 :: v2 :: v3 :: v4 :: v5 :: v6 :: v7 :: v8 :: v9 :: v10 :: v11 :: v12 :: v13 :: v14 :: v15 :: v16 :: v17 :: v18 :: some (.int x) :: t) (.int x :: st) σ μ Q) : PW X M b1 b2 pc (v0 :: v1 :: v2 :: v3 :: v4 :: v5 :: v6 :: v7 :: v8 :: v9 :: v10 :: v11 :: v12 :: v13 :: v14 :: v15 :: v16 :: v17 :: v18 :: some (.int x) :: t) st σ μ Q := pw_iload_g d rfl k
theorem pw_iload_20 {v0 v1 v2 v3 v4 v5 v6 v7 v8 v9 v10 v11 v12 v13 v14 v15 v16 v17 v18 v19 : Option Value} {t : List (Option Value)} {x : Int32} (d : decode (mB M) pc = .ok (.iload 20, 2)) (k : PW X M b1 b2 (pc + 2) (v0 :: v1 :: v2 :: v3 :: v4 :: v5 :: v6 :: v7 :: v8 :: v9 :: v10 :: v11 :: v12 :: v13 :: v14 :: v15 :: v16 :: v17 :: v18 :: v19 :: some (.int x) :: t) (.int x :: st) σ μ Q) : PW X M b1 b2 pc (v0 :: v1 :: v2 :: v3 :: v4 :: v5 :: v6 :: v7 :: v8 :: v9 :: v10 :: v11 :: v12 :: v13 :: v14 :: v15 :: v16 :: v17 :: v18 :: v19 :: some (.int x) :: t) st σ μ Q := pw_iload_g d rfl k
theorem pw_iload_21 {v0 v1 v2 v3 v4 v5 v6 v7 v8 v9 v10 v11 v12 v13 v14 v15 v16 v17 v18 v19 v20 : Option Value} {t : List (Option Value)} {x : Int32} (d : decode (mB M) pc = .ok (.iload 21, 2)) (k : PW X M b1 b2 (pc + 2) (v0 :: v1 :: v2 :: v3 :: v4 :: v5 :: v6 :: v7 :: v8 :: v9 :: v10 :: v11 :: v12 :: v13 :: v14 :: v15 :: v16 :: v17 :: v18 :: v19 :: v20 :: some (.int x) :: t) (.int x :: st) σ μ Q) : PW X M b1 b2 pc (v0 :: v1 :: v2 :: v3 :: v4 :: v5 :: v6 :: v7 :: v8 :: v9 :: v10 :: v11 :: v12 :: v13 :: v14 :: v15 :: v16 :: v17 :: v18 :: v19 :: v20 :: some (.int x) :: t) st σ μ Q := pw_iload_g d rfl k
theorem pw_iload_22 {v0 v1 v2 v3 v4 v5 v6 v7 v8 v9 v10 v11 v12 v13 v14 v15 v16 v17 v18 v19 v20 v21 : Option Value} {t : List (Option Value)} {x : Int32} (d : decode (mB M) pc = .ok (.iload 22, 2)) (k : PW X M b1 b2 (pc + 2) (v0 :: v1 :: v2 :: v3 :: v4 :: v5 :: v6 :: v7 :: v8 :: v9 :: v10 :: v11 :: v12 :: v13 :: v14 :: v15 :: v16 :: v17 :: v18 :: v19 :: v20 :: v21 :: some (.int x) :: t) (.int x :: st) σ μ Q) : PW X M b1 b2 pc (v0 :: v1 :: v2 :: v3 :: v4 :: v5 :: v6 :: v7 :: v8 :: v9 :: v10 :: v11 :: v12 :: v13 :: v14 :: v15 :: v16 :: v17 :: v18 :: v19 :: v20 :: v21 :: some (.int x) :: t) st σ μ Q := pw_iload_g d rfl k
theorem pw_iload_23 {v0 v1 v2 v3 v4 v5 v6 v7 v8 v9 v10 v11 v12 v13 v14 v15 v16 v17 v18 v19 v20 v21 v22 : Option Value} {t : List (Option Value)} {x : Int32} (d : decode (mB M) pc = .ok (.iload 23, 2)) (k : PW X M b1 b2 (pc + 2) (v0 :: v1 :: v2 :: v3 :: v4 :: v5 :: v6 :: v7 :: v8 :: v9 :: v10 :: v11 :: v12 :: v13 :: v14 :: v15 :: v16 :: v17 :: v18 :: v19 :: v20 :: v21 :: v22 :: some (.int x) :: t) (.int x :: st) σ μ Q) : PW X M b1 b2 pc (v0 :: v1 :: v2 :: v3 :: v4 :: v5 :: v6 :: v7 :: v8 :: v9 :: v10 :: v11 :: v12 :: v13 :: v14 :: v15 :: v16 :: v17 :: v18 :: v19 :: v20 :: v21 :: v22 :: some (.int x) :: t) st σ μ Q := pw_iload_g d rfl k
theorem pw_iload_24 {v0 v1 v2 v3 v4 v5 v6 v7 v8 v9 v10 v11 v12 v13 v14 v15 v16 v17 v18 v19 v20 v21 v22 v23 : Option Value} {t : List (Option Value)} {x : Int32} (d : decode (mB M) pc = .ok (.iload 24, 2)) (k : PW X M b1 b2 (pc + 2) (v0 :: v1 :: v2 :: v3 :: v4 :: v5 :: v6 :: v7 :: v8 :: v9 :: v10 :: v11 :: v12 :: v13 :: v14 :: v15 :: v16 :: v17 :: v18 :: v19 :: v20 :: v21 :: v22 :: v23 :: some (.int x) :: t) (.int x :: st) σ μ Q) : PW X M b1 b2 pc (v0 :: v1 :: v2 :: v3 :: v4 :: v5 :: v6 :: v7 :: v8 :: v9 :: v10 :: v11 :: v12 :: v13 :: v14 :: v15 :: v16 :: v17 :: v18 :: v19 :: v20 :: v21 :: v22 :: v23 :: some (.int x) :: t) st σ μ Q := pw_iload_g d rfl k
theorem pw_iload_25 {v0 v1 v2 v3 v4 v5 v6 v7 v8 v9 v10 v11 v12 v13 v14 v15 v16 v17 v18 v19 v20 v21 v22 v23 v24 : Option Value} {t : List (Option Value)} {x : Int32} (d : decode (mB M) pc = .ok (.iload 25, 2)) (k : PW X M b1 b2 (pc + 2) (v0 :: v1 :: v2 :: v3 :: v4 :: v5 :: v6 :: v7 :: v8 :: v9 :: v10 :: v11 :: v12 :: v13 :: v14 :: v15 :: v16 :: v17 :: v18 :: v19 :: v20 :: v21 :: v22 :: v23 :: v24 :: some (.int x) :: t) (.int x :: st) σ μ Q) : PW X M b1 b2 pc (v0 :: v1 :: v2 :: v3 :: v4 :: v5 :: v6 :: v7 :: v8 :: v9 :: v10 :: v11 :: v12 :: v13 :: v14 :: v15 :: v16 :: v17 :: v18 :: v19 :: v20 :: v21 :: v22 :: v23 :: v24 :: some (.int x) :: t) st σ μ Q := pw_iload_g d rfl k
theorem pw_iload_26 {v0 v1 v2 v3 v4 v5 v6 v7 v8 v9 v10 v11 v12 v13 v14 v15 v16 v17 v18 v19 v20 v21 v22 v23 v24 v25 : Option Value} {t : List (Option Value)} {x : Int32} (d : decode (mB M) pc = .ok (.iload 26, 2)) (k : PW X M b1 b2 (pc + 2) (v0 :: v1 :: v2 :: v3 :: v4 :: v5 :: v6 :: v7 :: v8 :: v9 :: v10 :: v11 :: v12 :: v13 :: v14 :: v15 :: v16 :: v17 :: v18 :: v19 :: v20 :: v21 :: v22 :: v23 :: v24 :: v25 :: some (.int x) :: t) (.int x :: st) σ μ Q) : PW X M b1 b2 pc (v0 :: v1 :: v2 :: v3 :: v4 :: v5 :: v6 :: v7 :: v8 :: v9 :: v10 :: v11 :: v12 :: v13 :: v14 :: v15 :: v16 :: v17 :: v18 :: v19 :: v20 :: v21 :: v22 :: v23 :: v24 :: v25 :: some (.int x) :: t) st σ μ Q := pw_iload_g d rfl k
theorem pw_aload_gn {n : Fin 4} {x : Nat} (d : decode (mB M) pc = .ok (.aload_n n, 1)) (h : ls[(n : Nat)]? = some (some (.ref x))) (k : PW X M b1 b2 (pc + 1) ls (.ref x :: st) σ μ Q) : PW X M b1 b2 pc ls st σ μ Q :=
  fun p e R s m args below meth c H locs cells slots ar Z B S P F L c1 c2 K => lv_aload_n B.1 B.2.1 d rfl (L.2.2 _ _ h) (k p e R s m args below meth c H locs cells slots ar Z B S P F L c1 c2 K)
theorem pw_aload_g {i : Nat} {x : Nat} (d : decode (mB M) pc = .ok (.aload i, 2)) (h : ls[i]? = some (some (.ref x))) (k : PW X M b1 b2 (pc + 2) ls (.ref x :: st) σ μ Q) : PW X M b1 b2 pc ls st σ μ Q :=
  fun p e R s m args below meth c H locs cells slots ar Z B S P F L c1 c2 K => lv_aload B.1 B.2.1 d (L.2.2 _ _ h) (k p e R s m args below meth c H locs cells slots ar Z B S P F L c1 c2 K)
theorem pw_aload_0 {t : List (Option Value)} {x : Nat} (d : decode (mB M) pc = .ok (.aload_n 0, 1)) (k : PW X M b1 b2 (pc + 1) (some (.ref x) :: t) (.ref x :: st) σ μ Q) : PW X M b1 b2 pc (some (.ref x) :: t) st σ μ Q := pw_aload_gn d rfl k
theorem pw_aload_1 {v0 : Option Value} {t : List (Option Value)} {x : Nat} (d : decode (mB M) pc = .ok (.aload_n 1, 1)) (k : PW X M b1 b2 (pc + 1) (v0 :: some (.ref x) :: t) (.ref x :: st) σ μ Q) : PW X M b1 b2 pc (v0 :: some (.ref x) :: t) st σ μ Q := pw_aload_gn d rfl k
theorem pw_aload_2 {v0 v1 : Option Value} {t : List (Option Value)} {x : Nat} (d : decode (mB M) pc = .ok (.aload_n 2, 1)) (k : PW X M b1 b2 (pc + 1) (v0 :: v1 :: some (.ref x) :: t) (.ref x :: st) σ μ Q) : PW X M b1 b2 pc (v0 :: v1 :: some (.ref x) :: t) st σ μ Q := pw_aload_gn d rfl k
theorem pw_aload_3 {v0 v1 v2 : Option Value} {t : List (Option Value)} {x : Nat} (d : decode (mB M) pc = .ok (.aload_n 3, 1)) (k : PW X M b1 b2 (pc + 1) (v0 :: v1 :: v2 :: some (.ref x) :: t) (.ref x :: st) σ μ Q) : PW X M b1 b2 pc (v0 :: v1 :: v2 :: some (.ref x) :: t) st σ μ Q := pw_aload_gn d rfl k
theorem pw_aload_4 {v0 v1 v2 v3 : Option Value} {t : List (Option Value)} {x : Nat} (d : decode (mB M) pc = .ok (.aload 4, 2)) (k : PW X M b1 b2 (pc + 2) (v0 :: v1 :: v2 :: v3 :: some (.ref x) :: t) (.ref x :: st) σ μ Q) : PW X M b1 b2 pc (v0 :: v1 :: v2 :: v3 :: some (.ref x) :: t) st σ μ Q := pw_aload_g d rfl k
theorem pw_aload_5 {v0 v1 v2 v3 v4 : Option Value} {t : List (Option Value)} {x : Nat} (d : decode (mB M) pc = .ok (.aload 5, 2)) (k : PW X M b1 b2 (pc + 2) (v0 :: v1 :: v2 :: v3 :: v4 :: some (.ref x) :: t) (.ref x :: st) σ μ Q) : PW X M b1 b2 pc (v0 :: v1 :: v2 :: v3 :: v4 :: some (.ref x) :: t) st σ μ Q := pw_aload_g d rfl k
theorem pw_aload_6 {v0 v1 v2 v3 v4 v5 : Option Value} {t : List (Option Value)} {x : Nat} (d : decode (mB M) pc = .ok (.aload 6, 2)) (k : PW X M b1 b2 (pc + 2) (v0 :: v1 :: v2 :: v3 :: v4 :: v5 :: some (.ref x) :: t) (.ref x :: st) σ μ Q) : PW X M b1 b2 pc (v0 :: v1 :: v2 :: v3 :: v4 :: v5 :: some (.ref x) :: t) st σ μ Q := pw_aload_g d rfl k
theorem pw_aload_7 {v0 v1 v2 v3 v4 v5 v6 : Option Value} {t : List (Option Value)} {x : Nat} (d : decode (mB M) pc = .ok (.aload 7, 2)) (k : PW X M b1 b2 (pc + 2) (v0 :: v1 :: v2 :: v3 :: v4 :: v5 :: v6 :: some (.ref x) :: t) (.ref x :: st) σ μ Q) : PW X M b1 b2 pc (v0 :: v1 :: v2 :: v3 :: v4 :: v5 :: v6 :: some (.ref x) :: t) st σ μ Q := pw_aload_g d rfl k
theorem pw_aload_8 {v0 v1 v2 v3 v4 v5 v6 v7 : Option Value} {t : List (Option Value)} {x : Nat} (d : decode (mB M) pc = .ok (.aload 8, 2)) (k : PW X M b1 b2 (pc + 2) (v0 :: v1 :: v2 :: v3 :: v4 :: v5 :: v6 :: v7 :: some (.ref x) :: t) (.ref x :: st) σ μ Q) : PW X M b1 b2 pc (v0 :: v1 :: v2 :: v3 :: v4 :: v5 :: v6 :: v7 :: some (.ref x) :: t) st σ μ Q := pw_aload_g d rfl k
theorem pw_aload_9 {v0 v1 v2 v3 v4 v5 v6 v7 v8 : Option Value} {t : List (Option Value)} {x : Nat} (d : decode (mB M) pc = .ok (.aload 9, 2)) (k : PW X M b1 b2 (pc + 2) (v0 :: v1 :: v2 :: v3 :: v4 :: v5 :: v6 :: v7 :: v8 :: some (.ref x) :: t) (.ref x :: st) σ μ Q) : PW X M b1 b2 pc (v0 :: v1 :: v2 :: v3 :: v4 :: v5 :: v6 :: v7 :: v8 :: some (.ref x) :: t) st σ μ Q := pw_aload_g d rfl k
theorem pw_aload_10 {v0 v1 v2 v3 v4 v5 v6 v7 v8 v9 : Option Value} {t : List (Option Value)} {x : Nat} (d : decode (mB M) pc = .ok (.aload 10, 2)) (k : PW X M b1 b2 (pc + 2) (v0 :: v1 :: v2 :: v3 :: v4 :: v5 :: v6 :: v7 :: v8 :: v9 :: some (.ref x) :: t) (.ref x :: st) σ μ Q) : PW X M b1 b2 pc (v0 :: v1 :: v2 :: v3 :: v4 :: v5 :: v6 :: v7 :: v8 :: v9 :: some (.ref x) :: t) st σ μ Q := pw_aload_g d rfl k
theorem pw_aload_11 {v0 v1 v2 v3 v4 v5 v6 v7 v8 v9 v10 : Option Value} {t : List (Option Value)} {x : Nat} (d : decode (mB M) pc = .ok (.aload 11, 2)) (k : PW X M b1 b2 (pc + 2) (v0 :: v1 :: v2 :: v3 :: v4 :: v5 :: v6 :: v7 :: v8 :: v9 :: v10 :: some (.ref x) :: t) (.ref x :: st) σ μ Q) : PW X M b1 b2 pc (v0 :: v1 :: v2 :: v3 :: v4 :: v5 :: v6 :: v7 :: v8 :: v9 :: v10 :: some (.ref x) :: t) st σ μ Q := pw_aload_g d rfl k
theorem pw_aload_12 {v0 v1 v2 v3 v4 v5 v6 v7 v8 v9 v10 v11 : Option Value} {t : List (Option Value)} {x : Nat} (d : decode (mB M) pc = .ok (.aload 12, 2)) (k : PW X M b1 b2 (pc + 2) (v0 :: v1 :: v2 :: v3 :: v4 :: v5 :: v6 :: v7 :: v8 :: v9 :: v10 :: v11 :: some (.ref x) :: t) (.ref x :: st) σ μ Q) : PW X M b1 b2 pc (v0 :: v1 :: v2 :: v3 :: v4 :: v5 :: v6 :: v7 :: v8 :: v9 :: v10 :: v11 :: some (.ref x) :: t) st σ μ Q := pw_aload_g d rfl k
theorem pw_aload_13 {v0 v1 v2 v3 v4 v5 v6 v7 v8 v9 v10 v11 v12 : Option Value} {t : List (Option Value)} {x : Nat} (d : decode (mB M) pc = .ok (.aload 13, 2)) (k : PW X M b1 b2 (pc + 2) (v0 :: v1 :: v2 :: v3 :: v4 :: v5 :: v6 :: v7 :: v8 :: v9 :: v10 :: v11 :: v12 :: some (.ref x) :: t) (.ref x :: st) σ μ Q) : PW X M b1 b2 pc (v0 :: v1 :: v2 :: v3 :: v4 :: v5 :: v6 :: v7 :: v8 :: v9 :: v10 :: v11 :: v12 :: some (.ref x) :: t) st σ μ Q := pw_aload_g d rfl k
theorem pw_aload_14 {v0 v1 v2 v3 v4 v5 v6 v7 v8 v9 v10 v11 v12 v13 : Option Value} {t : List (Option Value)} {x : Nat} (d : decode (mB M) pc = .ok (.aload 14, 2)) (k : PW X M b1 b2 (pc + 2) (v0 :: v1 :: v2 :: v3 :: v4 :: v5 :: v6 :: v7 :: v8 :: v9 :: v10 :: v11 :: v12 :: v13 :: some (.ref x) :: t) (.ref x :: st) σ μ Q) : PW X M b1 b2 pc (v0 :: v1 :: v2 :: v3 :: v4 :: v5 :: v6 :: v7 :: v8 :: v9 :: v10 :: v11 :: v12 :: v13 :: some (.ref x) :: t) st σ μ Q := pw_aload_g d rfl k
theorem pw_aload_15 {v0 v1 v2 v3 v4 v5 v6 v7 v8 v9 v10 v11 v12 v13 v14 : Option Value} {t : List (Option Value)} {x : Nat} (d : decode (mB M) pc = .ok (.aload 15, 2)) (k : PW X M b1 b2 (pc + 2) (v0 :: v1 :: v2 :: v3 :: v4 :: v5 :: v6 :: v7 :: v8 :: v9 :: v10 :: v11 :: v12 :: v13 :: v14 :: some (.ref x) :: t) (.ref x :: st) σ μ Q) : PW X M b1 b2 pc (v0 :: v1 :: v2 :: v3 :: v4 :: v5 :: v6 :: v7 :: v8 :: v9 :: v10 :: v11 :: v12 :: v13 :: v14 :: some (.ref x) :: t) st σ μ Q := pw_aload_g d rfl k
theorem pw_aload_16 {v0 v1 v2 v3 v4 v5 v6 v7 v8 v9 v10 v11 v12 v13 v14 v15 : Option Value} {t : List (Option Value)} {x : Nat} (d : decode (mB M) pc = .ok (.aload 16, 2)) (k : PW X M b1 b2 (pc + 2) (v0 :: v1 :: v2 :: v3 :: v4 :: v5 :: v6 :: v7 :: v8 :: v9 :: v10 :: v11 :: v12 :: v13 :: v14 :: v15 :: some (.ref x) :: t) (.ref x :: st) σ μ Q) : PW X M b1 b2 pc (v0 :: v1 :: v2 :: v3 :: v4 :: v5 :: v6 :: v7 :: v8 :: v9 :: v10 :: v11 :: v12 :: v13 :: v14 :: v15 :: some (.ref x) :: t) st σ μ Q := pw_aload_g d rfl k
theorem pw_aload_17 {v0 v1 v2 v3 v4 v5 v6 v7 v8 v9 v10 v11 v12 v13 v14 v15 v16 : Option Value} {t : List (Option Value)} {x : Nat} (d : decode (mB M) pc = .ok (.aload 17, 2)) (k : PW X M b1 b2 (pc + 2) (v0 :: v1 :: v2 :: v3 :: v4 :: v5 :: v6 :: v7 :: v8 :: v9 :: v10 :: v11 :: v12 :: v13 :: v14 :: v15 :: v16 :: some (.ref x) :: t) (.ref x :: st) σ μ Q) : PW X M b1 b2 pc (v0 :: v1 :: v2 :: v3 :: v4 :: v5 :: v6 :: v7 :: v8 :: v9 :: v10 :: v11 :: v12 :: v13 :: v14 :: v15 :: v16 :: some (.ref x) :: t) st σ μ Q := pw_aload_g d rfl k
theorem pw_aload_18 {v0 v1 v2 v3 v4 v5 v6 v7 v8 v9 v10 v11 v12 v13 v14 v15 v16 v17 : Option Value} {t : List (Option Value)} {x : Nat} (d : decode (mB M) pc = .ok (.aload 18, 2)) (k : PW X M b1 b2 (pc + 2) (v0 :: v1 :: v2 :: v3 :: v4 :: v5 :: v6 :: v7 :: v8 :: v9 :: v10 :: v11 :: v12 :: v13 :: v14 :: v15 :: v16 :: v17 :: some (.ref x) :: t) (.ref x :: st) σ μ Q) : PW X M b1 b2 pc (v0 :: v1 :: v2 :: v3 :: v4 :: v5 :: v6 :: v7 :: v8 :: v9 :: v10 :: v11 :: v12 :: v13 :: v14 :: v15 :: v16 :: v17 :: some (.ref x) :: t) st σ μ Q := pw_aload_g d rfl k
theorem pw_aload_19 {v0 v1 v2 v3 v4 v5 v6 v7 v8 v9 v10 v11 v12 v13 v14 v15 v16 v17 v18 : Option Value} {t : List (Option Value)} {x : Nat} (d : decode (mB M) pc = .ok (.aload 19, 2)) (k : PW X M b1 b2 (pc + 2) (v0 :: v1 :: v2 :: v3 :: v4 :: v5 :: v6 :: v7 :: v8 :: v9 :: v10 :: v11 :: v12 :: v13 :: v14 :: v15 :: v16 :: v17 :: v18 :: some (.ref x) :: t) (.ref x :: st) σ μ Q) : PW X M b1 b2 pc (v0 :: v1 :: v2 :: v3 :: v4 :: v5 :: v6 :: v7 :: v8 :: v9 :: v10 :: v11 :: v12 :: v13 :: v14 :: v15 :: v16 :: v17 :: v18 :: some (.ref x) :: t) st σ μ Q := pw_aload_g d rfl k
theorem pw_aload_20 {v0 v1 v2 v3 v4 v5 v6 v7 v8 v9 v10 v11 v12 v13 v14 v15 v16 v17 v18 v19 : Option Value} {t : List (Option Value)} {x : Nat} (d : decode (mB M) pc = .ok (.aload 20, 2)) (k : PW X M b1 b2 (pc + 2) (v0 :: v1 :: v2 :: v3 :: v4 :: v5 :: v6 :: v7 :: v8 :: v9 :: v10 :: v11 :: v12 :: v13 :: v14 :: v15 :: v16 :: v17 :: v18 :: v19 :: some (.ref x) :: t) (.ref x :: st) σ μ Q) : PW X M b1 b2 pc (v0 :: v1 :: v2 :: v3 :: v4 :: v5 :: v6 :: v7 :: v8 :: v9 :: v10 :: v11 :: v12 :: v13 :: v14 :: v15 :: v16 :: v17 :: v18 :: v19 :: some (.ref x) :: t) st σ μ Q := pw_aload_g d rfl k
theorem pw_aload_21 {v0 v1 v2 v3 v4 v5 v6 v7 v8 v9 v10 v11 v12 v13 v14 v15 v16 v17 v18 v19 v20 : Option Value} {t : List (Option Value)} {x : Nat} (d : decode (mB M) pc = .ok (.aload 21, 2)) (k : PW X M b1 b2 (pc + 2) (v0 :: v1 :: v2 :: v3 :: v4 :: v5 :: v6 :: v7 :: v8 :: v9 :: v10 :: v11 :: v12 :: v13 :: v14 :: v15 :: v16 :: v17 :: v18 :: v19 :: v20 :: some (.ref x) :: t) (.ref x :: st) σ μ Q) : PW X M b1 b2 pc (v0 :: v1 :: v2 :: v3 :: v4 :: v5 :: v6 :: v7 :: v8 :: v9 :: v10 :: v11 :: v12 :: v13 :: v14 :: v15 :: v16 :: v17 :: v18 :: v19 :: v20 :: some (.ref x) :: t) st σ μ Q := pw_aload_g d rfl k
theorem pw_aload_22 {v0 v1 v2 v3 v4 v5 v6 v7 v8 v9 v10 v11 v12 v13 v14 v15 v16 v17 v18 v19 v20 v21 : Option Value} {t : List (Option Value)} {x : Nat} (d : decode (mB M) pc = .ok (.aload 22, 2)) (k : PW X M b1 b2 (pc + 2) (v0 :: v1 :: v2 :: v3 :: v4 :: v5 :: v6 :: v7 :: v8 :: v9 :: v10 :: v11 :: v12 :: v13 :: v14 :: v15 :: v16 :: v17 :: v18 :: v19 :: v20 :: v21 :: some (.ref x) :: t) (.ref x :: st) σ μ Q) : PW X M b1 b2 pc (v0 :: v1 :: v2 :: v3 :: v4 :: v5 :: v6 :: v7 :: v8 :: v9 :: v10 :: v11 :: v12 :: v13 :: v14 :: v15 :: v16 :: v17 :: v18 :: v19 :: v20 :: v21 :: some (.ref x) :: t) st σ μ Q := pw_aload_g d rfl k
theorem pw_aload_23 {v0 v1 v2 v3 v4 v5 v6 v7 v8 v9 v10 v11 v12 v13 v14 v15 v16 v17 v18 v19 v20 v21 v22 : Option Value} {t : List (Option Value)} {x : Nat} (d : decode (mB M) pc = .ok (.aload 23, 2)) (k : PW X M b1 b2 (pc + 2) (v0 :: v1 :: v2 :: v3 :: v4 :: v5 :: v6 :: v7 :: v8 :: v9 :: v10 :: v11 :: v12 :: v13 :: v14 :: v15 :: v16 :: v17 :: v18 :: v19 :: v20 :: v21 :: v22 :: some (.ref x) :: t) (.ref x :: st) σ μ Q) : PW X M b1 b2 pc (v0 :: v1 :: v2 :: v3 :: v4 :: v5 :: v6 :: v7 :: v8 :: v9 :: v10 :: v11 :: v12 :: v13 :: v14 :: v15 :: v16 :: v17 :: v18 :: v19 :: v20 :: v21 :: v22 :: some (.ref x) :: t) st σ μ Q := pw_aload_g d rfl k
theorem pw_aload_24 {v0 v1 v2 v3 v4 v5 v6 v7 v8 v9 v10 v11 v12 v13 v14 v15 v16 v17 v18 v19 v20 v21 v22 v23 : Option Value} {t : List (Option Value)} {x : Nat} (d : decode (mB M) pc = .ok (.aload 24, 2)) (k : PW X M b1 b2 (pc + 2) (v0 :: v1 :: v2 :: v3 :: v4 :: v5 :: v6 :: v7 :: v8 :: v9 :: v10 :: v11 :: v12 :: v13 :: v14 :: v15 :: v16 :: v17 :: v18 :: v19 :: v20 :: v21 :: v22 :: v23 :: some (.ref x) :: t) (.ref x :: st) σ μ Q) : PW X M b1 b2 pc (v0 :: v1 :: v2 :: v3 :: v4 :: v5 :: v6 :: v7 :: v8 :: v9 :: v10 :: v11 :: v12 :: v13 :: v14 :: v15 :: v16 :: v17 :: v18 :: v19 :: v20 :: v21 :: v22 :: v23 :: some (.ref x) :: t) st σ μ Q := pw_aload_g d rfl k
theorem pw_aload_25 {v0 v1 v2 v3 v4 v5 v6 v7 v8 v9 v10 v11 v12 v13 v14 v15 v16 v17 v18 v19 v20 v21 v22 v23 v24 : Option Value} {t : List (Option Value)} {x : Nat} (d : decode (mB M) pc = .ok (.aload 25, 2)) (k : PW X M b1 b2 (pc + 2) (v0 :: v1 :: v2 :: v3 :: v4 :: v5 :: v6 :: v7 :: v8 :: v9 :: v10 :: v11 :: v12 :: v13 :: v14 :: v15 :: v16 :: v17 :: v18 :: v19 :: v20 :: v21 :: v22 :: v23 :: v24 :: some (.ref x) :: t) (.ref x :: st) σ μ Q) : PW X M b1 b2 pc (v0 :: v1 :: v2 :: v3 :: v4 :: v5 :: v6 :: v7 :: v8 :: v9 :: v10 :: v11 :: v12 :: v13 :: v14 :: v15 :: v16 :: v17 :: v18 :: v19 :: v20 :: v21 :: v22 :: v23 :: v24 :: some (.ref x) :: t) st σ μ Q := pw_aload_g d rfl k
theorem pw_aload_26 {v0 v1 v2 v3 v4 v5 v6 v7 v8 v9 v10 v11 v12 v13 v14 v15 v16 v17 v18 v19 v20 v21 v22 v23 v24 v25 : Option Value} {t : List (Option Value)} {x : Nat} (d : decode (mB M) pc = .ok (.aload 26, 2)) (k : PW X M b1 b2 (pc + 2) (v0 :: v1 :: v2 :: v3 :: v4 :: v5 :: v6 :: v7 :: v8 :: v9 :: v10 :: v11 :: v12 :: v13 :: v14 :: v15 :: v16 :: v17 :: v18 :: v19 :: v20 :: v21 :: v22 :: v23 :: v24 :: v25 :: some (.ref x) :: t) (.ref x :: st) σ μ Q) : PW X M b1 b2 pc (v0 :: v1 :: v2 :: v3 :: v4 :: v5 :: v6 :: v7 :: v8 :: v9 :: v10 :: v11 :: v12 :: v13 :: v14 :: v15 :: v16 :: v17 :: v18 :: v19 :: v20 :: v21 :: v22 :: v23 :: v24 :: v25 :: some (.ref x) :: t) st σ μ Q := pw_aload_g d rfl k
def pw_c1 (o : Option Value) : Option Value := match o with
  | some w => if w.category = 2 then none else some w
  | none => none
def pw_al (ls : List (Option Value)) : List (Nat × Value) := ls.zipIdx.filterMap (fun q => q.1.map (fun v => (q.2, v)))
theorem pw_al_mem {ls : List (Option Value)} {i : Nat} {v : Value} : (i, v) ∈ pw_al ls ↔ ls[i]? = some (some v) := by
  unfold pw_al
  rw [List.mem_filterMap]
  constructor
  · rintro ⟨⟨o, j⟩, h1, h2⟩
    have h3 := List.mem_zipIdx_iff_getElem?.mp h1
    cases o with
    | none => cases h2
    | some w =>
      simp only [Option.map_some, Option.some.injEq, Prod.mk.injEq] at h2
      obtain ⟨rfl, rfl⟩ := h2
      exact h3
  · intro h
    exact ⟨(some v, i), List.mem_zipIdx_iff_getElem?.mpr h, rfl⟩
theorem pw_Lal {ar : Array Slot} {n : Nat} (h : pw_L ar n ls) : lv_has ar n (pw_al ls) := ⟨h.1, h.2.1, fun q hq => h.2.2 q.1 q.2 (pw_al_mem.mp hq)⟩
theorem pw_Lset1 {ar : Array Slot} {n i : Nat} {v : Value} {ls' : List (Option Value)} (h : lv_has ar n ((i, v) :: (pw_al ls).filter (fun q => !(q.1 == i) && !(q.1 + 1 == i && q.2.category == 2))))
    (hl : ∀ (j : Nat) (w : Value), ls'[j]? = some (some w) → (j = i ∧ w = v) ∨ (j ≠ i ∧ ls[j]? = some (some w) ∧ (j + 1 = i → w.category ≠ 2))) : pw_L ar n ls' := by
  refine ⟨h.1, h.2.1, fun j w hj => ?_⟩
  rcases hl j w hj with ⟨rfl, rfl⟩ | ⟨h1, h2, h3⟩
  · exact h.2.2 (j, w) List.mem_cons_self
  · refine h.2.2 (j, w) (List.mem_cons_of_mem _ (List.mem_filter.mpr ⟨pw_al_mem.mpr h2, ?_⟩))
    by_cases h4 : j + 1 = i
    · have := h3 h4
      simp [h1, this]
    · simp [h1, h4]
theorem pw_Lset2 {ar : Array Slot} {n i : Nat} {v : Value} {ls' : List (Option Value)} (h : lv_has ar n ((i, v) :: (pw_al ls).filter (fun q => !(q.1 == i) && (!(q.1 == i + 1) && !(q.1 + 1 == i && q.2.category == 2)))))
    (hl : ∀ (j : Nat) (w : Value), ls'[j]? = some (some w) → (j = i ∧ w = v) ∨ (j ≠ i ∧ j ≠ i + 1 ∧ ls[j]? = some (some w) ∧ (j + 1 = i → w.category ≠ 2))) : pw_L ar n ls' := by
  refine ⟨h.1, h.2.1, fun j w hj => ?_⟩
  rcases hl j w hj with ⟨rfl, rfl⟩ | ⟨h1, h1', h2, h3⟩
  · exact h.2.2 (j, w) List.mem_cons_self
  · refine h.2.2 (j, w) (List.mem_cons_of_mem _ (List.mem_filter.mpr ⟨pw_al_mem.mpr h2, ?_⟩))
    by_cases h4 : j + 1 = i
    · have := h3 h4
      simp [h1, h1', this]
    · simp [h1, h1', h4]
theorem pw_c1_2 {o : Option Value} {w : Value} (h : pw_c1 o = o) (hw : o = some w) : w.category ≠ 2 := by
  subst hw
  intro h2
  simp [pw_c1, h2] at h
theorem pw_istore_gn {n : Fin 4} {x : Int32} {ls' : List (Option Value)} (d : decode (mB M) pc = .ok (.istore_n n, 1)) (hn : (n : Nat) < mL M) (hl : ∀ (j : Nat) (w : Value), ls'[j]? = some (some w) → (j = (n : Nat) ∧ w = .int x) ∨ (j ≠ (n : Nat) ∧ ls[j]? = some (some w) ∧ (j + 1 = (n : Nat) → w.category ≠ 2))) (k : PW X M b1 b2 (pc + 1) ls' st σ μ Q) : PW X M b1 b2 pc ls (.int x :: st) σ μ Q :=
  fun p e R s m args below meth c H locs cells slots ar Z B S P F L c1 c2 K => lv_istore_n B.1 B.2.1 d rfl (pw_Lal L) hn rfl (fun ar' h => k p e R s m args below meth c H locs cells slots ar' Z B S P F (pw_Lset1 h hl) c1 c2 K)
theorem pw_istore_g {n : Nat} {x : Int32} {ls' : List (Option Value)} (d : decode (mB M) pc = .ok (.istore n, 2)) (hn : n < mL M) (hl : ∀ (j : Nat) (w : Value), ls'[j]? = some (some w) → (j = n ∧ w = .int x) ∨ (j ≠ n ∧ ls[j]? = some (some w) ∧ (j + 1 = n → w.category ≠ 2))) (k : PW X M b1 b2 (pc + 2) ls' st σ μ Q) : PW X M b1 b2 pc ls (.int x :: st) σ μ Q :=
  fun p e R s m args below meth c H locs cells slots ar Z B S P F L c1 c2 K => lv_istore B.1 B.2.1 d (pw_Lal L) hn rfl (fun ar' h => k p e R s m args below meth c H locs cells slots ar' Z B S P F (pw_Lset1 h hl) c1 c2 K)
theorem pw_istore_0 {o : Option Value} {t : List (Option Value)} {x : Int32} (d : decode (mB M) pc = .ok (.istore_n 0, 1)) (hn : 0 < mL M) (k : PW X M b1 b2 (pc + 1) (some (.int x) :: t) st σ μ Q) : PW X M b1 b2 pc (o :: t) (.int x :: st) σ μ Q := by
  refine pw_istore_gn (ls' := some (.int x) :: t) d hn ?_ k
  intro j w hj
  match j, hj with
  | 0, hj => exact Or.inl ⟨rfl, (Option.some.inj (Option.some.inj hj)).symm⟩
  | j + 1, hj => exact Or.inr ⟨by omega, hj, by omega⟩
theorem pw_istore_1 {v0 : Option Value} {o : Option Value} {t : List (Option Value)} {x : Int32} (d : decode (mB M) pc = .ok (.istore_n 1, 1)) (hn : 1 < mL M) (k : PW X M b1 b2 (pc + 1) (v0 :: some (.int x) :: t) st σ μ Q) (h1 : pw_c1 v0 = v0 := by rfl) : PW X M b1 b2 pc (v0 :: o :: t) (.int x :: st) σ μ Q := by
  refine pw_istore_gn (ls' := v0 :: some (.int x) :: t) d hn ?_ k
  intro j w hj
  match j, hj with
  | 0, hj => exact Or.inr ⟨by omega, hj, fun _ => pw_c1_2 h1 (Option.some.inj hj)⟩
  | 1, hj => exact Or.inl ⟨rfl, (Option.some.inj (Option.some.inj hj)).symm⟩
  | j + 2, hj => exact Or.inr ⟨by omega, hj, by omega⟩
theorem pw_istore_2 {v0 v1 : Option Value} {o : Option Value} {t : List (Option Value)} {x : Int32} (d : decode (mB M) pc = .ok (.istore_n 2, 1)) (hn : 2 < mL M) (k : PW X M b1 b2 (pc + 1) (v0 :: v1 :: some (.int x) :: t) st σ μ Q) (h1 : pw_c1 v1 = v1 := by rfl) : PW X M b1 b2 pc (v0 :: v1 :: o :: t) (.int x :: st) σ μ Q := by
  refine pw_istore_gn (ls' := v0 :: v1 :: some (.int x) :: t) d hn ?_ k
  intro j w hj
  match j, hj with
  | 0, hj => exact Or.inr ⟨by omega, hj, by omega⟩
  | 1, hj => exact Or.inr ⟨by omega, hj, fun _ => pw_c1_2 h1 (Option.some.inj hj)⟩
  | 2, hj => exact Or.inl ⟨rfl, (Option.some.inj (Option.some.inj hj)).symm⟩
  | j + 3, hj => exact Or.inr ⟨by omega, hj, by omega⟩
theorem pw_istore_3 {v0 v1 v2 : Option Value} {o : Option Value} {t : List (Option Value)} {x : Int32} (d : decode (mB M) pc = .ok (.istore_n 3, 1)) (hn : 3 < mL M) (k : PW X M b1 b2 (pc + 1) (v0 :: v1 :: v2 :: some (.int x) :: t) st σ μ Q) (h1 : pw_c1 v2 = v2 := by rfl) : PW X M b1 b2 pc (v0 :: v1 :: v2 :: o :: t) (.int x :: st) σ μ Q := by
  refine pw_istore_gn (ls' := v0 :: v1 :: v2 :: some (.int x) :: t) d hn ?_ k
  intro j w hj
  match j, hj with
  | 0, hj => exact Or.inr ⟨by omega, hj, by omega⟩
  | 1, hj => exact Or.inr ⟨by omega, hj, by omega⟩
  | 2, hj => exact Or.inr ⟨by omega, hj, fun _ => pw_c1_2 h1 (Option.some.inj hj)⟩
  | 3, hj => exact Or.inl ⟨rfl, (Option.some.inj (Option.some.inj hj)).symm⟩
  | j + 4, hj => exact Or.inr ⟨by omega, hj, by omega⟩
theorem pw_istore_4 {v0 v1 v2 v3 : Option Value} {o : Option Value} {t : List (Option Value)} {x : Int32} (d : decode (mB M) pc = .ok (.istore 4, 2)) (hn : 4 < mL M) (k : PW X M b1 b2 (pc + 2) (v0 :: v1 :: v2 :: v3 :: some (.int x) :: t) st σ μ Q) (h1 : pw_c1 v3 = v3 := by rfl) : PW X M b1 b2 pc (v0 :: v1 :: v2 :: v3 :: o :: t) (.int x :: st) σ μ Q := by
  refine pw_istore_g (ls' := v0 :: v1 :: v2 :: v3 :: some (.int x) :: t) d hn ?_ k
  intro j w hj
  match j, hj with
  | 0, hj => exact Or.inr ⟨by omega, hj, by omega⟩
  | 1, hj => exact Or.inr ⟨by omega, hj, by omega⟩
  | 2, hj => exact Or.inr ⟨by omega, hj, by omega⟩
  | 3, hj => exact Or.inr ⟨by omega, hj, fun _ => pw_c1_2 h1 (Option.some.inj hj)⟩
  | 4, hj => exact Or.inl ⟨rfl, (Option.some.inj (Option.some.inj hj)).symm⟩
  | j + 5, hj => exact Or.inr ⟨by omega, hj, by omega⟩
theorem pw_istore_5 {v0 v1 v2 v3 v4 : Option Value} {o : Option Value} {t : List (Option Value)} {x : Int32} (d : decode (mB M) pc = .ok (.istore 5, 2)) (hn : 5 < mL M) (k : PW X M b1 b2 (pc + 2) (v0 :: v1 :: v2 :: v3 :: v4 :: some (.int x) :: t) st σ μ Q) (h1 : pw_c1 v4 = v4 := by rfl) : PW X M b1 b2 pc (v0 :: v1 :: v2 :: v3 :: v4 :: o :: t) (.int x :: st) σ μ Q := by
  refine pw_istore_g (ls' := v0 :: v1 :: v2 :: v3 :: v4 :: some (.int x) :: t) d hn ?_ k
  intro j w hj
  match j, hj with
  | 0, hj => exact Or.inr ⟨by omega, hj, by omega⟩
  | 1, hj => exact Or.inr ⟨by omega, hj, by omega⟩
  | 2, hj => exact Or.inr ⟨by omega, hj, by omega⟩
  | 3, hj => exact Or.inr ⟨by omega, hj, by omega⟩
  | 4, hj => exact Or.inr ⟨by omega, hj, fun _ => pw_c1_2 h1 (Option.some.inj hj)⟩
  | 5, hj => exact Or.inl ⟨rfl, (Option.some.inj (Option.some.inj hj)).symm⟩
  | j + 6, hj => exact Or.inr ⟨by omega, hj, by omega⟩
theorem pw_istore_6 {v0 v1 v2 v3 v4 v5 : Option Value} {o : Option Value} {t : List (Option Value)} {x : Int32} (d : decode (mB M) pc = .ok (.istore 6, 2)) (hn : 6 < mL M) (k : PW X M b1 b2 (pc + 2) (v0 :: v1 :: v2 :: v3 :: v4 :: v5 :: some (.int x) :: t) st σ μ Q) (h1 : pw_c1 v5 = v5 := by rfl) : PW X M b1 b2 pc (v0 :: v1 :: v2 :: v3 :: v4 :: v5 :: o :: t) (.int x :: st) σ μ Q := by
  refine pw_istore_g (ls' := v0 :: v1 :: v2 :: v3 :: v4 :: v5 :: some (.int x) :: t) d hn ?_ k
  intro j w hj
  match j, hj with
  | 0, hj => exact Or.inr ⟨by omega, hj, by omega⟩
  | 1, hj => exact Or.inr ⟨by omega, hj, by omega⟩
  | 2, hj => exact Or.inr ⟨by omega, hj, by omega⟩
  | 3, hj => exact Or.inr ⟨by omega, hj, by omega⟩
  | 4, hj => exact Or.inr ⟨by omega, hj, by omega⟩
  | 5, hj => exact Or.inr ⟨by omega, hj, fun _ => pw_c1_2 h1 (Option.some.inj hj)⟩
  | 6, hj => exact Or.inl ⟨rfl, (Option.some.inj (Option.some.inj hj)).symm⟩
  | j + 7, hj => exact Or.inr ⟨by omega, hj, by omega⟩
theorem pw_istore_7 {v0 v1 v2 v3 v4 v5 v6 : Option Value} {o : Option Value} {t : List (Option Value)} {x : Int32} (d : decode (mB M) pc = .ok (.istore 7, 2)) (hn : 7 < mL M) (k : PW X M b1 b2 (pc + 2) (v0 :: v1 :: v2 :: v3 :: v4 :: v5 :: v6 :: some (.int x) :: t) st σ μ Q) (h1 : pw_c1 v6 = v6 := by rfl) : PW X M b1 b2 pc (v0 :: v1 :: v2 :: v3 :: v4 :: v5 :: v6 :: o :: t) (.int x :: st) σ μ Q := by
  refine pw_istore_g (ls' := v0 :: v1 :: v2 :: v3 :: v4 :: v5 :: v6 :: some (.int x) :: t) d hn ?_ k
  intro j w hj
  match j, hj with
  | 0, hj => exact Or.inr ⟨by omega, hj, by omega⟩
  | 1, hj => exact Or.inr ⟨by omega, hj, by omega⟩
  | 2, hj => exact Or.inr ⟨by omega, hj, by omega⟩
  | 3, hj => exact Or.inr ⟨by omega, hj, by omega⟩
  | 4, hj => exact Or.inr ⟨by omega, hj, by omega⟩
  | 5, hj => exact Or.inr ⟨by omega, hj, by omega⟩
  | 6, hj => exact Or.inr ⟨by omega, hj, fun _ => pw_c1_2 h1 (Option.some.inj hj)⟩
  | 7, hj => exact Or.inl ⟨rfl, (Option.some.inj (Option.some.inj hj)).symm⟩
  | j + 8, hj => exact Or.inr ⟨by omega, hj, by omega⟩
theorem pw_istore_8 {v0 v1 v2 v3 v4 v5 v6 v7 : Option Value} {o : Option Value} {t : List (Option Value)} {x : Int32} (d : decode (mB M) pc = .ok (.istore 8, 2)) (hn : 8 < mL M) (k : PW X M b1 b2 (pc + 2) (v0 :: v1 :: v2 :: v3 :: v4 :: v5 :: v6 :: v7 :: some (.int x) :: t) st σ μ Q) (h1 : pw_c1 v7 = v7 := by rfl) : PW X M b1 b2 pc (v0 :: v1 :: v2 :: v3 :: v4 :: v5 :: v6 :: v7 :: o :: t) (.int x :: st) σ μ Q := by
  refine pw_istore_g (ls' := v0 :: v1 :: v2 :: v3 :: v4 :: v5 :: v6 :: v7 :: some (.int x) :: t) d hn ?_ k
  intro j w hj
  match j, hj with
  | 0, hj => exact Or.inr ⟨by omega, hj, by omega⟩
  | 1, hj => exact Or.inr ⟨by omega, hj, by omega⟩
  | 2, hj => exact Or.inr ⟨by omega, hj, by omega⟩
  | 3, hj => exact Or.inr ⟨by omega, hj, by omega⟩
  | 4, hj => exact Or.inr ⟨by omega, hj, by omega⟩
  | 5, hj => exact Or.inr ⟨by omega, hj, by omega⟩
  | 6, hj => exact Or.inr ⟨by omega, hj, by omega⟩
  | 7, hj => exact Or.inr ⟨by omega, hj, fun _ => pw_c1_2 h1 (Option.some.inj hj)⟩
  | 8, hj => exact Or.inl ⟨rfl, (Option.some.inj (Option.some.inj hj)).symm⟩
  | j + 9, hj => exact Or.inr ⟨by omega, hj, by omega⟩
theorem pw_istore_9 {v0 v1 v2 v3 v4 v5 v6 v7 v8 : Option Value} {o : Option Value} {t : List (Option Value)} {x : Int32} (d : decode (mB M) pc = .ok (.istore 9, 2)) (hn : 9 < mL M) (k : PW X M b1 b2 (pc + 2) (v0 :: v1 :: v2 :: v3 :: v4 :: v5 :: v6 :: v7 :: v8 :: some (.int x) :: t) st σ μ Q) (h1 : pw_c1 v8 = v8 := by rfl) : PW X M b1 b2 pc (v0 :: v1 :: v2 :: v3 :: v4 :: v5 :: v6 :: v7 :: v8 :: o :: t) (.int x :: st) σ μ Q := by
  refine pw_istore_g (ls' := v0 :: v1 :: v2 :: v3 :: v4 :: v5 :: v6 :: v7 :: v8 :: some (.int x) :: t) d hn ?_ k
  intro j w hj
  match j, hj with
  | 0, hj => exact Or.inr ⟨by omega, hj, by omega⟩
  | 1, hj => exact Or.inr ⟨by omega, hj, by omega⟩
  | 2, hj => exact Or.inr ⟨by omega, hj, by omega⟩
  | 3, hj => exact Or.inr ⟨by omega, hj, by omega⟩
  | 4, hj => exact Or.inr ⟨by omega, hj, by omega⟩
  | 5, hj => exact Or.inr ⟨by omega, hj, by omega⟩
  | 6, hj => exact Or.inr ⟨by omega, hj, by omega⟩
  | 7, hj => exact Or.inr ⟨by omega, hj, by omega⟩
  | 8, hj => exact Or.inr ⟨by omega, hj, fun _ => pw_c1_2 h1 (Option.some.inj hj)⟩
  | 9, hj => exact Or.inl ⟨rfl, (Option.some.inj (Option.some.inj hj)).symm⟩
  | j + 10, hj => exact Or.inr ⟨by omega, hj, by omega⟩
theorem pw_istore_10 {v0 v1 v2 v3 v4 v5 v6 v7 v8 v9 : Option Value} {o : Option Value} {t : List (Option Value)} {x : Int32} (d : decode (mB M) pc = .ok (.istore 10, 2)) (hn : 10 < mL M) (k : PW X M b1 b2 (pc + 2) (v0 :: v1 :: v2 :: v3 :: v4 :: v5 :: v6 :: v7 :: v8 :: v9 :: some (.int x) :: t) st σ μ Q) (h1 : pw_c1 v9 = v9 := by rfl) : PW X M b1 b2 pc (v0 :: v1 :: v2 :: v3 :: v4 :: v5 :: v6 :: v7 :: v8 :: v9 :: o :: t) (.int x :: st) σ μ Q := by
  refine pw_istore_g (ls' := v0 :: v1 :: v2 :: v3 :: v4 :: v5 :: v6 :: v7 :: v8 :: v9 :: some (.int x) :: t) d hn ?_ k
  intro j w hj
  match j, hj with
  | 0, hj => exact Or.inr ⟨by omega, hj, by omega⟩
  | 1, hj => exact Or.inr ⟨by omega, hj, by omega⟩
  | 2, hj => exact Or.inr ⟨by omega, hj, by omega⟩
  | 3, hj => exact Or.inr ⟨by omega, hj, by omega⟩
  | 4, hj => exact Or.inr ⟨by omega, hj, by omega⟩
  | 5, hj => exact Or.inr ⟨by omega, hj, by omega⟩
  | 6, hj => exact Or.inr ⟨by omega, hj, by omega⟩
  | 7, hj => exact Or.inr ⟨by omega, hj, by omega⟩
  | 8, hj => exact Or.inr ⟨by omega, hj, by omega⟩
  | 9, hj => exact Or.inr ⟨by omega, hj, fun _ => pw_c1_2 h1 (Option.some.inj hj)⟩
  | 10, hj => exact Or.inl ⟨rfl, (Option.some.inj (Option.some.inj hj)).symm⟩
  | j + 11, hj => exact Or.inr ⟨by omega, hj, by omega⟩
theorem pw_istore_11 {v0 v1 v2 v3 v4 v5 v6 v7 v8 v9 v10 : Option Value} {o : Option Value} {t : List (Option Value)} {x : Int32} (d : decode (mB M) pc = .ok (.istore 11, 2)) (hn : 11 < mL M) (k : PW X M b1 b2 (pc + 2) (v0 :: v1 :: v2 :: v3 :: v4 :: v5 :: v6 :: v7 :: v8 :: v9 :: v10 :: some (.int x) :: t) st σ μ Q) (h1 : pw_c1 v10 = v10 := by rfl) : PW X M b1 b2 pc (v0 :: v1 :: v2 :: v3 :: v4 :: v5 :: v6 :: v7 :: v8 :: v9 :: v10 :: o :: t) (.int x :: st) σ μ Q := by
  refine pw_istore_g (ls' := v0 :: v1 :: v2 :: v3 :: v4 :: v5 :: v6 :: v7 :: v8 :: v9 :: v10 :: some (.int x) :: t) d hn ?_ k
  intro j w hj
  match j, hj with
  | 0, hj => exact Or.inr ⟨by omega, hj, by omega⟩
  | 1, hj => exact Or.inr ⟨by omega, hj, by omega⟩
  | 2, hj => exact Or.inr ⟨by omega, hj, by omega⟩
  | 3, hj => exact Or.inr ⟨by omega, hj, by omega⟩
  | 4, hj => exact Or.inr ⟨by omega, hj, by omega⟩
  | 5, hj => exact Or.inr ⟨by omega, hj, by omega⟩
  | 6, hj => exact Or.inr ⟨by omega, hj, by omega⟩
  | 7, hj => exact Or.inr ⟨by omega, hj, by omega⟩
  | 8, hj => exact Or.inr ⟨by omega, hj, by omega⟩
  | 9, hj => exact Or.inr ⟨by omega, hj, by omega⟩
  | 10, hj => exact Or.inr ⟨by omega, hj, fun _ => pw_c1_2 h1 (Option.some.inj hj)⟩
  | 11, hj => exact Or.inl ⟨rfl, (Option.some.inj (Option.some.inj hj)).symm⟩
  | j + 12, hj => exact Or.inr ⟨by omega, hj, by omega⟩
theorem pw_istore_12 {v0 v1 v2 v3 v4 v5 v6 v7 v8 v9 v10 v11 : Option Value} {o : Option Value} {t : List (Option Value)} {x : Int32} (d : decode (mB M) pc = .ok (.istore 12, 2)) (hn : 12 < mL M) (k : PW X M b1 b2 (pc + 2) (v0 :: v1 :: v2 :: v3 :: v4 :: v5 :: v6 :: v7 :: v8 :: v9 :: v10 :: v11 :: some (.int x) :: t) st σ μ Q) (h1 : pw_c1 v11 = v11 := by rfl) : PW X M b1 b2 pc (v0 :: v1 :: v2 :: v3 :: v4 :: v5 :: v6 :: v7 :: v8 :: v9 :: v10 :: v11 :: o :: t) (.int x :: st) σ μ Q := by
  refine pw_istore_g (ls' := v0 :: v1 :: v2 :: v3 :: v4 :: v5 :: v6 :: v7 :: v8 :: v9 :: v10 :: v11 :: some (.int x) :: t) d hn ?_ k
  intro j w hj
  match j, hj with
  | 0, hj => exact Or.inr ⟨by omega, hj, by omega⟩
  | 1, hj => exact Or.inr ⟨by omega, hj, by omega⟩
  | 2, hj => exact Or.inr ⟨by omega, hj, by omega⟩
  | 3, hj => exact Or.inr ⟨by omega, hj, by omega⟩
  | 4, hj => exact Or.inr ⟨by omega, hj, by omega⟩
  | 5, hj => exact Or.inr ⟨by omega, hj, by omega⟩
  | 6, hj => exact Or.inr ⟨by omega, hj, by omega⟩
  | 7, hj => exact Or.inr ⟨by omega, hj, by omega⟩
  | 8, hj => exact Or.inr ⟨by omega, hj, by omega⟩
  | 9, hj => exact Or.inr ⟨by omega, hj, by omega⟩
  | 10, hj => exact Or.inr ⟨by omega, hj, by omega⟩
  | 11, hj => exact Or.inr ⟨by omega, hj, fun _ => pw_c1_2 h1 (Option.some.inj hj)⟩
  | 12, hj => exact Or.inl ⟨rfl, (Option.some.inj (Option.some.inj hj)).symm⟩
  | j + 13, hj => exact Or.inr ⟨by omega, hj, by omega⟩
theorem pw_istore_13 {v0 v1 v2 v3 v4 v5 v6 v7 v8 v9 v10 v11 v12 : Option Value} {o : Option Value} {t : List (Option Value)} {x : Int32} (d : decode (mB M) pc = .ok (.istore 13, 2)) (hn : 13 < mL M) (k : PW X M b1 b2 (pc + 2) (v0 :: v1 :: v2 :: v3 :: v4 :: v5 :: v6 :: v7 :: v8 :: v9 :: v10 :: v11 :: v12 :: some (.int x) :: t) st σ μ Q) (h1 : pw_c1 v12 = v12 := by rfl) : PW X M b1 b2 pc (v0 :: v1 :: v2 :: v3 :: v4 :: v5 :: v6 :: v7 :: v8 :: v9 :: v10 :: v11 :: v12 :: o :: t) (.int x :: st) σ μ Q := by
  refine pw_istore_g (ls' := v0 :: v1 :: v2 :: v3 :: v4 :: v5 :: v6 :: v7 :: v8 :: v9 :: v10 :: v11 :: v12 :: some (.int x) :: t) d hn ?_ k
  intro j w hj
  match j, hj with
  | 0, hj => exact Or.inr ⟨by omega, hj, by omega⟩
  | 1, hj => exact Or.inr ⟨by omega, hj, by omega⟩
  | 2, hj => exact Or.inr ⟨by omega, hj, by omega⟩
  | 3, hj => exact Or.inr ⟨by omega, hj, by omega⟩
  | 4, hj => exact Or.inr ⟨by omega, hj, by omega⟩
  | 5, hj => exact Or.inr ⟨by omega, hj, by omega⟩
  | 6, hj => exact Or.inr ⟨by omega, hj, by omega⟩
  | 7, hj => exact Or.inr ⟨by omega, hj, by omega⟩
  | 8, hj => exact Or.inr ⟨by omega, hj, by omega⟩
  | 9, hj => exact Or.inr ⟨by omega, hj, by omega⟩
  | 10, hj => exact Or.inr ⟨by omega, hj, by omega⟩
  | 11, hj => exact Or.inr ⟨by omega, hj, by omega⟩
  | 12, hj => exact Or.inr ⟨by omega, hj, fun _ => pw_c1_2 h1 (Option.some.inj hj)⟩
  | 13, hj => exact Or.inl ⟨rfl, (Option.some.inj (Option.some.inj hj)).symm⟩
  | j + 14, hj => exact Or.inr ⟨by omega, hj, by omega⟩
theorem pw_istore_14 {v0 v1 v2 v3 v4 v5 v6 v7 v8 v9 v10 v11 v12 v13 : Option Value} {o : Option Value} {t : List (Option Value)} {x : Int32} (d : decode (mB M) pc = .ok (.istore 14, 2)) (hn : 14 < mL M) (k : PW X M b1 b2 (pc + 2) (v0 :: v1 :: v2 :: v3 :: v4 :: v5 :: v6 :: v7 :: v8 :: v9 :: v10 :: v11 :: v12 :: v13 :: some (.int x) :: t) st σ μ Q) (h1 : pw_c1 v13 = v13 := by rfl) : PW X M b1 b2 pc (v0 :: v1 :: v2 :: v3 :: v4 :: v5 :: v6 :: v7 :: v8 :: v9 :: v10 :: v11 :: v12 :: v13 :: o :: t) (.int x :: st) σ μ Q := by
  refine pw_istore_g (ls' := v0 :: v1 :: v2 :: v3 :: v4 :: v5 :: v6 :: v7 :: v8 :: v9 :: v10 :: v11 :: v12 :: v13 :: some (.int x) :: t) d hn ?_ k
  intro j w hj
  match j, hj with
  | 0, hj => exact Or.inr ⟨by omega, hj, by omega⟩
  | 1, hj => exact Or.inr ⟨by omega, hj, by omega⟩
  | 2, hj => exact Or.inr ⟨by omega, hj, by omega⟩
  | 3, hj => exact Or.inr ⟨by omega, hj, by omega⟩
  | 4, hj => exact Or.inr ⟨by omega, hj, by omega⟩
  | 5, hj => exact Or.inr ⟨by omega, hj, by omega⟩
  | 6, hj => exact Or.inr ⟨by omega, hj, by omega⟩
  | 7, hj => exact Or.inr ⟨by omega, hj, by omega⟩
  | 8, hj => exact Or.inr ⟨by omega, hj, by omega⟩
  | 9, hj => exact Or.inr ⟨by omega, hj, by omega⟩
  | 10, hj => exact Or.inr ⟨by omega, hj, by omega⟩
  | 11, hj => exact Or.inr ⟨by omega, hj, by omega⟩
  | 12, hj => exact Or.inr ⟨by omega, hj, by omega⟩
  | 13, hj => exact Or.inr ⟨by omega, hj, fun _ => pw_c1_2 h1 (Option.some.inj hj)⟩
  | 14, hj => exact Or.inl ⟨rfl, (Option.some.inj (Option.some.inj hj)).symm⟩
  | j + 15, hj => exact Or.inr ⟨by omega, hj, by omega⟩
theorem pw_istore_15 {v0 v1 v2 v3 v4 v5 v6 v7 v8 v9 v10 v11 v12 v13 v14 : Option Value} {o : Option Value} {t : List (Option Value)} {x : Int32} (d : decode (mB M) pc = .ok (.istore 15, 2)) (hn : 15 < mL M) (k : PW X M b1 b2 (pc + 2) (v0 :: v1 :: v2 :: v3 :: v4 :: v5 :: v6 :: v7 :: v8 :: v9 :: v10 :: v11 :: v12 :: v13 :: v14 :: some (.int x) :: t) st σ μ Q) (h1 : pw_c1 v14 = v14 := by rfl) : PW X M b1 b2 pc (v0 :: v1 :: v2 :: v3 :: v4 :: v5 :: v6 :: v7 :: v8 :: v9 :: v10 :: v11 :: v12 :: v13 :: v14 :: o :: t) (.int x :: st) σ μ Q := by
  refine pw_istore_g (ls' := v0 :: v1 :: v2 :: v3 :: v4 :: v5 :: v6 :: v7 :: v8 :: v9 :: v10 :: v11 :: v12 :: v13 :: v14 :: some (.int x) :: t) d hn ?_ k
  intro j w hj
  match j, hj with
  | 0, hj => exact Or.inr ⟨by omega, hj, by omega⟩
  | 1, hj => exact Or.inr ⟨by omega, hj, by omega⟩
  | 2, hj => exact Or.inr ⟨by omega, hj, by omega⟩
  | 3, hj => exact Or.inr ⟨by omega, hj, by omega⟩
  | 4, hj => exact Or.inr ⟨by omega, hj, by omega⟩
  | 5, hj => exact Or.inr ⟨by omega, hj, by omega⟩
  | 6, hj => exact Or.inr ⟨by omega, hj, by omega⟩
  | 7, hj => exact Or.inr ⟨by omega, hj, by omega⟩
  | 8, hj => exact Or.inr ⟨by omega, hj, by omega⟩
  | 9, hj => exact Or.inr ⟨by omega, hj, by omega⟩
  | 10, hj => exact Or.inr ⟨by omega, hj, by omega⟩
  | 11, hj => exact Or.inr ⟨by omega, hj, by omega⟩
  | 12, hj => exact Or.inr ⟨by omega, hj, by omega⟩
  | 13, hj => exact Or.inr ⟨by omega, hj, by omega⟩
  | 14, hj => exact Or.inr ⟨by omega, hj, fun _ => pw_c1_2 h1 (Option.some.inj hj)⟩
  | 15, hj => exact Or.inl ⟨rfl, (Option.some.inj (Option.some.inj hj)).symm⟩
  | j + 16, hj => exact Or.inr ⟨by omega, hj, by omega⟩
theorem pw_istore_16 {v0 v1 v2 v3 v4 v5 v6 v7 v8 v9 v10 v11 v12 v13 v14 v15 : Option Value} {o : Option Value} {t : List (Option Value)} {x : Int32} (d : decode (mB M) pc = .ok (.istore 16, 2)) (hn : 16 < mL M) (k : PW X M b1 b2 (pc + 2) (v0 :: v1 :: v2 :: v3 :: v4 :: v5 :: v6 :: v7 :: v8 :: v9 :: v10 :: v11 :: v12 :: v13 :: v14 :: v15 :: some (.int x) :: t) st σ μ Q) (h1 : pw_c1 v15 = v15 := by rfl) : PW X M b1 b2 pc (v0 :: v1 :: v2 :: v3 :: v4 :: v5 :: v6 :: v7 :: v8 :: v9 :: v10 :: v11 :: v12 :: v13 :: v14 :: v15 :: o :: t) (.int x :: st) σ μ Q := by
  refine pw_istore_g (ls' := v0 :: v1 :: v2 :: v3 :: v4 :: v5 :: v6 :: v7 :: v8 :: v9 :: v10 :: v11 :: v12 :: v13 :: v14 :: v15 :: some (.int x) :: t) d hn ?_ k
  intro j w hj
  match j, hj with
  | 0, hj => exact Or.inr ⟨by omega, hj, by omega⟩
  | 1, hj => exact Or.inr ⟨by omega, hj, by omega⟩
  | 2, hj => exact Or.inr ⟨by omega, hj, by omega⟩
  | 3, hj => exact Or.inr ⟨by omega, hj, by omega⟩
  | 4, hj => exact Or.inr ⟨by omega, hj, by omega⟩
  | 5, hj => exact Or.inr ⟨by omega, hj, by omega⟩
  | 6, hj => exact Or.inr ⟨by omega, hj, by omega⟩
  | 7, hj => exact Or.inr ⟨by omega, hj, by omega⟩
  | 8, hj => exact Or.inr ⟨by omega, hj, by omega⟩
  | 9, hj => exact Or.inr ⟨by omega, hj, by omega⟩
  | 10, hj => exact Or.inr ⟨by omega, hj, by omega⟩
  | 11, hj => exact Or.inr ⟨by omega, hj, by omega⟩
  | 12, hj => exact Or.inr ⟨by omega, hj, by omega⟩
  | 13, hj => exact Or.inr ⟨by omega, hj, by omega⟩
  | 14, hj => exact Or.inr ⟨by omega, hj, by omega⟩
  | 15, hj => exact Or.inr ⟨by omega, hj, fun _ => pw_c1_2 h1 (Option.some.inj hj)⟩
  | 16, hj => exact Or.inl ⟨rfl, (Option.some.inj (Option.some.inj hj)).symm⟩
  | j + 17, hj => exact Or.inr ⟨by omega, hj, by omega⟩
theorem pw_istore_17 {v0 v1 v2 v3 v4 v5 v6 v7 v8 v9 v10 v11 v12 v13 v14 v15 v16 : Option Value} {o : Option Value} {t : List (Option Value)} {x : Int32} (d : decode (mB M) pc = .ok (.istore 17, 2)) (hn : 17 < mL M) (k : PW X M b1 b2 (pc + 2) (v0 :: v1 :: v2 :: v3 :: v4 :: v5 :: v6 :: v7 :: v8 :: v9 :: v10 :: v11 :: v12 :: v13 :: v14 :: v15 :: v16 :: some (.int x) :: t) st σ μ Q) (h1 : pw_c1 v16 = v16 := by rfl) : PW X M b1 b2 pc (v0 :: v1 :: v2 :: v3 :: v4 :: v5 :: v6 :: v7 :: v8 :: v9 :: v10 :: v11 :: v12 :: v13 :: v14 :: v15 :: v16 :: o :: t) (.int x :: st) σ μ Q := by
  refine pw_istore_g (ls' := v0 :: v1 :: v2 :: v3 :: v4 :: v5 :: v6 :: v7 :: v8 :: v9 :: v10 :: v11 :: v12 :: v13 :: v14 :: v15 :: v16 :: some (.int x) :: t) d hn ?_ k
  intro j w hj
  match j, hj with
  | 0, hj => exact Or.inr ⟨by omega, hj, by omega⟩
  | 1, hj => exact Or.inr ⟨by omega, hj, by omega⟩
  | 2, hj => exact Or.inr ⟨by omega, hj, by omega⟩
  | 3, hj => exact Or.inr ⟨by omega, hj, by omega⟩
  | 4, hj => exact Or.inr ⟨by omega, hj, by omega⟩
  | 5, hj => exact Or.inr ⟨by omega, hj, by omega⟩
  | 6, hj => exact Or.inr ⟨by omega, hj, by omega⟩
  | 7, hj => exact Or.inr ⟨by omega, hj, by omega⟩
  | 8, hj => exact Or.inr ⟨by omega, hj, by omega⟩
  | 9, hj => exact Or.inr ⟨by omega, hj, by omega⟩
  | 10, hj => exact Or.inr ⟨by omega, hj, by omega⟩
  | 11, hj => exact Or.inr ⟨by omega, hj, by omega⟩
  | 12, hj => exact Or.inr ⟨by omega, hj, by omega⟩
  | 13, hj => exact Or.inr ⟨by omega, hj, by omega⟩
  | 14, hj => exact Or.inr ⟨by omega, hj, by omega⟩
  | 15, hj => exact Or.inr ⟨by omega, hj, by omega⟩
  | 16, hj => exact Or.inr ⟨by omega, hj, fun _ => pw_c1_2 h1 (Option.some.inj hj)⟩
  | 17, hj => exact Or.inl ⟨rfl, (Option.some.inj (Option.some.inj hj)).symm⟩
  | j + 18, hj => exact Or.inr ⟨by omega, hj, by omega⟩
theorem pw_istore_18 {v0 v1 v2 v3 v4 v5 v6 v7 v8 v9 v10 v11 v12 v13 v14 v15 v16 v17 : Option Value} {o : Option Value} {t : List (Option Value)} {x : Int32} (d : decode (mB M) pc = .ok (.istore 18, 2)) (hn : 18 < mL M) (k : PW X M b1 b2 (pc + 2) (v0 :: v1 :: v2 :: v3 :: v4 :: v5 :: v6 :: v7 :: v8 :: v9 :: v10 :: v11 :: v12 :: v13 :: v14 :: v15 :: v16 :: v17 :: some (.int x) :: t) st σ μ Q) (h1 : pw_c1 v17 = v17 := by rfl) : PW X M b1 b2 pc (v0 :: v1 :: v2 :: v3 :: v4 :: v5 :: v6 :: v7 :: v8 :: v9 :: v10 :: v11 :: v12 :: v13 :: v14 :: v15 :: v16 :: v17 :: o :: t) (.int x :: st) σ μ Q := by
  refine pw_istore_g (ls' := v0 :: v1 :: v2 :: v3 :: v4 :: v5 :: v6 :: v7 :: v8 :: v9 :: v10 :: v11 :: v12 :: v13 :: v14 :: v15 :: v16 :: v17 :: some (.int x) :: t) d hn ?_ k
  intro j w hj
  match j, hj with
  | 0, hj => exact Or.inr ⟨by omega, hj, by omega⟩
  | 1, hj => exact Or.inr ⟨by omega, hj, by omega⟩
  | 2, hj => exact Or.inr ⟨by omega, hj, by omega⟩
  | 3, hj => exact Or.inr ⟨by omega, hj, by omega⟩
  | 4, hj => exact Or.inr ⟨by omega, hj, by omega⟩
  | 5, hj => exact Or.inr ⟨by omega, hj, by omega⟩
  | 6, hj => exact Or.inr ⟨by omega, hj, by omega⟩
  | 7, hj => exact Or.inr ⟨by omega, hj, by omega⟩
  | 8, hj => exact Or.inr ⟨by omega, hj, by omega⟩
  | 9, hj => exact Or.inr ⟨by omega, hj, by omega⟩
  | 10, hj => exact Or.inr ⟨by omega, hj, by omega⟩
  | 11, hj => exact Or.inr ⟨by omega, hj, by omega⟩
  | 12, hj => exact Or.inr ⟨by omega, hj, by omega⟩
  | 13, hj => exact Or.inr ⟨by omega, hj, by omega⟩
  | 14, hj => exact Or.inr ⟨by omega, hj, by omega⟩
  | 15, hj => exact Or.inr ⟨by omega, hj, by omega⟩
  | 16, hj => exact Or.inr ⟨by omega, hj, by omega⟩
  | 17, hj => exact Or.inr ⟨by omega, hj, fun _ => pw_c1_2 h1 (Option.some.inj hj)⟩
  | 18, hj => exact Or.inl ⟨rfl, (Option.some.inj (Option.some.inj hj)).symm⟩
  | j + 19, hj => exact Or.inr ⟨by omega, hj, by omega⟩
theorem pw_istore_19 {v0 v1 v2 v3 v4 v5 v6 v7 v8 v9 v10 v11 v12 v13 v14 v15 v16 v17 v18 : Option Value} {o : Option Value} {t : List (Option Value)} {x : Int32} (d : decode (mB M) pc = .ok (.istore 19, 2)) (hn : 19 < mL M) (k : PW X M b1 b2 (pc + 2) (v0 :: v1 :: v2 :: v3 :: v4 :: v5 :: v6 :: v7 :: v8 :: v9 :: v10 :: v11 :: v12 :: v13 :: v14 :: v15 :: v16 :: v17 :: v18 :: some (.int x) :: t) st σ μ Q) (h1 : pw_c1 v18 = v18 := by rfl) : PW X M b1 b2 pc (v0 :: v1 :: v2 :: v3 :: v4 :: v5 :: v6 :: v7 :: v8 :: v9 :: v10 :: v11 :: v12 :: v13 :: v14 :: v15 :: v16 :: v17 :: v18 :: o :: t) (.int x :: st) σ μ Q := by
  refine pw_istore_g (ls' := v0 :: v1 :: v2 :: v3 :: v4 :: v5 :: v6 :: v7 :: v8 :: v9 :: v10 :: v11 :: v12 :: v13 :: v14 :: v15 :: v16 :: v17 :: v18 :: some (.int x) :: t) d hn ?_ k
  intro j w hj
  match j, hj with
  | 0, hj => exact Or.inr ⟨by omega, hj, by omega⟩
  | 1, hj => exact Or.inr ⟨by omega, hj, by omega⟩
  | 2, hj => exact Or.inr ⟨by omega, hj, by omega⟩
  | 3, hj => exact Or.inr ⟨by omega, hj, by omega⟩
  | 4, hj => exact Or.inr ⟨by omega, hj, by omega⟩
  | 5, hj => exact Or.inr ⟨by omega, hj, by omega⟩
  | 6, hj => exact Or.inr ⟨by omega, hj, by omega⟩
  | 7, hj => exact Or.inr ⟨by omega, hj, by omega⟩
  | 8, hj => exact Or.inr ⟨by omega, hj, by omega⟩
  | 9, hj => exact Or.inr ⟨by omega, hj, by omega⟩
  | 10, hj => exact Or.inr ⟨by omega, hj, by omega⟩
  | 11, hj => exact Or.inr ⟨by omega, hj, by omega⟩
  | 12, hj => exact Or.inr ⟨by omega, hj, by omega⟩
  | 13, hj => exact Or.inr ⟨by omega, hj, by omega⟩
  | 14, hj => exact Or.inr ⟨by omega, hj, by omega⟩
  | 15, hj => exact Or.inr ⟨by omega, hj, by omega⟩
  | 16, hj => exact Or.inr ⟨by omega, hj, by omega⟩
  | 17, hj => exact Or.inr ⟨by omega, hj, by omega⟩
  | 18, hj => exact Or.inr ⟨by omega, hj, fun _ => pw_c1_2 h1 (Option.some.inj hj)⟩
  | 19, hj => exact Or.inl ⟨rfl, (Option.some.inj (Option.some.inj hj)).symm⟩
  | j + 20, hj => exact Or.inr ⟨by omega, hj, by omega⟩
theorem pw_istore_20 {v0 v1 v2 v3 v4 v5 v6 v7 v8 v9 v10 v11 v12 v13 v14 v15 v16 v17 v18 v19 : Option Value} {o : Option Value} {t : List (Option Value)} {x : Int32} (d : decode (mB M) pc = .ok (.istore 20, 2)) (hn : 20 < mL M) (k : PW X M b1 b2 (pc + 2) (v0 :: v1 :: v2 :: v3 :: v4 :: v5 :: v6 :: v7 :: v8 :: v9 :: v10 :: v11 :: v12 :: v13 :: v14 :: v15 :: v16 :: v17 :: v18 :: v19 :: some (.int x) :: t) st σ μ Q) (h1 : pw_c1 v19 = v19 := by rfl) : PW X M b1 b2 pc (v0 :: v1 :: v2 :: v3 :: v4 :: v5 :: v6 :: v7 :: v8 :: v9 :: v10 :: v11 :: v12 :: v13 :: v14 :: v15 :: v16 :: v17 :: v18 :: v19 :: o :: t) (.int x :: st) σ μ Q := by
  refine pw_istore_g (ls' := v0 :: v1 :: v2 :: v3 :: v4 :: v5 :: v6 :: v7 :: v8 :: v9 :: v10 :: v11 :: v12 :: v13 :: v14 :: v15 :: v16 :: v17 :: v18 :: v19 :: some (.int x) :: t) d hn ?_ k
  intro j w hj
  match j, hj with
  | 0, hj => exact Or.inr ⟨by omega, hj, by omega⟩
  | 1, hj => exact Or.inr ⟨by omega, hj, by omega⟩
  | 2, hj => exact Or.inr ⟨by omega, hj, by omega⟩
  | 3, hj => exact Or.inr ⟨by omega, hj, by omega⟩
  | 4, hj => exact Or.inr ⟨by omega, hj, by omega⟩
  | 5, hj => exact Or.inr ⟨by omega, hj, by omega⟩
  | 6, hj => exact Or.inr ⟨by omega, hj, by omega⟩
  | 7, hj => exact Or.inr ⟨by omega, hj, by omega⟩
  | 8, hj => exact Or.inr ⟨by omega, hj, by omega⟩
  | 9, hj => exact Or.inr ⟨by omega, hj, by omega⟩
  | 10, hj => exact Or.inr ⟨by omega, hj, by omega⟩
  | 11, hj => exact Or.inr ⟨by omega, hj, by omega⟩
  | 12, hj => exact Or.inr ⟨by omega, hj, by omega⟩
  | 13, hj => exact Or.inr ⟨by omega, hj, by omega⟩
  | 14, hj => exact Or.inr ⟨by omega, hj, by omega⟩
  | 15, hj => exact Or.inr ⟨by omega, hj, by omega⟩
  | 16, hj => exact Or.inr ⟨by omega, hj, by omega⟩
  | 17, hj => exact Or.inr ⟨by omega, hj, by omega⟩
  | 18, hj => exact Or.inr ⟨by omega, hj, by omega⟩
  | 19, hj => exact Or.inr ⟨by omega, hj, fun _ => pw_c1_2 h1 (Option.some.inj hj)⟩
  | 20, hj => exact Or.inl ⟨rfl, (Option.some.inj (Option.some.inj hj)).symm⟩
  | j + 21, hj => exact Or.inr ⟨by omega, hj, by omega⟩
theorem pw_istore_21 {v0 v1 v2 v3 v4 v5 v6 v7 v8 v9 v10 v11 v12 v13 v14 v15 v16 v17 v18 v19 v20 : Option Value} {o : Option Value} {t : List (Option Value)} {x : Int32} (d : decode (mB M) pc = .ok (.istore 21, 2)) (hn : 21 < mL M) (k : PW X M b1 b2 (pc + 2) (v0 :: v1 :: v2 :: v3 :: v4 :: v5 :: v6 :: v7 :: v8 :: v9 :: v10 :: v11 :: v12 :: v13 :: v14 :: v15 :: v16 :: v17 :: v18 :: v19 :: v20 :: some (.int x) :: t) st σ μ Q) (h1 : pw_c1 v20 = v20 := by rfl) : PW X M b1 b2 pc (v0 :: v1 :: v2 :: v3 :: v4 :: v5 :: v6 :: v7 :: v8 :: v9 :: v10 :: v11 :: v12 :: v13 :: v14 :: v15 :: v16 :: v17 :: v18 :: v19 :: v20 :: o :: t) (.int x :: st) σ μ Q := by
  refine pw_istore_g (ls' := v0 :: v1 :: v2 :: v3 :: v4 :: v5 :: v6 :: v7 :: v8 :: v9 :: v10 :: v11 :: v12 :: v13 :: v14 :: v15 :: v16 :: v17 :: v18 :: v19 :: v20 :: some (.int x) :: t) d hn ?_ k
  intro j w hj
  match j, hj with
  | 0, hj => exact Or.inr ⟨by omega, hj, by omega⟩
  | 1, hj => exact Or.inr ⟨by omega, hj, by omega⟩
  | 2, hj => exact Or.inr ⟨by omega, hj, by omega⟩
  | 3, hj => exact Or.inr ⟨by omega, hj, by omega⟩
  | 4, hj => exact Or.inr ⟨by omega, hj, by omega⟩
  | 5, hj => exact Or.inr ⟨by omega, hj, by omega⟩
  | 6, hj => exact Or.inr ⟨by omega, hj, by omega⟩
  | 7, hj => exact Or.inr ⟨by omega, hj, by omega⟩
  | 8, hj => exact Or.inr ⟨by omega, hj, by omega⟩
  | 9, hj => exact Or.inr ⟨by omega, hj, by omega⟩
  | 10, hj => exact Or.inr ⟨by omega, hj, by omega⟩
  | 11, hj => exact Or.inr ⟨by omega, hj, by omega⟩
  | 12, hj => exact Or.inr ⟨by omega, hj, by omega⟩
  | 13, hj => exact Or.inr ⟨by omega, hj, by omega⟩
  | 14, hj => exact Or.inr ⟨by omega, hj, by omega⟩
  | 15, hj => exact Or.inr ⟨by omega, hj, by omega⟩
  | 16, hj => exact Or.inr ⟨by omega, hj, by omega⟩
  | 17, hj => exact Or.inr ⟨by omega, hj, by omega⟩
  | 18, hj => exact Or.inr ⟨by omega, hj, by omega⟩
  | 19, hj => exact Or.inr ⟨by omega, hj, by omega⟩
  | 20, hj => exact Or.inr ⟨by omega, hj, fun _ => pw_c1_2 h1 (Option.some.inj hj)⟩
  | 21, hj => exact Or.inl ⟨rfl, (Option.some.inj (Option.some.inj hj)).symm⟩
  | j + 22, hj => exact Or.inr ⟨by omega, hj, by omega⟩
theorem pw_istore_22 {v0 v1 v2 v3 v4 v5 v6 v7 v8 v9 v10 v11 v12 v13 v14 v15 v16 v17 v18 v19 v20 v21 : Option Value} {o : Option Value} {t : List (Option Value)} {x : Int32} (d : decode (mB M) pc = .ok (.istore 22, 2)) (hn : 22 < mL M) (k : PW X M b1 b2 (pc + 2) (v0 :: v1 :: v2 :: v3 :: v4 :: v5 :: v6 :: v7 :: v8 :: v9 :: v10 :: v11 :: v12 :: v13 :: v14 :: v15 :: v16 :: v17 :: v18 :: v19 :: v20 :: v21 :: some (.int x) :: t) st σ μ Q) (h1 : pw_c1 v21 = v21 := by rfl) : PW X M b1 b2 pc (v0 :: v1 :: v2 :: v3 :: v4 :: v5 :: v6 :: v7 :: v8 :: v9 :: v10 :: v11 :: v12 :: v13 :: v14 :: v15 :: v16 :: v17 :: v18 :: v19 :: v20 :: v21 :: o :: t) (.int x :: st) σ μ Q := by
  refine pw_istore_g (ls' := v0 :: v1 :: v2 :: v3 :: v4 :: v5 :: v6 :: v7 :: v8 :: v9 :: v10 :: v11 :: v12 :: v13 :: v14 :: v15 :: v16 :: v17 :: v18 :: v19 :: v20 :: v21 :: some (.int x) :: t) d hn ?_ k
  intro j w hj
  match j, hj with
  | 0, hj => exact Or.inr ⟨by omega, hj, by omega⟩
  | 1, hj => exact Or.inr ⟨by omega, hj, by omega⟩
  | 2, hj => exact Or.inr ⟨by omega, hj, by omega⟩
  | 3, hj => exact Or.inr ⟨by omega, hj, by omega⟩
  | 4, hj => exact Or.inr ⟨by omega, hj, by omega⟩
  | 5, hj => exact Or.inr ⟨by omega, hj, by omega⟩
  | 6, hj => exact Or.inr ⟨by omega, hj, by omega⟩
  | 7, hj => exact Or.inr ⟨by omega, hj, by omega⟩
  | 8, hj => exact Or.inr ⟨by omega, hj, by omega⟩
  | 9, hj => exact Or.inr ⟨by omega, hj, by omega⟩
  | 10, hj => exact Or.inr ⟨by omega, hj, by omega⟩
  | 11, hj => exact Or.inr ⟨by omega, hj, by omega⟩
  | 12, hj => exact Or.inr ⟨by omega, hj, by omega⟩
  | 13, hj => exact Or.inr ⟨by omega, hj, by omega⟩
  | 14, hj => exact Or.inr ⟨by omega, hj, by omega⟩
  | 15, hj => exact Or.inr ⟨by omega, hj, by omega⟩
  | 16, hj => exact Or.inr ⟨by omega, hj, by omega⟩
  | 17, hj => exact Or.inr ⟨by omega, hj, by omega⟩
  | 18, hj => exact Or.inr ⟨by omega, hj, by omega⟩
  | 19, hj => exact Or.inr ⟨by omega, hj, by omega⟩
  | 20, hj => exact Or.inr ⟨by omega, hj, by omega⟩
  | 21, hj => exact Or.inr ⟨by omega, hj, fun _ => pw_c1_2 h1 (Option.some.inj hj)⟩
  | 22, hj => exact Or.inl ⟨rfl, (Option.some.inj (Option.some.inj hj)).symm⟩
  | j + 23, hj => exact Or.inr ⟨by omega, hj, by omega⟩
theorem pw_istore_23 {v0 v1 v2 v3 v4 v5 v6 v7 v8 v9 v10 v11 v12 v13 v14 v15 v16 v17 v18 v19 v20 v21 v22 : Option Value} {o : Option Value} {t : List (Option Value)} {x : Int32} (d : decode (mB M) pc = .ok (.istore 23, 2)) (hn : 23 < mL M) (k : PW X M b1 b2 (pc + 2) (v0 :: v1 :: v2 :: v3 :: v4 :: v5 :: v6 :: v7 :: v8 :: v9 :: v10 :: v11 :: v12 :: v13 :: v14 :: v15 :: v16 :: v17 :: v18 :: v19 :: v20 :: v21 :: v22 :: some (.int x) :: t) st σ μ Q) (h1 : pw_c1 v22 = v22 := by rfl) : PW X M b1 b2 pc (v0 :: v1 :: v2 :: v3 :: v4 :: v5 :: v6 :: v7 :: v8 :: v9 :: v10 :: v11 :: v12 :: v13 :: v14 :: v15 :: v16 :: v17 :: v18 :: v19 :: v20 :: v21 :: v22 :: o :: t) (.int x :: st) σ μ Q := by
  refine pw_istore_g (ls' := v0 :: v1 :: v2 :: v3 :: v4 :: v5 :: v6 :: v7 :: v8 :: v9 :: v10 :: v11 :: v12 :: v13 :: v14 :: v15 :: v16 :: v17 :: v18 :: v19 :: v20 :: v21 :: v22 :: some (.int x) :: t) d hn ?_ k
  intro j w hj
  match j, hj with
  | 0, hj => exact Or.inr ⟨by omega, hj, by omega⟩
  | 1, hj => exact Or.inr ⟨by omega, hj, by omega⟩
  | 2, hj => exact Or.inr ⟨by omega, hj, by omega⟩
  | 3, hj => exact Or.inr ⟨by omega, hj, by omega⟩
  | 4, hj => exact Or.inr ⟨by omega, hj, by omega⟩
  | 5, hj => exact Or.inr ⟨by omega, hj, by omega⟩
  | 6, hj => exact Or.inr ⟨by omega, hj, by omega⟩
  | 7, hj => exact Or.inr ⟨by omega, hj, by omega⟩
  | 8, hj => exact Or.inr ⟨by omega, hj, by omega⟩
  | 9, hj => exact Or.inr ⟨by omega, hj, by omega⟩
  | 10, hj => exact Or.inr ⟨by omega, hj, by omega⟩
  | 11, hj => exact Or.inr ⟨by omega, hj, by omega⟩
  | 12, hj => exact Or.inr ⟨by omega, hj, by omega⟩
  | 13, hj => exact Or.inr ⟨by omega, hj, by omega⟩
  | 14, hj => exact Or.inr ⟨by omega, hj, by omega⟩
  | 15, hj => exact Or.inr ⟨by omega, hj, by omega⟩
  | 16, hj => exact Or.inr ⟨by omega, hj, by omega⟩
  | 17, hj => exact Or.inr ⟨by omega, hj, by omega⟩
  | 18, hj => exact Or.inr ⟨by omega, hj, by omega⟩
  | 19, hj => exact Or.inr ⟨by omega, hj, by omega⟩
  | 20, hj => exact Or.inr ⟨by omega, hj, by omega⟩
  | 21, hj => exact Or.inr ⟨by omega, hj, by omega⟩
  | 22, hj => exact Or.inr ⟨by omega, hj, fun _ => pw_c1_2 h1 (Option.some.inj hj)⟩
  | 23, hj => exact Or.inl ⟨rfl, (Option.some.inj (Option.some.inj hj)).symm⟩
  | j + 24, hj => exact Or.inr ⟨by omega, hj, by omega⟩
theorem pw_istore_24 {v0 v1 v2 v3 v4 v5 v6 v7 v8 v9 v10 v11 v12 v13 v14 v15 v16 v17 v18 v19 v20 v21 v22 v23 : Option Value} {o : Option Value} {t : List (Option Value)} {x : Int32} (d : decode (mB M) pc = .ok (.istore 24, 2)) (hn : 24 < mL M) (k : PW X M b1 b2 (pc + 2) (v0 :: v1 :: v2 :: v3 :: v4 :: v5 :: v6 :: v7 :: v8 :: v9 :: v10 :: v11 :: v12 :: v13 :: v14 :: v15 :: v16 :: v17 :: v18 :: v19 :: v20 :: v21 :: v22 :: v23 :: some (.int x) :: t) st σ μ Q) (h1 : pw_c1 v23 = v23 := by rfl) : PW X M b1 b2 pc (v0 :: v1 :: v2 :: v3 :: v4 :: v5 :: v6 :: v7 :: v8 :: v9 :: v10 :: v11 :: v12 :: v13 :: v14 :: v15 :: v16 :: v17 :: v18 :: v19 :: v20 :: v21 :: v22 :: v23 :: o :: t) (.int x :: st) σ μ Q := by
  refine pw_istore_g (ls' := v0 :: v1 :: v2 :: v3 :: v4 :: v5 :: v6 :: v7 :: v8 :: v9 :: v10 :: v11 :: v12 :: v13 :: v14 :: v15 :: v16 :: v17 :: v18 :: v19 :: v20 :: v21 :: v22 :: v23 :: some (.int x) :: t) d hn ?_ k
  intro j w hj
  match j, hj with
  | 0, hj => exact Or.inr ⟨by omega, hj, by omega⟩
  | 1, hj => exact Or.inr ⟨by omega, hj, by omega⟩
  | 2, hj => exact Or.inr ⟨by omega, hj, by omega⟩
  | 3, hj => exact Or.inr ⟨by omega, hj, by omega⟩
  | 4, hj => exact Or.inr ⟨by omega, hj, by omega⟩
  | 5, hj => exact Or.inr ⟨by omega, hj, by omega⟩
  | 6, hj => exact Or.inr ⟨by omega, hj, by omega⟩
  | 7, hj => exact Or.inr ⟨by omega, hj, by omega⟩
  | 8, hj => exact Or.inr ⟨by omega, hj, by omega⟩
  | 9, hj => exact Or.inr ⟨by omega, hj, by omega⟩
  | 10, hj => exact Or.inr ⟨by omega, hj, by omega⟩
  | 11, hj => exact Or.inr ⟨by omega, hj, by omega⟩
  | 12, hj => exact Or.inr ⟨by omega, hj, by omega⟩
  | 13, hj => exact Or.inr ⟨by omega, hj, by omega⟩
  | 14, hj => exact Or.inr ⟨by omega, hj, by omega⟩
  | 15, hj => exact Or.inr ⟨by omega, hj, by omega⟩
  | 16, hj => exact Or.inr ⟨by omega, hj, by omega⟩
  | 17, hj => exact Or.inr ⟨by omega, hj, by omega⟩
  | 18, hj => exact Or.inr ⟨by omega, hj, by omega⟩
  | 19, hj => exact Or.inr ⟨by omega, hj, by omega⟩
  | 20, hj => exact Or.inr ⟨by omega, hj, by omega⟩
  | 21, hj => exact Or.inr ⟨by omega, hj, by omega⟩
  | 22, hj => exact Or.inr ⟨by omega, hj, by omega⟩
  | 23, hj => exact Or.inr ⟨by omega, hj, fun _ => pw_c1_2 h1 (Option.some.inj hj)⟩
  | 24, hj => exact Or.inl ⟨rfl, (Option.some.inj (Option.some.inj hj)).symm⟩
  | j + 25, hj => exact Or.inr ⟨by omega, hj, by omega⟩
theorem pw_istore_25 {v0 v1 v2 v3 v4 v5 v6 v7 v8 v9 v10 v11 v12 v13 v14 v15 v16 v17 v18 v19 v20 v21 v22 v23 v24 : Option Value} {o : Option Value} {t : List (Option Value)} {x : Int32} (d : decode (mB M) pc = .ok (.istore 25, 2)) (hn : 25 < mL M) (k : PW X M b1 b2 (pc + 2) (v0 :: v1 :: v2 :: v3 :: v4 :: v5 :: v6 :: v7 :: v8 :: v9 :: v10 :: v11 :: v12 :: v13 :: v14 :: v15 :: v16 :: v17 :: v18 :: v19 :: v20 :: v21 :: v22 :: v23 :: v24 :: some (.int x) :: t) st σ μ Q) (h1 : pw_c1 v24 = v24 := by rfl) : PW X M b1 b2 pc (v0 :: v1 :: v2 :: v3 :: v4 :: v5 :: v6 :: v7 :: v8 :: v9 :: v10 :: v11 :: v12 :: v13 :: v14 :: v15 :: v16 :: v17 :: v18 :: v19 :: v20 :: v21 :: v22 :: v23 :: v24 :: o :: t) (.int x :: st) σ μ Q := by
  refine pw_istore_g (ls' := v0 :: v1 :: v2 :: v3 :: v4 :: v5 :: v6 :: v7 :: v8 :: v9 :: v10 :: v11 :: v12 :: v13 :: v14 :: v15 :: v16 :: v17 :: v18 :: v19 :: v20 :: v21 :: v22 :: v23 :: v24 :: some (.int x) :: t) d hn ?_ k
  intro j w hj
  match j, hj with
  | 0, hj => exact Or.inr ⟨by omega, hj, by omega⟩
  | 1, hj => exact Or.inr ⟨by omega, hj, by omega⟩
  | 2, hj => exact Or.inr ⟨by omega, hj, by omega⟩
  | 3, hj => exact Or.inr ⟨by omega, hj, by omega⟩
  | 4, hj => exact Or.inr ⟨by omega, hj, by omega⟩
  | 5, hj => exact Or.inr ⟨by omega, hj, by omega⟩
  | 6, hj => exact Or.inr ⟨by omega, hj, by omega⟩
  | 7, hj => exact Or.inr ⟨by omega, hj, by omega⟩
  | 8, hj => exact Or.inr ⟨by omega, hj, by omega⟩
  | 9, hj => exact Or.inr ⟨by omega, hj, by omega⟩
  | 10, hj => exact Or.inr ⟨by omega, hj, by omega⟩
  | 11, hj => exact Or.inr ⟨by omega, hj, by omega⟩
  | 12, hj => exact Or.inr ⟨by omega, hj, by omega⟩
  | 13, hj => exact Or.inr ⟨by omega, hj, by omega⟩
  | 14, hj => exact Or.inr ⟨by omega, hj, by omega⟩
  | 15, hj => exact Or.inr ⟨by omega, hj, by omega⟩
  | 16, hj => exact Or.inr ⟨by omega, hj, by omega⟩
  | 17, hj => exact Or.inr ⟨by omega, hj, by omega⟩
  | 18, hj => exact Or.inr ⟨by omega, hj, by omega⟩
  | 19, hj => exact Or.inr ⟨by omega, hj, by omega⟩
  | 20, hj => exact Or.inr ⟨by omega, hj, by omega⟩
  | 21, hj => exact Or.inr ⟨by omega, hj, by omega⟩
  | 22, hj => exact Or.inr ⟨by omega, hj, by omega⟩
  | 23, hj => exact Or.inr ⟨by omega, hj, by omega⟩
  | 24, hj => exact Or.inr ⟨by omega, hj, fun _ => pw_c1_2 h1 (Option.some.inj hj)⟩
  | 25, hj => exact Or.inl ⟨rfl, (Option.some.inj (Option.some.inj hj)).symm⟩
  | j + 26, hj => exact Or.inr ⟨by omega, hj, by omega⟩
theorem pw_istore_26 {v0 v1 v2 v3 v4 v5 v6 v7 v8 v9 v10 v11 v12 v13 v14 v15 v16 v17 v18 v19 v20 v21 v22 v23 v24 v25 : Option Value} {o : Option Value} {t : List (Option Value)} {x : Int32} (d : decode (mB M) pc = .ok (.istore 26, 2)) (hn : 26 < mL M) (k : PW X M b1 b2 (pc + 2) (v0 :: v1 :: v2 :: v3 :: v4 :: v5 :: v6 :: v7 :: v8 :: v9 :: v10 :: v11 :: v12 :: v13 :: v14 :: v15 :: v16 :: v17 :: v18 :: v19 :: v20 :: v21 :: v22 :: v23 :: v24 :: v25 :: some (.int x) :: t) st σ μ Q) (h1 : pw_c1 v25 = v25 := by rfl) : PW X M b1 b2 pc (v0 :: v1 :: v2 :: v3 :: v4 :: v5 :: v6 :: v7 :: v8 :: v9 :: v10 :: v11 :: v12 :: v13 :: v14 :: v15 :: v16 :: v17 :: v18 :: v19 :: v20 :: v21 :: v22 :: v23 :: v24 :: v25 :: o :: t) (.int x :: st) σ μ Q := by
  refine pw_istore_g (ls' := v0 :: v1 :: v2 :: v3 :: v4 :: v5 :: v6 :: v7 :: v8 :: v9 :: v10 :: v11 :: v12 :: v13 :: v14 :: v15 :: v16 :: v17 :: v18 :: v19 :: v20 :: v21 :: v22 :: v23 :: v24 :: v25 :: some (.int x) :: t) d hn ?_ k
  intro j w hj
  match j, hj with
  | 0, hj => exact Or.inr ⟨by omega, hj, by omega⟩
  | 1, hj => exact Or.inr ⟨by omega, hj, by omega⟩
  | 2, hj => exact Or.inr ⟨by omega, hj, by omega⟩
  | 3, hj => exact Or.inr ⟨by omega, hj, by omega⟩
  | 4, hj => exact Or.inr ⟨by omega, hj, by omega⟩
  | 5, hj => exact Or.inr ⟨by omega, hj, by omega⟩
  | 6, hj => exact Or.inr ⟨by omega, hj, by omega⟩
  | 7, hj => exact Or.inr ⟨by omega, hj, by omega⟩
  | 8, hj => exact Or.inr ⟨by omega, hj, by omega⟩
  | 9, hj => exact Or.inr ⟨by omega, hj, by omega⟩
  | 10, hj => exact Or.inr ⟨by omega, hj, by omega⟩
  | 11, hj => exact Or.inr ⟨by omega, hj, by omega⟩
  | 12, hj => exact Or.inr ⟨by omega, hj, by omega⟩
  | 13, hj => exact Or.inr ⟨by omega, hj, by omega⟩
  | 14, hj => exact Or.inr ⟨by omega, hj, by omega⟩
  | 15, hj => exact Or.inr ⟨by omega, hj, by omega⟩
  | 16, hj => exact Or.inr ⟨by omega, hj, by omega⟩
  | 17, hj => exact Or.inr ⟨by omega, hj, by omega⟩
  | 18, hj => exact Or.inr ⟨by omega, hj, by omega⟩
  | 19, hj => exact Or.inr ⟨by omega, hj, by omega⟩
  | 20, hj => exact Or.inr ⟨by omega, hj, by omega⟩
  | 21, hj => exact Or.inr ⟨by omega, hj, by omega⟩
  | 22, hj => exact Or.inr ⟨by omega, hj, by omega⟩
  | 23, hj => exact Or.inr ⟨by omega, hj, by omega⟩
  | 24, hj => exact Or.inr ⟨by omega, hj, by omega⟩
  | 25, hj => exact Or.inr ⟨by omega, hj, fun _ => pw_c1_2 h1 (Option.some.inj hj)⟩
  | 26, hj => exact Or.inl ⟨rfl, (Option.some.inj (Option.some.inj hj)).symm⟩
  | j + 27, hj => exact Or.inr ⟨by omega, hj, by omega⟩
theorem pw_astore_gn {n : Fin 4} {x : Nat} {ls' : List (Option Value)} (d : decode (mB M) pc = .ok (.astore_n n, 1)) (hn : (n : Nat) < mL M) (hl : ∀ (j : Nat) (w : Value), ls'[j]? = some (some w) → (j = (n : Nat) ∧ w = .ref x) ∨ (j ≠ (n : Nat) ∧ ls[j]? = some (some w) ∧ (j + 1 = (n : Nat) → w.category ≠ 2))) (k : PW X M b1 b2 (pc + 1) ls' st σ μ Q) : PW X M b1 b2 pc ls (.ref x :: st) σ μ Q :=
  fun p e R s m args below meth c H locs cells slots ar Z B S P F L c1 c2 K => lv_astore_n B.1 B.2.1 d rfl (pw_Lal L) hn rfl (fun ar' h => k p e R s m args below meth c H locs cells slots ar' Z B S P F (pw_Lset1 h hl) c1 c2 K)
theorem pw_astore_g {n : Nat} {x : Nat} {ls' : List (Option Value)} (d : decode (mB M) pc = .ok (.astore n, 2)) (hn : n < mL M) (hl : ∀ (j : Nat) (w : Value), ls'[j]? = some (some w) → (j = n ∧ w = .ref x) ∨ (j ≠ n ∧ ls[j]? = some (some w) ∧ (j + 1 = n → w.category ≠ 2))) (k : PW X M b1 b2 (pc + 2) ls' st σ μ Q) : PW X M b1 b2 pc ls (.ref x :: st) σ μ Q :=
  fun p e R s m args below meth c H locs cells slots ar Z B S P F L c1 c2 K => lv_astore B.1 B.2.1 d (pw_Lal L) hn rfl (fun ar' h => k p e R s m args below meth c H locs cells slots ar' Z B S P F (pw_Lset1 h hl) c1 c2 K)
theorem pw_astore_0 {o : Option Value} {t : List (Option Value)} {x : Nat} (d : decode (mB M) pc = .ok (.astore_n 0, 1)) (hn : 0 < mL M) (k : PW X M b1 b2 (pc + 1) (some (.ref x) :: t) st σ μ Q) : PW X M b1 b2 pc (o :: t) (.ref x :: st) σ μ Q := by
  refine pw_astore_gn (ls' := some (.ref x) :: t) d hn ?_ k
  intro j w hj
  match j, hj with
  | 0, hj => exact Or.inl ⟨rfl, (Option.some.inj (Option.some.inj hj)).symm⟩
  | j + 1, hj => exact Or.inr ⟨by omega, hj, by omega⟩
theorem pw_astore_1 {v0 : Option Value} {o : Option Value} {t : List (Option Value)} {x : Nat} (d : decode (mB M) pc = .ok (.astore_n 1, 1)) (hn : 1 < mL M) (k : PW X M b1 b2 (pc + 1) (v0 :: some (.ref x) :: t) st σ μ Q) (h1 : pw_c1 v0 = v0 := by rfl) : PW X M b1 b2 pc (v0 :: o :: t) (.ref x :: st) σ μ Q := by
  refine pw_astore_gn (ls' := v0 :: some (.ref x) :: t) d hn ?_ k
  intro j w hj
  match j, hj with
  | 0, hj => exact Or.inr ⟨by omega, hj, fun _ => pw_c1_2 h1 (Option.some.inj hj)⟩
  | 1, hj => exact Or.inl ⟨rfl, (Option.some.inj (Option.some.inj hj)).symm⟩
  | j + 2, hj => exact Or.inr ⟨by omega, hj, by omega⟩
theorem pw_astore_2 {v0 v1 : Option Value} {o : Option Value} {t : List (Option Value)} {x : Nat} (d : decode (mB M) pc = .ok (.astore_n 2, 1)) (hn : 2 < mL M) (k : PW X M b1 b2 (pc + 1) (v0 :: v1 :: some (.ref x) :: t) st σ μ Q) (h1 : pw_c1 v1 = v1 := by rfl) : PW X M b1 b2 pc (v0 :: v1 :: o :: t) (.ref x :: st) σ μ Q := by
  refine pw_astore_gn (ls' := v0 :: v1 :: some (.ref x) :: t) d hn ?_ k
  intro j w hj
  match j, hj with
  | 0, hj => exact Or.inr ⟨by omega, hj, by omega⟩
  | 1, hj => exact Or.inr ⟨by omega, hj, fun _ => pw_c1_2 h1 (Option.some.inj hj)⟩
  | 2, hj => exact Or.inl ⟨rfl, (Option.some.inj (Option.some.inj hj)).symm⟩
  | j + 3, hj => exact Or.inr ⟨by omega, hj, by omega⟩
theorem pw_astore_3 {v0 v1 v2 : Option Value} {o : Option Value} {t : List (Option Value)} {x : Nat} (d : decode (mB M) pc = .ok (.astore_n 3, 1)) (hn : 3 < mL M) (k : PW X M b1 b2 (pc + 1) (v0 :: v1 :: v2 :: some (.ref x) :: t) st σ μ Q) (h1 : pw_c1 v2 = v2 := by rfl) : PW X M b1 b2 pc (v0 :: v1 :: v2 :: o :: t) (.ref x :: st) σ μ Q := by
  refine pw_astore_gn (ls' := v0 :: v1 :: v2 :: some (.ref x) :: t) d hn ?_ k
  intro j w hj
  match j, hj with
  | 0, hj => exact Or.inr ⟨by omega, hj, by omega⟩
  | 1, hj => exact Or.inr ⟨by omega, hj, by omega⟩
  | 2, hj => exact Or.inr ⟨by omega, hj, fun _ => pw_c1_2 h1 (Option.some.inj hj)⟩
  | 3, hj => exact Or.inl ⟨rfl, (Option.some.inj (Option.some.inj hj)).symm⟩
  | j + 4, hj => exact Or.inr ⟨by omega, hj, by omega⟩
theorem pw_astore_4 {v0 v1 v2 v3 : Option Value} {o : Option Value} {t : List (Option Value)} {x : Nat} (d : decode (mB M) pc = .ok (.astore 4, 2)) (hn : 4 < mL M) (k : PW X M b1 b2 (pc + 2) (v0 :: v1 :: v2 :: v3 :: some (.ref x) :: t) st σ μ Q) (h1 : pw_c1 v3 = v3 := by rfl) : PW X M b1 b2 pc (v0 :: v1 :: v2 :: v3 :: o :: t) (.ref x :: st) σ μ Q := by
  refine pw_astore_g (ls' := v0 :: v1 :: v2 :: v3 :: some (.ref x) :: t) d hn ?_ k
  intro j w hj
  match j, hj with
  | 0, hj => exact Or.inr ⟨by omega, hj, by omega⟩
  | 1, hj => exact Or.inr ⟨by omega, hj, by omega⟩
  | 2, hj => exact Or.inr ⟨by omega, hj, by omega⟩
  | 3, hj => exact Or.inr ⟨by omega, hj, fun _ => pw_c1_2 h1 (Option.some.inj hj)⟩
  | 4, hj => exact Or.inl ⟨rfl, (Option.some.inj (Option.some.inj hj)).symm⟩
  | j + 5, hj => exact Or.inr ⟨by omega, hj, by omega⟩
theorem pw_astore_5 {v0 v1 v2 v3 v4 : Option Value} {o : Option Value} {t : List (Option Value)} {x : Nat} (d : decode (mB M) pc = .ok (.astore 5, 2)) (hn : 5 < mL M) (k : PW X M b1 b2 (pc + 2) (v0 :: v1 :: v2 :: v3 :: v4 :: some (.ref x) :: t) st σ μ Q) (h1 : pw_c1 v4 = v4 := by rfl) : PW X M b1 b2 pc (v0 :: v1 :: v2 :: v3 :: v4 :: o :: t) (.ref x :: st) σ μ Q := by
  refine pw_astore_g (ls' := v0 :: v1 :: v2 :: v3 :: v4 :: some (.ref x) :: t) d hn ?_ k
  intro j w hj
  match j, hj with
  | 0, hj => exact Or.inr ⟨by omega, hj, by omega⟩
  | 1, hj => exact Or.inr ⟨by omega, hj, by omega⟩
  | 2, hj => exact Or.inr ⟨by omega, hj, by omega⟩
  | 3, hj => exact Or.inr ⟨by omega, hj, by omega⟩
  | 4, hj => exact Or.inr ⟨by omega, hj, fun _ => pw_c1_2 h1 (Option.some.inj hj)⟩
  | 5, hj => exact Or.inl ⟨rfl, (Option.some.inj (Option.some.inj hj)).symm⟩
  | j + 6, hj => exact Or.inr ⟨by omega, hj, by omega⟩
theorem pw_astore_6 {v0 v1 v2 v3 v4 v5 : Option Value} {o : Option Value} {t : List (Option Value)} {x : Nat} (d : decode (mB M) pc = .ok (.astore 6, 2)) (hn : 6 < mL M) (k : PW X M b1 b2 (pc + 2) (v0 :: v1 :: v2 :: v3 :: v4 :: v5 :: some (.ref x) :: t) st σ μ Q) (h1 : pw_c1 v5 = v5 := by rfl) : PW X M b1 b2 pc (v0 :: v1 :: v2 :: v3 :: v4 :: v5 :: o :: t) (.ref x :: st) σ μ Q := by
  refine pw_astore_g (ls' := v0 :: v1 :: v2 :: v3 :: v4 :: v5 :: some (.ref x) :: t) d hn ?_ k
  intro j w hj
  match j, hj with
  | 0, hj => exact Or.inr ⟨by omega, hj, by omega⟩
  | 1, hj => exact Or.inr ⟨by omega, hj, by omega⟩
  | 2, hj => exact Or.inr ⟨by omega, hj, by omega⟩
  | 3, hj => exact Or.inr ⟨by omega, hj, by omega⟩
  | 4, hj => exact Or.inr ⟨by omega, hj, by omega⟩
  | 5, hj => exact Or.inr ⟨by omega, hj, fun _ => pw_c1_2 h1 (Option.some.inj hj)⟩
  | 6, hj => exact Or.inl ⟨rfl, (Option.some.inj (Option.some.inj hj)).symm⟩
  | j + 7, hj => exact Or.inr ⟨by omega, hj, by omega⟩
theorem pw_astore_7 {v0 v1 v2 v3 v4 v5 v6 : Option Value} {o : Option Value} {t : List (Option Value)} {x : Nat} (d : decode (mB M) pc = .ok (.astore 7, 2)) (hn : 7 < mL M) (k : PW X M b1 b2 (pc + 2) (v0 :: v1 :: v2 :: v3 :: v4 :: v5 :: v6 :: some (.ref x) :: t) st σ μ Q) (h1 : pw_c1 v6 = v6 := by rfl) : PW X M b1 b2 pc (v0 :: v1 :: v2 :: v3 :: v4 :: v5 :: v6 :: o :: t) (.ref x :: st) σ μ Q := by
  refine pw_astore_g (ls' := v0 :: v1 :: v2 :: v3 :: v4 :: v5 :: v6 :: some (.ref x) :: t) d hn ?_ k
  intro j w hj
  match j, hj with
  | 0, hj => exact Or.inr ⟨by omega, hj, by omega⟩
  | 1, hj => exact Or.inr ⟨by omega, hj, by omega⟩
  | 2, hj => exact Or.inr ⟨by omega, hj, by omega⟩
  | 3, hj => exact Or.inr ⟨by omega, hj, by omega⟩
  | 4, hj => exact Or.inr ⟨by omega, hj, by omega⟩
  | 5, hj => exact Or.inr ⟨by omega, hj, by omega⟩
  | 6, hj => exact Or.inr ⟨by omega, hj, fun _ => pw_c1_2 h1 (Option.some.inj hj)⟩
  | 7, hj => exact Or.inl ⟨rfl, (Option.some.inj (Option.some.inj hj)).symm⟩
  | j + 8, hj => exact Or.inr ⟨by omega, hj, by omega⟩
theorem pw_astore_8 {v0 v1 v2 v3 v4 v5 v6 v7 : Option Value} {o : Option Value} {t : List (Option Value)} {x : Nat} (d : decode (mB M) pc = .ok (.astore 8, 2)) (hn : 8 < mL M) (k : PW X M b1 b2 (pc + 2) (v0 :: v1 :: v2 :: v3 :: v4 :: v5 :: v6 :: v7 :: some (.ref x) :: t) st σ μ Q) (h1 : pw_c1 v7 = v7 := by rfl) : PW X M b1 b2 pc (v0 :: v1 :: v2 :: v3 :: v4 :: v5 :: v6 :: v7 :: o :: t) (.ref x :: st) σ μ Q := by
  refine pw_astore_g (ls' := v0 :: v1 :: v2 :: v3 :: v4 :: v5 :: v6 :: v7 :: some (.ref x) :: t) d hn ?_ k
  intro j w hj
  match j, hj with
  | 0, hj => exact Or.inr ⟨by omega, hj, by omega⟩
  | 1, hj => exact Or.inr ⟨by omega, hj, by omega⟩
  | 2, hj => exact Or.inr ⟨by omega, hj, by omega⟩
  | 3, hj => exact Or.inr ⟨by omega, hj, by omega⟩
  | 4, hj => exact Or.inr ⟨by omega, hj, by omega⟩
  | 5, hj => exact Or.inr ⟨by omega, hj, by omega⟩
  | 6, hj => exact Or.inr ⟨by omega, hj, by omega⟩
  | 7, hj => exact Or.inr ⟨by omega, hj, fun _ => pw_c1_2 h1 (Option.some.inj hj)⟩
  | 8, hj => exact Or.inl ⟨rfl, (Option.some.inj (Option.some.inj hj)).symm⟩
  | j + 9, hj => exact Or.inr ⟨by omega, hj, by omega⟩
theorem pw_astore_9 {v0 v1 v2 v3 v4 v5 v6 v7 v8 : Option Value} {o : Option Value} {t : List (Option Value)} {x : Nat} (d : decode (mB M) pc = .ok (.astore 9, 2)) (hn : 9 < mL M) (k : PW X M b1 b2 (pc + 2) (v0 :: v1 :: v2 :: v3 :: v4 :: v5 :: v6 :: v7 :: v8 :: some (.ref x) :: t) st σ μ Q) (h1 : pw_c1 v8 = v8 := by rfl) : PW X M b1 b2 pc (v0 :: v1 :: v2 :: v3 :: v4 :: v5 :: v6 :: v7 :: v8 :: o :: t) (.ref x :: st) σ μ Q := by
  refine pw_astore_g (ls' := v0 :: v1 :: v2 :: v3 :: v4 :: v5 :: v6 :: v7 :: v8 :: some (.ref x) :: t) d hn ?_ k
  intro j w hj
  match j, hj with
  | 0, hj => exact Or.inr ⟨by omega, hj, by omega⟩
  | 1, hj => exact Or.inr ⟨by omega, hj, by omega⟩
  | 2, hj => exact Or.inr ⟨by omega, hj, by omega⟩
  | 3, hj => exact Or.inr ⟨by omega, hj, by omega⟩
  | 4, hj => exact Or.inr ⟨by omega, hj, by omega⟩
  | 5, hj => exact Or.inr ⟨by omega, hj, by omega⟩
  | 6, hj => exact Or.inr ⟨by omega, hj, by omega⟩
  | 7, hj => exact Or.inr ⟨by omega, hj, by omega⟩
  | 8, hj => exact Or.inr ⟨by omega, hj, fun _ => pw_c1_2 h1 (Option.some.inj hj)⟩
  | 9, hj => exact Or.inl ⟨rfl, (Option.some.inj (Option.some.inj hj)).symm⟩
  | j + 10, hj => exact Or.inr ⟨by omega, hj, by omega⟩
theorem pw_astore_10 {v0 v1 v2 v3 v4 v5 v6 v7 v8 v9 : Option Value} {o : Option Value} {t : List (Option Value)} {x : Nat} (d : decode (mB M) pc = .ok (.astore 10, 2)) (hn : 10 < mL M) (k : PW X M b1 b2 (pc + 2) (v0 :: v1 :: v2 :: v3 :: v4 :: v5 :: v6 :: v7 :: v8 :: v9 :: some (.ref x) :: t) st σ μ Q) (h1 : pw_c1 v9 = v9 := by rfl) : PW X M b1 b2 pc (v0 :: v1 :: v2 :: v3 :: v4 :: v5 :: v6 :: v7 :: v8 :: v9 :: o :: t) (.ref x :: st) σ μ Q := by
  refine pw_astore_g (ls' := v0 :: v1 :: v2 :: v3 :: v4 :: v5 :: v6 :: v7 :: v8 :: v9 :: some (.ref x) :: t) d hn ?_ k
  intro j w hj
  match j, hj with
  | 0, hj => exact Or.inr ⟨by omega, hj, by omega⟩
  | 1, hj => exact Or.inr ⟨by omega, hj, by omega⟩
  | 2, hj => exact Or.inr ⟨by omega, hj, by omega⟩
  | 3, hj => exact Or.inr ⟨by omega, hj, by omega⟩
  | 4, hj => exact Or.inr ⟨by omega, hj, by omega⟩
  | 5, hj => exact Or.inr ⟨by omega, hj, by omega⟩
  | 6, hj => exact Or.inr ⟨by omega, hj, by omega⟩
  | 7, hj => exact Or.inr ⟨by omega, hj, by omega⟩
  | 8, hj => exact Or.inr ⟨by omega, hj, by omega⟩
  | 9, hj => exact Or.inr ⟨by omega, hj, fun _ => pw_c1_2 h1 (Option.some.inj hj)⟩
  | 10, hj => exact Or.inl ⟨rfl, (Option.some.inj (Option.some.inj hj)).symm⟩
  | j + 11, hj => exact Or.inr ⟨by omega, hj, by omega⟩
theorem pw_astore_11 {v0 v1 v2 v3 v4 v5 v6 v7 v8 v9 v10 : Option Value} {o : Option Value} {t : List (Option Value)} {x : Nat} (d : decode (mB M) pc = .ok (.astore 11, 2)) (hn : 11 < mL M) (k : PW X M b1 b2 (pc + 2) (v0 :: v1 :: v2 :: v3 :: v4 :: v5 :: v6 :: v7 :: v8 :: v9 :: v10 :: some (.ref x) :: t) st σ μ Q) (h1 : pw_c1 v10 = v10 := by rfl) : PW X M b1 b2 pc (v0 :: v1 :: v2 :: v3 :: v4 :: v5 :: v6 :: v7 :: v8 :: v9 :: v10 :: o :: t) (.ref x :: st) σ μ Q := by
  refine pw_astore_g (ls' := v0 :: v1 :: v2 :: v3 :: v4 :: v5 :: v6 :: v7 :: v8 :: v9 :: v10 :: some (.ref x) :: t) d hn ?_ k
  intro j w hj
  match j, hj with
  | 0, hj => exact Or.inr ⟨by omega, hj, by omega⟩
  | 1, hj => exact Or.inr ⟨by omega, hj, by omega⟩
  | 2, hj => exact Or.inr ⟨by omega, hj, by omega⟩
  | 3, hj => exact Or.inr ⟨by omega, hj, by omega⟩
  | 4, hj => exact Or.inr ⟨by omega, hj, by omega⟩
  | 5, hj => exact Or.inr ⟨by omega, hj, by omega⟩
  | 6, hj => exact Or.inr ⟨by omega, hj, by omega⟩
  | 7, hj => exact Or.inr ⟨by omega, hj, by omega⟩
  | 8, hj => exact Or.inr ⟨by omega, hj, by omega⟩
  | 9, hj => exact Or.inr ⟨by omega, hj, by omega⟩
  | 10, hj => exact Or.inr ⟨by omega, hj, fun _ => pw_c1_2 h1 (Option.some.inj hj)⟩
  | 11, hj => exact Or.inl ⟨rfl, (Option.some.inj (Option.some.inj hj)).symm⟩
  | j + 12, hj => exact Or.inr ⟨by omega, hj, by omega⟩
theorem pw_astore_12 {v0 v1 v2 v3 v4 v5 v6 v7 v8 v9 v10 v11 : Option Value} {o : Option Value} {t : List (Option Value)} {x : Nat} (d : decode (mB M) pc = .ok (.astore 12, 2)) (hn : 12 < mL M) (k : PW X M b1 b2 (pc + 2) (v0 :: v1 :: v2 :: v3 :: v4 :: v5 :: v6 :: v7 :: v8 :: v9 :: v10 :: v11 :: some (.ref x) :: t) st σ μ Q) (h1 : pw_c1 v11 = v11 := by rfl) : PW X M b1 b2 pc (v0 :: v1 :: v2 :: v3 :: v4 :: v5 :: v6 :: v7 :: v8 :: v9 :: v10 :: v11 :: o :: t) (.ref x :: st) σ μ Q := by
  refine pw_astore_g (ls' := v0 :: v1 :: v2 :: v3 :: v4 :: v5 :: v6 :: v7 :: v8 :: v9 :: v10 :: v11 :: some (.ref x) :: t) d hn ?_ k
  intro j w hj
  match j, hj with
  | 0, hj => exact Or.inr ⟨by omega, hj, by omega⟩
  | 1, hj => exact Or.inr ⟨by omega, hj, by omega⟩
  | 2, hj => exact Or.inr ⟨by omega, hj, by omega⟩
  | 3, hj => exact Or.inr ⟨by omega, hj, by omega⟩
  | 4, hj => exact Or.inr ⟨by omega, hj, by omega⟩
  | 5, hj => exact Or.inr ⟨by omega, hj, by omega⟩
  | 6, hj => exact Or.inr ⟨by omega, hj, by omega⟩
  | 7, hj => exact Or.inr ⟨by omega, hj, by omega⟩
  | 8, hj => exact Or.inr ⟨by omega, hj, by omega⟩
  | 9, hj => exact Or.inr ⟨by omega, hj, by omega⟩
  | 10, hj => exact Or.inr ⟨by omega, hj, by omega⟩
  | 11, hj => exact Or.inr ⟨by omega, hj, fun _ => pw_c1_2 h1 (Option.some.inj hj)⟩
  | 12, hj => exact Or.inl ⟨rfl, (Option.some.inj (Option.some.inj hj)).symm⟩
  | j + 13, hj => exact Or.inr ⟨by omega, hj, by omega⟩
theorem pw_astore_13 {v0 v1 v2 v3 v4 v5 v6 v7 v8 v9 v10 v11 v12 : Option Value} {o : Option Value} {t : List (Option Value)} {x : Nat} (d : decode (mB M) pc = .ok (.astore 13, 2)) (hn : 13 < mL M) (k : PW X M b1 b2 (pc + 2) (v0 :: v1 :: v2 :: v3 :: v4 :: v5 :: v6 :: v7 :: v8 :: v9 :: v10 :: v11 :: v12 :: some (.ref x) :: t) st σ μ Q) (h1 : pw_c1 v12 = v12 := by rfl) : PW X M b1 b2 pc (v0 :: v1 :: v2 :: v3 :: v4 :: v5 :: v6 :: v7 :: v8 :: v9 :: v10 :: v11 :: v12 :: o :: t) (.ref x :: st) σ μ Q := by
  refine pw_astore_g (ls' := v0 :: v1 :: v2 :: v3 :: v4 :: v5 :: v6 :: v7 :: v8 :: v9 :: v10 :: v11 :: v12 :: some (.ref x) :: t) d hn ?_ k
  intro j w hj
  match j, hj with
  | 0, hj => exact Or.inr ⟨by omega, hj, by omega⟩
  | 1, hj => exact Or.inr ⟨by omega, hj, by omega⟩
  | 2, hj => exact Or.inr ⟨by omega, hj, by omega⟩
  | 3, hj => exact Or.inr ⟨by omega, hj, by omega⟩
  | 4, hj => exact Or.inr ⟨by omega, hj, by omega⟩
  | 5, hj => exact Or.inr ⟨by omega, hj, by omega⟩
  | 6, hj => exact Or.inr ⟨by omega, hj, by omega⟩
  | 7, hj => exact Or.inr ⟨by omega, hj, by omega⟩
  | 8, hj => exact Or.inr ⟨by omega, hj, by omega⟩
  | 9, hj => exact Or.inr ⟨by omega, hj, by omega⟩
  | 10, hj => exact Or.inr ⟨by omega, hj, by omega⟩
  | 11, hj => exact Or.inr ⟨by omega, hj, by omega⟩
  | 12, hj => exact Or.inr ⟨by omega, hj, fun _ => pw_c1_2 h1 (Option.some.inj hj)⟩
  | 13, hj => exact Or.inl ⟨rfl, (Option.some.inj (Option.some.inj hj)).symm⟩
  | j + 14, hj => exact Or.inr ⟨by omega, hj, by omega⟩
theorem pw_astore_14 {v0 v1 v2 v3 v4 v5 v6 v7 v8 v9 v10 v11 v12 v13 : Option Value} {o : Option Value} {t : List (Option Value)} {x : Nat} (d : decode (mB M) pc = .ok (.astore 14, 2)) (hn : 14 < mL M) (k : PW X M b1 b2 (pc + 2) (v0 :: v1 :: v2 :: v3 :: v4 :: v5 :: v6 :: v7 :: v8 :: v9 :: v10 :: v11 :: v12 :: v13 :: some (.ref x) :: t) st σ μ Q) (h1 : pw_c1 v13 = v13 := by rfl) : PW X M b1 b2 pc (v0 :: v1 :: v2 :: v3 :: v4 :: v5 :: v6 :: v7 :: v8 :: v9 :: v10 :: v11 :: v12 :: v13 :: o :: t) (.ref x :: st) σ μ Q := by
  refine pw_astore_g (ls' := v0 :: v1 :: v2 :: v3 :: v4 :: v5 :: v6 :: v7 :: v8 :: v9 :: v10 :: v11 :: v12 :: v13 :: some (.ref x) :: t) d hn ?_ k
  intro j w hj
  match j, hj with
  | 0, hj => exact Or.inr ⟨by omega, hj, by omega⟩
  | 1, hj => exact Or.inr ⟨by omega, hj, by omega⟩
  | 2, hj => exact Or.inr ⟨by omega, hj, by omega⟩
  | 3, hj => exact Or.inr ⟨by omega, hj, by omega⟩
  | 4, hj => exact Or.inr ⟨by omega, hj, by omega⟩
  | 5, hj => exact Or.inr ⟨by omega, hj, by omega⟩
  | 6, hj => exact Or.inr ⟨by omega, hj, by omega⟩
  | 7, hj => exact Or.inr ⟨by omega, hj, by omega⟩
  | 8, hj => exact Or.inr ⟨by omega, hj, by omega⟩
  | 9, hj => exact Or.inr ⟨by omega, hj, by omega⟩
  | 10, hj => exact Or.inr ⟨by omega, hj, by omega⟩
  | 11, hj => exact Or.inr ⟨by omega, hj, by omega⟩
  | 12, hj => exact Or.inr ⟨by omega, hj, by omega⟩
  | 13, hj => exact Or.inr ⟨by omega, hj, fun _ => pw_c1_2 h1 (Option.some.inj hj)⟩
  | 14, hj => exact Or.inl ⟨rfl, (Option.some.inj (Option.some.inj hj)).symm⟩
  | j + 15, hj => exact Or.inr ⟨by omega, hj, by omega⟩
theorem pw_astore_15 {v0 v1 v2 v3 v4 v5 v6 v7 v8 v9 v10 v11 v12 v13 v14 : Option Value} {o : Option Value} {t : List (Option Value)} {x : Nat} (d : decode (mB M) pc = .ok (.astore 15, 2)) (hn : 15 < mL M) (k : PW X M b1 b2 (pc + 2) (v0 :: v1 :: v2 :: v3 :: v4 :: v5 :: v6 :: v7 :: v8 :: v9 :: v10 :: v11 :: v12 :: v13 :: v14 :: some (.ref x) :: t) st σ μ Q) (h1 : pw_c1 v14 = v14 := by rfl) : PW X M b1 b2 pc (v0 :: v1 :: v2 :: v3 :: v4 :: v5 :: v6 :: v7 :: v8 :: v9 :: v10 :: v11 :: v12 :: v13 :: v14 :: o :: t) (.ref x :: st) σ μ Q := by
  refine pw_astore_g (ls' := v0 :: v1 :: v2 :: v3 :: v4 :: v5 :: v6 :: v7 :: v8 :: v9 :: v10 :: v11 :: v12 :: v13 :: v14 :: some (.ref x) :: t) d hn ?_ k
  intro j w hj
  match j, hj with
  | 0, hj => exact Or.inr ⟨by omega, hj, by omega⟩
  | 1, hj => exact Or.inr ⟨by omega, hj, by omega⟩
  | 2, hj => exact Or.inr ⟨by omega, hj, by omega⟩
  | 3, hj => exact Or.inr ⟨by omega, hj, by omega⟩
  | 4, hj => exact Or.inr ⟨by omega, hj, by omega⟩
  | 5, hj => exact Or.inr ⟨by omega, hj, by omega⟩
  | 6, hj => exact Or.inr ⟨by omega, hj, by omega⟩
  | 7, hj => exact Or.inr ⟨by omega, hj, by omega⟩
  | 8, hj => exact Or.inr ⟨by omega, hj, by omega⟩
  | 9, hj => exact Or.inr ⟨by omega, hj, by omega⟩
  | 10, hj => exact Or.inr ⟨by omega, hj, by omega⟩
  | 11, hj => exact Or.inr ⟨by omega, hj, by omega⟩
  | 12, hj => exact Or.inr ⟨by omega, hj, by omega⟩
  | 13, hj => exact Or.inr ⟨by omega, hj, by omega⟩
  | 14, hj => exact Or.inr ⟨by omega, hj, fun _ => pw_c1_2 h1 (Option.some.inj hj)⟩
  | 15, hj => exact Or.inl ⟨rfl, (Option.some.inj (Option.some.inj hj)).symm⟩
  | j + 16, hj => exact Or.inr ⟨by omega, hj, by omega⟩
theorem pw_astore_16 {v0 v1 v2 v3 v4 v5 v6 v7 v8 v9 v10 v11 v12 v13 v14 v15 : Option Value} {o : Option Value} {t : List (Option Value)} {x : Nat} (d : decode (mB M) pc = .ok (.astore 16, 2)) (hn : 16 < mL M) (k : PW X M b1 b2 (pc + 2) (v0 :: v1 :: v2 :: v3 :: v4 :: v5 :: v6 :: v7 :: v8 :: v9 :: v10 :: v11 :: v12 :: v13 :: v14 :: v15 :: some (.ref x) :: t) st σ μ Q) (h1 : pw_c1 v15 = v15 := by rfl) : PW X M b1 b2 pc (v0 :: v1 :: v2 :: v3 :: v4 :: v5 :: v6 :: v7 :: v8 :: v9 :: v10 :: v11 :: v12 :: v13 :: v14 :: v15 :: o :: t) (.ref x :: st) σ μ Q := by
  refine pw_astore_g (ls' := v0 :: v1 :: v2 :: v3 :: v4 :: v5 :: v6 :: v7 :: v8 :: v9 :: v10 :: v11 :: v12 :: v13 :: v14 :: v15 :: some (.ref x) :: t) d hn ?_ k
  intro j w hj
  match j, hj with
  | 0, hj => exact Or.inr ⟨by omega, hj, by omega⟩
  | 1, hj => exact Or.inr ⟨by omega, hj, by omega⟩
  | 2, hj => exact Or.inr ⟨by omega, hj, by omega⟩
  | 3, hj => exact Or.inr ⟨by omega, hj, by omega⟩
  | 4, hj => exact Or.inr ⟨by omega, hj, by omega⟩
  | 5, hj => exact Or.inr ⟨by omega, hj, by omega⟩
  | 6, hj => exact Or.inr ⟨by omega, hj, by omega⟩
  | 7, hj => exact Or.inr ⟨by omega, hj, by omega⟩
  | 8, hj => exact Or.inr ⟨by omega, hj, by omega⟩
  | 9, hj => exact Or.inr ⟨by omega, hj, by omega⟩
  | 10, hj => exact Or.inr ⟨by omega, hj, by omega⟩
  | 11, hj => exact Or.inr ⟨by omega, hj, by omega⟩
  | 12, hj => exact Or.inr ⟨by omega, hj, by omega⟩
  | 13, hj => exact Or.inr ⟨by omega, hj, by omega⟩
  | 14, hj => exact Or.inr ⟨by omega, hj, by omega⟩
  | 15, hj => exact Or.inr ⟨by omega, hj, fun _ => pw_c1_2 h1 (Option.some.inj hj)⟩
  | 16, hj => exact Or.inl ⟨rfl, (Option.some.inj (Option.some.inj hj)).symm⟩
  | j + 17, hj => exact Or.inr ⟨by omega, hj, by omega⟩
theorem pw_astore_17 {v0 v1 v2 v3 v4 v5 v6 v7 v8 v9 v10 v11 v12 v13 v14 v15 v16 : Option Value} {o : Option Value} {t : List (Option Value)} {x : Nat} (d : decode (mB M) pc = .ok (.astore 17, 2)) (hn : 17 < mL M) (k : PW X M b1 b2 (pc + 2) (v0 :: v1 :: v2 :: v3 :: v4 :: v5 :: v6 :: v7 :: v8 :: v9 :: v10 :: v11 :: v12 :: v13 :: v14 :: v15 :: v16 :: some (.ref x) :: t) st σ μ Q) (h1 : pw_c1 v16 = v16 := by rfl) : PW X M b1 b2 pc (v0 :: v1 :: v2 :: v3 :: v4 :: v5 :: v6 :: v7 :: v8 :: v9 :: v10 :: v11 :: v12 :: v13 :: v14 :: v15 :: v16 :: o :: t) (.ref x :: st) σ μ Q := by
  refine pw_astore_g (ls' := v0 :: v1 :: v2 :: v3 :: v4 :: v5 :: v6 :: v7 :: v8 :: v9 :: v10 :: v11 :: v12 :: v13 :: v14 :: v15 :: v16 :: some (.ref x) :: t) d hn ?_ k
  intro j w hj
  match j, hj with
  | 0, hj => exact Or.inr ⟨by omega, hj, by omega⟩
  | 1, hj => exact Or.inr ⟨by omega, hj, by omega⟩
  | 2, hj => exact Or.inr ⟨by omega, hj, by omega⟩
  | 3, hj => exact Or.inr ⟨by omega, hj, by omega⟩
  | 4, hj => exact Or.inr ⟨by omega, hj, by omega⟩
  | 5, hj => exact Or.inr ⟨by omega, hj, by omega⟩
  | 6, hj => exact Or.inr ⟨by omega, hj, by omega⟩
  | 7, hj => exact Or.inr ⟨by omega, hj, by omega⟩
  | 8, hj => exact Or.inr ⟨by omega, hj, by omega⟩
  | 9, hj => exact Or.inr ⟨by omega, hj, by omega⟩
  | 10, hj => exact Or.inr ⟨by omega, hj, by omega⟩
  | 11, hj => exact Or.inr ⟨by omega, hj, by omega⟩
  | 12, hj => exact Or.inr ⟨by omega, hj, by omega⟩
  | 13, hj => exact Or.inr ⟨by omega, hj, by omega⟩
  | 14, hj => exact Or.inr ⟨by omega, hj, by omega⟩
  | 15, hj => exact Or.inr ⟨by omega, hj, by omega⟩
  | 16, hj => exact Or.inr ⟨by omega, hj, fun _ => pw_c1_2 h1 (Option.some.inj hj)⟩
  | 17, hj => exact Or.inl ⟨rfl, (Option.some.inj (Option.some.inj hj)).symm⟩
  | j + 18, hj => exact Or.inr ⟨by omega, hj, by omega⟩
theorem pw_astore_18 {v0 v1 v2 v3 v4 v5 v6 v7 v8 v9 v10 v11 v12 v13 v14 v15 v16 v17 : Option Value} {o : Option Value} {t : List (Option Value)} {x : Nat} (d : decode (mB M) pc = .ok (.astore 18, 2)) (hn : 18 < mL M) (k : PW X M b1 b2 (pc + 2) (v0 :: v1 :: v2 :: v3 :: v4 :: v5 :: v6 :: v7 :: v8 :: v9 :: v10 :: v11 :: v12 :: v13 :: v14 :: v15 :: v16 :: v17 :: some (.ref x) :: t) st σ μ Q) (h1 : pw_c1 v17 = v17 := by rfl) : PW X M b1 b2 pc (v0 :: v1 :: v2 :: v3 :: v4 :: v5 :: v6 :: v7 :: v8 :: v9 :: v10 :: v11 :: v12 :: v13 :: v14 :: v15 :: v16 :: v17 :: o :: t) (.ref x :: st) σ μ Q := by
  refine pw_astore_g (ls' := v0 :: v1 :: v2 :: v3 :: v4 :: v5 :: v6 :: v7 :: v8 :: v9 :: v10 :: v11 :: v12 :: v13 :: v14 :: v15 :: v16 :: v17 :: some (.ref x) :: t) d hn ?_ k
  intro j w hj
  match j, hj with
  | 0, hj => exact Or.inr ⟨by omega, hj, by omega⟩
  | 1, hj => exact Or.inr ⟨by omega, hj, by omega⟩
  | 2, hj => exact Or.inr ⟨by omega, hj, by omega⟩
  | 3, hj => exact Or.inr ⟨by omega, hj, by omega⟩
  | 4, hj => exact Or.inr ⟨by omega, hj, by omega⟩
  | 5, hj => exact Or.inr ⟨by omega, hj, by omega⟩
  | 6, hj => exact Or.inr ⟨by omega, hj, by omega⟩
  | 7, hj => exact Or.inr ⟨by omega, hj, by omega⟩
  | 8, hj => exact Or.inr ⟨by omega, hj, by omega⟩
  | 9, hj => exact Or.inr ⟨by omega, hj, by omega⟩
  | 10, hj => exact Or.inr ⟨by omega, hj, by omega⟩
  | 11, hj => exact Or.inr ⟨by omega, hj, by omega⟩
  | 12, hj => exact Or.inr ⟨by omega, hj, by omega⟩
  | 13, hj => exact Or.inr ⟨by omega, hj, by omega⟩
  | 14, hj => exact Or.inr ⟨by omega, hj, by omega⟩
  | 15, hj => exact Or.inr ⟨by omega, hj, by omega⟩
  | 16, hj => exact Or.inr ⟨by omega, hj, by omega⟩
  | 17, hj => exact Or.inr ⟨by omega, hj, fun _ => pw_c1_2 h1 (Option.some.inj hj)⟩
  | 18, hj => exact Or.inl ⟨rfl, (Option.some.inj (Option.some.inj hj)).symm⟩
  | j + 19, hj => exact Or.inr ⟨by omega, hj, by omega⟩
theorem pw_astore_19 {v0 v1 v2 v3 v4 v5 v6 v7 v8 v9 v10 v11 v12 v13 v14 v15 v16 v17 v18 : Option Value} {o : Option Value} {t : List (Option Value)} {x : Nat} (d : decode (mB M) pc = .ok (.astore 19, 2)) (hn : 19 < mL M) (k : PW X M b1 b2 (pc + 2) (v0 :: v1 :: v2 :: v3 :: v4 :: v5 :: v6 :: v7 :: v8 :: v9 :: v10 :: v11 :: v12 :: v13 :: v14 :: v15 :: v16 :: v17 :: v18 :: some (.ref x) :: t) st σ μ Q) (h1 : pw_c1 v18 = v18 := by rfl) : PW X M b1 b2 pc (v0 :: v1 :: v2 :: v3 :: v4 :: v5 :: v6 :: v7 :: v8 :: v9 :: v10 :: v11 :: v12 :: v13 :: v14 :: v15 :: v16 :: v17 :: v18 :: o :: t) (.ref x :: st) σ μ Q := by
  refine pw_astore_g (ls' := v0 :: v1 :: v2 :: v3 :: v4 :: v5 :: v6 :: v7 :: v8 :: v9 :: v10 :: v11 :: v12 :: v13 :: v14 :: v15 :: v16 :: v17 :: v18 :: some (.ref x) :: t) d hn ?_ k
  intro j w hj
  match j, hj with
  | 0, hj => exact Or.inr ⟨by omega, hj, by omega⟩
  | 1, hj => exact Or.inr ⟨by omega, hj, by omega⟩
  | 2, hj => exact Or.inr ⟨by omega, hj, by omega⟩
  | 3, hj => exact Or.inr ⟨by omega, hj, by omega⟩
  | 4, hj => exact Or.inr ⟨by omega, hj, by omega⟩
  | 5, hj => exact Or.inr ⟨by omega, hj, by omega⟩
  | 6, hj => exact Or.inr ⟨by omega, hj, by omega⟩
  | 7, hj => exact Or.inr ⟨by omega, hj, by omega⟩
  | 8, hj => exact Or.inr ⟨by omega, hj, by omega⟩
  | 9, hj => exact Or.inr ⟨by omega, hj, by omega⟩
  | 10, hj => exact Or.inr ⟨by omega, hj, by omega⟩
  | 11, hj => exact Or.inr ⟨by omega, hj, by omega⟩
  | 12, hj => exact Or.inr ⟨by omega, hj, by omega⟩
  | 13, hj => exact Or.inr ⟨by omega, hj, by omega⟩
  | 14, hj => exact Or.inr ⟨by omega, hj, by omega⟩
  | 15, hj => exact Or.inr ⟨by omega, hj, by omega⟩
  | 16, hj => exact Or.inr ⟨by omega, hj, by omega⟩
  | 17, hj => exact Or.inr ⟨by omega, hj, by omega⟩
  | 18, hj => exact Or.inr ⟨by omega, hj, fun _ => pw_c1_2 h1 (Option.some.inj hj)⟩
  | 19, hj => exact Or.inl ⟨rfl, (Option.some.inj (Option.some.inj hj)).symm⟩
  | j + 20, hj => exact Or.inr ⟨by omega, hj, by omega⟩
theorem pw_astore_20 {v0 v1 v2 v3 v4 v5 v6 v7 v8 v9 v10 v11 v12 v13 v14 v15 v16 v17 v18 v19 : Option Value} {o : Option Value} {t : List (Option Value)} {x : Nat} (d : decode (mB M) pc = .ok (.astore 20, 2)) (hn : 20 < mL M) (k : PW X M b1 b2 (pc + 2) (v0 :: v1 :: v2 :: v3 :: v4 :: v5 :: v6 :: v7 :: v8 :: v9 :: v10 :: v11 :: v12 :: v13 :: v14 :: v15 :: v16 :: v17 :: v18 :: v19 :: some (.ref x) :: t) st σ μ Q) (h1 : pw_c1 v19 = v19 := by rfl) : PW X M b1 b2 pc (v0 :: v1 :: v2 :: v3 :: v4 :: v5 :: v6 :: v7 :: v8 :: v9 :: v10 :: v11 :: v12 :: v13 :: v14 :: v15 :: v16 :: v17 :: v18 :: v19 :: o :: t) (.ref x :: st) σ μ Q := by
  refine pw_astore_g (ls' := v0 :: v1 :: v2 :: v3 :: v4 :: v5 :: v6 :: v7 :: v8 :: v9 :: v10 :: v11 :: v12 :: v13 :: v14 :: v15 :: v16 :: v17 :: v18 :: v19 :: some (.ref x) :: t) d hn ?_ k
  intro j w hj
  match j, hj with
  | 0, hj => exact Or.inr ⟨by omega, hj, by omega⟩
  | 1, hj => exact Or.inr ⟨by omega, hj, by omega⟩
  | 2, hj => exact Or.inr ⟨by omega, hj, by omega⟩
  | 3, hj => exact Or.inr ⟨by omega, hj, by omega⟩
  | 4, hj => exact Or.inr ⟨by omega, hj, by omega⟩
  | 5, hj => exact Or.inr ⟨by omega, hj, by omega⟩
  | 6, hj => exact Or.inr ⟨by omega, hj, by omega⟩
  | 7, hj => exact Or.inr ⟨by omega, hj, by omega⟩
  | 8, hj => exact Or.inr ⟨by omega, hj, by omega⟩
  | 9, hj => exact Or.inr ⟨by omega, hj, by omega⟩
  | 10, hj => exact Or.inr ⟨by omega, hj, by omega⟩
  | 11, hj => exact Or.inr ⟨by omega, hj, by omega⟩
  | 12, hj => exact Or.inr ⟨by omega, hj, by omega⟩
  | 13, hj => exact Or.inr ⟨by omega, hj, by omega⟩
  | 14, hj => exact Or.inr ⟨by omega, hj, by omega⟩
  | 15, hj => exact Or.inr ⟨by omega, hj, by omega⟩
  | 16, hj => exact Or.inr ⟨by omega, hj, by omega⟩
  | 17, hj => exact Or.inr ⟨by omega, hj, by omega⟩
  | 18, hj => exact Or.inr ⟨by omega, hj, by omega⟩
  | 19, hj => exact Or.inr ⟨by omega, hj, fun _ => pw_c1_2 h1 (Option.some.inj hj)⟩
  | 20, hj => exact Or.inl ⟨rfl, (Option.some.inj (Option.some.inj hj)).symm⟩
  | j + 21, hj => exact Or.inr ⟨by omega, hj, by omega⟩
theorem pw_astore_21 {v0 v1 v2 v3 v4 v5 v6 v7 v8 v9 v10 v11 v12 v13 v14 v15 v16 v17 v18 v19 v20 : Option Value} {o : Option Value} {t : List (Option Value)} {x : Nat} (d : decode (mB M) pc = .ok (.astore 21, 2)) (hn : 21 < mL M) (k : PW X M b1 b2 (pc + 2) (v0 :: v1 :: v2 :: v3 :: v4 :: v5 :: v6 :: v7 :: v8 :: v9 :: v10 :: v11 :: v12 :: v13 :: v14 :: v15 :: v16 :: v17 :: v18 :: v19 :: v20 :: some (.ref x) :: t) st σ μ Q) (h1 : pw_c1 v20 = v20 := by rfl) : PW X M b1 b2 pc (v0 :: v1 :: v2 :: v3 :: v4 :: v5 :: v6 :: v7 :: v8 :: v9 :: v10 :: v11 :: v12 :: v13 :: v14 :: v15 :: v16 :: v17 :: v18 :: v19 :: v20 :: o :: t) (.ref x :: st) σ μ Q := by
  refine pw_astore_g (ls' := v0 :: v1 :: v2 :: v3 :: v4 :: v5 :: v6 :: v7 :: v8 :: v9 :: v10 :: v11 :: v12 :: v13 :: v14 :: v15 :: v16 :: v17 :: v18 :: v19 :: v20 :: some (.ref x) :: t) d hn ?_ k
  intro j w hj
  match j, hj with
  | 0, hj => exact Or.inr ⟨by omega, hj, by omega⟩
  | 1, hj => exact Or.inr ⟨by omega, hj, by omega⟩
  | 2, hj => exact Or.inr ⟨by omega, hj, by omega⟩
  | 3, hj => exact Or.inr ⟨by omega, hj, by omega⟩
  | 4, hj => exact Or.inr ⟨by omega, hj, by omega⟩
  | 5, hj => exact Or.inr ⟨by omega, hj, by omega⟩
  | 6, hj => exact Or.inr ⟨by omega, hj, by omega⟩
  | 7, hj => exact Or.inr ⟨by omega, hj, by omega⟩
  | 8, hj => exact Or.inr ⟨by omega, hj, by omega⟩
  | 9, hj => exact Or.inr ⟨by omega, hj, by omega⟩
  | 10, hj => exact Or.inr ⟨by omega, hj, by omega⟩
  | 11, hj => exact Or.inr ⟨by omega, hj, by omega⟩
  | 12, hj => exact Or.inr ⟨by omega, hj, by omega⟩
  | 13, hj => exact Or.inr ⟨by omega, hj, by omega⟩
  | 14, hj => exact Or.inr ⟨by omega, hj, by omega⟩
  | 15, hj => exact Or.inr ⟨by omega, hj, by omega⟩
  | 16, hj => exact Or.inr ⟨by omega, hj, by omega⟩
  | 17, hj => exact Or.inr ⟨by omega, hj, by omega⟩
  | 18, hj => exact Or.inr ⟨by omega, hj, by omega⟩
  | 19, hj => exact Or.inr ⟨by omega, hj, by omega⟩
  | 20, hj => exact Or.inr ⟨by omega, hj, fun _ => pw_c1_2 h1 (Option.some.inj hj)⟩
  | 21, hj => exact Or.inl ⟨rfl, (Option.some.inj (Option.some.inj hj)).symm⟩
  | j + 22, hj => exact Or.inr ⟨by omega, hj, by omega⟩
theorem pw_astore_22 {v0 v1 v2 v3 v4 v5 v6 v7 v8 v9 v10 v11 v12 v13 v14 v15 v16 v17 v18 v19 v20 v21 : Option Value} {o : Option Value} {t : List (Option Value)} {x : Nat} (d : decode (mB M) pc = .ok (.astore 22, 2)) (hn : 22 < mL M) (k : PW X M b1 b2 (pc + 2) (v0 :: v1 :: v2 :: v3 :: v4 :: v5 :: v6 :: v7 :: v8 :: v9 :: v10 :: v11 :: v12 :: v13 :: v14 :: v15 :: v16 :: v17 :: v18 :: v19 :: v20 :: v21 :: some (.ref x) :: t) st σ μ Q) (h1 : pw_c1 v21 = v21 := by rfl) : PW X M b1 b2 pc (v0 :: v1 :: v2 :: v3 :: v4 :: v5 :: v6 :: v7 :: v8 :: v9 :: v10 :: v11 :: v12 :: v13 :: v14 :: v15 :: v16 :: v17 :: v18 :: v19 :: v20 :: v21 :: o :: t) (.ref x :: st) σ μ Q := by
  refine pw_astore_g (ls' := v0 :: v1 :: v2 :: v3 :: v4 :: v5 :: v6 :: v7 :: v8 :: v9 :: v10 :: v11 :: v12 :: v13 :: v14 :: v15 :: v16 :: v17 :: v18 :: v19 :: v20 :: v21 :: some (.ref x) :: t) d hn ?_ k
  intro j w hj
  match j, hj with
  | 0, hj => exact Or.inr ⟨by omega, hj, by omega⟩
  | 1, hj => exact Or.inr ⟨by omega, hj, by omega⟩
  | 2, hj => exact Or.inr ⟨by omega, hj, by omega⟩
  | 3, hj => exact Or.inr ⟨by omega, hj, by omega⟩
  | 4, hj => exact Or.inr ⟨by omega, hj, by omega⟩
  | 5, hj => exact Or.inr ⟨by omega, hj, by omega⟩
  | 6, hj => exact Or.inr ⟨by omega, hj, by omega⟩
  | 7, hj => exact Or.inr ⟨by omega, hj, by omega⟩
  | 8, hj => exact Or.inr ⟨by omega, hj, by omega⟩
  | 9, hj => exact Or.inr ⟨by omega, hj, by omega⟩
  | 10, hj => exact Or.inr ⟨by omega, hj, by omega⟩
  | 11, hj => exact Or.inr ⟨by omega, hj, by omega⟩
  | 12, hj => exact Or.inr ⟨by omega, hj, by omega⟩
  | 13, hj => exact Or.inr ⟨by omega, hj, by omega⟩
  | 14, hj => exact Or.inr ⟨by omega, hj, by omega⟩
  | 15, hj => exact Or.inr ⟨by omega, hj, by omega⟩
  | 16, hj => exact Or.inr ⟨by omega, hj, by omega⟩
  | 17, hj => exact Or.inr ⟨by omega, hj, by omega⟩
  | 18, hj => exact Or.inr ⟨by omega, hj, by omega⟩
  | 19, hj => exact Or.inr ⟨by omega, hj, by omega⟩
  | 20, hj => exact Or.inr ⟨by omega, hj, by omega⟩
  | 21, hj => exact Or.inr ⟨by omega, hj, fun _ => pw_c1_2 h1 (Option.some.inj hj)⟩
  | 22, hj => exact Or.inl ⟨rfl, (Option.some.inj (Option.some.inj hj)).symm⟩
  | j + 23, hj => exact Or.inr ⟨by omega, hj, by omega⟩
theorem pw_astore_23 {v0 v1 v2 v3 v4 v5 v6 v7 v8 v9 v10 v11 v12 v13 v14 v15 v16 v17 v18 v19 v20 v21 v22 : Option Value} {o : Option Value} {t : List (Option Value)} {x : Nat} (d : decode (mB M) pc = .ok (.astore 23, 2)) (hn : 23 < mL M) (k : PW X M b1 b2 (pc + 2) (v0 :: v1 :: v2 :: v3 :: v4 :: v5 :: v6 :: v7 :: v8 :: v9 :: v10 :: v11 :: v12 :: v13 :: v14 :: v15 :: v16 :: v17 :: v18 :: v19 :: v20 :: v21 :: v22 :: some (.ref x) :: t) st σ μ Q) (h1 : pw_c1 v22 = v22 := by rfl) : PW X M b1 b2 pc (v0 :: v1 :: v2 :: v3 :: v4 :: v5 :: v6 :: v7 :: v8 :: v9 :: v10 :: v11 :: v12 :: v13 :: v14 :: v15 :: v16 :: v17 :: v18 :: v19 :: v20 :: v21 :: v22 :: o :: t) (.ref x :: st) σ μ Q := by
  refine pw_astore_g (ls' := v0 :: v1 :: v2 :: v3 :: v4 :: v5 :: v6 :: v7 :: v8 :: v9 :: v10 :: v11 :: v12 :: v13 :: v14 :: v15 :: v16 :: v17 :: v18 :: v19 :: v20 :: v21 :: v22 :: some (.ref x) :: t) d hn ?_ k
  intro j w hj
  match j, hj with
  | 0, hj => exact Or.inr ⟨by omega, hj, by omega⟩
  | 1, hj => exact Or.inr ⟨by omega, hj, by omega⟩
  | 2, hj => exact Or.inr ⟨by omega, hj, by omega⟩
  | 3, hj => exact Or.inr ⟨by omega, hj, by omega⟩
  | 4, hj => exact Or.inr ⟨by omega, hj, by omega⟩
  | 5, hj => exact Or.inr ⟨by omega, hj, by omega⟩
  | 6, hj => exact Or.inr ⟨by omega, hj, by omega⟩
  | 7, hj => exact Or.inr ⟨by omega, hj, by omega⟩
  | 8, hj => exact Or.inr ⟨by omega, hj, by omega⟩
  | 9, hj => exact Or.inr ⟨by omega, hj, by omega⟩
  | 10, hj => exact Or.inr ⟨by omega, hj, by omega⟩
  | 11, hj => exact Or.inr ⟨by omega, hj, by omega⟩
  | 12, hj => exact Or.inr ⟨by omega, hj, by omega⟩
  | 13, hj => exact Or.inr ⟨by omega, hj, by omega⟩
  | 14, hj => exact Or.inr ⟨by omega, hj, by omega⟩
  | 15, hj => exact Or.inr ⟨by omega, hj, by omega⟩
  | 16, hj => exact Or.inr ⟨by omega, hj, by omega⟩
  | 17, hj => exact Or.inr ⟨by omega, hj, by omega⟩
  | 18, hj => exact Or.inr ⟨by omega, hj, by omega⟩
  | 19, hj => exact Or.inr ⟨by omega, hj, by omega⟩
  | 20, hj => exact Or.inr ⟨by omega, hj, by omega⟩
  | 21, hj => exact Or.inr ⟨by omega, hj, by omega⟩
  | 22, hj => exact Or.inr ⟨by omega, hj, fun _ => pw_c1_2 h1 (Option.some.inj hj)⟩
  | 23, hj => exact Or.inl ⟨rfl, (Option.some.inj (Option.some.inj hj)).symm⟩
  | j + 24, hj => exact Or.inr ⟨by omega, hj, by omega⟩
theorem pw_astore_24 {v0 v1 v2 v3 v4 v5 v6 v7 v8 v9 v10 v11 v12 v13 v14 v15 v16 v17 v18 v19 v20 v21 v22 v23 : Option Value} {o : Option Value} {t : List (Option Value)} {x : Nat} (d : decode (mB M) pc = .ok (.astore 24, 2)) (hn : 24 < mL M) (k : PW X M b1 b2 (pc + 2) (v0 :: v1 :: v2 :: v3 :: v4 :: v5 :: v6 :: v7 :: v8 :: v9 :: v10 :: v11 :: v12 :: v13 :: v14 :: v15 :: v16 :: v17 :: v18 :: v19 :: v20 :: v21 :: v22 :: v23 :: some (.ref x) :: t) st σ μ Q) (h1 : pw_c1 v23 = v23 := by rfl) : PW X M b1 b2 pc (v0 :: v1 :: v2 :: v3 :: v4 :: v5 :: v6 :: v7 :: v8 :: v9 :: v10 :: v11 :: v12 :: v13 :: v14 :: v15 :: v16 :: v17 :: v18 :: v19 :: v20 :: v21 :: v22 :: v23 :: o :: t) (.ref x :: st) σ μ Q := by
  refine pw_astore_g (ls' := v0 :: v1 :: v2 :: v3 :: v4 :: v5 :: v6 :: v7 :: v8 :: v9 :: v10 :: v11 :: v12 :: v13 :: v14 :: v15 :: v16 :: v17 :: v18 :: v19 :: v20 :: v21 :: v22 :: v23 :: some (.ref x) :: t) d hn ?_ k
  intro j w hj
  match j, hj with
  | 0, hj => exact Or.inr ⟨by omega, hj, by omega⟩
  | 1, hj => exact Or.inr ⟨by omega, hj, by omega⟩
  | 2, hj => exact Or.inr ⟨by omega, hj, by omega⟩
  | 3, hj => exact Or.inr ⟨by omega, hj, by omega⟩
  | 4, hj => exact Or.inr ⟨by omega, hj, by omega⟩
  | 5, hj => exact Or.inr ⟨by omega, hj, by omega⟩
  | 6, hj => exact Or.inr ⟨by omega, hj, by omega⟩
  | 7, hj => exact Or.inr ⟨by omega, hj, by omega⟩
  | 8, hj => exact Or.inr ⟨by omega, hj, by omega⟩
  | 9, hj => exact Or.inr ⟨by omega, hj, by omega⟩
  | 10, hj => exact Or.inr ⟨by omega, hj, by omega⟩
  | 11, hj => exact Or.inr ⟨by omega, hj, by omega⟩
  | 12, hj => exact Or.inr ⟨by omega, hj, by omega⟩
  | 13, hj => exact Or.inr ⟨by omega, hj, by omega⟩
  | 14, hj => exact Or.inr ⟨by omega, hj, by omega⟩
  | 15, hj => exact Or.inr ⟨by omega, hj, by omega⟩
  | 16, hj => exact Or.inr ⟨by omega, hj, by omega⟩
  | 17, hj => exact Or.inr ⟨by omega, hj, by omega⟩
  | 18, hj => exact Or.inr ⟨by omega, hj, by omega⟩
  | 19, hj => exact Or.inr ⟨by omega, hj, by omega⟩
  | 20, hj => exact Or.inr ⟨by omega, hj, by omega⟩
  | 21, hj => exact Or.inr ⟨by omega, hj, by omega⟩
  | 22, hj => exact Or.inr ⟨by omega, hj, by omega⟩
  | 23, hj => exact Or.inr ⟨by omega, hj, fun _ => pw_c1_2 h1 (Option.some.inj hj)⟩
  | 24, hj => exact Or.inl ⟨rfl, (Option.some.inj (Option.some.inj hj)).symm⟩
  | j + 25, hj => exact Or.inr ⟨by omega, hj, by omega⟩
theorem pw_astore_25 {v0 v1 v2 v3 v4 v5 v6 v7 v8 v9 v10 v11 v12 v13 v14 v15 v16 v17 v18 v19 v20 v21 v22 v23 v24 : Option Value} {o : Option Value} {t : List (Option Value)} {x : Nat} (d : decode (mB M) pc = .ok (.astore 25, 2)) (hn : 25 < mL M) (k : PW X M b1 b2 (pc + 2) (v0 :: v1 :: v2 :: v3 :: v4 :: v5 :: v6 :: v7 :: v8 :: v9 :: v10 :: v11 :: v12 :: v13 :: v14 :: v15 :: v16 :: v17 :: v18 :: v19 :: v20 :: v21 :: v22 :: v23 :: v24 :: some (.ref x) :: t) st σ μ Q) (h1 : pw_c1 v24 = v24 := by rfl) : PW X M b1 b2 pc (v0 :: v1 :: v2 :: v3 :: v4 :: v5 :: v6 :: v7 :: v8 :: v9 :: v10 :: v11 :: v12 :: v13 :: v14 :: v15 :: v16 :: v17 :: v18 :: v19 :: v20 :: v21 :: v22 :: v23 :: v24 :: o :: t) (.ref x :: st) σ μ Q := by
  refine pw_astore_g (ls' := v0 :: v1 :: v2 :: v3 :: v4 :: v5 :: v6 :: v7 :: v8 :: v9 :: v10 :: v11 :: v12 :: v13 :: v14 :: v15 :: v16 :: v17 :: v18 :: v19 :: v20 :: v21 :: v22 :: v23 :: v24 :: some (.ref x) :: t) d hn ?_ k
  intro j w hj
  match j, hj with
  | 0, hj => exact Or.inr ⟨by omega, hj, by omega⟩
  | 1, hj => exact Or.inr ⟨by omega, hj, by omega⟩
  | 2, hj => exact Or.inr ⟨by omega, hj, by omega⟩
  | 3, hj => exact Or.inr ⟨by omega, hj, by omega⟩
  | 4, hj => exact Or.inr ⟨by omega, hj, by omega⟩
  | 5, hj => exact Or.inr ⟨by omega, hj, by omega⟩
  | 6, hj => exact Or.inr ⟨by omega, hj, by omega⟩
  | 7, hj => exact Or.inr ⟨by omega, hj, by omega⟩
  | 8, hj => exact Or.inr ⟨by omega, hj, by omega⟩
  | 9, hj => exact Or.inr ⟨by omega, hj, by omega⟩
  | 10, hj => exact Or.inr ⟨by omega, hj, by omega⟩
  | 11, hj => exact Or.inr ⟨by omega, hj, by omega⟩
  | 12, hj => exact Or.inr ⟨by omega, hj, by omega⟩
  | 13, hj => exact Or.inr ⟨by omega, hj, by omega⟩
  | 14, hj => exact Or.inr ⟨by omega, hj, by omega⟩
  | 15, hj => exact Or.inr ⟨by omega, hj, by omega⟩
  | 16, hj => exact Or.inr ⟨by omega, hj, by omega⟩
  | 17, hj => exact Or.inr ⟨by omega, hj, by omega⟩
  | 18, hj => exact Or.inr ⟨by omega, hj, by omega⟩
  | 19, hj => exact Or.inr ⟨by omega, hj, by omega⟩
  | 20, hj => exact Or.inr ⟨by omega, hj, by omega⟩
  | 21, hj => exact Or.inr ⟨by omega, hj, by omega⟩
  | 22, hj => exact Or.inr ⟨by omega, hj, by omega⟩
  | 23, hj => exact Or.inr ⟨by omega, hj, by omega⟩
  | 24, hj => exact Or.inr ⟨by omega, hj, fun _ => pw_c1_2 h1 (Option.some.inj hj)⟩
  | 25, hj => exact Or.inl ⟨rfl, (Option.some.inj (Option.some.inj hj)).symm⟩
  | j + 26, hj => exact Or.inr ⟨by omega, hj, by omega⟩
theorem pw_astore_26 {v0 v1 v2 v3 v4 v5 v6 v7 v8 v9 v10 v11 v12 v13 v14 v15 v16 v17 v18 v19 v20 v21 v22 v23 v24 v25 : Option Value} {o : Option Value} {t : List (Option Value)} {x : Nat} (d : decode (mB M) pc = .ok (.astore 26, 2)) (hn : 26 < mL M) (k : PW X M b1 b2 (pc + 2) (v0 :: v1 :: v2 :: v3 :: v4 :: v5 :: v6 :: v7 :: v8 :: v9 :: v10 :: v11 :: v12 :: v13 :: v14 :: v15 :: v16 :: v17 :: v18 :: v19 :: v20 :: v21 :: v22 :: v23 :: v24 :: v25 :: some (.ref x) :: t) st σ μ Q) (h1 : pw_c1 v25 = v25 := by rfl) : PW X M b1 b2 pc (v0 :: v1 :: v2 :: v3 :: v4 :: v5 :: v6 :: v7 :: v8 :: v9 :: v10 :: v11 :: v12 :: v13 :: v14 :: v15 :: v16 :: v17 :: v18 :: v19 :: v20 :: v21 :: v22 :: v23 :: v24 :: v25 :: o :: t) (.ref x :: st) σ μ Q := by
  refine pw_astore_g (ls' := v0 :: v1 :: v2 :: v3 :: v4 :: v5 :: v6 :: v7 :: v8 :: v9 :: v10 :: v11 :: v12 :: v13 :: v14 :: v15 :: v16 :: v17 :: v18 :: v19 :: v20 :: v21 :: v22 :: v23 :: v24 :: v25 :: some (.ref x) :: t) d hn ?_ k
  intro j w hj
  match j, hj with
  | 0, hj => exact Or.inr ⟨by omega, hj, by omega⟩
  | 1, hj => exact Or.inr ⟨by omega, hj, by omega⟩
  | 2, hj => exact Or.inr ⟨by omega, hj, by omega⟩
  | 3, hj => exact Or.inr ⟨by omega, hj, by omega⟩
  | 4, hj => exact Or.inr ⟨by omega, hj, by omega⟩
  | 5, hj => exact Or.inr ⟨by omega, hj, by omega⟩
  | 6, hj => exact Or.inr ⟨by omega, hj, by omega⟩
  | 7, hj => exact Or.inr ⟨by omega, hj, by omega⟩
  | 8, hj => exact Or.inr ⟨by omega, hj, by omega⟩
  | 9, hj => exact Or.inr ⟨by omega, hj, by omega⟩
  | 10, hj => exact Or.inr ⟨by omega, hj, by omega⟩
  | 11, hj => exact Or.inr ⟨by omega, hj, by omega⟩
  | 12, hj => exact Or.inr ⟨by omega, hj, by omega⟩
  | 13, hj => exact Or.inr ⟨by omega, hj, by omega⟩
  | 14, hj => exact Or.inr ⟨by omega, hj, by omega⟩
  | 15, hj => exact Or.inr ⟨by omega, hj, by omega⟩
  | 16, hj => exact Or.inr ⟨by omega, hj, by omega⟩
  | 17, hj => exact Or.inr ⟨by omega, hj, by omega⟩
  | 18, hj => exact Or.inr ⟨by omega, hj, by omega⟩
  | 19, hj => exact Or.inr ⟨by omega, hj, by omega⟩
  | 20, hj => exact Or.inr ⟨by omega, hj, by omega⟩
  | 21, hj => exact Or.inr ⟨by omega, hj, by omega⟩
  | 22, hj => exact Or.inr ⟨by omega, hj, by omega⟩
  | 23, hj => exact Or.inr ⟨by omega, hj, by omega⟩
  | 24, hj => exact Or.inr ⟨by omega, hj, by omega⟩
  | 25, hj => exact Or.inr ⟨by omega, hj, fun _ => pw_c1_2 h1 (Option.some.inj hj)⟩
  | 26, hj => exact Or.inl ⟨rfl, (Option.some.inj (Option.some.inj hj)).symm⟩
  | j + 27, hj => exact Or.inr ⟨by omega, hj, by omega⟩
theorem pw_lstore_0 {o o2 : Option Value} {t : List (Option Value)} {x : Int64} (d : decode (mB M) pc = .ok (.lstore_n 0, 1)) (hn : 0 + 1 < mL M) (k : PW X M b1 b2 (pc + 1) (some (.long x) :: none :: t) st σ μ Q) : PW X M b1 b2 pc (o :: o2 :: t) (.long x :: st) σ μ Q := by
  intro p e R s m args below meth c H locs cells slots ar Z B S P F L c1 c2 K
  refine lv_lstore_n B.1 B.2.1 d rfl (pw_Lal L) hn rfl (fun ar' h => k p e R s m args below meth c H locs cells slots ar' Z B S P F (pw_Lset2 (ls' := some (.long x) :: none :: t) h ?_) c1 c2 K)
  intro j w hj
  match j, hj with
  | 0, hj => exact Or.inl ⟨rfl, (Option.some.inj (Option.some.inj hj)).symm⟩
  | 1, hj => cases Option.some.inj hj
  | j + 2, hj => exact Or.inr ⟨by omega, by omega, hj, by omega⟩
theorem pw_lstore_1 {v0 : Option Value} {o o2 : Option Value} {t : List (Option Value)} {x : Int64} (d : decode (mB M) pc = .ok (.lstore_n 1, 1)) (hn : 1 + 1 < mL M) (k : PW X M b1 b2 (pc + 1) (v0 :: some (.long x) :: none :: t) st σ μ Q) (h1 : pw_c1 v0 = v0 := by rfl) : PW X M b1 b2 pc (v0 :: o :: o2 :: t) (.long x :: st) σ μ Q := by
  intro p e R s m args below meth c H locs cells slots ar Z B S P F L c1 c2 K
  refine lv_lstore_n B.1 B.2.1 d rfl (pw_Lal L) hn rfl (fun ar' h => k p e R s m args below meth c H locs cells slots ar' Z B S P F (pw_Lset2 (ls' := v0 :: some (.long x) :: none :: t) h ?_) c1 c2 K)
  intro j w hj
  match j, hj with
  | 0, hj => exact Or.inr ⟨by omega, by omega, hj, fun _ => pw_c1_2 h1 (Option.some.inj hj)⟩
  | 1, hj => exact Or.inl ⟨rfl, (Option.some.inj (Option.some.inj hj)).symm⟩
  | 2, hj => cases Option.some.inj hj
  | j + 3, hj => exact Or.inr ⟨by omega, by omega, hj, by omega⟩
theorem pw_lstore_2 {v0 v1 : Option Value} {o o2 : Option Value} {t : List (Option Value)} {x : Int64} (d : decode (mB M) pc = .ok (.lstore_n 2, 1)) (hn : 2 + 1 < mL M) (k : PW X M b1 b2 (pc + 1) (v0 :: v1 :: some (.long x) :: none :: t) st σ μ Q) (h1 : pw_c1 v1 = v1 := by rfl) : PW X M b1 b2 pc (v0 :: v1 :: o :: o2 :: t) (.long x :: st) σ μ Q := by
  intro p e R s m args below meth c H locs cells slots ar Z B S P F L c1 c2 K
  refine lv_lstore_n B.1 B.2.1 d rfl (pw_Lal L) hn rfl (fun ar' h => k p e R s m args below meth c H locs cells slots ar' Z B S P F (pw_Lset2 (ls' := v0 :: v1 :: some (.long x) :: none :: t) h ?_) c1 c2 K)
  intro j w hj
  match j, hj with
  | 0, hj => exact Or.inr ⟨by omega, by omega, hj, by omega⟩
  | 1, hj => exact Or.inr ⟨by omega, by omega, hj, fun _ => pw_c1_2 h1 (Option.some.inj hj)⟩
  | 2, hj => exact Or.inl ⟨rfl, (Option.some.inj (Option.some.inj hj)).symm⟩
  | 3, hj => cases Option.some.inj hj
  | j + 4, hj => exact Or.inr ⟨by omega, by omega, hj, by omega⟩
theorem pw_lstore_3 {v0 v1 v2 : Option Value} {o o2 : Option Value} {t : List (Option Value)} {x : Int64} (d : decode (mB M) pc = .ok (.lstore_n 3, 1)) (hn : 3 + 1 < mL M) (k : PW X M b1 b2 (pc + 1) (v0 :: v1 :: v2 :: some (.long x) :: none :: t) st σ μ Q) (h1 : pw_c1 v2 = v2 := by rfl) : PW X M b1 b2 pc (v0 :: v1 :: v2 :: o :: o2 :: t) (.long x :: st) σ μ Q := by
  intro p e R s m args below meth c H locs cells slots ar Z B S P F L c1 c2 K
  refine lv_lstore_n B.1 B.2.1 d rfl (pw_Lal L) hn rfl (fun ar' h => k p e R s m args below meth c H locs cells slots ar' Z B S P F (pw_Lset2 (ls' := v0 :: v1 :: v2 :: some (.long x) :: none :: t) h ?_) c1 c2 K)
  intro j w hj
  match j, hj with
  | 0, hj => exact Or.inr ⟨by omega, by omega, hj, by omega⟩
  | 1, hj => exact Or.inr ⟨by omega, by omega, hj, by omega⟩
  | 2, hj => exact Or.inr ⟨by omega, by omega, hj, fun _ => pw_c1_2 h1 (Option.some.inj hj)⟩
  | 3, hj => exact Or.inl ⟨rfl, (Option.some.inj (Option.some.inj hj)).symm⟩
  | 4, hj => cases Option.some.inj hj
  | j + 5, hj => exact Or.inr ⟨by omega, by omega, hj, by omega⟩
theorem pw_lstore_4 {v0 v1 v2 v3 : Option Value} {o o2 : Option Value} {t : List (Option Value)} {x : Int64} (d : decode (mB M) pc = .ok (.lstore 4, 2)) (hn : 4 + 1 < mL M) (k : PW X M b1 b2 (pc + 2) (v0 :: v1 :: v2 :: v3 :: some (.long x) :: none :: t) st σ μ Q) (h1 : pw_c1 v3 = v3 := by rfl) : PW X M b1 b2 pc (v0 :: v1 :: v2 :: v3 :: o :: o2 :: t) (.long x :: st) σ μ Q := by
  intro p e R s m args below meth c H locs cells slots ar Z B S P F L c1 c2 K
  refine lv_lstore B.1 B.2.1 d (pw_Lal L) hn rfl (fun ar' h => k p e R s m args below meth c H locs cells slots ar' Z B S P F (pw_Lset2 (ls' := v0 :: v1 :: v2 :: v3 :: some (.long x) :: none :: t) h ?_) c1 c2 K)
  intro j w hj
  match j, hj with
  | 0, hj => exact Or.inr ⟨by omega, by omega, hj, by omega⟩
  | 1, hj => exact Or.inr ⟨by omega, by omega, hj, by omega⟩
  | 2, hj => exact Or.inr ⟨by omega, by omega, hj, by omega⟩
  | 3, hj => exact Or.inr ⟨by omega, by omega, hj, fun _ => pw_c1_2 h1 (Option.some.inj hj)⟩
  | 4, hj => exact Or.inl ⟨rfl, (Option.some.inj (Option.some.inj hj)).symm⟩
  | 5, hj => cases Option.some.inj hj
  | j + 6, hj => exact Or.inr ⟨by omega, by omega, hj, by omega⟩
theorem pw_lstore_5 {v0 v1 v2 v3 v4 : Option Value} {o o2 : Option Value} {t : List (Option Value)} {x : Int64} (d : decode (mB M) pc = .ok (.lstore 5, 2)) (hn : 5 + 1 < mL M) (k : PW X M b1 b2 (pc + 2) (v0 :: v1 :: v2 :: v3 :: v4 :: some (.long x) :: none :: t) st σ μ Q) (h1 : pw_c1 v4 = v4 := by rfl) : PW X M b1 b2 pc (v0 :: v1 :: v2 :: v3 :: v4 :: o :: o2 :: t) (.long x :: st) σ μ Q := by
  intro p e R s m args below meth c H locs cells slots ar Z B S P F L c1 c2 K
  refine lv_lstore B.1 B.2.1 d (pw_Lal L) hn rfl (fun ar' h => k p e R s m args below meth c H locs cells slots ar' Z B S P F (pw_Lset2 (ls' := v0 :: v1 :: v2 :: v3 :: v4 :: some (.long x) :: none :: t) h ?_) c1 c2 K)
  intro j w hj
  match j, hj with
  | 0, hj => exact Or.inr ⟨by omega, by omega, hj, by omega⟩
  | 1, hj => exact Or.inr ⟨by omega, by omega, hj, by omega⟩
  | 2, hj => exact Or.inr ⟨by omega, by omega, hj, by omega⟩
  | 3, hj => exact Or.inr ⟨by omega, by omega, hj, by omega⟩
  | 4, hj => exact Or.inr ⟨by omega, by omega, hj, fun _ => pw_c1_2 h1 (Option.some.inj hj)⟩
  | 5, hj => exact Or.inl ⟨rfl, (Option.some.inj (Option.some.inj hj)).symm⟩
  | 6, hj => cases Option.some.inj hj
  | j + 7, hj => exact Or.inr ⟨by omega, by omega, hj, by omega⟩
theorem pw_iinc_g {i : Nat} {n : Int} {x : Int32} {ls' : List (Option Value)} (d : decode (mB M) pc = .ok (.iinc i n, 3)) (hx : ls[i]? = some (some (.int x))) (hn : i < mL M) (hl : ∀ (j : Nat) (w : Value), ls'[j]? = some (some w) → (j = i ∧ w = .int (x + Int32.ofInt n)) ∨ (j ≠ i ∧ ls[j]? = some (some w) ∧ (j + 1 = i → w.category ≠ 2))) (k : PW X M b1 b2 (pc + 3) ls' st σ μ Q) : PW X M b1 b2 pc ls st σ μ Q := by
  intro p e R s m args below meth c H locs cells slots ar Z B S P F L c1 c2 K
  obtain ⟨q, hq⟩ := List.getElem?_of_mem (pw_al_mem.mpr hx)
  exact lv_iinc B.1 B.2.1 d (pw_Lal L) hq rfl hn rfl (fun ar' h => k p e R s m args below meth c H locs cells slots ar' Z B S P F (pw_Lset1 h hl) c1 c2 K)
theorem pw_iinc_0 {t : List (Option Value)} {n : Int} {x y : Int32} (d : decode (mB M) pc = .ok (.iinc 0 n, 3)) (hy : Int32.ofInt n = y) (hn : 0 < mL M) (k : PW X M b1 b2 (pc + 3) (some (.int (x + y)) :: t) st σ μ Q) : PW X M b1 b2 pc (some (.int x) :: t) st σ μ Q := by
  subst hy
  refine pw_iinc_g (ls' := some (.int (x + Int32.ofInt n)) :: t) d rfl hn ?_ k
  intro j w hj
  match j, hj with
  | 0, hj => exact Or.inl ⟨rfl, (Option.some.inj (Option.some.inj hj)).symm⟩
  | j + 1, hj => exact Or.inr ⟨by omega, hj, by omega⟩
theorem pw_iinc_1 {v0 : Option Value} {t : List (Option Value)} {n : Int} {x y : Int32} (d : decode (mB M) pc = .ok (.iinc 1 n, 3)) (hy : Int32.ofInt n = y) (hn : 1 < mL M) (k : PW X M b1 b2 (pc + 3) (v0 :: some (.int (x + y)) :: t) st σ μ Q) (h1 : pw_c1 v0 = v0 := by rfl) : PW X M b1 b2 pc (v0 :: some (.int x) :: t) st σ μ Q := by
  subst hy
  refine pw_iinc_g (ls' := v0 :: some (.int (x + Int32.ofInt n)) :: t) d rfl hn ?_ k
  intro j w hj
  match j, hj with
  | 0, hj => exact Or.inr ⟨by omega, hj, fun _ => pw_c1_2 h1 (Option.some.inj hj)⟩
  | 1, hj => exact Or.inl ⟨rfl, (Option.some.inj (Option.some.inj hj)).symm⟩
  | j + 2, hj => exact Or.inr ⟨by omega, hj, by omega⟩
theorem pw_iinc_2 {v0 v1 : Option Value} {t : List (Option Value)} {n : Int} {x y : Int32} (d : decode (mB M) pc = .ok (.iinc 2 n, 3)) (hy : Int32.ofInt n = y) (hn : 2 < mL M) (k : PW X M b1 b2 (pc + 3) (v0 :: v1 :: some (.int (x + y)) :: t) st σ μ Q) (h1 : pw_c1 v1 = v1 := by rfl) : PW X M b1 b2 pc (v0 :: v1 :: some (.int x) :: t) st σ μ Q := by
  subst hy
  refine pw_iinc_g (ls' := v0 :: v1 :: some (.int (x + Int32.ofInt n)) :: t) d rfl hn ?_ k
  intro j w hj
  match j, hj with
  | 0, hj => exact Or.inr ⟨by omega, hj, by omega⟩
  | 1, hj => exact Or.inr ⟨by omega, hj, fun _ => pw_c1_2 h1 (Option.some.inj hj)⟩
  | 2, hj => exact Or.inl ⟨rfl, (Option.some.inj (Option.some.inj hj)).symm⟩
  | j + 3, hj => exact Or.inr ⟨by omega, hj, by omega⟩
theorem pw_iinc_3 {v0 v1 v2 : Option Value} {t : List (Option Value)} {n : Int} {x y : Int32} (d : decode (mB M) pc = .ok (.iinc 3 n, 3)) (hy : Int32.ofInt n = y) (hn : 3 < mL M) (k : PW X M b1 b2 (pc + 3) (v0 :: v1 :: v2 :: some (.int (x + y)) :: t) st σ μ Q) (h1 : pw_c1 v2 = v2 := by rfl) : PW X M b1 b2 pc (v0 :: v1 :: v2 :: some (.int x) :: t) st σ μ Q := by
  subst hy
  refine pw_iinc_g (ls' := v0 :: v1 :: v2 :: some (.int (x + Int32.ofInt n)) :: t) d rfl hn ?_ k
  intro j w hj
  match j, hj with
  | 0, hj => exact Or.inr ⟨by omega, hj, by omega⟩
  | 1, hj => exact Or.inr ⟨by omega, hj, by omega⟩
  | 2, hj => exact Or.inr ⟨by omega, hj, fun _ => pw_c1_2 h1 (Option.some.inj hj)⟩
  | 3, hj => exact Or.inl ⟨rfl, (Option.some.inj (Option.some.inj hj)).symm⟩
  | j + 4, hj => exact Or.inr ⟨by omega, hj, by omega⟩
theorem pw_iinc_4 {v0 v1 v2 v3 : Option Value} {t : List (Option Value)} {n : Int} {x y : Int32} (d : decode (mB M) pc = .ok (.iinc 4 n, 3)) (hy : Int32.ofInt n = y) (hn : 4 < mL M) (k : PW X M b1 b2 (pc + 3) (v0 :: v1 :: v2 :: v3 :: some (.int (x + y)) :: t) st σ μ Q) (h1 : pw_c1 v3 = v3 := by rfl) : PW X M b1 b2 pc (v0 :: v1 :: v2 :: v3 :: some (.int x) :: t) st σ μ Q := by
  subst hy
  refine pw_iinc_g (ls' := v0 :: v1 :: v2 :: v3 :: some (.int (x + Int32.ofInt n)) :: t) d rfl hn ?_ k
  intro j w hj
  match j, hj with
  | 0, hj => exact Or.inr ⟨by omega, hj, by omega⟩
  | 1, hj => exact Or.inr ⟨by omega, hj, by omega⟩
  | 2, hj => exact Or.inr ⟨by omega, hj, by omega⟩
  | 3, hj => exact Or.inr ⟨by omega, hj, fun _ => pw_c1_2 h1 (Option.some.inj hj)⟩
  | 4, hj => exact Or.inl ⟨rfl, (Option.some.inj (Option.some.inj hj)).symm⟩
  | j + 5, hj => exact Or.inr ⟨by omega, hj, by omega⟩
theorem pw_iinc_5 {v0 v1 v2 v3 v4 : Option Value} {t : List (Option Value)} {n : Int} {x y : Int32} (d : decode (mB M) pc = .ok (.iinc 5 n, 3)) (hy : Int32.ofInt n = y) (hn : 5 < mL M) (k : PW X M b1 b2 (pc + 3) (v0 :: v1 :: v2 :: v3 :: v4 :: some (.int (x + y)) :: t) st σ μ Q) (h1 : pw_c1 v4 = v4 := by rfl) : PW X M b1 b2 pc (v0 :: v1 :: v2 :: v3 :: v4 :: some (.int x) :: t) st σ μ Q := by
  subst hy
  refine pw_iinc_g (ls' := v0 :: v1 :: v2 :: v3 :: v4 :: some (.int (x + Int32.ofInt n)) :: t) d rfl hn ?_ k
  intro j w hj
  match j, hj with
  | 0, hj => exact Or.inr ⟨by omega, hj, by omega⟩
  | 1, hj => exact Or.inr ⟨by omega, hj, by omega⟩
  | 2, hj => exact Or.inr ⟨by omega, hj, by omega⟩
  | 3, hj => exact Or.inr ⟨by omega, hj, by omega⟩
  | 4, hj => exact Or.inr ⟨by omega, hj, fun _ => pw_c1_2 h1 (Option.some.inj hj)⟩
  | 5, hj => exact Or.inl ⟨rfl, (Option.some.inj (Option.some.inj hj)).symm⟩
  | j + 6, hj => exact Or.inr ⟨by omega, hj, by omega⟩
theorem pw_iinc_6 {v0 v1 v2 v3 v4 v5 : Option Value} {t : List (Option Value)} {n : Int} {x y : Int32} (d : decode (mB M) pc = .ok (.iinc 6 n, 3)) (hy : Int32.ofInt n = y) (hn : 6 < mL M) (k : PW X M b1 b2 (pc + 3) (v0 :: v1 :: v2 :: v3 :: v4 :: v5 :: some (.int (x + y)) :: t) st σ μ Q) (h1 : pw_c1 v5 = v5 := by rfl) : PW X M b1 b2 pc (v0 :: v1 :: v2 :: v3 :: v4 :: v5 :: some (.int x) :: t) st σ μ Q := by
  subst hy
  refine pw_iinc_g (ls' := v0 :: v1 :: v2 :: v3 :: v4 :: v5 :: some (.int (x + Int32.ofInt n)) :: t) d rfl hn ?_ k
  intro j w hj
  match j, hj with
  | 0, hj => exact Or.inr ⟨by omega, hj, by omega⟩
  | 1, hj => exact Or.inr ⟨by omega, hj, by omega⟩
  | 2, hj => exact Or.inr ⟨by omega, hj, by omega⟩
  | 3, hj => exact Or.inr ⟨by omega, hj, by omega⟩
  | 4, hj => exact Or.inr ⟨by omega, hj, by omega⟩
  | 5, hj => exact Or.inr ⟨by omega, hj, fun _ => pw_c1_2 h1 (Option.some.inj hj)⟩
  | 6, hj => exact Or.inl ⟨rfl, (Option.some.inj (Option.some.inj hj)).symm⟩
  | j + 7, hj => exact Or.inr ⟨by omega, hj, by omega⟩
theorem pw_iinc_7 {v0 v1 v2 v3 v4 v5 v6 : Option Value} {t : List (Option Value)} {n : Int} {x y : Int32} (d : decode (mB M) pc = .ok (.iinc 7 n, 3)) (hy : Int32.ofInt n = y) (hn : 7 < mL M) (k : PW X M b1 b2 (pc + 3) (v0 :: v1 :: v2 :: v3 :: v4 :: v5 :: v6 :: some (.int (x + y)) :: t) st σ μ Q) (h1 : pw_c1 v6 = v6 := by rfl) : PW X M b1 b2 pc (v0 :: v1 :: v2 :: v3 :: v4 :: v5 :: v6 :: some (.int x) :: t) st σ μ Q := by
  subst hy
  refine pw_iinc_g (ls' := v0 :: v1 :: v2 :: v3 :: v4 :: v5 :: v6 :: some (.int (x + Int32.ofInt n)) :: t) d rfl hn ?_ k
  intro j w hj
  match j, hj with
  | 0, hj => exact Or.inr ⟨by omega, hj, by omega⟩
  | 1, hj => exact Or.inr ⟨by omega, hj, by omega⟩
  | 2, hj => exact Or.inr ⟨by omega, hj, by omega⟩
  | 3, hj => exact Or.inr ⟨by omega, hj, by omega⟩
  | 4, hj => exact Or.inr ⟨by omega, hj, by omega⟩
  | 5, hj => exact Or.inr ⟨by omega, hj, by omega⟩
  | 6, hj => exact Or.inr ⟨by omega, hj, fun _ => pw_c1_2 h1 (Option.some.inj hj)⟩
  | 7, hj => exact Or.inl ⟨rfl, (Option.some.inj (Option.some.inj hj)).symm⟩
  | j + 8, hj => exact Or.inr ⟨by omega, hj, by omega⟩
theorem pw_iinc_8 {v0 v1 v2 v3 v4 v5 v6 v7 : Option Value} {t : List (Option Value)} {n : Int} {x y : Int32} (d : decode (mB M) pc = .ok (.iinc 8 n, 3)) (hy : Int32.ofInt n = y) (hn : 8 < mL M) (k : PW X M b1 b2 (pc + 3) (v0 :: v1 :: v2 :: v3 :: v4 :: v5 :: v6 :: v7 :: some (.int (x + y)) :: t) st σ μ Q) (h1 : pw_c1 v7 = v7 := by rfl) : PW X M b1 b2 pc (v0 :: v1 :: v2 :: v3 :: v4 :: v5 :: v6 :: v7 :: some (.int x) :: t) st σ μ Q := by
  subst hy
  refine pw_iinc_g (ls' := v0 :: v1 :: v2 :: v3 :: v4 :: v5 :: v6 :: v7 :: some (.int (x + Int32.ofInt n)) :: t) d rfl hn ?_ k
  intro j w hj
  match j, hj with
  | 0, hj => exact Or.inr ⟨by omega, hj, by omega⟩
  | 1, hj => exact Or.inr ⟨by omega, hj, by omega⟩
  | 2, hj => exact Or.inr ⟨by omega, hj, by omega⟩
  | 3, hj => exact Or.inr ⟨by omega, hj, by omega⟩
  | 4, hj => exact Or.inr ⟨by omega, hj, by omega⟩
  | 5, hj => exact Or.inr ⟨by omega, hj, by omega⟩
  | 6, hj => exact Or.inr ⟨by omega, hj, by omega⟩
  | 7, hj => exact Or.inr ⟨by omega, hj, fun _ => pw_c1_2 h1 (Option.some.inj hj)⟩
  | 8, hj => exact Or.inl ⟨rfl, (Option.some.inj (Option.some.inj hj)).symm⟩
  | j + 9, hj => exact Or.inr ⟨by omega, hj, by omega⟩
theorem pw_iinc_9 {v0 v1 v2 v3 v4 v5 v6 v7 v8 : Option Value} {t : List (Option Value)} {n : Int} {x y : Int32} (d : decode (mB M) pc = .ok (.iinc 9 n, 3)) (hy : Int32.ofInt n = y) (hn : 9 < mL M) (k : PW X M b1 b2 (pc + 3) (v0 :: v1 :: v2 :: v3 :: v4 :: v5 :: v6 :: v7 :: v8 :: some (.int (x + y)) :: t) st σ μ Q) (h1 : pw_c1 v8 = v8 := by rfl) : PW X M b1 b2 pc (v0 :: v1 :: v2 :: v3 :: v4 :: v5 :: v6 :: v7 :: v8 :: some (.int x) :: t) st σ μ Q := by
  subst hy
  refine pw_iinc_g (ls' := v0 :: v1 :: v2 :: v3 :: v4 :: v5 :: v6 :: v7 :: v8 :: some (.int (x + Int32.ofInt n)) :: t) d rfl hn ?_ k
  intro j w hj
  match j, hj with
  | 0, hj => exact Or.inr ⟨by omega, hj, by omega⟩
  | 1, hj => exact Or.inr ⟨by omega, hj, by omega⟩
  | 2, hj => exact Or.inr ⟨by omega, hj, by omega⟩
  | 3, hj => exact Or.inr ⟨by omega, hj, by omega⟩
  | 4, hj => exact Or.inr ⟨by omega, hj, by omega⟩
  | 5, hj => exact Or.inr ⟨by omega, hj, by omega⟩
  | 6, hj => exact Or.inr ⟨by omega, hj, by omega⟩
  | 7, hj => exact Or.inr ⟨by omega, hj, by omega⟩
  | 8, hj => exact Or.inr ⟨by omega, hj, fun _ => pw_c1_2 h1 (Option.some.inj hj)⟩
  | 9, hj => exact Or.inl ⟨rfl, (Option.some.inj (Option.some.inj hj)).symm⟩
  | j + 10, hj => exact Or.inr ⟨by omega, hj, by omega⟩
theorem pw_iinc_10 {v0 v1 v2 v3 v4 v5 v6 v7 v8 v9 : Option Value} {t : List (Option Value)} {n : Int} {x y : Int32} (d : decode (mB M) pc = .ok (.iinc 10 n, 3)) (hy : Int32.ofInt n = y) (hn : 10 < mL M) (k : PW X M b1 b2 (pc + 3) (v0 :: v1 :: v2 :: v3 :: v4 :: v5 :: v6 :: v7 :: v8 :: v9 :: some (.int (x + y)) :: t) st σ μ Q) (h1 : pw_c1 v9 = v9 := by rfl) : PW X M b1 b2 pc (v0 :: v1 :: v2 :: v3 :: v4 :: v5 :: v6 :: v7 :: v8 :: v9 :: some (.int x) :: t) st σ μ Q := by
  subst hy
  refine pw_iinc_g (ls' := v0 :: v1 :: v2 :: v3 :: v4 :: v5 :: v6 :: v7 :: v8 :: v9 :: some (.int (x + Int32.ofInt n)) :: t) d rfl hn ?_ k
  intro j w hj
  match j, hj with
  | 0, hj => exact Or.inr ⟨by omega, hj, by omega⟩
  | 1, hj => exact Or.inr ⟨by omega, hj, by omega⟩
  | 2, hj => exact Or.inr ⟨by omega, hj, by omega⟩
  | 3, hj => exact Or.inr ⟨by omega, hj, by omega⟩
  | 4, hj => exact Or.inr ⟨by omega, hj, by omega⟩
  | 5, hj => exact Or.inr ⟨by omega, hj, by omega⟩
  | 6, hj => exact Or.inr ⟨by omega, hj, by omega⟩
  | 7, hj => exact Or.inr ⟨by omega, hj, by omega⟩
  | 8, hj => exact Or.inr ⟨by omega, hj, by omega⟩
  | 9, hj => exact Or.inr ⟨by omega, hj, fun _ => pw_c1_2 h1 (Option.some.inj hj)⟩
  | 10, hj => exact Or.inl ⟨rfl, (Option.some.inj (Option.some.inj hj)).symm⟩
  | j + 11, hj => exact Or.inr ⟨by omega, hj, by omega⟩
theorem pw_iinc_11 {v0 v1 v2 v3 v4 v5 v6 v7 v8 v9 v10 : Option Value} {t : List (Option Value)} {n : Int} {x y : Int32} (d : decode (mB M) pc = .ok (.iinc 11 n, 3)) (hy : Int32.ofInt n = y) (hn : 11 < mL M) (k : PW X M b1 b2 (pc + 3) (v0 :: v1 :: v2 :: v3 :: v4 :: v5 :: v6 :: v7 :: v8 :: v9 :: v10 :: some (.int (x + y)) :: t) st σ μ Q) (h1 : pw_c1 v10 = v10 := by rfl) : PW X M b1 b2 pc (v0 :: v1 :: v2 :: v3 :: v4 :: v5 :: v6 :: v7 :: v8 :: v9 :: v10 :: some (.int x) :: t) st σ μ Q := by
  subst hy
  refine pw_iinc_g (ls' := v0 :: v1 :: v2 :: v3 :: v4 :: v5 :: v6 :: v7 :: v8 :: v9 :: v10 :: some (.int (x + Int32.ofInt n)) :: t) d rfl hn ?_ k
  intro j w hj
  match j, hj with
  | 0, hj => exact Or.inr ⟨by omega, hj, by omega⟩
  | 1, hj => exact Or.inr ⟨by omega, hj, by omega⟩
  | 2, hj => exact Or.inr ⟨by omega, hj, by omega⟩
  | 3, hj => exact Or.inr ⟨by omega, hj, by omega⟩
  | 4, hj => exact Or.inr ⟨by omega, hj, by omega⟩
  | 5, hj => exact Or.inr ⟨by omega, hj, by omega⟩
  | 6, hj => exact Or.inr ⟨by omega, hj, by omega⟩
  | 7, hj => exact Or.inr ⟨by omega, hj, by omega⟩
  | 8, hj => exact Or.inr ⟨by omega, hj, by omega⟩
  | 9, hj => exact Or.inr ⟨by omega, hj, by omega⟩
  | 10, hj => exact Or.inr ⟨by omega, hj, fun _ => pw_c1_2 h1 (Option.some.inj hj)⟩
  | 11, hj => exact Or.inl ⟨rfl, (Option.some.inj (Option.some.inj hj)).symm⟩
  | j + 12, hj => exact Or.inr ⟨by omega, hj, by omega⟩
theorem pw_iinc_12 {v0 v1 v2 v3 v4 v5 v6 v7 v8 v9 v10 v11 : Option Value} {t : List (Option Value)} {n : Int} {x y : Int32} (d : decode (mB M) pc = .ok (.iinc 12 n, 3)) (hy : Int32.ofInt n = y) (hn : 12 < mL M) (k : PW X M b1 b2 (pc + 3) (v0 :: v1 :: v2 :: v3 :: v4 :: v5 :: v6 :: v7 :: v8 :: v9 :: v10 :: v11 :: some (.int (x + y)) :: t) st σ μ Q) (h1 : pw_c1 v11 = v11 := by rfl) : PW X M b1 b2 pc (v0 :: v1 :: v2 :: v3 :: v4 :: v5 :: v6 :: v7 :: v8 :: v9 :: v10 :: v11 :: some (.int x) :: t) st σ μ Q := by
  subst hy
  refine pw_iinc_g (ls' := v0 :: v1 :: v2 :: v3 :: v4 :: v5 :: v6 :: v7 :: v8 :: v9 :: v10 :: v11 :: some (.int (x + Int32.ofInt n)) :: t) d rfl hn ?_ k
  intro j w hj
  match j, hj with
  | 0, hj => exact Or.inr ⟨by omega, hj, by omega⟩
  | 1, hj => exact Or.inr ⟨by omega, hj, by omega⟩
  | 2, hj => exact Or.inr ⟨by omega, hj, by omega⟩
  | 3, hj => exact Or.inr ⟨by omega, hj, by omega⟩
  | 4, hj => exact Or.inr ⟨by omega, hj, by omega⟩
  | 5, hj => exact Or.inr ⟨by omega, hj, by omega⟩
  | 6, hj => exact Or.inr ⟨by omega, hj, by omega⟩
  | 7, hj => exact Or.inr ⟨by omega, hj, by omega⟩
  | 8, hj => exact Or.inr ⟨by omega, hj, by omega⟩
  | 9, hj => exact Or.inr ⟨by omega, hj, by omega⟩
  | 10, hj => exact Or.inr ⟨by omega, hj, by omega⟩
  | 11, hj => exact Or.inr ⟨by omega, hj, fun _ => pw_c1_2 h1 (Option.some.inj hj)⟩
  | 12, hj => exact Or.inl ⟨rfl, (Option.some.inj (Option.some.inj hj)).symm⟩
  | j + 13, hj => exact Or.inr ⟨by omega, hj, by omega⟩
theorem pw_iinc_13 {v0 v1 v2 v3 v4 v5 v6 v7 v8 v9 v10 v11 v12 : Option Value} {t : List (Option Value)} {n : Int} {x y : Int32} (d : decode (mB M) pc = .ok (.iinc 13 n, 3)) (hy : Int32.ofInt n = y) (hn : 13 < mL M) (k : PW X M b1 b2 (pc + 3) (v0 :: v1 :: v2 :: v3 :: v4 :: v5 :: v6 :: v7 :: v8 :: v9 :: v10 :: v11 :: v12 :: some (.int (x + y)) :: t) st σ μ Q) (h1 : pw_c1 v12 = v12 := by rfl) : PW X M b1 b2 pc (v0 :: v1 :: v2 :: v3 :: v4 :: v5 :: v6 :: v7 :: v8 :: v9 :: v10 :: v11 :: v12 :: some (.int x) :: t) st σ μ Q := by
  subst hy
  refine pw_iinc_g (ls' := v0 :: v1 :: v2 :: v3 :: v4 :: v5 :: v6 :: v7 :: v8 :: v9 :: v10 :: v11 :: v12 :: some (.int (x + Int32.ofInt n)) :: t) d rfl hn ?_ k
  intro j w hj
  match j, hj with
  | 0, hj => exact Or.inr ⟨by omega, hj, by omega⟩
  | 1, hj => exact Or.inr ⟨by omega, hj, by omega⟩
  | 2, hj => exact Or.inr ⟨by omega, hj, by omega⟩
  | 3, hj => exact Or.inr ⟨by omega, hj, by omega⟩
  | 4, hj => exact Or.inr ⟨by omega, hj, by omega⟩
  | 5, hj => exact Or.inr ⟨by omega, hj, by omega⟩
  | 6, hj => exact Or.inr ⟨by omega, hj, by omega⟩
  | 7, hj => exact Or.inr ⟨by omega, hj, by omega⟩
  | 8, hj => exact Or.inr ⟨by omega, hj, by omega⟩
  | 9, hj => exact Or.inr ⟨by omega, hj, by omega⟩
  | 10, hj => exact Or.inr ⟨by omega, hj, by omega⟩
  | 11, hj => exact Or.inr ⟨by omega, hj, by omega⟩
  | 12, hj => exact Or.inr ⟨by omega, hj, fun _ => pw_c1_2 h1 (Option.some.inj hj)⟩
  | 13, hj => exact Or.inl ⟨rfl, (Option.some.inj (Option.some.inj hj)).symm⟩
  | j + 14, hj => exact Or.inr ⟨by omega, hj, by omega⟩
theorem pw_iinc_14 {v0 v1 v2 v3 v4 v5 v6 v7 v8 v9 v10 v11 v12 v13 : Option Value} {t : List (Option Value)} {n : Int} {x y : Int32} (d : decode (mB M) pc = .ok (.iinc 14 n, 3)) (hy : Int32.ofInt n = y) (hn : 14 < mL M) (k : PW X M b1 b2 (pc + 3) (v0 :: v1 :: v2 :: v3 :: v4 :: v5 :: v6 :: v7 :: v8 :: v9 :: v10 :: v11 :: v12 :: v13 :: some (.int (x + y)) :: t) st σ μ Q) (h1 : pw_c1 v13 = v13 := by rfl) : PW X M b1 b2 pc (v0 :: v1 :: v2 :: v3 :: v4 :: v5 :: v6 :: v7 :: v8 :: v9 :: v10 :: v11 :: v12 :: v13 :: some (.int x) :: t) st σ μ Q := by
  subst hy
  refine pw_iinc_g (ls' := v0 :: v1 :: v2 :: v3 :: v4 :: v5 :: v6 :: v7 :: v8 :: v9 :: v10 :: v11 :: v12 :: v13 :: some (.int (x + Int32.ofInt n)) :: t) d rfl hn ?_ k
  intro j w hj
  match j, hj with
  | 0, hj => exact Or.inr ⟨by omega, hj, by omega⟩
  | 1, hj => exact Or.inr ⟨by omega, hj, by omega⟩
  | 2, hj => exact Or.inr ⟨by omega, hj, by omega⟩
  | 3, hj => exact Or.inr ⟨by omega, hj, by omega⟩
  | 4, hj => exact Or.inr ⟨by omega, hj, by omega⟩
  | 5, hj => exact Or.inr ⟨by omega, hj, by omega⟩
  | 6, hj => exact Or.inr ⟨by omega, hj, by omega⟩
  | 7, hj => exact Or.inr ⟨by omega, hj, by omega⟩
  | 8, hj => exact Or.inr ⟨by omega, hj, by omega⟩
  | 9, hj => exact Or.inr ⟨by omega, hj, by omega⟩
  | 10, hj => exact Or.inr ⟨by omega, hj, by omega⟩
  | 11, hj => exact Or.inr ⟨by omega, hj, by omega⟩
  | 12, hj => exact Or.inr ⟨by omega, hj, by omega⟩
  | 13, hj => exact Or.inr ⟨by omega, hj, fun _ => pw_c1_2 h1 (Option.some.inj hj)⟩
  | 14, hj => exact Or.inl ⟨rfl, (Option.some.inj (Option.some.inj hj)).symm⟩
  | j + 15, hj => exact Or.inr ⟨by omega, hj, by omega⟩
theorem pw_iinc_15 {v0 v1 v2 v3 v4 v5 v6 v7 v8 v9 v10 v11 v12 v13 v14 : Option Value} {t : List (Option Value)} {n : Int} {x y : Int32} (d : decode (mB M) pc = .ok (.iinc 15 n, 3)) (hy : Int32.ofInt n = y) (hn : 15 < mL M) (k : PW X M b1 b2 (pc + 3) (v0 :: v1 :: v2 :: v3 :: v4 :: v5 :: v6 :: v7 :: v8 :: v9 :: v10 :: v11 :: v12 :: v13 :: v14 :: some (.int (x + y)) :: t) st σ μ Q) (h1 : pw_c1 v14 = v14 := by rfl) : PW X M b1 b2 pc (v0 :: v1 :: v2 :: v3 :: v4 :: v5 :: v6 :: v7 :: v8 :: v9 :: v10 :: v11 :: v12 :: v13 :: v14 :: some (.int x) :: t) st σ μ Q := by
  subst hy
  refine pw_iinc_g (ls' := v0 :: v1 :: v2 :: v3 :: v4 :: v5 :: v6 :: v7 :: v8 :: v9 :: v10 :: v11 :: v12 :: v13 :: v14 :: some (.int (x + Int32.ofInt n)) :: t) d rfl hn ?_ k
  intro j w hj
  match j, hj with
  | 0, hj => exact Or.inr ⟨by omega, hj, by omega⟩
  | 1, hj => exact Or.inr ⟨by omega, hj, by omega⟩
  | 2, hj => exact Or.inr ⟨by omega, hj, by omega⟩
  | 3, hj => exact Or.inr ⟨by omega, hj, by omega⟩
  | 4, hj => exact Or.inr ⟨by omega, hj, by omega⟩
  | 5, hj => exact Or.inr ⟨by omega, hj, by omega⟩
  | 6, hj => exact Or.inr ⟨by omega, hj, by omega⟩
  | 7, hj => exact Or.inr ⟨by omega, hj, by omega⟩
  | 8, hj => exact Or.inr ⟨by omega, hj, by omega⟩
  | 9, hj => exact Or.inr ⟨by omega, hj, by omega⟩
  | 10, hj => exact Or.inr ⟨by omega, hj, by omega⟩
  | 11, hj => exact Or.inr ⟨by omega, hj, by omega⟩
  | 12, hj => exact Or.inr ⟨by omega, hj, by omega⟩
  | 13, hj => exact Or.inr ⟨by omega, hj, by omega⟩
  | 14, hj => exact Or.inr ⟨by omega, hj, fun _ => pw_c1_2 h1 (Option.some.inj hj)⟩
  | 15, hj => exact Or.inl ⟨rfl, (Option.some.inj (Option.some.inj hj)).symm⟩
  | j + 16, hj => exact Or.inr ⟨by omega, hj, by omega⟩
theorem pw_iinc_16 {v0 v1 v2 v3 v4 v5 v6 v7 v8 v9 v10 v11 v12 v13 v14 v15 : Option Value} {t : List (Option Value)} {n : Int} {x y : Int32} (d : decode (mB M) pc = .ok (.iinc 16 n, 3)) (hy : Int32.ofInt n = y) (hn : 16 < mL M) (k : PW X M b1 b2 (pc + 3) (v0 :: v1 :: v2 :: v3 :: v4 :: v5 :: v6 :: v7 :: v8 :: v9 :: v10 :: v11 :: v12 :: v13 :: v14 :: v15 :: some (.int (x + y)) :: t) st σ μ Q) (h1 : pw_c1 v15 = v15 := by rfl) : PW X M b1 b2 pc (v0 :: v1 :: v2 :: v3 :: v4 :: v5 :: v6 :: v7 :: v8 :: v9 :: v10 :: v11 :: v12 :: v13 :: v14 :: v15 :: some (.int x) :: t) st σ μ Q := by
  subst hy
  refine pw_iinc_g (ls' := v0 :: v1 :: v2 :: v3 :: v4 :: v5 :: v6 :: v7 :: v8 :: v9 :: v10 :: v11 :: v12 :: v13 :: v14 :: v15 :: some (.int (x + Int32.ofInt n)) :: t) d rfl hn ?_ k
  intro j w hj
  match j, hj with
  | 0, hj => exact Or.inr ⟨by omega, hj, by omega⟩
  | 1, hj => exact Or.inr ⟨by omega, hj, by omega⟩
  | 2, hj => exact Or.inr ⟨by omega, hj, by omega⟩
  | 3, hj => exact Or.inr ⟨by omega, hj, by omega⟩
  | 4, hj => exact Or.inr ⟨by omega, hj, by omega⟩
  | 5, hj => exact Or.inr ⟨by omega, hj, by omega⟩
  | 6, hj => exact Or.inr ⟨by omega, hj, by omega⟩
  | 7, hj => exact Or.inr ⟨by omega, hj, by omega⟩
  | 8, hj => exact Or.inr ⟨by omega, hj, by omega⟩
  | 9, hj => exact Or.inr ⟨by omega, hj, by omega⟩
  | 10, hj => exact Or.inr ⟨by omega, hj, by omega⟩
  | 11, hj => exact Or.inr ⟨by omega, hj, by omega⟩
  | 12, hj => exact Or.inr ⟨by omega, hj, by omega⟩
  | 13, hj => exact Or.inr ⟨by omega, hj, by omega⟩
  | 14, hj => exact Or.inr ⟨by omega, hj, by omega⟩
  | 15, hj => exact Or.inr ⟨by omega, hj, fun _ => pw_c1_2 h1 (Option.some.inj hj)⟩
  | 16, hj => exact Or.inl ⟨rfl, (Option.some.inj (Option.some.inj hj)).symm⟩
  | j + 17, hj => exact Or.inr ⟨by omega, hj, by omega⟩
theorem pw_iinc_17 {v0 v1 v2 v3 v4 v5 v6 v7 v8 v9 v10 v11 v12 v13 v14 v15 v16 : Option Value} {t : List (Option Value)} {n : Int} {x y : Int32} (d : decode (mB M) pc = .ok (.iinc 17 n, 3)) (hy : Int32.ofInt n = y) (hn : 17 < mL M) (k : PW X M b1 b2 (pc + 3) (v0 :: v1 :: v2 :: v3 :: v4 :: v5 :: v6 :: v7 :: v8 :: v9 :: v10 :: v11 :: v12 :: v13 :: v14 :: v15 :: v16 :: some (.int (x + y)) :: t) st σ μ Q) (h1 : pw_c1 v16 = v16 := by rfl) : PW X M b1 b2 pc (v0 :: v1 :: v2 :: v3 :: v4 :: v5 :: v6 :: v7 :: v8 :: v9 :: v10 :: v11 :: v12 :: v13 :: v14 :: v15 :: v16 :: some (.int x) :: t) st σ μ Q := by
  subst hy
  refine pw_iinc_g (ls' := v0 :: v1 :: v2 :: v3 :: v4 :: v5 :: v6 :: v7 :: v8 :: v9 :: v10 :: v11 :: v12 :: v13 :: v14 :: v15 :: v16 :: some (.int (x + Int32.ofInt n)) :: t) d rfl hn ?_ k
  intro j w hj
  match j, hj with
  | 0, hj => exact Or.inr ⟨by omega, hj, by omega⟩
  | 1, hj => exact Or.inr ⟨by omega, hj, by omega⟩
  | 2, hj => exact Or.inr ⟨by omega, hj, by omega⟩
  | 3, hj => exact Or.inr ⟨by omega, hj, by omega⟩
  | 4, hj => exact Or.inr ⟨by omega, hj, by omega⟩
  | 5, hj => exact Or.inr ⟨by omega, hj, by omega⟩
  | 6, hj => exact Or.inr ⟨by omega, hj, by omega⟩
  | 7, hj => exact Or.inr ⟨by omega, hj, by omega⟩
  | 8, hj => exact Or.inr ⟨by omega, hj, by omega⟩
  | 9, hj => exact Or.inr ⟨by omega, hj, by omega⟩
  | 10, hj => exact Or.inr ⟨by omega, hj, by omega⟩
  | 11, hj => exact Or.inr ⟨by omega, hj, by omega⟩
  | 12, hj => exact Or.inr ⟨by omega, hj, by omega⟩
  | 13, hj => exact Or.inr ⟨by omega, hj, by omega⟩
  | 14, hj => exact Or.inr ⟨by omega, hj, by omega⟩
  | 15, hj => exact Or.inr ⟨by omega, hj, by omega⟩
  | 16, hj => exact Or.inr ⟨by omega, hj, fun _ => pw_c1_2 h1 (Option.some.inj hj)⟩
  | 17, hj => exact Or.inl ⟨rfl, (Option.some.inj (Option.some.inj hj)).symm⟩
  | j + 18, hj => exact Or.inr ⟨by omega, hj, by omega⟩
theorem pw_iinc_18 {v0 v1 v2 v3 v4 v5 v6 v7 v8 v9 v10 v11 v12 v13 v14 v15 v16 v17 : Option Value} {t : List (Option Value)} {n : Int} {x y : Int32} (d : decode (mB M) pc = .ok (.iinc 18 n, 3)) (hy : Int32.ofInt n = y) (hn : 18 < mL M) (k : PW X M b1 b2 (pc + 3) (v0 :: v1 :: v2 :: v3 :: v4 :: v5 :: v6 :: v7 :: v8 :: v9 :: v10 :: v11 :: v12 :: v13 :: v14 :: v15 :: v16 :: v17 :: some (.int (x + y)) :: t) st σ μ Q) (h1 : pw_c1 v17 = v17 := by rfl) : PW X M b1 b2 pc (v0 :: v1 :: v2 :: v3 :: v4 :: v5 :: v6 :: v7 :: v8 :: v9 :: v10 :: v11 :: v12 :: v13 :: v14 :: v15 :: v16 :: v17 :: some (.int x) :: t) st σ μ Q := by
  subst hy
  refine pw_iinc_g (ls' := v0 :: v1 :: v2 :: v3 :: v4 :: v5 :: v6 :: v7 :: v8 :: v9 :: v10 :: v11 :: v12 :: v13 :: v14 :: v15 :: v16 :: v17 :: some (.int (x + Int32.ofInt n)) :: t) d rfl hn ?_ k
  intro j w hj
  match j, hj with
  | 0, hj => exact Or.inr ⟨by omega, hj, by omega⟩
  | 1, hj => exact Or.inr ⟨by omega, hj, by omega⟩
  | 2, hj => exact Or.inr ⟨by omega, hj, by omega⟩
  | 3, hj => exact Or.inr ⟨by omega, hj, by omega⟩
  | 4, hj => exact Or.inr ⟨by omega, hj, by omega⟩
  | 5, hj => exact Or.inr ⟨by omega, hj, by omega⟩
  | 6, hj => exact Or.inr ⟨by omega, hj, by omega⟩
  | 7, hj => exact Or.inr ⟨by omega, hj, by omega⟩
  | 8, hj => exact Or.inr ⟨by omega, hj, by omega⟩
  | 9, hj => exact Or.inr ⟨by omega, hj, by omega⟩
  | 10, hj => exact Or.inr ⟨by omega, hj, by omega⟩
  | 11, hj => exact Or.inr ⟨by omega, hj, by omega⟩
  | 12, hj => exact Or.inr ⟨by omega, hj, by omega⟩
  | 13, hj => exact Or.inr ⟨by omega, hj, by omega⟩
  | 14, hj => exact Or.inr ⟨by omega, hj, by omega⟩
  | 15, hj => exact Or.inr ⟨by omega, hj, by omega⟩
  | 16, hj => exact Or.inr ⟨by omega, hj, by omega⟩
  | 17, hj => exact Or.inr ⟨by omega, hj, fun _ => pw_c1_2 h1 (Option.some.inj hj)⟩
  | 18, hj => exact Or.inl ⟨rfl, (Option.some.inj (Option.some.inj hj)).symm⟩
  | j + 19, hj => exact Or.inr ⟨by omega, hj, by omega⟩
theorem pw_iinc_19 {v0 v1 v2 v3 v4 v5 v6 v7 v8 v9 v10 v11 v12 v13 v14 v15 v16 v17 v18 : Option Value} {t : List (Option Value)} {n : Int} {x y : Int32} (d : decode (mB M) pc = .ok (.iinc 19 n, 3)) (hy : Int32.ofInt n = y) (hn : 19 < mL M) (k : PW X M b1 b2 (pc + 3) (v0 :: v1 :: v2 :: v3 :: v4 :: v5 :: v6 :: v7 :: v8 :: v9 :: v10 :: v11 :: v12 :: v13 :: v14 :: v15 :: v16 :: v17 :: v18 :: some (.int (x + y)) :: t) st σ μ Q) (h1 : pw_c1 v18 = v18 := by rfl) : PW X M b1 b2 pc (v0 :: v1 :: v2 :: v3 :: v4 :: v5 :: v6 :: v7 :: v8 :: v9 :: v10 :: v11 :: v12 :: v13 :: v14 :: v15 :: v16 :: v17 :: v18 :: some (.int x) :: t) st σ μ Q := by
  subst hy
  refine pw_iinc_g (ls' := v0 :: v1 :: v2 :: v3 :: v4 :: v5 :: v6 :: v7 :: v8 :: v9 :: v10 :: v11 :: v12 :: v13 :: v14 :: v15 :: v16 :: v17 :: v18 :: some (.int (x + Int32.ofInt n)) :: t) d rfl hn ?_ k
  intro j w hj
  match j, hj with
  | 0, hj => exact Or.inr ⟨by omega, hj, by omega⟩
  | 1, hj => exact Or.inr ⟨by omega, hj, by omega⟩
  | 2, hj => exact Or.inr ⟨by omega, hj, by omega⟩
  | 3, hj => exact Or.inr ⟨by omega, hj, by omega⟩
  | 4, hj => exact Or.inr ⟨by omega, hj, by omega⟩
  | 5, hj => exact Or.inr ⟨by omega, hj, by omega⟩
  | 6, hj => exact Or.inr ⟨by omega, hj, by omega⟩
  | 7, hj => exact Or.inr ⟨by omega, hj, by omega⟩
  | 8, hj => exact Or.inr ⟨by omega, hj, by omega⟩
  | 9, hj => exact Or.inr ⟨by omega, hj, by omega⟩
  | 10, hj => exact Or.inr ⟨by omega, hj, by omega⟩
  | 11, hj => exact Or.inr ⟨by omega, hj, by omega⟩
  | 12, hj => exact Or.inr ⟨by omega, hj, by omega⟩
  | 13, hj => exact Or.inr ⟨by omega, hj, by omega⟩
  | 14, hj => exact Or.inr ⟨by omega, hj, by omega⟩
  | 15, hj => exact Or.inr ⟨by omega, hj, by omega⟩
  | 16, hj => exact Or.inr ⟨by omega, hj, by omega⟩
  | 17, hj => exact Or.inr ⟨by omega, hj, by omega⟩
  | 18, hj => exact Or.inr ⟨by omega, hj, fun _ => pw_c1_2 h1 (Option.some.inj hj)⟩
  | 19, hj => exact Or.inl ⟨rfl, (Option.some.inj (Option.some.inj hj)).symm⟩
  | j + 20, hj => exact Or.inr ⟨by omega, hj, by omega⟩
theorem pw_iinc_20 {v0 v1 v2 v3 v4 v5 v6 v7 v8 v9 v10 v11 v12 v13 v14 v15 v16 v17 v18 v19 : Option Value} {t : List (Option Value)} {n : Int} {x y : Int32} (d : decode (mB M) pc = .ok (.iinc 20 n, 3)) (hy : Int32.ofInt n = y) (hn : 20 < mL M) (k : PW X M b1 b2 (pc + 3) (v0 :: v1 :: v2 :: v3 :: v4 :: v5 :: v6 :: v7 :: v8 :: v9 :: v10 :: v11 :: v12 :: v13 :: v14 :: v15 :: v16 :: v17 :: v18 :: v19 :: some (.int (x + y)) :: t) st σ μ Q) (h1 : pw_c1 v19 = v19 := by rfl) : PW X M b1 b2 pc (v0 :: v1 :: v2 :: v3 :: v4 :: v5 :: v6 :: v7 :: v8 :: v9 :: v10 :: v11 :: v12 :: v13 :: v14 :: v15 :: v16 :: v17 :: v18 :: v19 :: some (.int x) :: t) st σ μ Q := by
  subst hy
  refine pw_iinc_g (ls' := v0 :: v1 :: v2 :: v3 :: v4 :: v5 :: v6 :: v7 :: v8 :: v9 :: v10 :: v11 :: v12 :: v13 :: v14 :: v15 :: v16 :: v17 :: v18 :: v19 :: some (.int (x + Int32.ofInt n)) :: t) d rfl hn ?_ k
  intro j w hj
  match j, hj with
  | 0, hj => exact Or.inr ⟨by omega, hj, by omega⟩
  | 1, hj => exact Or.inr ⟨by omega, hj, by omega⟩
  | 2, hj => exact Or.inr ⟨by omega, hj, by omega⟩
  | 3, hj => exact Or.inr ⟨by omega, hj, by omega⟩
  | 4, hj => exact Or.inr ⟨by omega, hj, by omega⟩
  | 5, hj => exact Or.inr ⟨by omega, hj, by omega⟩
  | 6, hj => exact Or.inr ⟨by omega, hj, by omega⟩
  | 7, hj => exact Or.inr ⟨by omega, hj, by omega⟩
  | 8, hj => exact Or.inr ⟨by omega, hj, by omega⟩
  | 9, hj => exact Or.inr ⟨by omega, hj, by omega⟩
  | 10, hj => exact Or.inr ⟨by omega, hj, by omega⟩
  | 11, hj => exact Or.inr ⟨by omega, hj, by omega⟩
  | 12, hj => exact Or.inr ⟨by omega, hj, by omega⟩
  | 13, hj => exact Or.inr ⟨by omega, hj, by omega⟩
  | 14, hj => exact Or.inr ⟨by omega, hj, by omega⟩
  | 15, hj => exact Or.inr ⟨by omega, hj, by omega⟩
  | 16, hj => exact Or.inr ⟨by omega, hj, by omega⟩
  | 17, hj => exact Or.inr ⟨by omega, hj, by omega⟩
  | 18, hj => exact Or.inr ⟨by omega, hj, by omega⟩
  | 19, hj => exact Or.inr ⟨by omega, hj, fun _ => pw_c1_2 h1 (Option.some.inj hj)⟩
  | 20, hj => exact Or.inl ⟨rfl, (Option.some.inj (Option.some.inj hj)).symm⟩
  | j + 21, hj => exact Or.inr ⟨by omega, hj, by omega⟩
theorem pw_iinc_21 {v0 v1 v2 v3 v4 v5 v6 v7 v8 v9 v10 v11 v12 v13 v14 v15 v16 v17 v18 v19 v20 : Option Value} {t : List (Option Value)} {n : Int} {x y : Int32} (d : decode (mB M) pc = .ok (.iinc 21 n, 3)) (hy : Int32.ofInt n = y) (hn : 21 < mL M) (k : PW X M b1 b2 (pc + 3) (v0 :: v1 :: v2 :: v3 :: v4 :: v5 :: v6 :: v7 :: v8 :: v9 :: v10 :: v11 :: v12 :: v13 :: v14 :: v15 :: v16 :: v17 :: v18 :: v19 :: v20 :: some (.int (x + y)) :: t) st σ μ Q) (h1 : pw_c1 v20 = v20 := by rfl) : PW X M b1 b2 pc (v0 :: v1 :: v2 :: v3 :: v4 :: v5 :: v6 :: v7 :: v8 :: v9 :: v10 :: v11 :: v12 :: v13 :: v14 :: v15 :: v16 :: v17 :: v18 :: v19 :: v20 :: some (.int x) :: t) st σ μ Q := by
  subst hy
  refine pw_iinc_g (ls' := v0 :: v1 :: v2 :: v3 :: v4 :: v5 :: v6 :: v7 :: v8 :: v9 :: v10 :: v11 :: v12 :: v13 :: v14 :: v15 :: v16 :: v17 :: v18 :: v19 :: v20 :: some (.int (x + Int32.ofInt n)) :: t) d rfl hn ?_ k
  intro j w hj
  match j, hj with
  | 0, hj => exact Or.inr ⟨by omega, hj, by omega⟩
  | 1, hj => exact Or.inr ⟨by omega, hj, by omega⟩
  | 2, hj => exact Or.inr ⟨by omega, hj, by omega⟩
  | 3, hj => exact Or.inr ⟨by omega, hj, by omega⟩
  | 4, hj => exact Or.inr ⟨by omega, hj, by omega⟩
  | 5, hj => exact Or.inr ⟨by omega, hj, by omega⟩
  | 6, hj => exact Or.inr ⟨by omega, hj, by omega⟩
  | 7, hj => exact Or.inr ⟨by omega, hj, by omega⟩
  | 8, hj => exact Or.inr ⟨by omega, hj, by omega⟩
  | 9, hj => exact Or.inr ⟨by omega, hj, by omega⟩
  | 10, hj => exact Or.inr ⟨by omega, hj, by omega⟩
  | 11, hj => exact Or.inr ⟨by omega, hj, by omega⟩
  | 12, hj => exact Or.inr ⟨by omega, hj, by omega⟩
  | 13, hj => exact Or.inr ⟨by omega, hj, by omega⟩
  | 14, hj => exact Or.inr ⟨by omega, hj, by omega⟩
  | 15, hj => exact Or.inr ⟨by omega, hj, by omega⟩
  | 16, hj => exact Or.inr ⟨by omega, hj, by omega⟩
  | 17, hj => exact Or.inr ⟨by omega, hj, by omega⟩
  | 18, hj => exact Or.inr ⟨by omega, hj, by omega⟩
  | 19, hj => exact Or.inr ⟨by omega, hj, by omega⟩
  | 20, hj => exact Or.inr ⟨by omega, hj, fun _ => pw_c1_2 h1 (Option.some.inj hj)⟩
  | 21, hj => exact Or.inl ⟨rfl, (Option.some.inj (Option.some.inj hj)).symm⟩
  | j + 22, hj => exact Or.inr ⟨by omega, hj, by omega⟩
theorem pw_iinc_22 {v0 v1 v2 v3 v4 v5 v6 v7 v8 v9 v10 v11 v12 v13 v14 v15 v16 v17 v18 v19 v20 v21 : Option Value} {t : List (Option Value)} {n : Int} {x y : Int32} (d : decode (mB M) pc = .ok (.iinc 22 n, 3)) (hy : Int32.ofInt n = y) (hn : 22 < mL M) (k : PW X M b1 b2 (pc + 3) (v0 :: v1 :: v2 :: v3 :: v4 :: v5 :: v6 :: v7 :: v8 :: v9 :: v10 :: v11 :: v12 :: v13 :: v14 :: v15 :: v16 :: v17 :: v18 :: v19 :: v20 :: v21 :: some (.int (x + y)) :: t) st σ μ Q) (h1 : pw_c1 v21 = v21 := by rfl) : PW X M b1 b2 pc (v0 :: v1 :: v2 :: v3 :: v4 :: v5 :: v6 :: v7 :: v8 :: v9 :: v10 :: v11 :: v12 :: v13 :: v14 :: v15 :: v16 :: v17 :: v18 :: v19 :: v20 :: v21 :: some (.int x) :: t) st σ μ Q := by
  subst hy
  refine pw_iinc_g (ls' := v0 :: v1 :: v2 :: v3 :: v4 :: v5 :: v6 :: v7 :: v8 :: v9 :: v10 :: v11 :: v12 :: v13 :: v14 :: v15 :: v16 :: v17 :: v18 :: v19 :: v20 :: v21 :: some (.int (x + Int32.ofInt n)) :: t) d rfl hn ?_ k
  intro j w hj
  match j, hj with
  | 0, hj => exact Or.inr ⟨by omega, hj, by omega⟩
  | 1, hj => exact Or.inr ⟨by omega, hj, by omega⟩
  | 2, hj => exact Or.inr ⟨by omega, hj, by omega⟩
  | 3, hj => exact Or.inr ⟨by omega, hj, by omega⟩
  | 4, hj => exact Or.inr ⟨by omega, hj, by omega⟩
  | 5, hj => exact Or.inr ⟨by omega, hj, by omega⟩
  | 6, hj => exact Or.inr ⟨by omega, hj, by omega⟩
  | 7, hj => exact Or.inr ⟨by omega, hj, by omega⟩
  | 8, hj => exact Or.inr ⟨by omega, hj, by omega⟩
  | 9, hj => exact Or.inr ⟨by omega, hj, by omega⟩
  | 10, hj => exact Or.inr ⟨by omega, hj, by omega⟩
  | 11, hj => exact Or.inr ⟨by omega, hj, by omega⟩
  | 12, hj => exact Or.inr ⟨by omega, hj, by omega⟩
  | 13, hj => exact Or.inr ⟨by omega, hj, by omega⟩
  | 14, hj => exact Or.inr ⟨by omega, hj, by omega⟩
  | 15, hj => exact Or.inr ⟨by omega, hj, by omega⟩
  | 16, hj => exact Or.inr ⟨by omega, hj, by omega⟩
  | 17, hj => exact Or.inr ⟨by omega, hj, by omega⟩
  | 18, hj => exact Or.inr ⟨by omega, hj, by omega⟩
  | 19, hj => exact Or.inr ⟨by omega, hj, by omega⟩
  | 20, hj => exact Or.inr ⟨by omega, hj, by omega⟩
  | 21, hj => exact Or.inr ⟨by omega, hj, fun _ => pw_c1_2 h1 (Option.some.inj hj)⟩
  | 22, hj => exact Or.inl ⟨rfl, (Option.some.inj (Option.some.inj hj)).symm⟩
  | j + 23, hj => exact Or.inr ⟨by omega, hj, by omega⟩
theorem pw_iinc_23 {v0 v1 v2 v3 v4 v5 v6 v7 v8 v9 v10 v11 v12 v13 v14 v15 v16 v17 v18 v19 v20 v21 v22 : Option Value} {t : List (Option Value)} {n : Int} {x y : Int32} (d : decode (mB M) pc = .ok (.iinc 23 n, 3)) (hy : Int32.ofInt n = y) (hn : 23 < mL M) (k : PW X M b1 b2 (pc + 3) (v0 :: v1 :: v2 :: v3 :: v4 :: v5 :: v6 :: v7 :: v8 :: v9 :: v10 :: v11 :: v12 :: v13 :: v14 :: v15 :: v16 :: v17 :: v18 :: v19 :: v20 :: v21 :: v22 :: some (.int (x + y)) :: t) st σ μ Q) (h1 : pw_c1 v22 = v22 := by rfl) : PW X M b1 b2 pc (v0 :: v1 :: v2 :: v3 :: v4 :: v5 :: v6 :: v7 :: v8 :: v9 :: v10 :: v11 :: v12 :: v13 :: v14 :: v15 :: v16 :: v17 :: v18 :: v19 :: v20 :: v21 :: v22 :: some (.int x) :: t) st σ μ Q := by
  subst hy
  refine pw_iinc_g (ls' := v0 :: v1 :: v2 :: v3 :: v4 :: v5 :: v6 :: v7 :: v8 :: v9 :: v10 :: v11 :: v12 :: v13 :: v14 :: v15 :: v16 :: v17 :: v18 :: v19 :: v20 :: v21 :: v22 :: some (.int (x + Int32.ofInt n)) :: t) d rfl hn ?_ k
  intro j w hj
  match j, hj with
  | 0, hj => exact Or.inr ⟨by omega, hj, by omega⟩
  | 1, hj => exact Or.inr ⟨by omega, hj, by omega⟩
  | 2, hj => exact Or.inr ⟨by omega, hj, by omega⟩
  | 3, hj => exact Or.inr ⟨by omega, hj, by omega⟩
  | 4, hj => exact Or.inr ⟨by omega, hj, by omega⟩
  | 5, hj => exact Or.inr ⟨by omega, hj, by omega⟩
  | 6, hj => exact Or.inr ⟨by omega, hj, by omega⟩
  | 7, hj => exact Or.inr ⟨by omega, hj, by omega⟩
  | 8, hj => exact Or.inr ⟨by omega, hj, by omega⟩
  | 9, hj => exact Or.inr ⟨by omega, hj, by omega⟩
  | 10, hj => exact Or.inr ⟨by omega, hj, by omega⟩
  | 11, hj => exact Or.inr ⟨by omega, hj, by omega⟩
  | 12, hj => exact Or.inr ⟨by omega, hj, by omega⟩
  | 13, hj => exact Or.inr ⟨by omega, hj, by omega⟩
  | 14, hj => exact Or.inr ⟨by omega, hj, by omega⟩
  | 15, hj => exact Or.inr ⟨by omega, hj, by omega⟩
  | 16, hj => exact Or.inr ⟨by omega, hj, by omega⟩
  | 17, hj => exact Or.inr ⟨by omega, hj, by omega⟩
  | 18, hj => exact Or.inr ⟨by omega, hj, by omega⟩
  | 19, hj => exact Or.inr ⟨by omega, hj, by omega⟩
  | 20, hj => exact Or.inr ⟨by omega, hj, by omega⟩
  | 21, hj => exact Or.inr ⟨by omega, hj, by omega⟩
  | 22, hj => exact Or.inr ⟨by omega, hj, fun _ => pw_c1_2 h1 (Option.some.inj hj)⟩
  | 23, hj => exact Or.inl ⟨rfl, (Option.some.inj (Option.some.inj hj)).symm⟩
  | j + 24, hj => exact Or.inr ⟨by omega, hj, by omega⟩
theorem pw_iinc_24 {v0 v1 v2 v3 v4 v5 v6 v7 v8 v9 v10 v11 v12 v13 v14 v15 v16 v17 v18 v19 v20 v21 v22 v23 : Option Value} {t : List (Option Value)} {n : Int} {x y : Int32} (d : decode (mB M) pc = .ok (.iinc 24 n, 3)) (hy : Int32.ofInt n = y) (hn : 24 < mL M) (k : PW X M b1 b2 (pc + 3) (v0 :: v1 :: v2 :: v3 :: v4 :: v5 :: v6 :: v7 :: v8 :: v9 :: v10 :: v11 :: v12 :: v13 :: v14 :: v15 :: v16 :: v17 :: v18 :: v19 :: v20 :: v21 :: v22 :: v23 :: some (.int (x + y)) :: t) st σ μ Q) (h1 : pw_c1 v23 = v23 := by rfl) : PW X M b1 b2 pc (v0 :: v1 :: v2 :: v3 :: v4 :: v5 :: v6 :: v7 :: v8 :: v9 :: v10 :: v11 :: v12 :: v13 :: v14 :: v15 :: v16 :: v17 :: v18 :: v19 :: v20 :: v21 :: v22 :: v23 :: some (.int x) :: t) st σ μ Q := by
  subst hy
  refine pw_iinc_g (ls' := v0 :: v1 :: v2 :: v3 :: v4 :: v5 :: v6 :: v7 :: v8 :: v9 :: v10 :: v11 :: v12 :: v13 :: v14 :: v15 :: v16 :: v17 :: v18 :: v19 :: v20 :: v21 :: v22 :: v23 :: some (.int (x + Int32.ofInt n)) :: t) d rfl hn ?_ k
  intro j w hj
  match j, hj with
  | 0, hj => exact Or.inr ⟨by omega, hj, by omega⟩
  | 1, hj => exact Or.inr ⟨by omega, hj, by omega⟩
  | 2, hj => exact Or.inr ⟨by omega, hj, by omega⟩
  | 3, hj => exact Or.inr ⟨by omega, hj, by omega⟩
  | 4, hj => exact Or.inr ⟨by omega, hj, by omega⟩
  | 5, hj => exact Or.inr ⟨by omega, hj, by omega⟩
  | 6, hj => exact Or.inr ⟨by omega, hj, by omega⟩
  | 7, hj => exact Or.inr ⟨by omega, hj, by omega⟩
  | 8, hj => exact Or.inr ⟨by omega, hj, by omega⟩
  | 9, hj => exact Or.inr ⟨by omega, hj, by omega⟩
  | 10, hj => exact Or.inr ⟨by omega, hj, by omega⟩
  | 11, hj => exact Or.inr ⟨by omega, hj, by omega⟩
  | 12, hj => exact Or.inr ⟨by omega, hj, by omega⟩
  | 13, hj => exact Or.inr ⟨by omega, hj, by omega⟩
  | 14, hj => exact Or.inr ⟨by omega, hj, by omega⟩
  | 15, hj => exact Or.inr ⟨by omega, hj, by omega⟩
  | 16, hj => exact Or.inr ⟨by omega, hj, by omega⟩
  | 17, hj => exact Or.inr ⟨by omega, hj, by omega⟩
  | 18, hj => exact Or.inr ⟨by omega, hj, by omega⟩
  | 19, hj => exact Or.inr ⟨by omega, hj, by omega⟩
  | 20, hj => exact Or.inr ⟨by omega, hj, by omega⟩
  | 21, hj => exact Or.inr ⟨by omega, hj, by omega⟩
  | 22, hj => exact Or.inr ⟨by omega, hj, by omega⟩
  | 23, hj => exact Or.inr ⟨by omega, hj, fun _ => pw_c1_2 h1 (Option.some.inj hj)⟩
  | 24, hj => exact Or.inl ⟨rfl, (Option.some.inj (Option.some.inj hj)).symm⟩
  | j + 25, hj => exact Or.inr ⟨by omega, hj, by omega⟩
theorem pw_iinc_25 {v0 v1 v2 v3 v4 v5 v6 v7 v8 v9 v10 v11 v12 v13 v14 v15 v16 v17 v18 v19 v20 v21 v22 v23 v24 : Option Value} {t : List (Option Value)} {n : Int} {x y : Int32} (d : decode (mB M) pc = .ok (.iinc 25 n, 3)) (hy : Int32.ofInt n = y) (hn : 25 < mL M) (k : PW X M b1 b2 (pc + 3) (v0 :: v1 :: v2 :: v3 :: v4 :: v5 :: v6 :: v7 :: v8 :: v9 :: v10 :: v11 :: v12 :: v13 :: v14 :: v15 :: v16 :: v17 :: v18 :: v19 :: v20 :: v21 :: v22 :: v23 :: v24 :: some (.int (x + y)) :: t) st σ μ Q) (h1 : pw_c1 v24 = v24 := by rfl) : PW X M b1 b2 pc (v0 :: v1 :: v2 :: v3 :: v4 :: v5 :: v6 :: v7 :: v8 :: v9 :: v10 :: v11 :: v12 :: v13 :: v14 :: v15 :: v16 :: v17 :: v18 :: v19 :: v20 :: v21 :: v22 :: v23 :: v24 :: some (.int x) :: t) st σ μ Q := by
  subst hy
  refine pw_iinc_g (ls' := v0 :: v1 :: v2 :: v3 :: v4 :: v5 :: v6 :: v7 :: v8 :: v9 :: v10 :: v11 :: v12 :: v13 :: v14 :: v15 :: v16 :: v17 :: v18 :: v19 :: v20 :: v21 :: v22 :: v23 :: v24 :: some (.int (x + Int32.ofInt n)) :: t) d rfl hn ?_ k
  intro j w hj
  match j, hj with
  | 0, hj => exact Or.inr ⟨by omega, hj, by omega⟩
  | 1, hj => exact Or.inr ⟨by omega, hj, by omega⟩
  | 2, hj => exact Or.inr ⟨by omega, hj, by omega⟩
  | 3, hj => exact Or.inr ⟨by omega, hj, by omega⟩
  | 4, hj => exact Or.inr ⟨by omega, hj, by omega⟩
  | 5, hj => exact Or.inr ⟨by omega, hj, by omega⟩
  | 6, hj => exact Or.inr ⟨by omega, hj, by omega⟩
  | 7, hj => exact Or.inr ⟨by omega, hj, by omega⟩
  | 8, hj => exact Or.inr ⟨by omega, hj, by omega⟩
  | 9, hj => exact Or.inr ⟨by omega, hj, by omega⟩
  | 10, hj => exact Or.inr ⟨by omega, hj, by omega⟩
  | 11, hj => exact Or.inr ⟨by omega, hj, by omega⟩
  | 12, hj => exact Or.inr ⟨by omega, hj, by omega⟩
  | 13, hj => exact Or.inr ⟨by omega, hj, by omega⟩
  | 14, hj => exact Or.inr ⟨by omega, hj, by omega⟩
  | 15, hj => exact Or.inr ⟨by omega, hj, by omega⟩
  | 16, hj => exact Or.inr ⟨by omega, hj, by omega⟩
  | 17, hj => exact Or.inr ⟨by omega, hj, by omega⟩
  | 18, hj => exact Or.inr ⟨by omega, hj, by omega⟩
  | 19, hj => exact Or.inr ⟨by omega, hj, by omega⟩
  | 20, hj => exact Or.inr ⟨by omega, hj, by omega⟩
  | 21, hj => exact Or.inr ⟨by omega, hj, by omega⟩
  | 22, hj => exact Or.inr ⟨by omega, hj, by omega⟩
  | 23, hj => exact Or.inr ⟨by omega, hj, by omega⟩
  | 24, hj => exact Or.inr ⟨by omega, hj, fun _ => pw_c1_2 h1 (Option.some.inj hj)⟩
  | 25, hj => exact Or.inl ⟨rfl, (Option.some.inj (Option.some.inj hj)).symm⟩
  | j + 26, hj => exact Or.inr ⟨by omega, hj, by omega⟩
theorem pw_iinc_26 {v0 v1 v2 v3 v4 v5 v6 v7 v8 v9 v10 v11 v12 v13 v14 v15 v16 v17 v18 v19 v20 v21 v22 v23 v24 v25 : Option Value} {t : List (Option Value)} {n : Int} {x y : Int32} (d : decode (mB M) pc = .ok (.iinc 26 n, 3)) (hy : Int32.ofInt n = y) (hn : 26 < mL M) (k : PW X M b1 b2 (pc + 3) (v0 :: v1 :: v2 :: v3 :: v4 :: v5 :: v6 :: v7 :: v8 :: v9 :: v10 :: v11 :: v12 :: v13 :: v14 :: v15 :: v16 :: v17 :: v18 :: v19 :: v20 :: v21 :: v22 :: v23 :: v24 :: v25 :: some (.int (x + y)) :: t) st σ μ Q) (h1 : pw_c1 v25 = v25 := by rfl) : PW X M b1 b2 pc (v0 :: v1 :: v2 :: v3 :: v4 :: v5 :: v6 :: v7 :: v8 :: v9 :: v10 :: v11 :: v12 :: v13 :: v14 :: v15 :: v16 :: v17 :: v18 :: v19 :: v20 :: v21 :: v22 :: v23 :: v24 :: v25 :: some (.int x) :: t) st σ μ Q := by
  subst hy
  refine pw_iinc_g (ls' := v0 :: v1 :: v2 :: v3 :: v4 :: v5 :: v6 :: v7 :: v8 :: v9 :: v10 :: v11 :: v12 :: v13 :: v14 :: v15 :: v16 :: v17 :: v18 :: v19 :: v20 :: v21 :: v22 :: v23 :: v24 :: v25 :: some (.int (x + Int32.ofInt n)) :: t) d rfl hn ?_ k
  intro j w hj
  match j, hj with
  | 0, hj => exact Or.inr ⟨by omega, hj, by omega⟩
  | 1, hj => exact Or.inr ⟨by omega, hj, by omega⟩
  | 2, hj => exact Or.inr ⟨by omega, hj, by omega⟩
  | 3, hj => exact Or.inr ⟨by omega, hj, by omega⟩
  | 4, hj => exact Or.inr ⟨by omega, hj, by omega⟩
  | 5, hj => exact Or.inr ⟨by omega, hj, by omega⟩
  | 6, hj => exact Or.inr ⟨by omega, hj, by omega⟩
  | 7, hj => exact Or.inr ⟨by omega, hj, by omega⟩
  | 8, hj => exact Or.inr ⟨by omega, hj, by omega⟩
  | 9, hj => exact Or.inr ⟨by omega, hj, by omega⟩
  | 10, hj => exact Or.inr ⟨by omega, hj, by omega⟩
  | 11, hj => exact Or.inr ⟨by omega, hj, by omega⟩
  | 12, hj => exact Or.inr ⟨by omega, hj, by omega⟩
  | 13, hj => exact Or.inr ⟨by omega, hj, by omega⟩
  | 14, hj => exact Or.inr ⟨by omega, hj, by omega⟩
  | 15, hj => exact Or.inr ⟨by omega, hj, by omega⟩
  | 16, hj => exact Or.inr ⟨by omega, hj, by omega⟩
  | 17, hj => exact Or.inr ⟨by omega, hj, by omega⟩
  | 18, hj => exact Or.inr ⟨by omega, hj, by omega⟩
  | 19, hj => exact Or.inr ⟨by omega, hj, by omega⟩
  | 20, hj => exact Or.inr ⟨by omega, hj, by omega⟩
  | 21, hj => exact Or.inr ⟨by omega, hj, by omega⟩
  | 22, hj => exact Or.inr ⟨by omega, hj, by omega⟩
  | 23, hj => exact Or.inr ⟨by omega, hj, by omega⟩
  | 24, hj => exact Or.inr ⟨by omega, hj, by omega⟩
  | 25, hj => exact Or.inr ⟨by omega, hj, fun _ => pw_c1_2 h1 (Option.some.inj hj)⟩
  | 26, hj => exact Or.inl ⟨rfl, (Option.some.inj (Option.some.inj hj)).symm⟩
  | j + 27, hj => exact Or.inr ⟨by omega, hj, by omega⟩
theorem pw_if_eq {x : Int32} {off : Int} (tgt : Nat) (d : decode (mB M) pc = .ok (.ifCond .eq off, 3)) (ht : (pc : Int) + off = (tgt : Int)) (kt : x = 0 → PW X M b1 b2 tgt ls st σ μ Q) (kf : ¬ x = 0 → PW X M b1 b2 (pc + 3) ls st σ μ Q) : PW X M b1 b2 pc ls (.int x :: st) σ μ Q :=
  fun p e R s m args below meth c H locs cells slots ar Z B S P F L c1 c2 K => lv_if_eq B.1 B.2.1 d ht (fun h => kt h p e R s m args below meth c H locs cells slots ar Z B S P F L c1 c2 K) (fun h => kf h p e R s m args below meth c H locs cells slots ar Z B S P F L c1 c2 K)
theorem pw_if_ne {x : Int32} {off : Int} (tgt : Nat) (d : decode (mB M) pc = .ok (.ifCond .ne off, 3)) (ht : (pc : Int) + off = (tgt : Int)) (kt : x ≠ 0 → PW X M b1 b2 tgt ls st σ μ Q) (kf : x = 0 → PW X M b1 b2 (pc + 3) ls st σ μ Q) : PW X M b1 b2 pc ls (.int x :: st) σ μ Q :=
  fun p e R s m args below meth c H locs cells slots ar Z B S P F L c1 c2 K => lv_if_ne B.1 B.2.1 d ht (fun h => kt h p e R s m args below meth c H locs cells slots ar Z B S P F L c1 c2 K) (fun h => kf h p e R s m args below meth c H locs cells slots ar Z B S P F L c1 c2 K)
theorem pw_if_lt {x : Int32} {off : Int} (tgt : Nat) (d : decode (mB M) pc = .ok (.ifCond .lt off, 3)) (ht : (pc : Int) + off = (tgt : Int)) (kt : x < 0 → PW X M b1 b2 tgt ls st σ μ Q) (kf : ¬ x < 0 → PW X M b1 b2 (pc + 3) ls st σ μ Q) : PW X M b1 b2 pc ls (.int x :: st) σ μ Q :=
  fun p e R s m args below meth c H locs cells slots ar Z B S P F L c1 c2 K => lv_if_lt B.1 B.2.1 d ht (fun h => kt h p e R s m args below meth c H locs cells slots ar Z B S P F L c1 c2 K) (fun h => kf h p e R s m args below meth c H locs cells slots ar Z B S P F L c1 c2 K)
theorem pw_if_ge {x : Int32} {off : Int} (tgt : Nat) (d : decode (mB M) pc = .ok (.ifCond .ge off, 3)) (ht : (pc : Int) + off = (tgt : Int)) (kt : 0 ≤ x → PW X M b1 b2 tgt ls st σ μ Q) (kf : ¬ 0 ≤ x → PW X M b1 b2 (pc + 3) ls st σ μ Q) : PW X M b1 b2 pc ls (.int x :: st) σ μ Q :=
  fun p e R s m args below meth c H locs cells slots ar Z B S P F L c1 c2 K => lv_if_ge B.1 B.2.1 d ht (fun h => kt h p e R s m args below meth c H locs cells slots ar Z B S P F L c1 c2 K) (fun h => kf h p e R s m args below meth c H locs cells slots ar Z B S P F L c1 c2 K)
theorem pw_if_gt {x : Int32} {off : Int} (tgt : Nat) (d : decode (mB M) pc = .ok (.ifCond .gt off, 3)) (ht : (pc : Int) + off = (tgt : Int)) (kt : 0 < x → PW X M b1 b2 tgt ls st σ μ Q) (kf : ¬ 0 < x → PW X M b1 b2 (pc + 3) ls st σ μ Q) : PW X M b1 b2 pc ls (.int x :: st) σ μ Q :=
  fun p e R s m args below meth c H locs cells slots ar Z B S P F L c1 c2 K => lv_if_gt B.1 B.2.1 d ht (fun h => kt h p e R s m args below meth c H locs cells slots ar Z B S P F L c1 c2 K) (fun h => kf h p e R s m args below meth c H locs cells slots ar Z B S P F L c1 c2 K)
theorem pw_if_le {x : Int32} {off : Int} (tgt : Nat) (d : decode (mB M) pc = .ok (.ifCond .le off, 3)) (ht : (pc : Int) + off = (tgt : Int)) (kt : x ≤ 0 → PW X M b1 b2 tgt ls st σ μ Q) (kf : ¬ x ≤ 0 → PW X M b1 b2 (pc + 3) ls st σ μ Q) : PW X M b1 b2 pc ls (.int x :: st) σ μ Q :=
  fun p e R s m args below meth c H locs cells slots ar Z B S P F L c1 c2 K => lv_if_le B.1 B.2.1 d ht (fun h => kt h p e R s m args below meth c H locs cells slots ar Z B S P F L c1 c2 K) (fun h => kf h p e R s m args below meth c H locs cells slots ar Z B S P F L c1 c2 K)
theorem pw_icmp_eq {x y : Int32} {off : Int} (tgt : Nat) (d : decode (mB M) pc = .ok (.if_icmp .eq off, 3)) (ht : (pc : Int) + off = (tgt : Int)) (kt : x = y → PW X M b1 b2 tgt ls st σ μ Q) (kf : ¬ x = y → PW X M b1 b2 (pc + 3) ls st σ μ Q) : PW X M b1 b2 pc ls (.int y :: .int x :: st) σ μ Q :=
  fun p e R s m args below meth c H locs cells slots ar Z B S P F L c1 c2 K => lv_icmp_eq B.1 B.2.1 d ht (fun h => kt h p e R s m args below meth c H locs cells slots ar Z B S P F L c1 c2 K) (fun h => kf h p e R s m args below meth c H locs cells slots ar Z B S P F L c1 c2 K)
theorem pw_icmp_ne {x y : Int32} {off : Int} (tgt : Nat) (d : decode (mB M) pc = .ok (.if_icmp .ne off, 3)) (ht : (pc : Int) + off = (tgt : Int)) (kt : x ≠ y → PW X M b1 b2 tgt ls st σ μ Q) (kf : x = y → PW X M b1 b2 (pc + 3) ls st σ μ Q) : PW X M b1 b2 pc ls (.int y :: .int x :: st) σ μ Q :=
  fun p e R s m args below meth c H locs cells slots ar Z B S P F L c1 c2 K => lv_icmp_ne B.1 B.2.1 d ht (fun h => kt h p e R s m args below meth c H locs cells slots ar Z B S P F L c1 c2 K) (fun h => kf h p e R s m args below meth c H locs cells slots ar Z B S P F L c1 c2 K)
theorem pw_icmp_lt {x y : Int32} {off : Int} (tgt : Nat) (d : decode (mB M) pc = .ok (.if_icmp .lt off, 3)) (ht : (pc : Int) + off = (tgt : Int)) (kt : x < y → PW X M b1 b2 tgt ls st σ μ Q) (kf : ¬ x < y → PW X M b1 b2 (pc + 3) ls st σ μ Q) : PW X M b1 b2 pc ls (.int y :: .int x :: st) σ μ Q :=
  fun p e R s m args below meth c H locs cells slots ar Z B S P F L c1 c2 K => lv_icmp_lt B.1 B.2.1 d ht (fun h => kt h p e R s m args below meth c H locs cells slots ar Z B S P F L c1 c2 K) (fun h => kf h p e R s m args below meth c H locs cells slots ar Z B S P F L c1 c2 K)
theorem pw_icmp_ge {x y : Int32} {off : Int} (tgt : Nat) (d : decode (mB M) pc = .ok (.if_icmp .ge off, 3)) (ht : (pc : Int) + off = (tgt : Int)) (kt : y ≤ x → PW X M b1 b2 tgt ls st σ μ Q) (kf : ¬ y ≤ x → PW X M b1 b2 (pc + 3) ls st σ μ Q) : PW X M b1 b2 pc ls (.int y :: .int x :: st) σ μ Q :=
  fun p e R s m args below meth c H locs cells slots ar Z B S P F L c1 c2 K => lv_icmp_ge B.1 B.2.1 d ht (fun h => kt h p e R s m args below meth c H locs cells slots ar Z B S P F L c1 c2 K) (fun h => kf h p e R s m args below meth c H locs cells slots ar Z B S P F L c1 c2 K)
theorem pw_icmp_gt {x y : Int32} {off : Int} (tgt : Nat) (d : decode (mB M) pc = .ok (.if_icmp .gt off, 3)) (ht : (pc : Int) + off = (tgt : Int)) (kt : y < x → PW X M b1 b2 tgt ls st σ μ Q) (kf : ¬ y < x → PW X M b1 b2 (pc + 3) ls st σ μ Q) : PW X M b1 b2 pc ls (.int y :: .int x :: st) σ μ Q :=
  fun p e R s m args below meth c H locs cells slots ar Z B S P F L c1 c2 K => lv_icmp_gt B.1 B.2.1 d ht (fun h => kt h p e R s m args below meth c H locs cells slots ar Z B S P F L c1 c2 K) (fun h => kf h p e R s m args below meth c H locs cells slots ar Z B S P F L c1 c2 K)
theorem pw_icmp_le {x y : Int32} {off : Int} (tgt : Nat) (d : decode (mB M) pc = .ok (.if_icmp .le off, 3)) (ht : (pc : Int) + off = (tgt : Int)) (kt : x ≤ y → PW X M b1 b2 tgt ls st σ μ Q) (kf : ¬ x ≤ y → PW X M b1 b2 (pc + 3) ls st σ μ Q) : PW X M b1 b2 pc ls (.int y :: .int x :: st) σ μ Q :=
  fun p e R s m args below meth c H locs cells slots ar Z B S P F L c1 c2 K => lv_icmp_le B.1 B.2.1 d ht (fun h => kt h p e R s m args below meth c H locs cells slots ar Z B S P F L c1 c2 K) (fun h => kf h p e R s m args below meth c H locs cells slots ar Z B S P F L c1 c2 K)
theorem pw_goto {off : Int} (tgt : Nat) (d : decode (mB M) pc = .ok (.goto off, 3)) (ht : (pc : Int) + off = (tgt : Int)) (k : PW X M b1 b2 tgt ls st σ μ Q) : PW X M b1 b2 pc ls st σ μ Q :=
  fun p e R s m args below meth c H locs cells slots ar Z B S P F L c1 c2 K => lv_goto B.1 B.2.1 d ht (k p e R s m args below meth c H locs cells slots ar Z B S P F L c1 c2 K)
theorem pw_tabIn {dflt lo hi : Int} {offs : Array Int} {len : Nat} {x : Int32} {off : Int} (tgt : Nat) (d : decode (mB M) pc = .ok (.tableswitch dflt lo hi offs, len)) (h1 : ¬ x.toInt < lo) (h2 : ¬ hi < x.toInt) (ho : offs[(x.toInt - lo).toNat]? = some off) (ht : (pc : Int) + off = (tgt : Int)) (k : PW X M b1 b2 tgt ls st σ μ Q) : PW X M b1 b2 pc ls (.int x :: st) σ μ Q :=
  fun p e R s m args below meth c H locs cells slots ar Z B S P F L c1 c2 K => lv_tableIn B.1 B.2.1 d h1 h2 ho ht (k p e R s m args below meth c H locs cells slots ar Z B S P F L c1 c2 K)
theorem pw_tabOut {dflt lo hi : Int} {offs : Array Int} {len : Nat} {x : Int32} (tgt : Nat) (d : decode (mB M) pc = .ok (.tableswitch dflt lo hi offs, len)) (h : x.toInt < lo ∨ hi < x.toInt) (ht : (pc : Int) + dflt = (tgt : Int)) (k : PW X M b1 b2 tgt ls st σ μ Q) : PW X M b1 b2 pc ls (.int x :: st) σ μ Q :=
  fun p e R s m args below meth c H locs cells slots ar Z B S P F L c1 c2 K => lv_tableOut B.1 B.2.1 d h ht (k p e R s m args below meth c H locs cells slots ar Z B S P F L c1 c2 K)
theorem pw_lookup {dflt : Int} {ps : Array (Int × Int)} {len : Nat} {x : Int32} {off : Int} (tgt : Nat) (d : decode (mB M) pc = .ok (.lookupswitch dflt ps, len)) (hp : (ps.toList.zip (ps.toList.drop 1)).all (fun (a, next) => a.1 < next.1) = true) (ho : Op.lookupswitch.offset ps.toList dflt x.toInt = off) (ht : (pc : Int) + off = (tgt : Int)) (k : PW X M b1 b2 tgt ls st σ μ Q) : PW X M b1 b2 pc ls (.int x :: st) σ μ Q :=
  fun p e R s m args below meth c H locs cells slots ar Z B S P F L c1 c2 K => lv_lookup B.1 B.2.1 d hp ho ht (k p e R s m args below meth c H locs cells slots ar Z B S P F L c1 c2 K)
theorem pw_nonnull {x : Nat} {off : Int} (tgt : Nat) (d : decode (mB M) pc = .ok (.ifnonnull off, 3)) (ht : (pc : Int) + off = (tgt : Int)) (k : PW X M b1 b2 tgt ls st σ μ Q) : PW X M b1 b2 pc ls (.ref x :: st) σ μ Q :=
  fun p e R s m args below meth c H locs cells slots ar Z B S P F L c1 c2 K => lv_ifnonnull B.1 B.2.1 d ht (k p e R s m args below meth c H locs cells slots ar Z B S P F L c1 c2 K)
theorem pw_nonnullN {off : Int} (d : decode (mB M) pc = .ok (.ifnonnull off, 3)) (k : PW X M b1 b2 (pc + 3) ls st σ μ Q) : PW X M b1 b2 pc ls (.null :: st) σ μ Q :=
  fun p e R s m args below meth c H locs cells slots ar Z B S P F L c1 c2 K => lv_ifnonnullN B.1 B.2.1 d (k p e R s m args below meth c H locs cells slots ar Z B S P F L c1 c2 K)
theorem pw_ifnull {x : Nat} {off : Int} (d : decode (mB M) pc = .ok (.ifnull off, 3)) (k : PW X M b1 b2 (pc + 3) ls st σ μ Q) : PW X M b1 b2 pc ls (.ref x :: st) σ μ Q :=
  fun p e R s m args below meth c H locs cells slots ar Z B S P F L c1 c2 K => lv_ifnull B.1 B.2.1 d (k p e R s m args below meth c H locs cells slots ar Z B S P F L c1 c2 K)
theorem pw_ifnullN {off : Int} (tgt : Nat) (d : decode (mB M) pc = .ok (.ifnull off, 3)) (ht : (pc : Int) + off = (tgt : Int)) (k : PW X M b1 b2 tgt ls st σ μ Q) : PW X M b1 b2 pc ls (.null :: st) σ μ Q :=
  fun p e R s m args below meth c H locs cells slots ar Z B S P F L c1 c2 K => lv_ifnullN B.1 B.2.1 d ht (k p e R s m args below meth c H locs cells slots ar Z B S P F L c1 c2 K)
theorem pw_ldc {i : Nat} {v : Int32} (d : decode (mB M) pc = .ok (.ldc i, 2)) (h : Cond.constant (mY M).cls i v ∈ pw_Tb) (k : PW X M b1 b2 (pc + 2) ls (.int v :: st) σ μ Q) : PW X M b1 b2 pc ls st σ μ Q :=
  fun p e R s m args below meth c H locs cells slots ar Z B S P F L c1 c2 K => lv_ldc B.1 B.2.1 B.2.2.2.2.1 (B.2.2.2.2.2.1 _ h) d (k p e R s m args below meth c H locs cells slots ar Z B S P F L c1 c2 K)
theorem pw_ldcw {i : Nat} {v : Int32} (d : decode (mB M) pc = .ok (.ldc_w i, 3)) (h : Cond.constant (mY M).cls i v ∈ pw_Tb) (k : PW X M b1 b2 (pc + 3) ls (.int v :: st) σ μ Q) : PW X M b1 b2 pc ls st σ μ Q :=
  fun p e R s m args below meth c H locs cells slots ar Z B S P F L c1 c2 K => lv_ldcw B.1 B.2.1 B.2.2.2.2.1 (B.2.2.2.2.2.1 _ h) d (k p e R s m args below meth c H locs cells slots ar Z B S P F L c1 c2 K)
theorem pw_ldc2 {i : Nat} {v : Int64} (d : decode (mB M) pc = .ok (.ldc2_w i, 3)) (h : Cond.constantLong (mY M).cls i v ∈ pw_Tb) (k : PW X M b1 b2 (pc + 3) ls (.long v :: st) σ μ Q) : PW X M b1 b2 pc ls st σ μ Q :=
  fun p e R s m args below meth c H locs cells slots ar Z B S P F L c1 c2 K => lv_ldc2 B.1 B.2.1 B.2.2.2.2.1 (B.2.2.2.2.2.1 _ h) d (k p e R s m args below meth c H locs cells slots ar Z B S P F L c1 c2 K)
/-- the ends -/
theorem pw_ireturn {x : Int32} {Qi : Int32 → Sp → Mm → Prop} (d : decode (mB M) pc = .ok (.ireturn, 1)) (hr : mRet M = some .int) (hQ : Qi x σ μ) : PW X M b1 b2 pc ls [.int x] σ μ (LI Qi) :=
  fun p e R s m args below meth c H locs cells slots ar Z B S P F L c1 c2 K => K H locs cells slots ar pc (some (.int x)) σ μ ⟨x, rfl, hQ⟩ (Or.inr (Or.inl ⟨x, .int, rfl, hr, rfl, d⟩)) P F (by omega) (by omega)
theorem pw_zreturn {x : Int32} {Qi : Int32 → Sp → Mm → Prop} (d : decode (mB M) pc = .ok (.ireturn, 1)) (hr : mRet M = some .boolean) (hx : x = 0 ∨ x = 1) (hQ : Qi x σ μ) : PW X M b1 b2 pc ls [.int x] σ μ (LI Qi) :=
  fun p e R s m args below meth c H locs cells slots ar Z B S P F L c1 c2 K => K H locs cells slots ar pc (some (.int x)) σ μ ⟨x, rfl, hQ⟩ (Or.inr (Or.inl ⟨x, .boolean, rfl, hr, by rcases hx with rfl | rfl <;> rfl, d⟩)) P F (by omega) (by omega)
theorem pw_return {Qv : Sp → Mm → Prop} (d : decode (mB M) pc = .ok (.return_, 1)) (hr : mRet M = none) (hQ : Qv σ μ) : PW X M b1 b2 pc ls [] σ μ (LV Qv) :=
  fun p e R s m args below meth c H locs cells slots ar Z B S P F L c1 c2 K => K H locs cells slots ar pc none σ μ ⟨rfl, hQ⟩ (Or.inl ⟨rfl, hr, d⟩) P F (by omega) (by omega)
theorem pw_areturn {a : Nat} {C : String} {Qr : Option Nat → Sp → Mm → Prop} (d : decode (mB M) pc = .ok (.areturn, 1)) (hr : mRet M = some (.object C)) (hQ : Qr (some a) σ μ) : PW X M b1 b2 pc ls [.ref a] σ μ (LR Qr) :=
  fun p e R s m args below meth c H locs cells slots ar Z B S P F L c1 c2 K => K H locs cells slots ar pc (some (.ref a)) σ μ ⟨some a, rfl, hQ⟩ (Or.inr (Or.inr ⟨.ref a, C, rfl, Or.inr ⟨a, rfl⟩, hr, d⟩)) P F (by omega) (by omega)
theorem pw_areturnN {C : String} {Qr : Option Nat → Sp → Mm → Prop} (d : decode (mB M) pc = .ok (.areturn, 1)) (hr : mRet M = some (.object C)) (hQ : Qr none σ μ) : PW X M b1 b2 pc ls [.null] σ μ (LR Qr) :=
  fun p e R s m args below meth c H locs cells slots ar Z B S P F L c1 c2 K => K H locs cells slots ar pc (some .null) σ μ ⟨none, rfl, hQ⟩ (Or.inr (Or.inr ⟨.null, C, rfl, Or.inl rfl, hr, d⟩)) P F (by omega) (by omega)
end PWR
