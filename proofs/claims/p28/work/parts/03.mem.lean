/-! A pure memory: kinds, lengths, references and numbers by address; addresses from a base on, one behind the other -/
abbrev Mm : Type := Nat → Nat → Int32
abbrev Sp : Type := (Nat → Nat) × (Nat → Nat) × (Nat → Nat → Option Nat) × Nat
def tg (σ : Sp) : Nat → Nat := σ.1
def ln (σ : Sp) : Nat → Nat := σ.2.1
def rf (σ : Sp) : Nat → Nat → Option Nat := σ.2.2.1
def nn (σ : Sp) : Nat := σ.2.2.2
/-- launch, base, class numbers, the array classes' numbers, the static rows' addresses, the script -/
abbrev Cx : Type := Launch × Nat × va_G × (ClassId × ClassId × ClassId × ClassId × ClassId) × (Nat × Nat × Nat) × (Nat × Nat × (Nat → Int32))
def cxL (X : Cx) : Launch := X.1
def cxB (X : Cx) : Nat := X.2.1
def cxD (X : Cx) : va_G := X.2.2.1
def cxC (X : Cx) : ClassId × ClassId × ClassId × ClassId × ClassId := X.2.2.2.1
def cxT (X : Cx) : Nat × Nat × Nat := X.2.2.2.2.1
def cxS (X : Cx) : Nat × Nat × (Nat → Int32) := X.2.2.2.2.2
/-- which fields of a class are references -/
def pw_fl : Nat → List Bool
  | 0 => [true, true, true, true, true, false, false, false]
  | 1 => [true, false, false]
  | 2 => [true, false]
  | 3 => [true, false]
  | 4 => [true, false, false, false, false, false, false]
  | 5 => [true, true, true, false]
  | 6 => [false, true, true, false, false, false, false, false, false, false, false, false, false, false, false]
  | 7 => [true, true, true, true, true, true]
  | 8 => [true, true, true, true, true, true]
  | _ => []
def pw_R : Nat → String
  | 0 => RX0
  | 1 => RX1
  | 2 => RX2
  | 3 => RX3
  | 4 => RX4
  | 5 => RX5
  | 6 => RX6
  | 7 => RX7
  | _ => RX7
def pw_T : Nat → u_T
  | 0 => TX0
  | 1 => TX1
  | 2 => TX2
  | 3 => TX3
  | 4 => TX4
  | 5 => TX5
  | 6 => TX6
  | 7 => TX7
  | _ => TX7
def pw_ty : Nat → Nat → FieldType
  | 0 => tyX0
  | 1 => tyX1
  | 2 => tyX2
  | 3 => tyX3
  | 4 => tyX4
  | 5 => tyX5
  | 6 => tyX6
  | 7 => tyX7
  | _ => tyX7
def pw_N : Nat → Nat
  | 0 => 8
  | 1 => 3
  | 2 => 2
  | 3 => 2
  | 4 => 7
  | 5 => 4
  | 6 => 15
  | 7 => 6
  | _ => 6
theorem pw_nine {P : Nat → Prop} (h0 : P 0) (h1 : P 1) (h2 : P 2) (h3 : P 3) (h4 : P 4) (h5 : P 5) (h6 : P 6) (h7 : P 7) (h8 : P 8) : ∀ c, c < 9 → P c := by
  intro c hc
  match c, hc with
  | 0, _ => exact h0
  | 1, _ => exact h1
  | 2, _ => exact h2
  | 3, _ => exact h3
  | 4, _ => exact h4
  | 5, _ => exact h5
  | 6, _ => exact h6
  | 7, _ => exact h7
  | 8, _ => exact h8
theorem pw_cl : ∀ c, c < 9 → vwCl[c]? = some (pw_R c, pw_T c, pw_N c) := pw_nine rfl rfl rfl rfl rfl rfl rfl rfl rfl
theorem pw_hty : ∀ c, c < 9 → ∀ k, k < pw_N c → parseFieldDescriptor (pw_T c k).2.2.1 = some (pw_ty c k) := pw_nine tyX0_ok tyX1_ok tyX2_ok tyX3_ok tyX4_ok tyX5_ok tyX6_ok tyX7_ok tyX7_ok
theorem pw_hnm : ∀ c, c < 9 → ∀ a, a < pw_N c → ∀ b, b < pw_N c → a ≠ b → (pw_T c a).2.1 ≠ (pw_T c b).2.1 := pw_nine nmX0 nmX1 nmX2 nmX3 nmX4 nmX5 nmX6 nmX7 nmX7
theorem pw_flN : ∀ c, c < 9 → (pw_fl c).length = pw_N c := pw_nine rfl rfl rfl rfl rfl rfl rfl rfl rfl
def pw_fv (c : Nat) (r : Nat → Option Nat) (f : Nat → Int32) : List Value := (pw_fl c).zipIdx.map (fun q => if q.1 = true then va_rf (r q.2) else .int (f q.2))
theorem pw_fv_len (c : Nat) (r : Nat → Option Nat) (f : Nat → Int32) : (pw_fv c r f).length = (pw_fl c).length := by simp [pw_fv]
theorem pw_fv_get (c : Nat) (r : Nat → Option Nat) (f : Nat → Int32) (k : Nat) : (pw_fv c r f)[k]? = (pw_fl c)[k]?.map (fun b => if b = true then va_rf (r k) else .int (f k)) := by
  simp [pw_fv, List.getElem?_map, List.getElem?_zipIdx]
  cases (pw_fl c)[k]? <;> rfl
theorem pw_fv_I {c k : Nat} (h : (pw_fl c)[k]? = some false) (r : Nat → Option Nat) (f : Nat → Int32) : (pw_fv c r f)[k]? = some (.int (f k)) := by rw [pw_fv_get, h]; rfl
theorem pw_fv_R {c k : Nat} (h : (pw_fl c)[k]? = some true) (r : Nat → Option Nat) (f : Nat → Int32) : (pw_fv c r f)[k]? = some (va_rf (r k)) := by rw [pw_fv_get, h]; rfl
theorem pw_fv_setI {c k : Nat} (h : (pw_fl c)[k]? = some false) (r : Nat → Option Nat) (f : Nat → Int32) (x : Int32) : (pw_fv c r f).set k (.int x) = pw_fv c r (upd f k x) := by
  apply List.ext_getElem?
  intro j
  by_cases hj : j = k
  · subst hj
    have hl : j < (pw_fv c r f).length := by rw [pw_fv_len]; exact (List.getElem?_eq_some_iff.mp h).1
    rw [List.getElem?_set_self hl, pw_fv_I h]
    simp [upd]
  · rw [List.getElem?_set_ne (Ne.symm hj), pw_fv_get, pw_fv_get]
    simp [upd, hj]
theorem pw_fv_setR {c k : Nat} (h : (pw_fl c)[k]? = some true) (r : Nat → Option Nat) (f : Nat → Int32) (v : Option Nat) : (pw_fv c r f).set k (va_rf v) = pw_fv c (va_up r k v) f := by
  apply List.ext_getElem?
  intro j
  by_cases hj : j = k
  · subst hj
    have hl : j < (pw_fv c r f).length := by rw [pw_fv_len]; exact (List.getElem?_eq_some_iff.mp h).1
    rw [List.getElem?_set_self hl, pw_fv_R h]
    simp [va_up]
  · rw [List.getElem?_set_ne (Ne.symm hj), pw_fv_get, pw_fv_get]
    simp [va_up, hj]
/-- a cell out of the pure memory: kinds 1 to 9 objects, 10 char, 11 int, 12 boolean, 13 Bus, 14 Station rows -/
def pw_ce (X : Cx) (σ : Sp) (μ : Mm) (a : Nat) : va_E :=
  if tg σ a = 10 then .inl ((cxC X).1, (ln σ a, .inl (μ a)))
  else if tg σ a = 11 then .inl ((cxC X).2.1, (ln σ a, .inl (μ a)))
  else if tg σ a = 12 then .inl ((cxC X).2.2.1, (ln σ a, .inl (μ a)))
  else if tg σ a = 13 then .inl ((cxC X).2.2.2.1, (ln σ a, .inr (.inr (.inr (.inr (rf σ a))))))
  else if tg σ a = 14 then .inl ((cxC X).2.2.2.2, (ln σ a, .inr (.inr (.inr (.inr (rf σ a))))))
  else .inr (tg σ a - 1, pw_fv (tg σ a - 1) (rf σ a) (μ a))
theorem pw_ce_o {X : Cx} {σ : Sp} {μ : Mm} {a c : Nat} (h : tg σ a = c + 1) (hc : c < 9) : pw_ce X σ μ a = .inr (c, pw_fv c (rf σ a) (μ a)) := by
  unfold pw_ce
  rw [h, if_neg (by omega), if_neg (by omega), if_neg (by omega), if_neg (by omega), if_neg (by omega)]
  rfl
theorem pw_ce_C {X : Cx} {σ : Sp} {μ : Mm} {a : Nat} (h : tg σ a = 10) : pw_ce X σ μ a = .inl ((cxC X).1, (ln σ a, .inl (μ a))) := by unfold pw_ce; rw [if_pos h]
theorem pw_ce_I {X : Cx} {σ : Sp} {μ : Mm} {a : Nat} (h : tg σ a = 11) : pw_ce X σ μ a = .inl ((cxC X).2.1, (ln σ a, .inl (μ a))) := by unfold pw_ce; rw [if_neg (by omega), if_pos h]
theorem pw_ce_B {X : Cx} {σ : Sp} {μ : Mm} {a : Nat} (h : tg σ a = 13) : pw_ce X σ μ a = .inl ((cxC X).2.2.2.1, (ln σ a, .inr (.inr (.inr (.inr (rf σ a)))))) := by unfold pw_ce; rw [if_neg (by omega), if_neg (by omega), if_neg (by omega), if_pos h]
theorem pw_ce_S {X : Cx} {σ : Sp} {μ : Mm} {a : Nat} (h : tg σ a = 14) : pw_ce X σ μ a = .inl ((cxC X).2.2.2.2, (ln σ a, .inr (.inr (.inr (.inr (rf σ a)))))) := by unfold pw_ce; rw [if_neg (by omega), if_neg (by omega), if_neg (by omega), if_neg (by omega), if_pos h]
/-- writes of the pure memory -/
def wr (μ : Mm) (a k : Nat) (x : Int32) : Mm := fun b => if b = a then upd (μ a) k x else μ b
def wR (σ : Sp) (a k : Nat) (v : Option Nat) : Sp := (tg σ, ln σ, (fun b => if b = a then va_up (rf σ a) k v else rf σ b), nn σ)
def wC (μ : Mm) (a : Nat) (f : Nat → Int32) : Mm := fun b => if b = a then f else μ b
def wN (σ : Sp) (B t l : Nat) : Sp := (va_up (tg σ) (B + nn σ) t, va_up (ln σ) (B + nn σ) l, va_up (rf σ) (B + nn σ) (fun _ => none), nn σ + 1)
theorem wr_eq_wC (μ : Mm) (a k : Nat) (x : Int32) : wr μ a k x = wC μ a (upd (μ a) k x) := rfl
theorem wC_self (μ : Mm) (a : Nat) (f : Nat → Int32) : wC μ a f a = f := by simp [wC]
theorem wC_ne (μ : Mm) {a b : Nat} (f : Nat → Int32) (h : b ≠ a) : wC μ a f b = μ b := by simp [wC, h]
/-- the world as the kit's list -/
def pw_ws (X : Cx) (σ : Sp) (μ : Mm) : va_W := (List.range (nn σ)).map (fun k => (cxB X + k, pw_ce X σ μ (cxB X + k)))
theorem pw_ws_at {X : Cx} {σ : Sp} {μ : Mm} {a : Nat} (h1 : cxB X ≤ a) (h2 : a < cxB X + nn σ) : (pw_ws X σ μ)[a - cxB X]? = some (a, pw_ce X σ μ a) := by
  unfold pw_ws
  rw [List.getElem?_map, List.getElem?_range (by omega)]
  simp only [Option.map_some]
  rw [Nat.add_sub_cancel' h1]
theorem pw_ws_len (X : Cx) (σ : Sp) (μ : Mm) : (pw_ws X σ μ).length = nn σ := by simp [pw_ws]
theorem pw_ws_get {X : Cx} {σ : Sp} {μ : Mm} {k : Nat} {q : Nat × va_E} (h : (pw_ws X σ μ)[k]? = some q) : k < nn σ ∧ q = (cxB X + k, pw_ce X σ μ (cxB X + k)) := by
  have hk : k < nn σ := by rw [← pw_ws_len X σ μ]; exact (List.getElem?_eq_some_iff.mp h).1
  refine ⟨hk, ?_⟩
  have h2 := pw_ws_at (X := X) (σ := σ) (μ := μ) (a := cxB X + k) (by omega) (by omega)
  rw [show cxB X + k - cxB X = k by omega, h] at h2
  exact Option.some.inj h2
theorem pw_D (X : Cx) (σ : Sp) (μ : Mm) : va_D (fun q => cxB X ≤ q) (pw_ws X σ μ) := by
  refine ⟨fun i j p q hi hj hpq => ?_, fun k q hk => ?_⟩
  · obtain ⟨-, rfl⟩ := pw_ws_get hi
    obtain ⟨-, rfl⟩ := pw_ws_get hj
    have : cxB X + i = cxB X + j := hpq
    omega
  · obtain ⟨-, rfl⟩ := pw_ws_get hk
    show cxB X ≤ cxB X + k
    omega
theorem pw_ws_set {X : Cx} {σ σ' : Sp} {μ μ' : Mm} {a : Nat} {e : va_E} (h1 : cxB X ≤ a) (h2 : a < cxB X + nn σ) (hn : nn σ' = nn σ) (he : pw_ce X σ' μ' a = e) (ho : ∀ b, b ≠ a → pw_ce X σ' μ' b = pw_ce X σ μ b) : (pw_ws X σ μ).set (a - cxB X) (a, e) = pw_ws X σ' μ' := by
  apply List.ext_getElem?
  intro j
  by_cases hj : j < nn σ
  · have e1 := pw_ws_at (X := X) (σ := σ) (μ := μ) (a := cxB X + j) (by omega) (by omega)
    have e2 := pw_ws_at (X := X) (σ := σ') (μ := μ') (a := cxB X + j) (by omega) (by omega)
    rw [show cxB X + j - cxB X = j by omega] at e1 e2
    by_cases hja : j = a - cxB X
    · subst hja
      rw [List.getElem?_set_self (by rw [pw_ws_len]; exact hj), e2, show cxB X + (a - cxB X) = a by omega, he]
    · rw [List.getElem?_set_ne (Ne.symm hja), e1, e2, ho _ (by omega)]
  · rw [List.getElem?_eq_none (by rw [List.length_set, pw_ws_len]; omega), List.getElem?_eq_none (by rw [pw_ws_len]; omega)]
theorem pw_ws_push {X : Cx} {σ σ' : Sp} {μ μ' : Mm} {a : Nat} {e : va_E} (ha : a = cxB X + nn σ) (hn : nn σ' = nn σ + 1) (he : pw_ce X σ' μ' a = e) (ho : ∀ b, b ≠ a → pw_ce X σ' μ' b = pw_ce X σ μ b) : pw_ws X σ μ ++ [(a, e)] = pw_ws X σ' μ' := by
  subst ha
  apply List.ext_getElem?
  intro j
  by_cases hj : j < nn σ
  · have e1 := pw_ws_at (X := X) (σ := σ) (μ := μ) (a := cxB X + j) (by omega) (by omega)
    have e2 := pw_ws_at (X := X) (σ := σ') (μ := μ') (a := cxB X + j) (by omega) (by omega)
    rw [show cxB X + j - cxB X = j by omega] at e1 e2
    rw [List.getElem?_append_left (by rw [pw_ws_len]; exact hj), e1, e2, ho _ (by omega)]
  · rw [List.getElem?_append_right (by rw [pw_ws_len]; omega), pw_ws_len]
    by_cases hj2 : j = nn σ
    · subst hj2
      have e2 := pw_ws_at (X := X) (σ := σ') (μ := μ') (a := cxB X + nn σ) (by omega) (by omega)
      rw [show cxB X + nn σ - cxB X = nn σ by omega] at e2
      rw [e2, he, Nat.sub_self]
      rfl
    · rw [List.getElem?_eq_none (by simp; omega), List.getElem?_eq_none (by rw [pw_ws_len]; omega)]
/-- boolean fields hold 0 or 1 -/
def pw_bo (σ : Sp) (μ : Mm) : Prop := ∀ a, tg σ a = 7 → (μ a 5 = 0 ∨ μ a 5 = 1) ∧ (μ a 6 = 0 ∨ μ a 6 = 1)
/-- the heap holds the pure memory -/
def HP (X : Cx) (σ : Sp) (μ : Mm) (H : Heap) : Prop := va_P (cxD X) vwCl (pw_ws X σ μ) H ∧ H.size = cxB X + nn σ ∧ (∀ a, tg σ a ≠ 0 → cxB X ≤ a ∧ a < cxB X + nn σ) ∧ pw_bo σ μ
def pw_tys (X : Cx) : List (ClassId × FieldType) := [((cxC X).1, .char), ((cxC X).2.1, .int), ((cxC X).2.2.1, .int), ((cxC X).2.2.2.1, .object RX0), ((cxC X).2.2.2.2, .object RX6)]
def pw_AF : Nat → Int32 := fun j => [3, 40, 1, 1, 4].getD j 0
def pw_LO : Nat → Int32 := fun j => [1, 2, 0, 0, 1].getD j 0
def pw_GR : Nat → Int32 := fun j => [20, 99, 9, 9, 9].getD j 0
/-- words of links between nest mates, and of a cast -/
def pw_nest : List Cond := [.fieldLinkNest RX0 9 RX7 "AT_FIRST" "[I" RX7, .fieldLinkNest RX0 59 RX7 "LOWEST" "[I" RX7, .fieldLinkNest RX0 62 RX7 "GREATEST" "[I" RX7,
  .methodLinkNest RX6 11 yX5_init RX7, .methodLinkNest RX6 20 yX2_init RX7, .methodLinkNest RX7 32 yX3_init RX7, .methodLinkNest RX0 41 yX7_copyNumbers RX7, .methodLinkNest RX5 21 yX7_copyNumbers RX7,
  .methodLinkNest RX2 15 yX7_copyNumbers RX7, .methodLinkNest RX0 84 yX7_isWire RX7, .castable "[I" "java/lang/Cloneable"]
theorem pw_nest_in : ∀ w ∈ pw_nest, w ∈ tables_1 := by decide +kernel
theorem pw_nest_on : ∀ w ∈ pw_nest, w.onTables = true := by decide +kernel
def pw_kind : Cond → Bool
  | .fieldLinkNest _ _ _ _ _ _ => true
  | .methodLinkNest _ _ _ _ => true
  | .castable _ _ => true
  | _ => false
theorem pw_nest_kind : ∀ w ∈ pw_nest, pw_kind w = true := by decide +kernel
theorem pw_warm {w : Cond} (hk : pw_kind w = true) {s U : State} (hW : s.WarmedH U.vm) (h : va_Nw w s) : va_Nw w U := by
  cases w with
  | fieldLinkNest a i b n d h' => exact va_Nw.warmF hW h
  | methodLinkNest a i x h' => exact va_Nw.warmM hW h
  | castable a b => exact va_Nw.warmC hW h
  | _ => cases hk
/-- a static row of five numbers -/
def pw_SA (c : ClassId) (t : Nat) (f : Nat → Int32) (H : Heap) : Prop := ∃ cell : Cell, H[t]? = some cell ∧ cell.cls = c ∧ cell.slots = (arrV c 5 (fun j => .int (f j))).slots ∧ cell.vm.isStatics = false ∧ cell.vm ≠ .unknown
/-- what a method's start says of the tables, of what stands below the base -/
def SX (X : Cx) (s : State) : Prop := va_K (cxD X) vwCl (pw_tys X) s ∧ (∀ w ∈ pw_nest, va_Nw w s) ∧ va_AO RX0 s ∧ va_AO RX6 s ∧
  (va_Z RX7 "AT_FIRST" "[I" (.ref (cxT X).1) (fun q => cxB X ≤ q) s s.heap ∧ va_Z RX7 "LOWEST" "[I" (.ref (cxT X).2.1) (fun q => cxB X ≤ q) s s.heap ∧ va_Z RX7 "GREATEST" "[I" (.ref (cxT X).2.2) (fun q => cxB X ≤ q) s s.heap) ∧
  (pw_SA (cxC X).2.1 (cxT X).1 pw_AF s.heap ∧ pw_SA (cxC X).2.1 (cxT X).2.1 pw_LO s.heap ∧ pw_SA (cxC X).2.1 (cxT X).2.2 pw_GR s.heap) ∧
  ((cxT X).1 < cxB X ∧ (cxT X).2.1 < cxB X ∧ (cxT X).2.2 < cxB X) ∧ va_X (cxS X).1 (cxS X).2.1 (cxS X).2.2 s s.heap ∧ (cxS X).1 < cxB X ∧ cxB X ≤ s.heap.size
theorem SX.moved {X : Cx} {s U : State} {H : Heap} {locs : List Loc} (h : SX X s) (hS : va_S (fun q => cxB X ≤ q) s.heap H locs) (hU : U.heap = H) (hW : s.WarmedH U.vm) : SX X U := by
  subst hU
  obtain ⟨hK, hN, hB, hSt, ⟨z1, z2, z3⟩, ⟨p1, p2, p3⟩, ⟨b1, b2, b3⟩, hX, b4, b5⟩ := h
  have hq : ∀ a : Nat, a < s.heap.size → ¬ cxB X ≤ a → U.heap[a]? = s.heap[a]? := hS.2.1
  have hq2 : ∀ {c : ClassId} {t : Nat} {f : Nat → Int32}, t < cxB X → pw_SA c t f s.heap → pw_SA c t f U.heap := by
    intro c t f ht hP
    obtain ⟨cell, h1, h2⟩ := hP
    exact ⟨cell, by rw [hq t (by omega) (by omega)]; exact h1, h2⟩
  exact ⟨hK.moved hW.alike, fun w hw => pw_warm (pw_nest_kind w hw) hW (hN w hw), hB.moved hW.alike, hSt.moved hW.alike, ⟨(z1.kept hq).moved hW.alike, (z2.kept hq).moved hW.alike, (z3.kept hq).moved hW.alike⟩,
    ⟨hq2 b1 p1, hq2 b2 p2, hq2 b3 p3⟩, ⟨b1, b2, b3⟩, (hX.kept (hq _ (by omega) (by omega))).moved hW.alike, b4, Nat.le_trans b5 hS.1⟩

