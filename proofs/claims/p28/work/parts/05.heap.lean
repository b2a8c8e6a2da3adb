/-! The walk over the pure memory: fields, rows of numbers, calls, makings -/
theorem pw_bo_wr {σ : Sp} {μ : Mm} {a k : Nat} {x : Int32} (h : pw_bo σ μ) (hk : tg σ a = 7 → (k = 5 ∨ k = 6) → x = 0 ∨ x = 1) : pw_bo σ (wr μ a k x) := by
  intro b hb
  obtain ⟨h1, h2⟩ := h b hb
  by_cases hba : b = a
  · subst hba
    simp only [wr, upd, if_true]
    refine ⟨?_, ?_⟩
    · by_cases h5 : 5 = k
      · rw [if_pos h5]; exact hk hb (Or.inl h5.symm)
      · rw [if_neg h5]; exact h1
    · by_cases h6 : 6 = k
      · rw [if_pos h6]; exact hk hb (Or.inr h6.symm)
      · rw [if_neg h6]; exact h2
  · simp only [wr, if_neg hba]
    exact ⟨h1, h2⟩
theorem pw_bo_wC {σ : Sp} {μ : Mm} {a : Nat} {f : Nat → Int32} (h : pw_bo σ μ) (hk : tg σ a ≠ 7) : pw_bo σ (wC μ a f) := by
  intro b hb
  by_cases hba : b = a
  · subst hba
    exact absurd hb hk
  · simp only [wC, if_neg hba]
    exact h b hb
/-- an own cell changed, the kinds stay -/
theorem HP.upd {X : Cx} {σ σ' : Sp} {μ μ' : Mm} {H H1 : Heap} {a : Nat} {e : va_E} (h : HP X σ μ H) (ha : tg σ a ≠ 0) (ht : tg σ' = tg σ) (hn : nn σ' = nn σ) (hP : va_P (cxD X) vwCl ((pw_ws X σ μ).set (a - cxB X) (a, e)) H1) (hz : H1.size = H.size) (he : pw_ce X σ' μ' a = e) (ho : ∀ b, b ≠ a → pw_ce X σ' μ' b = pw_ce X σ μ b) (hb : pw_bo σ' μ') : HP X σ' μ' H1 := by
  obtain ⟨h1, h2⟩ := h.2.2.1 a ha
  rw [pw_ws_set h1 h2 hn he ho] at hP
  exact ⟨hP, by rw [hz, hn]; exact h.2.1, by rw [ht, hn]; exact h.2.2.1, hb⟩
theorem HP.at {X : Cx} {σ : Sp} {μ : Mm} {H : Heap} {a : Nat} (h : HP X σ μ H) (ha : tg σ a ≠ 0) : (pw_ws X σ μ)[a - cxB X]? = some (a, pw_ce X σ μ a) := pw_ws_at (h.2.2.1 a ha).1 (h.2.2.1 a ha).2
theorem pw_hin : ∀ c, c < 9 → ∀ w ∈ u_ws (pw_R c) (pw_T c) (pw_N c), w ∈ pw_Tb := by
  refine pw_nine ?_ ?_ ?_ ?_ ?_ ?_ ?_ ?_ ?_ <;> exact fun w h => List.mem_filter.mpr ⟨List.mem_append_right _ (List.all_eq_true.mp (show List.all _ (fun w => decide (w ∈ tables_1)) = true by decide +kernel) w h |> of_decide_eq_true), List.all_eq_true.mp (show List.all _ goodWord = true by decide +kernel) w h⟩
section PWH
variable {X : Cx} {M : Mt} {b1 b2 pc : Nat} {ls : List (Option Value)} {st : List Value} {σ : Sp} {μ : Mm} {Q : Option Value → Sp → Mm → Prop}
theorem pw_getI {a i : Nat} (c k : Nat) (d : decode (mB M) pc = .ok (.getfield i, 3)) (hw : Cond.fieldLink (mY M).cls i (pw_R c) (pw_T c k).2.1 (pw_T c k).2.2.1 ∈ pw_Tb) (hr : (pw_T c k).1 = pw_R c) (hc : c < 9) (hf : (pw_fl c)[k]? = some false) (ht : tg σ a = c + 1) (kk : PW X M b1 b2 (pc + 3) ls (.int (μ a k) :: st) σ μ Q) : PW X M b1 b2 pc ls (.ref a :: st) σ μ Q := by
  intro p e R s m args below meth cd H locs cells slots ar Z B S P F L c1 c2 K
  refine va_get B.1 B.2.1 B.2.2.2.2.2.1 (pw_hin c hc) B.2.2.2.2.1 S.1 P.1 (a - cxB X) (fs := pw_fv c (rf σ a) (μ a)) (by rw [P.at (by omega), pw_ce_o ht hc]) (pw_cl c hc) k (by rw [← pw_flN c hc]; exact (List.getElem?_eq_some_iff.mp hf).1) (B.2.2.2.2.2.1 _ hw) (fun x h => by rw [← hr]; exact h) (pw_fv_I hf _ _) d (kk p e R s m args below meth cd H locs cells slots ar Z B S P F L c1 c2 K)
theorem pw_getR {a i : Nat} (c k : Nat) {o : Option Nat} (d : decode (mB M) pc = .ok (.getfield i, 3)) (hw : Cond.fieldLink (mY M).cls i (pw_R c) (pw_T c k).2.1 (pw_T c k).2.2.1 ∈ pw_Tb) (hr : (pw_T c k).1 = pw_R c) (hc : c < 9) (hf : (pw_fl c)[k]? = some true) (ht : tg σ a = c + 1) (ho : rf σ a k = o) (kk : PW X M b1 b2 (pc + 3) ls (va_rf o :: st) σ μ Q) : PW X M b1 b2 pc ls (.ref a :: st) σ μ Q := by
  intro p e R s m args below meth cd H locs cells slots ar Z B S P F L c1 c2 K
  subst ho
  refine va_get B.1 B.2.1 B.2.2.2.2.2.1 (pw_hin c hc) B.2.2.2.2.1 S.1 P.1 (a - cxB X) (fs := pw_fv c (rf σ a) (μ a)) (by rw [P.at (by omega), pw_ce_o ht hc]) (pw_cl c hc) k (by rw [← pw_flN c hc]; exact (List.getElem?_eq_some_iff.mp hf).1) (B.2.2.2.2.2.1 _ hw) (fun x h => by rw [← hr]; exact h) (pw_fv_R hf _ _) d (kk p e R s m args below meth cd H locs cells slots ar Z B S P F L c1 c2 K)
theorem pw_getr {a i q : Nat} (c k : Nat) (d : decode (mB M) pc = .ok (.getfield i, 3)) (hw : Cond.fieldLink (mY M).cls i (pw_R c) (pw_T c k).2.1 (pw_T c k).2.2.1 ∈ pw_Tb) (hr : (pw_T c k).1 = pw_R c) (hc : c < 9) (hf : (pw_fl c)[k]? = some true) (ht : tg σ a = c + 1) (ho : rf σ a k = some q) (kk : PW X M b1 b2 (pc + 3) ls (.ref q :: st) σ μ Q) : PW X M b1 b2 pc ls (.ref a :: st) σ μ Q := pw_getR c k d hw hr hc hf ht ho kk
theorem pw_size {X : Cx} {σ : Sp} {μ : Mm} {H H1 : Heap} (h : HP X σ μ H) : True := trivial
theorem pw_putG {a i : Nat} (c k : Nat) {v : Value} {ty : FieldType} {σ' : Sp} {μ' : Mm} (d : decode (mB M) pc = .ok (.putfield i, 3)) (hw : Cond.fieldLink (mY M).cls i (pw_R c) (pw_T c k).2.1 (pw_T c k).2.2.1 ∈ pw_Tb) (hr : (pw_T c k).1 = pw_R c) (hc : c < 9) (hk : k < pw_N c)
    (hfin : (pw_T c k).2.2.2 = false ∨ ((pw_T c k).2.2.2 = true ∧ (mY M).name = "<init>" ∧ (mY M).cls = pw_R c)) (hty : pw_ty c k = ty) (hn : narrow ty v = v) (hfit : fits ty v = true) (ht : tg σ a = c + 1)
    (h1 : tg σ' = tg σ) (h2 : nn σ' = nn σ) (h3 : (pw_fv c (rf σ a) (μ a)).set k v = pw_fv c (rf σ' a) (μ' a)) (h4 : ∀ b, b ≠ a → pw_ce X σ' μ' b = pw_ce X σ μ b) (h5 : pw_bo σ μ → pw_bo σ' μ') (kk : PW X M b1 b2 (pc + 3) ls st σ' μ' Q) : PW X M b1 b2 pc ls (v :: .ref a :: st) σ μ Q := by
  intro p e R s m args below meth cd H locs cells slots ar Z B S P F L c1 c2 K
  have he : (pw_ws X σ μ)[a - cxB X]? = some (a, .inr (c, pw_fv c (rf σ a) (μ a))) := by rw [P.at (by omega), pw_ce_o ht hc]
  have hcl := pw_cl c hc
  have hd : parseFieldDescriptor (pw_T c k).2.2.1 = some ty := by rw [pw_hty c hc k hk, hty]
  have hl : k < (pw_fv c (rf σ a) (μ a)).length := by rw [pw_fv_len, pw_flN c hc]; exact hk
  have hts := B.2.2.2.2.2.1
  have hown := B.2.2.2.2.1
  have hap := va_apart (own := (mY M).cls) hts (pw_hin c hc) (pw_ty c) (pw_hty c hc) (pw_hnm c hc) S.1 hcl
  obtain ⟨r, g1, cell, q1, q2, q3, q4⟩ := P.1 _ _ he
  have hrr : r = (pw_R c, pw_T c, pw_N c) := Option.some.inj (g1.symm.trans hcl)
  subst hrr
  obtain ⟨hS, hfc, kC, hkC, hkind⟩ := S.1.1 c _ hcl
  obtain ⟨cf, kf, fi, f, hi, hsl⟩ := hS k hk
  have hsame : ∀ x, s.fieldFound? (pw_T c k).1 (pw_T c k).2.1 (pw_T c k).2.2.1 = some x → s.fieldFound? (pw_R c) (pw_T c k).2.1 (pw_T c k).2.2.1 = some x := fun x h => by rw [← hr]; exact h
  have hst := (u_facts hfc hkC (u_lays hts (pw_hin c hc) hk) hi).1
  have fin : ∀ (H1 : Heap), H1[a]? = some (cell.setSlot f.slot v) → H1.size = H.size → (∀ q : Nat, q ≠ a → H1[q]? = H[q]?) → W p (cxL X) e R s m args below meth cd H1 (locs ++ [⟨a, f.slot⟩]) cells slots Z (F0 m (pc + 3) ar st) := by
    intro H1 e1 e2 e3
    rw [hsl] at e1
    refine kk p e R s m args below meth cd H1 _ cells slots ar Z B S (P.upd (by omega) h1 h2 (P.1.set (pw_D X σ μ) he (e := .inr (c, (pw_fv c (rf σ a) (μ a)).set k v)) ⟨_, hcl, t_OB.to (V := updV (vp_V (pw_fv c (rf σ a) (μ a))) k v) ⟨_, e1, q2, q3, t_set q4 hap hk v⟩ (fun j _ => vp_updV_set hl v j)⟩ e3) e2 ?_ h4 (h5 P.2.2.2)) (F.put e2 e3 (P.2.2.1 a (by omega)).1) L c1 c2 K
    rw [pw_ce_o (by rw [h1]; exact ht) hc, h3]
  rcases hfin with hfin | ⟨hfin, hinit, hcls⟩
  · have hlay := hts _ (pw_hin c hc _ (u_in_lay hk))
    unfold u_lay at hlay
    rw [if_neg (by rw [hfin]; decide)] at hlay
    have h6 := u_store hfc hkC hkind hlay hi hd hn hfit
    exact W.putK B.1 B.2.1 (f := f) ⟨hown, hts _ hw, ⟨_, _, _, hsame _ hi⟩, hst⟩ (by rw [q2]; exact h6) q1 q3 (by rw [hsl]; exact k2_hasslot (q4 k hk)) rfl rfl d fun H' e1 e2 e3 => fin H' e1 e2 e3
  · have hlay := hts _ (pw_hin c hc _ (u_in_lay hk))
    unfold u_lay at hlay
    rw [if_pos hfin] at hlay
    have hcf : m.cls = cf := by
      obtain ⟨_, _, c', _, _, _, -, -, hf', -, -, -, hown2, -⟩ := Cond.laysFinal_spec hlay
      have e1 : c' = cf := by have := hi.symm.trans hf'; simp at this; exact this.1.symm
      rw [hr, ← hcls] at hown2
      rw [← e1]; exact Option.some.inj (hown.symm.trans hown2)
    have h6 := u_fits hfc hkC hkind (Or.inr hlay) hi hd hn hfit
    exact W.putFinK B.1 B.2.1 hown (hts _ hw) (hsame _ hi) hst hcf (B.2.2.2.2.2.2.2.1 hinit) (by rw [q2]; exact h6) q1 q3 (by rw [hsl]; exact k2_hasslot (q4 k hk)) rfl rfl d fun H' e1 e2 e3 => fin H' e1 e2 e3
theorem pw_ce_wr {X : Cx} {σ : Sp} {μ : Mm} {a k : Nat} {x : Int32} : ∀ b, b ≠ a → pw_ce X σ (wr μ a k x) b = pw_ce X σ μ b := by
  intro b hb
  simp [pw_ce, wr, hb]
theorem pw_ce_wC {X : Cx} {σ : Sp} {μ : Mm} {a : Nat} {f : Nat → Int32} : ∀ b, b ≠ a → pw_ce X σ (wC μ a f) b = pw_ce X σ μ b := by
  intro b hb
  simp [pw_ce, wC, hb]
theorem pw_ce_wR {X : Cx} {σ : Sp} {μ : Mm} {a k : Nat} {v : Option Nat} : ∀ b, b ≠ a → pw_ce X (wR σ a k v) μ b = pw_ce X σ μ b := by
  intro b hb
  have h : rf (wR σ a k v) b = rf σ b := if_neg hb
  unfold pw_ce
  rw [h]
  rfl
theorem pw_putI {a i : Nat} (c k : Nat) {x : Int32} (d : decode (mB M) pc = .ok (.putfield i, 3)) (hw : Cond.fieldLink (mY M).cls i (pw_R c) (pw_T c k).2.1 (pw_T c k).2.2.1 ∈ pw_Tb) (hr : (pw_T c k).1 = pw_R c) (hc : c < 9) (hf : (pw_fl c)[k]? = some false)
    (hfin : (pw_T c k).2.2.2 = false ∨ ((pw_T c k).2.2.2 = true ∧ (mY M).name = "<init>" ∧ (mY M).cls = pw_R c)) (hty : pw_ty c k = .int) (hz : ¬ (c = 6 ∧ (k = 5 ∨ k = 6))) (ht : tg σ a = c + 1) (kk : PW X M b1 b2 (pc + 3) ls st σ (wr μ a k x) Q) : PW X M b1 b2 pc ls (.int x :: .ref a :: st) σ μ Q :=
  pw_putG c k d hw hr hc (by rw [← pw_flN c hc]; exact (List.getElem?_eq_some_iff.mp hf).1) hfin hty rfl rfl ht rfl rfl (by rw [pw_fv_setI hf]; simp [wr]) pw_ce_wr (fun h => pw_bo_wr h (fun h7 h5 => absurd ⟨by omega, h5⟩ hz)) kk
theorem pw_putZ {a i : Nat} (c k : Nat) {x : Int32} (d : decode (mB M) pc = .ok (.putfield i, 3)) (hw : Cond.fieldLink (mY M).cls i (pw_R c) (pw_T c k).2.1 (pw_T c k).2.2.1 ∈ pw_Tb) (hr : (pw_T c k).1 = pw_R c) (hc : c < 9) (hf : (pw_fl c)[k]? = some false)
    (hfin : (pw_T c k).2.2.2 = false ∨ ((pw_T c k).2.2.2 = true ∧ (mY M).name = "<init>" ∧ (mY M).cls = pw_R c)) (hty : pw_ty c k = .boolean) (hx : x = 0 ∨ x = 1) (ht : tg σ a = c + 1) (kk : PW X M b1 b2 (pc + 3) ls st σ (wr μ a k x) Q) : PW X M b1 b2 pc ls (.int x :: .ref a :: st) σ μ Q :=
  pw_putG c k d hw hr hc (by rw [← pw_flN c hc]; exact (List.getElem?_eq_some_iff.mp hf).1) hfin hty (by rcases hx with rfl | rfl <;> rfl) (by rcases hx with rfl | rfl <;> rfl) ht rfl rfl (by rw [pw_fv_setI hf]; simp [wr]) pw_ce_wr (fun h => pw_bo_wr h (fun _ _ => hx)) kk
theorem pw_putR {a i q : Nat} (c k : Nat) {ty : FieldType} (d : decode (mB M) pc = .ok (.putfield i, 3)) (hw : Cond.fieldLink (mY M).cls i (pw_R c) (pw_T c k).2.1 (pw_T c k).2.2.1 ∈ pw_Tb) (hr : (pw_T c k).1 = pw_R c) (hc : c < 9) (hf : (pw_fl c)[k]? = some true)
    (hfin : (pw_T c k).2.2.2 = false ∨ ((pw_T c k).2.2.2 = true ∧ (mY M).name = "<init>" ∧ (mY M).cls = pw_R c)) (hty : pw_ty c k = ty) (hn : narrow ty (.ref q) = .ref q) (hfit : fits ty (.ref q) = true) (ht : tg σ a = c + 1) (kk : PW X M b1 b2 (pc + 3) ls st (wR σ a k (some q)) μ Q) : PW X M b1 b2 pc ls (.ref q :: .ref a :: st) σ μ Q :=
  pw_putG c k (σ' := wR σ a k (some q)) (μ' := μ) d hw hr hc (by rw [← pw_flN c hc]; exact (List.getElem?_eq_some_iff.mp hf).1) hfin hty hn hfit ht rfl rfl (by rw [show (Value.ref q) = va_rf (some q) from rfl, pw_fv_setR hf]; simp [wR, rf]) pw_ce_wR (fun h => h) kk
theorem pw_iald {a : Nat} {i : Int32} (d : decode (mB M) pc = .ok (.iaload, 1)) (ht : tg σ a = 11) (hin : vp_in i (ln σ a)) (kk : PW X M b1 b2 (pc + 1) ls (.int (μ a i.toNatClampNeg) :: st) σ μ Q) : PW X M b1 b2 pc ls (.int i :: .ref a :: st) σ μ Q :=
  fun p e R s m args below meth cd H locs cells slots ar Z B S P F L c1 c2 K => va_iald B.1 B.2.1 S.1 P.1 (a - cxB X) 1 (by rw [P.at (by omega), pw_ce_I ht]) rfl hin d (kk p e R s m args below meth cd H locs cells slots ar Z B S P F L c1 c2 K)
theorem pw_cald {a : Nat} {i : Int32} (d : decode (mB M) pc = .ok (.caload, 1)) (ht : tg σ a = 10) (hin : vp_in i (ln σ a)) (kk : PW X M b1 b2 (pc + 1) ls (.int (μ a i.toNatClampNeg) :: st) σ μ Q) : PW X M b1 b2 pc ls (.int i :: .ref a :: st) σ μ Q :=
  fun p e R s m args below meth cd H locs cells slots ar Z B S P F L c1 c2 K => va_cald B.1 B.2.1 S.1 P.1 (a - cxB X) 0 (by rw [P.at (by omega), pw_ce_C ht]) rfl hin d (kk p e R s m args below meth cd H locs cells slots ar Z B S P F L c1 c2 K)
theorem pw_iast {a : Nat} {i x : Int32} (d : decode (mB M) pc = .ok (.iastore, 1)) (ht : tg σ a = 11) (hin : vp_in i (ln σ a)) (kk : PW X M b1 b2 (pc + 1) ls st σ (wr μ a i.toNatClampNeg x) Q) : PW X M b1 b2 pc ls (.int x :: .int i :: .ref a :: st) σ μ Q := by
  intro p e R s m args below meth cd H locs cells slots ar Z B S P F L c1 c2 K
  have ha := P.at (a := a) (by omega)
  rw [pw_ce_I ht] at ha
  refine W.iast B.1 B.2.1 (P.1 _ _ ha) ((S.1.2 1 _ rfl).1 (ln σ a) (fun j => .int (μ a j))) (fun q => by cases q) (by show ¬ (i < 0 ∨ (arrV _ _ _).slots.size ≤ _); rw [arrV_size]; exact hin) rfl rfl d fun H1 e1 z oq => ?_
  refine kk p e R s m args below meth cd H1 _ cells slots ar Z B S (P.upd (a := a) (e := _) (by omega) rfl rfl (P.1.set (pw_D X σ μ) ha (e := pw_ce X σ (wr μ a i.toNatClampNeg x) a) ?_ oq) z rfl pw_ce_wr (pw_bo_wr P.2.2.2 (fun h7 => by omega))) (F.put z oq (P.2.2.1 a (by omega)).1) L c1 c2 K
  rw [pw_ce_I ht]
  show H1[a]? = some (vp_cell _ _)
  rw [e1, vp_cell_i, vp_cell_i, arrV_store]
  congr 2
  funext q
  by_cases hq : q = i.toNatClampNeg
  · subst hq
    simp [updV, upd, wr, vp_nar, narrow]
  · simp [updV, upd, wr, hq]
theorem pw_cast {a : Nat} {i x : Int32} (d : decode (mB M) pc = .ok (.castore, 1)) (ht : tg σ a = 10) (hin : vp_in i (ln σ a)) (kk : PW X M b1 b2 (pc + 1) ls st σ (wr μ a i.toNatClampNeg (vp_nar .char x)) Q) : PW X M b1 b2 pc ls (.int x :: .int i :: .ref a :: st) σ μ Q := by
  intro p e R s m args below meth cd H locs cells slots ar Z B S P F L c1 c2 K
  have ha := P.at (a := a) (by omega)
  rw [pw_ce_C ht] at ha
  refine W.cast B.1 B.2.1 (P.1 _ _ ha) ((S.1.2 0 _ rfl).1 (ln σ a) (fun j => .int (μ a j))) (fun q => by cases q) (by show ¬ (i < 0 ∨ (arrV _ _ _).slots.size ≤ _); rw [arrV_size]; exact hin) rfl rfl d fun H1 e1 z oq => ?_
  refine kk p e R s m args below meth cd H1 _ cells slots ar Z B S (P.upd (a := a) (e := _) (by omega) rfl rfl (P.1.set (pw_D X σ μ) ha (e := pw_ce X σ (wr μ a i.toNatClampNeg (vp_nar .char x)) a) ?_ oq) z rfl pw_ce_wr (pw_bo_wr P.2.2.2 (fun h7 => by omega))) (F.put z oq (P.2.2.1 a (by omega)).1) L c1 c2 K
  rw [pw_ce_C ht]
  show H1[a]? = some (vp_cell _ _)
  rw [e1, vp_cell_i, vp_cell_i, arrV_store]
  congr 2
  funext q
  by_cases hq : q = i.toNatClampNeg
  · subst hq
    simp [updV, upd, wr, vp_nar, narrow]
  · simp [updV, upd, wr, hq]
theorem pw_aaldB {a : Nat} {i : Int32} {o : Option Nat} (d : decode (mB M) pc = .ok (.aaload, 1)) (ht : tg σ a = 13) (hin : vp_in i (ln σ a)) (ho : rf σ a i.toNatClampNeg = o) (kk : PW X M b1 b2 (pc + 1) ls (va_rf o :: st) σ μ Q) : PW X M b1 b2 pc ls (.int i :: .ref a :: st) σ μ Q := by
  subst ho
  exact fun p e R s m args below meth cd H locs cells slots ar Z B S P F L c1 c2 K => va_aldq B.1 B.2.1 S.1 P.1 (a - cxB X) 3 (by rw [P.at (by omega), pw_ce_B ht]) rfl hin d (kk p e R s m args below meth cd H locs cells slots ar Z B S P F L c1 c2 K)
theorem pw_aaldS {a : Nat} {i : Int32} {o : Option Nat} (d : decode (mB M) pc = .ok (.aaload, 1)) (ht : tg σ a = 14) (hin : vp_in i (ln σ a)) (ho : rf σ a i.toNatClampNeg = o) (kk : PW X M b1 b2 (pc + 1) ls (va_rf o :: st) σ μ Q) : PW X M b1 b2 pc ls (.int i :: .ref a :: st) σ μ Q := by
  subst ho
  exact fun p e R s m args below meth cd H locs cells slots ar Z B S P F L c1 c2 K => va_aldq B.1 B.2.1 S.1 P.1 (a - cxB X) 4 (by rw [P.at (by omega), pw_ce_S ht]) rfl hin d (kk p e R s m args below meth cd H locs cells slots ar Z B S P F L c1 c2 K)
theorem pw_alenC {a : Nat} (d : decode (mB M) pc = .ok (.arraylength, 1)) (ht : tg σ a = 10) (kk : PW X M b1 b2 (pc + 1) ls (.int (Int32.ofNat (ln σ a)) :: st) σ μ Q) : PW X M b1 b2 pc ls (.ref a :: st) σ μ Q :=
  fun p e R s m args below meth cd H locs cells slots ar Z B S P F L c1 c2 K => va_alen B.1 B.2.1 S.1 P.1 (a - cxB X) 0 (by rw [P.at (by omega), pw_ce_C ht]) rfl rfl d (kk p e R s m args below meth cd H locs cells slots ar Z B S P F L c1 c2 K)
theorem pw_alenI {a : Nat} (d : decode (mB M) pc = .ok (.arraylength, 1)) (ht : tg σ a = 11) (kk : PW X M b1 b2 (pc + 1) ls (.int (Int32.ofNat (ln σ a)) :: st) σ μ Q) : PW X M b1 b2 pc ls (.ref a :: st) σ μ Q :=
  fun p e R s m args below meth cd H locs cells slots ar Z B S P F L c1 c2 K => va_alen B.1 B.2.1 S.1 P.1 (a - cxB X) 1 (by rw [P.at (by omega), pw_ce_I ht]) rfl rfl d (kk p e R s m args below meth cd H locs cells slots ar Z B S P F L c1 c2 K)
end PWH
