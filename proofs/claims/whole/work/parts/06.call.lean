/-! Calls, makings, ends, over the pure memory -/
def pw_fx : List Value → List (Option Value)
  | [] => []
  | v :: vs => some v :: (if v.category = 2 then none :: pw_fx vs else pw_fx vs)
def pw_ent (n : Nat) (av : List Value) : List (Option Value) := pw_fx av ++ List.replicate (n - (pw_fx av).length) none
theorem pw_fx_in : ∀ (vs : List Value) (k i : Nat) (v : Value), (pw_fx vs)[i]? = some (some v) → (k + i, v) ∈ lv_args k vs
  | [], k, i, v, h => by simp [pw_fx] at h
  | w :: vs, k, i, v, h => by
    by_cases hc : w.category = 2
    · simp only [pw_fx, if_pos hc] at h
      simp only [lv_args, if_pos hc]
      match i, h with
      | 0, h =>
        cases h
        exact List.mem_cons_self
      | 1, h => cases h
      | j + 2, h =>
        have := pw_fx_in vs (k + 2) j v h
        rw [show k + 2 + j = k + (j + 2) by omega] at this
        exact List.mem_cons_of_mem _ this
    · simp only [pw_fx, if_neg hc] at h
      simp only [lv_args, if_neg hc]
      match i, h with
      | 0, h =>
        cases h
        exact List.mem_cons_self
      | j + 1, h =>
        have := pw_fx_in vs (k + 1) j v h
        rw [show k + 1 + j = k + (j + 1) by omega] at this
        exact List.mem_cons_of_mem _ this
theorem pw_ent_L {n : Nat} {av : List Value} (h : (lg_sl av).length ≤ n) : pw_L ((lg_sl av ++ List.replicate (n - (lg_sl av).length) Slot.unset).toArray) n (pw_ent n av) := by
  obtain ⟨h1, h2, h3⟩ := lv_entry av h
  refine ⟨h1, h2, fun i v hi => h3 (i, v) ?_⟩
  unfold pw_ent at hi
  by_cases hl : i < (pw_fx av).length
  · rw [List.getElem?_append_left hl] at hi
    have := pw_fx_in av 0 i v hi
    rwa [Nat.zero_add] at this
  · rw [List.getElem?_append_right (by omega)] at hi
    obtain ⟨_, h5⟩ := List.getElem?_eq_some_iff.mp hi
    simp at h5
theorem CT.of {X : Cx} {M : Mt} {av : List Value} {σ : Sp} {μ : Mm} {Q : Option Value → Sp → Mm → Prop} (hy : plainName (mY M).cls = true) (hlen : (lg_sl av).length ≤ mL M) (h : PW X M (mCe M) (mSl M) 0 (pw_ent (mL M) av) [] σ μ Q) : CT X M av σ μ Q := by
  refine Met.ofW (cc := mB M) (maxL := mL M) (ret := mRet M) hy rfl ?_
  intro p e s m args below meth c s₁ B hml hv
  obtain ⟨rfl, hSX, hHP⟩ := hv
  have hts := atoms_spec (ws := mWs M) B.pre
  have hown : s.vm.findClass (mY M).cls = some m.cls := findClass_of_methodNamed B.named
  have hlk := B.notSynchronized
  rw [lg_entry_eq]
  refine h p e (mRm M) s m _ below meth c s.heap [] 0 0 _ _ ⟨B.exec, B.bytes, B.returns, hml, hown, fun w hw => hts w (List.mem_cons_of_mem _ hw), hlk, fun hn => (name_of_methodNamed B.named B.method).1.trans hn, Nat.le_refl _, Nat.le_refl _⟩ hSX hHP va_S.rf (pw_ent_L hlen) (by show 0 + mCe M ≤ mCe M; omega) (by show 0 + mSl M ≤ mSl M; omega) ?_
  intro H' locs' cells' slots' ar' pc' r σ' μ' hQ hret hP hS hc hs
  refine W.widen (k := mCe M) (n := mSl M) hc hs ?_
  rcases hret with ⟨rfl, hr, hd⟩ | ⟨x, ty, rfl, hr, hn, hd⟩ | ⟨v, C, rfl, hv, hr, hd⟩
  · exact W.vret B.exec B.bytes (B.returns.trans hr) (fun t ht hW => ⟨⟨none, σ', μ', rfl, hQ, by rw [ht]; exact hP⟩, hS.F ht⟩) hS.2.2 hd
  · exact W.zret B.exec B.bytes (B.returns.trans hr) hn (fun t ht hW => ⟨⟨_, σ', μ', rfl, hQ, by rw [ht]; exact hP⟩, hS.F ht⟩) hS.2.2 hd
  · exact W.aret B.exec B.bytes (B.returns.trans hr) (Or.inl ⟨C, rfl⟩) hv (fun t ht hW => ⟨⟨_, σ', μ', rfl, hQ, by rw [ht]; exact hP⟩, hS.F ht⟩) hS.2.2 hd
/-- what the tables say of a method that is called, with n arguments -/
def MV (M : Mt) (n : Nat) : Prop := Cond.code (mY M) (mB M) (mL M) (mRet M) ∈ pw_Tb ∧ Cond.initialized (mY M).cls ∈ pw_Tb ∧ (mY M).cls ≠ "java/lang/invoke/MethodHandle" ∧ (mY M).cls ≠ "java/lang/invoke/VarHandle" ∧ (parseMethodDescriptor (mY M).desc).map (fun d => d.parameters.length) = some n
def MI (M : Mt) : Prop := Cond.instanceMethod (mY M) ∈ pw_Tb ∧ Cond.selects (mY M).cls (mY M) (mY M) ∈ pw_Tb
def MR (M M' : Mt) : Prop := mF M' + 1 ≤ mF M ∧ 8 + (mL M' + 11) + mLo M' ≤ mLo M
theorem pw_good : ∀ w ∈ pw_Tb, (w.onTables && w.keeps) = true ∨ ∃ ty, w = .arrayClass ty := fun w h => good_of_word (List.mem_filter.mp h).2
theorem pw_goodIn {ws : List Cond} (h : ∀ w ∈ ws, w ∈ pw_Tb) : GoodIn pw_Tb ws := fun w hw => ⟨h w hw, pw_good w (h w hw)⟩
theorem MV.ws {M : Mt} {n : Nat} (h : MV M n) : ∀ w ∈ mWs M, w ∈ pw_Tb := fun w hw => (List.mem_cons.mp hw).elim (fun e => by rw [e]; exact h.1) id
section PWC
variable {X : Cx} {M : Mt} {b1 b2 pc : Nat} {ls : List (Option Value)} {st : List Value} {σ : Sp} {μ : Mm} {Q : Option Value → Sp → Mm → Prop}
theorem pw_Pc_blind {av : List Value} : FrameBlind (va_Pc av (fun U => SX X U ∧ HP X σ μ U.heap)) := by
  intro a U g mk h
  obtain ⟨h1, h2, h3⟩ := h
  exact ⟨h1, h2.moved (H := U.heap) (locs := []) va_S.rf rfl (State.WarmedH.refl U), h3⟩
theorem pw_Pc_at {av : List Value} {s : State} {H : Heap} {locs : List Loc} (S : SX X s) (P : HP X σ μ H) (F : va_S (fun q => cxB X ≤ q) s.heap H locs) : ∀ U : State, U.heap = H → s.WarmedH U.vm → va_Pc av (fun U => SX X U ∧ HP X σ μ U.heap) av.toArray U :=
  fun U hU hW => ⟨rfl, S.moved F hU hW, by rw [hU]; exact P⟩
theorem pw_callC {M' : Mt} {Qc : Option Value → Sp → Mm → Prop} {p : Program} {e : Env} {R : Room} {s : State} {m : MethodId} {args : Array Value} {below : List Frame} {meth : Method} {cd : Code} {H : Heap} {locs : List Loc} {cells slots : Nat} {ar : Array Slot} {Z : State → Prop} {st0 rest : List Value}
    (hr : va_Run p (cxL X) e R s m args below meth cd H locs cells slots (mCe M') (mSl M') (F0 m pc ar st0) rest (fun (st : State) (o : Outcome) (t : State) => (∃ (r : Option Value) (σ' : Sp) (μ' : Mm), o = .returned r ∧ Qc r σ' μ' ∧ HP X σ' μ' t.heap) ∧ va_F (fun q => cxB X ≤ q) st t) (fun q => cxB X ≤ q)) (hS : va_S (fun q => cxB X ≤ q) s.heap H locs)
    (kk : ∀ (r : Option Value) (σ' : Sp) (μ' : Mm) (H1 : Heap) (locs1 : List Loc), Qc r σ' μ' → HP X σ' μ' H1 → va_S (fun q => cxB X ≤ q) s.heap H1 locs1 → W p (cxL X) e R s m args below meth cd H1 locs1 (cells + mCe M') (slots + mSl M') Z (F0 m (pc + 3) ar (r.toList ++ rest))) : W p (cxL X) e R s m args below meth cd H locs cells slots Z (F0 m pc ar st0) := by
  intro T hT Xs
  obtain ⟨v, st₀, t, T', L, h0, X', hL, e1, e2, ⟨⟨r, σ', μ', hv, hp, hb⟩, hz, hk⟩, st⟩ := hr T hT Xs
  cases hv
  rw [h0] at hz hk
  obtain ⟨t2, a1, b1⟩ := kk v σ' μ' T'.heap (locs ++ L) hp (by rw [e1]; exact hb)
    ⟨Nat.le_trans hS.1 (by rw [e1]; exact hz), fun q h1 h2 => by rw [e1, hk q (Nat.lt_of_lt_of_le h1 hS.1) h2]; exact hS.2.1 q h1 h2, fun q hq => by
      rcases List.mem_append.mp hq with h | h
      · exact hS.2.2 q h
      · exact hL q h⟩ T' rfl X'
  exact ⟨t2, st t2 a1, b1⟩
theorem pw_recv {s : State} {H : Heap} {a c : Nat} (S : SX X s) (P : HP X σ μ H) (hc : c < 9) (ht : tg σ a = c + 1) : ∃ cell : Cell, H[a]? = some cell ∧ cell.vm.isStatics = false ∧ s.vm.findClass (pw_R c) = some cell.cls :=
  va_recv (q0 := a - cxB X) S.1 P.1 (pw_cl c hc) (by rw [P.at (by omega), pw_ce_o ht hc])
theorem pw_callV {M' : Mt} {i a n b1' b2' : Nat} {As rest : List Value} {Qc : Option Value → Sp → Mm → Prop} (c : Nat) (d : decode (mB M) pc = .ok (.invokevirtual i, 3)) (hl : Cond.methodLink (mY M).cls i (mY M') ∈ pw_Tb) (hv : MV M' n) (hi : MI M') (hR : MR M M') (hc : c < 9) (hcl : (mY M').cls = pw_R c) (ht : tg σ a = c + 1) (hn : As.length = n) (hrest : (rest.map fun v => v.category).sum ≤ 8)
    (hb1 : b1' + mCe M' ≤ b1) (hb2 : b2' + mSl M' ≤ b2) (h : CT X M' (.ref a :: As) σ μ Qc) (kk : ∀ r σ' μ', Qc r σ' μ' → PW X M b1' b2' (pc + 3) ls (r.toList ++ rest) σ' μ' Q) : PW X M b1 b2 pc ls (As.reverse ++ .ref a :: rest) σ μ Q := by
  intro p e R s m args below meth cd H locs cells slots ar Z B S P F L c1 c2 K
  refine pw_callC (va_runV (As := As) (rest := rest) ⟨B.1, B.2.1, B.2.2.2.1, B.2.2.2.2.1, B.2.2.2.2.2.1⟩ h (cwV n B.2.2.2.2.2.1 (pw_goodIn fun w hw => ?_) rfl rfl rfl ⟨rfl, hv.2.2⟩ ⟨Nat.le_trans hR.1 B.2.2.2.2.2.2.2.2.1, Nat.le_trans hR.2 B.2.2.2.2.2.2.2.2.2⟩) ⟨pw_Pc_blind, by rw [hcl]; exact pw_recv S P hc ht, pw_Pc_at S P F⟩ rfl hn L.1 rfl (lv_room hrest) d ⟨by omega, by omega⟩) F (fun r σ' μ' H1 locs1 hq hP1 hS1 => kk r σ' μ' hq p e R s m args below meth cd H1 locs1 _ _ ar Z B S hP1 hS1 L (by omega) (by omega) K)
  simp only [wsV, List.mem_append, List.mem_cons, List.not_mem_nil, or_false] at hw
  rcases hw with (rfl | rfl | rfl | rfl) | hw
  · exact hl
  · exact hi.1
  · exact hi.2
  · exact hv.2.1
  · exact hv.ws w hw
theorem pw_callS {M' : Mt} {i n b1' b2' : Nat} {As rest : List Value} {Qc : Option Value → Sp → Mm → Prop} (d : decode (mB M) pc = .ok (.invokestatic i, 3)) (hl : Cond.methodLink (mY M).cls i (mY M') ∈ pw_Tb) (hv : MV M' n) (hi : Cond.static (mY M') ∈ pw_Tb) (hR : MR M M') (hn : As.length = n) (hrest : (rest.map fun v => v.category).sum ≤ 8)
    (hb1 : b1' + mCe M' ≤ b1) (hb2 : b2' + mSl M' ≤ b2) (h : CT X M' As σ μ Qc) (kk : ∀ r σ' μ', Qc r σ' μ' → PW X M b1' b2' (pc + 3) ls (r.toList ++ rest) σ' μ' Q) : PW X M b1 b2 pc ls (As.reverse ++ rest) σ μ Q := by
  intro p e R s m args below meth cd H locs cells slots ar Z B S P F L c1 c2 K
  refine pw_callC (va_runS (As := As) (rest := rest) ⟨B.1, B.2.1, B.2.2.2.1, B.2.2.2.2.1, B.2.2.2.2.2.1⟩ h (va_cwS n B.2.2.2.2.2.1 (pw_goodIn fun w hw => ?_) rfl rfl rfl hv.2.2 ⟨Nat.le_trans hR.1 B.2.2.2.2.2.2.2.2.1, Nat.le_trans hR.2 B.2.2.2.2.2.2.2.2.2⟩) ⟨pw_Pc_blind, pw_Pc_at S P F⟩ rfl hn L.1 rfl (lv_room hrest) d ⟨by omega, by omega⟩) F (fun r σ' μ' H1 locs1 hq hP1 hS1 => kk r σ' μ' hq p e R s m args below meth cd H1 locs1 _ _ ar Z B S hP1 hS1 L (by omega) (by omega) K)
  simp only [va_wsS, List.mem_append, List.mem_cons, List.not_mem_nil, or_false] at hw
  rcases hw with (rfl | rfl | rfl) | hw
  · exact hl
  · exact hi
  · exact hv.2.1
  · exact hv.ws w hw
theorem pw_callSN {M' : Mt} {i n b1' b2' : Nat} {As rest : List Value} {Qc : Option Value → Sp → Mm → Prop} (d : decode (mB M) pc = .ok (.invokestatic i, 3)) (hl : Cond.methodLinkNest (mY M).cls i (mY M') RX7 ∈ pw_nest) (hv : MV M' n) (hi : Cond.static (mY M') ∈ pw_Tb) (hR : MR M M') (hn : As.length = n) (hrest : (rest.map fun v => v.category).sum ≤ 8)
    (hb1 : b1' + mCe M' ≤ b1) (hb2 : b2' + mSl M' ≤ b2) (h : CT X M' As σ μ Qc) (kk : ∀ r σ' μ', Qc r σ' μ' → PW X M b1' b2' (pc + 3) ls (r.toList ++ rest) σ' μ' Q) : PW X M b1 b2 pc ls (As.reverse ++ rest) σ μ Q := by
  intro p e R s m args below meth cd H locs cells slots ar Z B S P F L c1 c2 K
  exact pw_callC (va_runSN (As := As) (rest := rest) ⟨B.1, B.2.1, B.2.2.2.1, B.2.2.2.2.1, B.2.2.2.2.2.1⟩ h ⟨va_cnB n B.2.2.2.2.2.1 (pw_goodIn hv.ws) rfl rfl rfl (S.2.1 _ hl) (B.2.2.2.2.2.1 _ hv.2.1) hv.2.2 ⟨Nat.le_trans hR.1 B.2.2.2.2.2.2.2.2.1, Nat.le_trans hR.2 B.2.2.2.2.2.2.2.2.2⟩, B.2.2.2.2.2.1 _ hi, trivial⟩ ⟨pw_Pc_blind, pw_Pc_at S P F⟩ rfl hn L.1 rfl (lv_room hrest) d ⟨by omega, by omega⟩) F (fun r σ' μ' H1 locs1 hq hP1 hS1 => kk r σ' μ' hq p e R s m args below meth cd H1 locs1 _ _ ar Z B S hP1 hS1 L (by omega) (by omega) K)
theorem pw_callI {M' : Mt} {i a n b1' b2' : Nat} {As rest : List Value} {Qc : Option Value → Sp → Mm → Prop} (d : decode (mB M) pc = .ok (.invokespecial i, 3)) (hl : Cond.methodLink (mY M).cls i (mY M') ∈ pw_Tb) (hv : MV M' n) (hi : Cond.instanceMethod (mY M') ∈ pw_Tb) (hret : mRet M' = none) (hy : (mY M').name = "<init>") (hR : MR M M') (hn : As.length = n) (hrest : (rest.map fun v => v.category).sum ≤ 8)
    (hb1 : b1' + mCe M' ≤ b1) (hb2 : b2' + mSl M' ≤ b2) (h : CT X M' (.ref a :: As) σ μ Qc) (kk : ∀ r σ' μ', Qc r σ' μ' → PW X M b1' b2' (pc + 3) ls (r.toList ++ rest) σ' μ' Q) : PW X M b1 b2 pc ls (As.reverse ++ .ref a :: rest) σ μ Q := by
  intro p e R s m args below meth cd H locs cells slots ar Z B S P F L c1 c2 K
  have hw : mWs M' = Cond.code (mY M') (mB M') (mL M') none :: pw_Tb := by unfold mWs; rw [hret]
  exact pw_callC (va_runI (As := As) (rest := rest) ⟨B.1, B.2.1, B.2.2.2.1, B.2.2.2.2.1, B.2.2.2.2.2.1⟩ h (cwI n B.2.2.2.2.2.1 (pw_goodIn hv.ws) hw rfl rfl (B.2.2.2.2.2.1 _ hv.2.1) (B.2.2.2.2.2.1 _ hl) (B.2.2.2.2.2.1 _ hi) hy hv.2.2 ⟨Nat.le_trans hR.1 B.2.2.2.2.2.2.2.2.1, Nat.le_trans hR.2 B.2.2.2.2.2.2.2.2.2⟩) ⟨pw_Pc_blind, pw_Pc_at S P F⟩ rfl hn L.1 rfl (lv_room hrest) d ⟨by omega, by omega⟩) F (fun r σ' μ' H1 locs1 hq hP1 hS1 => kk r σ' μ' hq p e R s m args below meth cd H1 locs1 _ _ ar Z B S hP1 hS1 L (by omega) (by omega) K)
theorem pw_callIN {M' : Mt} {i a n b1' b2' : Nat} {As rest : List Value} {Qc : Option Value → Sp → Mm → Prop} (d : decode (mB M) pc = .ok (.invokespecial i, 3)) (hl : Cond.methodLinkNest (mY M).cls i (mY M') RX7 ∈ pw_nest) (hv : MV M' n) (hi : Cond.instanceMethod (mY M') ∈ pw_Tb) (hret : mRet M' = none) (hy : (mY M').name = "<init>") (hR : MR M M') (hn : As.length = n) (hrest : (rest.map fun v => v.category).sum ≤ 8)
    (hb1 : b1' + mCe M' ≤ b1) (hb2 : b2' + mSl M' ≤ b2) (h : CT X M' (.ref a :: As) σ μ Qc) (kk : ∀ r σ' μ', Qc r σ' μ' → PW X M b1' b2' (pc + 3) ls (r.toList ++ rest) σ' μ' Q) : PW X M b1 b2 pc ls (As.reverse ++ .ref a :: rest) σ μ Q := by
  intro p e R s m args below meth cd H locs cells slots ar Z B S P F L c1 c2 K
  have hw : mWs M' = Cond.code (mY M') (mB M') (mL M') none :: pw_Tb := by unfold mWs; rw [hret]
  exact pw_callC (va_runIN (As := As) (rest := rest) ⟨B.1, B.2.1, B.2.2.2.1, B.2.2.2.2.1, B.2.2.2.2.2.1⟩ h ⟨va_cnB n B.2.2.2.2.2.1 (pw_goodIn hv.ws) hw rfl rfl (S.2.1 _ hl) (B.2.2.2.2.2.1 _ hv.2.1) hv.2.2 ⟨Nat.le_trans hR.1 B.2.2.2.2.2.2.2.2.1, Nat.le_trans hR.2 B.2.2.2.2.2.2.2.2.2⟩, hy, B.2.2.2.2.2.1 _ hi⟩ ⟨pw_Pc_blind, pw_Pc_at S P F⟩ rfl hn L.1 rfl (lv_room hrest) d ⟨by omega, by omega⟩) F (fun r σ' μ' H1 locs1 hq hP1 hS1 => kk r σ' μ' hq p e R s m args below meth cd H1 locs1 _ _ ar Z B S hP1 hS1 L (by omega) (by omega) K)
theorem pw_cV0i {M' : Mt} {i a : Nat} {rest : List Value} (c : Nat) (d : decode (mB M) pc = .ok (.invokevirtual i, 3)) (hl : Cond.methodLink (mY M).cls i (mY M') ∈ pw_Tb) (hv : MV M' 0) (hi : MI M') (hR : MR M M') (hm : mCe M' = 0 ∧ mSl M' = 0) (hc : c < 9) (hcl : (mY M').cls = pw_R c) (hrest : (rest.map fun v => v.category).sum ≤ 8) (ht : tg σ a = c + 1) (h : CTi X M' (.ref a :: []) σ μ (fun x σ' μ' => PW X M b1 b2 (pc + 3) ls (.int x :: rest) σ' μ' Q)) : PW X M b1 b2 pc ls (.ref a :: rest) σ μ Q :=
  pw_callV (As := []) (b1' := b1) (b2' := b2) c d hl hv hi hR hc hcl ht rfl hrest (by omega) (by omega) h (fun r σ' μ' ⟨x, hr, hq⟩ => by subst hr; exact hq)
theorem pw_cV0v {M' : Mt} {i a : Nat} {rest : List Value} (c : Nat) (d : decode (mB M) pc = .ok (.invokevirtual i, 3)) (hl : Cond.methodLink (mY M).cls i (mY M') ∈ pw_Tb) (hv : MV M' 0) (hi : MI M') (hR : MR M M') (hm : mCe M' = 0 ∧ mSl M' = 0) (hc : c < 9) (hcl : (mY M').cls = pw_R c) (hrest : (rest.map fun v => v.category).sum ≤ 8) (ht : tg σ a = c + 1) (h : CTv X M' (.ref a :: []) σ μ (fun σ' μ' => PW X M b1 b2 (pc + 3) ls rest σ' μ' Q)) : PW X M b1 b2 pc ls (.ref a :: rest) σ μ Q :=
  pw_callV (As := []) (b1' := b1) (b2' := b2) c d hl hv hi hR hc hcl ht rfl hrest (by omega) (by omega) h (fun r σ' μ' ⟨hr, hq⟩ => by subst hr; exact hq)
theorem pw_cV0r {M' : Mt} {i a : Nat} {rest : List Value} (c : Nat) (d : decode (mB M) pc = .ok (.invokevirtual i, 3)) (hl : Cond.methodLink (mY M).cls i (mY M') ∈ pw_Tb) (hv : MV M' 0) (hi : MI M') (hR : MR M M') (hm : mCe M' = 0 ∧ mSl M' = 0) (hc : c < 9) (hcl : (mY M').cls = pw_R c) (hrest : (rest.map fun v => v.category).sum ≤ 8) (ht : tg σ a = c + 1) (h : CTr X M' (.ref a :: []) σ μ (fun o σ' μ' => PW X M b1 b2 (pc + 3) ls (va_rf o :: rest) σ' μ' Q)) : PW X M b1 b2 pc ls (.ref a :: rest) σ μ Q :=
  pw_callV (As := []) (b1' := b1) (b2' := b2) c d hl hv hi hR hc hcl ht rfl hrest (by omega) (by omega) h (fun r σ' μ' ⟨x, hr, hq⟩ => by subst hr; exact hq)
theorem pw_cV1i {M' : Mt} {i a : Nat} {a1 : Value} {rest : List Value} (c : Nat) (d : decode (mB M) pc = .ok (.invokevirtual i, 3)) (hl : Cond.methodLink (mY M).cls i (mY M') ∈ pw_Tb) (hv : MV M' 1) (hi : MI M') (hR : MR M M') (hm : mCe M' = 0 ∧ mSl M' = 0) (hc : c < 9) (hcl : (mY M').cls = pw_R c) (hrest : (rest.map fun v => v.category).sum ≤ 8) (ht : tg σ a = c + 1) (h : CTi X M' (.ref a :: [a1]) σ μ (fun x σ' μ' => PW X M b1 b2 (pc + 3) ls (.int x :: rest) σ' μ' Q)) : PW X M b1 b2 pc ls (a1 :: .ref a :: rest) σ μ Q :=
  pw_callV (As := [a1]) (b1' := b1) (b2' := b2) c d hl hv hi hR hc hcl ht rfl hrest (by omega) (by omega) h (fun r σ' μ' ⟨x, hr, hq⟩ => by subst hr; exact hq)
theorem pw_cV1v {M' : Mt} {i a : Nat} {a1 : Value} {rest : List Value} (c : Nat) (d : decode (mB M) pc = .ok (.invokevirtual i, 3)) (hl : Cond.methodLink (mY M).cls i (mY M') ∈ pw_Tb) (hv : MV M' 1) (hi : MI M') (hR : MR M M') (hm : mCe M' = 0 ∧ mSl M' = 0) (hc : c < 9) (hcl : (mY M').cls = pw_R c) (hrest : (rest.map fun v => v.category).sum ≤ 8) (ht : tg σ a = c + 1) (h : CTv X M' (.ref a :: [a1]) σ μ (fun σ' μ' => PW X M b1 b2 (pc + 3) ls rest σ' μ' Q)) : PW X M b1 b2 pc ls (a1 :: .ref a :: rest) σ μ Q :=
  pw_callV (As := [a1]) (b1' := b1) (b2' := b2) c d hl hv hi hR hc hcl ht rfl hrest (by omega) (by omega) h (fun r σ' μ' ⟨hr, hq⟩ => by subst hr; exact hq)
theorem pw_cV1r {M' : Mt} {i a : Nat} {a1 : Value} {rest : List Value} (c : Nat) (d : decode (mB M) pc = .ok (.invokevirtual i, 3)) (hl : Cond.methodLink (mY M).cls i (mY M') ∈ pw_Tb) (hv : MV M' 1) (hi : MI M') (hR : MR M M') (hm : mCe M' = 0 ∧ mSl M' = 0) (hc : c < 9) (hcl : (mY M').cls = pw_R c) (hrest : (rest.map fun v => v.category).sum ≤ 8) (ht : tg σ a = c + 1) (h : CTr X M' (.ref a :: [a1]) σ μ (fun o σ' μ' => PW X M b1 b2 (pc + 3) ls (va_rf o :: rest) σ' μ' Q)) : PW X M b1 b2 pc ls (a1 :: .ref a :: rest) σ μ Q :=
  pw_callV (As := [a1]) (b1' := b1) (b2' := b2) c d hl hv hi hR hc hcl ht rfl hrest (by omega) (by omega) h (fun r σ' μ' ⟨x, hr, hq⟩ => by subst hr; exact hq)
theorem pw_cV2i {M' : Mt} {i a : Nat} {a1 a2 : Value} {rest : List Value} (c : Nat) (d : decode (mB M) pc = .ok (.invokevirtual i, 3)) (hl : Cond.methodLink (mY M).cls i (mY M') ∈ pw_Tb) (hv : MV M' 2) (hi : MI M') (hR : MR M M') (hm : mCe M' = 0 ∧ mSl M' = 0) (hc : c < 9) (hcl : (mY M').cls = pw_R c) (hrest : (rest.map fun v => v.category).sum ≤ 8) (ht : tg σ a = c + 1) (h : CTi X M' (.ref a :: [a1, a2]) σ μ (fun x σ' μ' => PW X M b1 b2 (pc + 3) ls (.int x :: rest) σ' μ' Q)) : PW X M b1 b2 pc ls (a2 :: a1 :: .ref a :: rest) σ μ Q :=
  pw_callV (As := [a1, a2]) (b1' := b1) (b2' := b2) c d hl hv hi hR hc hcl ht rfl hrest (by omega) (by omega) h (fun r σ' μ' ⟨x, hr, hq⟩ => by subst hr; exact hq)
theorem pw_cV2v {M' : Mt} {i a : Nat} {a1 a2 : Value} {rest : List Value} (c : Nat) (d : decode (mB M) pc = .ok (.invokevirtual i, 3)) (hl : Cond.methodLink (mY M).cls i (mY M') ∈ pw_Tb) (hv : MV M' 2) (hi : MI M') (hR : MR M M') (hm : mCe M' = 0 ∧ mSl M' = 0) (hc : c < 9) (hcl : (mY M').cls = pw_R c) (hrest : (rest.map fun v => v.category).sum ≤ 8) (ht : tg σ a = c + 1) (h : CTv X M' (.ref a :: [a1, a2]) σ μ (fun σ' μ' => PW X M b1 b2 (pc + 3) ls rest σ' μ' Q)) : PW X M b1 b2 pc ls (a2 :: a1 :: .ref a :: rest) σ μ Q :=
  pw_callV (As := [a1, a2]) (b1' := b1) (b2' := b2) c d hl hv hi hR hc hcl ht rfl hrest (by omega) (by omega) h (fun r σ' μ' ⟨hr, hq⟩ => by subst hr; exact hq)
theorem pw_cV2r {M' : Mt} {i a : Nat} {a1 a2 : Value} {rest : List Value} (c : Nat) (d : decode (mB M) pc = .ok (.invokevirtual i, 3)) (hl : Cond.methodLink (mY M).cls i (mY M') ∈ pw_Tb) (hv : MV M' 2) (hi : MI M') (hR : MR M M') (hm : mCe M' = 0 ∧ mSl M' = 0) (hc : c < 9) (hcl : (mY M').cls = pw_R c) (hrest : (rest.map fun v => v.category).sum ≤ 8) (ht : tg σ a = c + 1) (h : CTr X M' (.ref a :: [a1, a2]) σ μ (fun o σ' μ' => PW X M b1 b2 (pc + 3) ls (va_rf o :: rest) σ' μ' Q)) : PW X M b1 b2 pc ls (a2 :: a1 :: .ref a :: rest) σ μ Q :=
  pw_callV (As := [a1, a2]) (b1' := b1) (b2' := b2) c d hl hv hi hR hc hcl ht rfl hrest (by omega) (by omega) h (fun r σ' μ' ⟨x, hr, hq⟩ => by subst hr; exact hq)
theorem pw_cV3i {M' : Mt} {i a : Nat} {a1 a2 a3 : Value} {rest : List Value} (c : Nat) (d : decode (mB M) pc = .ok (.invokevirtual i, 3)) (hl : Cond.methodLink (mY M).cls i (mY M') ∈ pw_Tb) (hv : MV M' 3) (hi : MI M') (hR : MR M M') (hm : mCe M' = 0 ∧ mSl M' = 0) (hc : c < 9) (hcl : (mY M').cls = pw_R c) (hrest : (rest.map fun v => v.category).sum ≤ 8) (ht : tg σ a = c + 1) (h : CTi X M' (.ref a :: [a1, a2, a3]) σ μ (fun x σ' μ' => PW X M b1 b2 (pc + 3) ls (.int x :: rest) σ' μ' Q)) : PW X M b1 b2 pc ls (a3 :: a2 :: a1 :: .ref a :: rest) σ μ Q :=
  pw_callV (As := [a1, a2, a3]) (b1' := b1) (b2' := b2) c d hl hv hi hR hc hcl ht rfl hrest (by omega) (by omega) h (fun r σ' μ' ⟨x, hr, hq⟩ => by subst hr; exact hq)
theorem pw_cV3v {M' : Mt} {i a : Nat} {a1 a2 a3 : Value} {rest : List Value} (c : Nat) (d : decode (mB M) pc = .ok (.invokevirtual i, 3)) (hl : Cond.methodLink (mY M).cls i (mY M') ∈ pw_Tb) (hv : MV M' 3) (hi : MI M') (hR : MR M M') (hm : mCe M' = 0 ∧ mSl M' = 0) (hc : c < 9) (hcl : (mY M').cls = pw_R c) (hrest : (rest.map fun v => v.category).sum ≤ 8) (ht : tg σ a = c + 1) (h : CTv X M' (.ref a :: [a1, a2, a3]) σ μ (fun σ' μ' => PW X M b1 b2 (pc + 3) ls rest σ' μ' Q)) : PW X M b1 b2 pc ls (a3 :: a2 :: a1 :: .ref a :: rest) σ μ Q :=
  pw_callV (As := [a1, a2, a3]) (b1' := b1) (b2' := b2) c d hl hv hi hR hc hcl ht rfl hrest (by omega) (by omega) h (fun r σ' μ' ⟨hr, hq⟩ => by subst hr; exact hq)
theorem pw_cV3r {M' : Mt} {i a : Nat} {a1 a2 a3 : Value} {rest : List Value} (c : Nat) (d : decode (mB M) pc = .ok (.invokevirtual i, 3)) (hl : Cond.methodLink (mY M).cls i (mY M') ∈ pw_Tb) (hv : MV M' 3) (hi : MI M') (hR : MR M M') (hm : mCe M' = 0 ∧ mSl M' = 0) (hc : c < 9) (hcl : (mY M').cls = pw_R c) (hrest : (rest.map fun v => v.category).sum ≤ 8) (ht : tg σ a = c + 1) (h : CTr X M' (.ref a :: [a1, a2, a3]) σ μ (fun o σ' μ' => PW X M b1 b2 (pc + 3) ls (va_rf o :: rest) σ' μ' Q)) : PW X M b1 b2 pc ls (a3 :: a2 :: a1 :: .ref a :: rest) σ μ Q :=
  pw_callV (As := [a1, a2, a3]) (b1' := b1) (b2' := b2) c d hl hv hi hR hc hcl ht rfl hrest (by omega) (by omega) h (fun r σ' μ' ⟨x, hr, hq⟩ => by subst hr; exact hq)
theorem pw_cV4i {M' : Mt} {i a : Nat} {a1 a2 a3 a4 : Value} {rest : List Value} (c : Nat) (d : decode (mB M) pc = .ok (.invokevirtual i, 3)) (hl : Cond.methodLink (mY M).cls i (mY M') ∈ pw_Tb) (hv : MV M' 4) (hi : MI M') (hR : MR M M') (hm : mCe M' = 0 ∧ mSl M' = 0) (hc : c < 9) (hcl : (mY M').cls = pw_R c) (hrest : (rest.map fun v => v.category).sum ≤ 8) (ht : tg σ a = c + 1) (h : CTi X M' (.ref a :: [a1, a2, a3, a4]) σ μ (fun x σ' μ' => PW X M b1 b2 (pc + 3) ls (.int x :: rest) σ' μ' Q)) : PW X M b1 b2 pc ls (a4 :: a3 :: a2 :: a1 :: .ref a :: rest) σ μ Q :=
  pw_callV (As := [a1, a2, a3, a4]) (b1' := b1) (b2' := b2) c d hl hv hi hR hc hcl ht rfl hrest (by omega) (by omega) h (fun r σ' μ' ⟨x, hr, hq⟩ => by subst hr; exact hq)
theorem pw_cV4v {M' : Mt} {i a : Nat} {a1 a2 a3 a4 : Value} {rest : List Value} (c : Nat) (d : decode (mB M) pc = .ok (.invokevirtual i, 3)) (hl : Cond.methodLink (mY M).cls i (mY M') ∈ pw_Tb) (hv : MV M' 4) (hi : MI M') (hR : MR M M') (hm : mCe M' = 0 ∧ mSl M' = 0) (hc : c < 9) (hcl : (mY M').cls = pw_R c) (hrest : (rest.map fun v => v.category).sum ≤ 8) (ht : tg σ a = c + 1) (h : CTv X M' (.ref a :: [a1, a2, a3, a4]) σ μ (fun σ' μ' => PW X M b1 b2 (pc + 3) ls rest σ' μ' Q)) : PW X M b1 b2 pc ls (a4 :: a3 :: a2 :: a1 :: .ref a :: rest) σ μ Q :=
  pw_callV (As := [a1, a2, a3, a4]) (b1' := b1) (b2' := b2) c d hl hv hi hR hc hcl ht rfl hrest (by omega) (by omega) h (fun r σ' μ' ⟨hr, hq⟩ => by subst hr; exact hq)
theorem pw_cV4r {M' : Mt} {i a : Nat} {a1 a2 a3 a4 : Value} {rest : List Value} (c : Nat) (d : decode (mB M) pc = .ok (.invokevirtual i, 3)) (hl : Cond.methodLink (mY M).cls i (mY M') ∈ pw_Tb) (hv : MV M' 4) (hi : MI M') (hR : MR M M') (hm : mCe M' = 0 ∧ mSl M' = 0) (hc : c < 9) (hcl : (mY M').cls = pw_R c) (hrest : (rest.map fun v => v.category).sum ≤ 8) (ht : tg σ a = c + 1) (h : CTr X M' (.ref a :: [a1, a2, a3, a4]) σ μ (fun o σ' μ' => PW X M b1 b2 (pc + 3) ls (va_rf o :: rest) σ' μ' Q)) : PW X M b1 b2 pc ls (a4 :: a3 :: a2 :: a1 :: .ref a :: rest) σ μ Q :=
  pw_callV (As := [a1, a2, a3, a4]) (b1' := b1) (b2' := b2) c d hl hv hi hR hc hcl ht rfl hrest (by omega) (by omega) h (fun r σ' μ' ⟨x, hr, hq⟩ => by subst hr; exact hq)
theorem pw_cS0i {M' : Mt} {i : Nat} {rest : List Value} (d : decode (mB M) pc = .ok (.invokestatic i, 3)) (hl : Cond.methodLink (mY M).cls i (mY M') ∈ pw_Tb) (hv : MV M' 0) (hi : Cond.static (mY M') ∈ pw_Tb) (hR : MR M M') (hm : mCe M' = 0 ∧ mSl M' = 0) (hrest : (rest.map fun v => v.category).sum ≤ 8) (h : CTi X M' [] σ μ (fun x σ' μ' => PW X M b1 b2 (pc + 3) ls (.int x :: rest) σ' μ' Q)) : PW X M b1 b2 pc ls (rest) σ μ Q :=
  pw_callS (As := []) (b1' := b1) (b2' := b2) d hl hv hi hR rfl hrest (by omega) (by omega) h (fun r σ' μ' ⟨x, hr, hq⟩ => by subst hr; exact hq)
theorem pw_cS0v {M' : Mt} {i : Nat} {rest : List Value} (d : decode (mB M) pc = .ok (.invokestatic i, 3)) (hl : Cond.methodLink (mY M).cls i (mY M') ∈ pw_Tb) (hv : MV M' 0) (hi : Cond.static (mY M') ∈ pw_Tb) (hR : MR M M') (hm : mCe M' = 0 ∧ mSl M' = 0) (hrest : (rest.map fun v => v.category).sum ≤ 8) (h : CTv X M' [] σ μ (fun σ' μ' => PW X M b1 b2 (pc + 3) ls rest σ' μ' Q)) : PW X M b1 b2 pc ls (rest) σ μ Q :=
  pw_callS (As := []) (b1' := b1) (b2' := b2) d hl hv hi hR rfl hrest (by omega) (by omega) h (fun r σ' μ' ⟨hr, hq⟩ => by subst hr; exact hq)
theorem pw_cS1i {M' : Mt} {i : Nat} {a1 : Value} {rest : List Value} (d : decode (mB M) pc = .ok (.invokestatic i, 3)) (hl : Cond.methodLink (mY M).cls i (mY M') ∈ pw_Tb) (hv : MV M' 1) (hi : Cond.static (mY M') ∈ pw_Tb) (hR : MR M M') (hm : mCe M' = 0 ∧ mSl M' = 0) (hrest : (rest.map fun v => v.category).sum ≤ 8) (h : CTi X M' [a1] σ μ (fun x σ' μ' => PW X M b1 b2 (pc + 3) ls (.int x :: rest) σ' μ' Q)) : PW X M b1 b2 pc ls (a1 :: rest) σ μ Q :=
  pw_callS (As := [a1]) (b1' := b1) (b2' := b2) d hl hv hi hR rfl hrest (by omega) (by omega) h (fun r σ' μ' ⟨x, hr, hq⟩ => by subst hr; exact hq)
theorem pw_cS1v {M' : Mt} {i : Nat} {a1 : Value} {rest : List Value} (d : decode (mB M) pc = .ok (.invokestatic i, 3)) (hl : Cond.methodLink (mY M).cls i (mY M') ∈ pw_Tb) (hv : MV M' 1) (hi : Cond.static (mY M') ∈ pw_Tb) (hR : MR M M') (hm : mCe M' = 0 ∧ mSl M' = 0) (hrest : (rest.map fun v => v.category).sum ≤ 8) (h : CTv X M' [a1] σ μ (fun σ' μ' => PW X M b1 b2 (pc + 3) ls rest σ' μ' Q)) : PW X M b1 b2 pc ls (a1 :: rest) σ μ Q :=
  pw_callS (As := [a1]) (b1' := b1) (b2' := b2) d hl hv hi hR rfl hrest (by omega) (by omega) h (fun r σ' μ' ⟨hr, hq⟩ => by subst hr; exact hq)
theorem pw_cS2i {M' : Mt} {i : Nat} {a1 a2 : Value} {rest : List Value} (d : decode (mB M) pc = .ok (.invokestatic i, 3)) (hl : Cond.methodLink (mY M).cls i (mY M') ∈ pw_Tb) (hv : MV M' 2) (hi : Cond.static (mY M') ∈ pw_Tb) (hR : MR M M') (hm : mCe M' = 0 ∧ mSl M' = 0) (hrest : (rest.map fun v => v.category).sum ≤ 8) (h : CTi X M' [a1, a2] σ μ (fun x σ' μ' => PW X M b1 b2 (pc + 3) ls (.int x :: rest) σ' μ' Q)) : PW X M b1 b2 pc ls (a2 :: a1 :: rest) σ μ Q :=
  pw_callS (As := [a1, a2]) (b1' := b1) (b2' := b2) d hl hv hi hR rfl hrest (by omega) (by omega) h (fun r σ' μ' ⟨x, hr, hq⟩ => by subst hr; exact hq)
theorem pw_cS2v {M' : Mt} {i : Nat} {a1 a2 : Value} {rest : List Value} (d : decode (mB M) pc = .ok (.invokestatic i, 3)) (hl : Cond.methodLink (mY M).cls i (mY M') ∈ pw_Tb) (hv : MV M' 2) (hi : Cond.static (mY M') ∈ pw_Tb) (hR : MR M M') (hm : mCe M' = 0 ∧ mSl M' = 0) (hrest : (rest.map fun v => v.category).sum ≤ 8) (h : CTv X M' [a1, a2] σ μ (fun σ' μ' => PW X M b1 b2 (pc + 3) ls rest σ' μ' Q)) : PW X M b1 b2 pc ls (a2 :: a1 :: rest) σ μ Q :=
  pw_callS (As := [a1, a2]) (b1' := b1) (b2' := b2) d hl hv hi hR rfl hrest (by omega) (by omega) h (fun r σ' μ' ⟨hr, hq⟩ => by subst hr; exact hq)
theorem pw_cS3i {M' : Mt} {i : Nat} {a1 a2 a3 : Value} {rest : List Value} (d : decode (mB M) pc = .ok (.invokestatic i, 3)) (hl : Cond.methodLink (mY M).cls i (mY M') ∈ pw_Tb) (hv : MV M' 3) (hi : Cond.static (mY M') ∈ pw_Tb) (hR : MR M M') (hm : mCe M' = 0 ∧ mSl M' = 0) (hrest : (rest.map fun v => v.category).sum ≤ 8) (h : CTi X M' [a1, a2, a3] σ μ (fun x σ' μ' => PW X M b1 b2 (pc + 3) ls (.int x :: rest) σ' μ' Q)) : PW X M b1 b2 pc ls (a3 :: a2 :: a1 :: rest) σ μ Q :=
  pw_callS (As := [a1, a2, a3]) (b1' := b1) (b2' := b2) d hl hv hi hR rfl hrest (by omega) (by omega) h (fun r σ' μ' ⟨x, hr, hq⟩ => by subst hr; exact hq)
theorem pw_cS3v {M' : Mt} {i : Nat} {a1 a2 a3 : Value} {rest : List Value} (d : decode (mB M) pc = .ok (.invokestatic i, 3)) (hl : Cond.methodLink (mY M).cls i (mY M') ∈ pw_Tb) (hv : MV M' 3) (hi : Cond.static (mY M') ∈ pw_Tb) (hR : MR M M') (hm : mCe M' = 0 ∧ mSl M' = 0) (hrest : (rest.map fun v => v.category).sum ≤ 8) (h : CTv X M' [a1, a2, a3] σ μ (fun σ' μ' => PW X M b1 b2 (pc + 3) ls rest σ' μ' Q)) : PW X M b1 b2 pc ls (a3 :: a2 :: a1 :: rest) σ μ Q :=
  pw_callS (As := [a1, a2, a3]) (b1' := b1) (b2' := b2) d hl hv hi hR rfl hrest (by omega) (by omega) h (fun r σ' μ' ⟨hr, hq⟩ => by subst hr; exact hq)
theorem pw_cS4i {M' : Mt} {i : Nat} {a1 a2 a3 a4 : Value} {rest : List Value} (d : decode (mB M) pc = .ok (.invokestatic i, 3)) (hl : Cond.methodLink (mY M).cls i (mY M') ∈ pw_Tb) (hv : MV M' 4) (hi : Cond.static (mY M') ∈ pw_Tb) (hR : MR M M') (hm : mCe M' = 0 ∧ mSl M' = 0) (hrest : (rest.map fun v => v.category).sum ≤ 8) (h : CTi X M' [a1, a2, a3, a4] σ μ (fun x σ' μ' => PW X M b1 b2 (pc + 3) ls (.int x :: rest) σ' μ' Q)) : PW X M b1 b2 pc ls (a4 :: a3 :: a2 :: a1 :: rest) σ μ Q :=
  pw_callS (As := [a1, a2, a3, a4]) (b1' := b1) (b2' := b2) d hl hv hi hR rfl hrest (by omega) (by omega) h (fun r σ' μ' ⟨x, hr, hq⟩ => by subst hr; exact hq)
theorem pw_cS4v {M' : Mt} {i : Nat} {a1 a2 a3 a4 : Value} {rest : List Value} (d : decode (mB M) pc = .ok (.invokestatic i, 3)) (hl : Cond.methodLink (mY M).cls i (mY M') ∈ pw_Tb) (hv : MV M' 4) (hi : Cond.static (mY M') ∈ pw_Tb) (hR : MR M M') (hm : mCe M' = 0 ∧ mSl M' = 0) (hrest : (rest.map fun v => v.category).sum ≤ 8) (h : CTv X M' [a1, a2, a3, a4] σ μ (fun σ' μ' => PW X M b1 b2 (pc + 3) ls rest σ' μ' Q)) : PW X M b1 b2 pc ls (a4 :: a3 :: a2 :: a1 :: rest) σ μ Q :=
  pw_callS (As := [a1, a2, a3, a4]) (b1' := b1) (b2' := b2) d hl hv hi hR rfl hrest (by omega) (by omega) h (fun r σ' μ' ⟨hr, hq⟩ => by subst hr; exact hq)
theorem pw_cSN0i {M' : Mt} {i : Nat} {rest : List Value} (d : decode (mB M) pc = .ok (.invokestatic i, 3)) (hl : Cond.methodLinkNest (mY M).cls i (mY M') RX7 ∈ pw_nest) (hv : MV M' 0) (hi : Cond.static (mY M') ∈ pw_Tb) (hR : MR M M') (hm : mCe M' = 0 ∧ mSl M' = 0) (hrest : (rest.map fun v => v.category).sum ≤ 8) (h : CTi X M' [] σ μ (fun x σ' μ' => PW X M b1 b2 (pc + 3) ls (.int x :: rest) σ' μ' Q)) : PW X M b1 b2 pc ls (rest) σ μ Q :=
  pw_callSN (As := []) (b1' := b1) (b2' := b2) d hl hv hi hR rfl hrest (by omega) (by omega) h (fun r σ' μ' ⟨x, hr, hq⟩ => by subst hr; exact hq)
theorem pw_cSN0v {M' : Mt} {i : Nat} {rest : List Value} (d : decode (mB M) pc = .ok (.invokestatic i, 3)) (hl : Cond.methodLinkNest (mY M).cls i (mY M') RX7 ∈ pw_nest) (hv : MV M' 0) (hi : Cond.static (mY M') ∈ pw_Tb) (hR : MR M M') (hm : mCe M' = 0 ∧ mSl M' = 0) (hrest : (rest.map fun v => v.category).sum ≤ 8) (h : CTv X M' [] σ μ (fun σ' μ' => PW X M b1 b2 (pc + 3) ls rest σ' μ' Q)) : PW X M b1 b2 pc ls (rest) σ μ Q :=
  pw_callSN (As := []) (b1' := b1) (b2' := b2) d hl hv hi hR rfl hrest (by omega) (by omega) h (fun r σ' μ' ⟨hr, hq⟩ => by subst hr; exact hq)
theorem pw_cSN1i {M' : Mt} {i : Nat} {a1 : Value} {rest : List Value} (d : decode (mB M) pc = .ok (.invokestatic i, 3)) (hl : Cond.methodLinkNest (mY M).cls i (mY M') RX7 ∈ pw_nest) (hv : MV M' 1) (hi : Cond.static (mY M') ∈ pw_Tb) (hR : MR M M') (hm : mCe M' = 0 ∧ mSl M' = 0) (hrest : (rest.map fun v => v.category).sum ≤ 8) (h : CTi X M' [a1] σ μ (fun x σ' μ' => PW X M b1 b2 (pc + 3) ls (.int x :: rest) σ' μ' Q)) : PW X M b1 b2 pc ls (a1 :: rest) σ μ Q :=
  pw_callSN (As := [a1]) (b1' := b1) (b2' := b2) d hl hv hi hR rfl hrest (by omega) (by omega) h (fun r σ' μ' ⟨x, hr, hq⟩ => by subst hr; exact hq)
theorem pw_cSN1v {M' : Mt} {i : Nat} {a1 : Value} {rest : List Value} (d : decode (mB M) pc = .ok (.invokestatic i, 3)) (hl : Cond.methodLinkNest (mY M).cls i (mY M') RX7 ∈ pw_nest) (hv : MV M' 1) (hi : Cond.static (mY M') ∈ pw_Tb) (hR : MR M M') (hm : mCe M' = 0 ∧ mSl M' = 0) (hrest : (rest.map fun v => v.category).sum ≤ 8) (h : CTv X M' [a1] σ μ (fun σ' μ' => PW X M b1 b2 (pc + 3) ls rest σ' μ' Q)) : PW X M b1 b2 pc ls (a1 :: rest) σ μ Q :=
  pw_callSN (As := [a1]) (b1' := b1) (b2' := b2) d hl hv hi hR rfl hrest (by omega) (by omega) h (fun r σ' μ' ⟨hr, hq⟩ => by subst hr; exact hq)
theorem pw_cSN2i {M' : Mt} {i : Nat} {a1 a2 : Value} {rest : List Value} (d : decode (mB M) pc = .ok (.invokestatic i, 3)) (hl : Cond.methodLinkNest (mY M).cls i (mY M') RX7 ∈ pw_nest) (hv : MV M' 2) (hi : Cond.static (mY M') ∈ pw_Tb) (hR : MR M M') (hm : mCe M' = 0 ∧ mSl M' = 0) (hrest : (rest.map fun v => v.category).sum ≤ 8) (h : CTi X M' [a1, a2] σ μ (fun x σ' μ' => PW X M b1 b2 (pc + 3) ls (.int x :: rest) σ' μ' Q)) : PW X M b1 b2 pc ls (a2 :: a1 :: rest) σ μ Q :=
  pw_callSN (As := [a1, a2]) (b1' := b1) (b2' := b2) d hl hv hi hR rfl hrest (by omega) (by omega) h (fun r σ' μ' ⟨x, hr, hq⟩ => by subst hr; exact hq)
theorem pw_cSN2v {M' : Mt} {i : Nat} {a1 a2 : Value} {rest : List Value} (d : decode (mB M) pc = .ok (.invokestatic i, 3)) (hl : Cond.methodLinkNest (mY M).cls i (mY M') RX7 ∈ pw_nest) (hv : MV M' 2) (hi : Cond.static (mY M') ∈ pw_Tb) (hR : MR M M') (hm : mCe M' = 0 ∧ mSl M' = 0) (hrest : (rest.map fun v => v.category).sum ≤ 8) (h : CTv X M' [a1, a2] σ μ (fun σ' μ' => PW X M b1 b2 (pc + 3) ls rest σ' μ' Q)) : PW X M b1 b2 pc ls (a2 :: a1 :: rest) σ μ Q :=
  pw_callSN (As := [a1, a2]) (b1' := b1) (b2' := b2) d hl hv hi hR rfl hrest (by omega) (by omega) h (fun r σ' μ' ⟨hr, hq⟩ => by subst hr; exact hq)
theorem pw_cSN3i {M' : Mt} {i : Nat} {a1 a2 a3 : Value} {rest : List Value} (d : decode (mB M) pc = .ok (.invokestatic i, 3)) (hl : Cond.methodLinkNest (mY M).cls i (mY M') RX7 ∈ pw_nest) (hv : MV M' 3) (hi : Cond.static (mY M') ∈ pw_Tb) (hR : MR M M') (hm : mCe M' = 0 ∧ mSl M' = 0) (hrest : (rest.map fun v => v.category).sum ≤ 8) (h : CTi X M' [a1, a2, a3] σ μ (fun x σ' μ' => PW X M b1 b2 (pc + 3) ls (.int x :: rest) σ' μ' Q)) : PW X M b1 b2 pc ls (a3 :: a2 :: a1 :: rest) σ μ Q :=
  pw_callSN (As := [a1, a2, a3]) (b1' := b1) (b2' := b2) d hl hv hi hR rfl hrest (by omega) (by omega) h (fun r σ' μ' ⟨x, hr, hq⟩ => by subst hr; exact hq)
theorem pw_cSN3v {M' : Mt} {i : Nat} {a1 a2 a3 : Value} {rest : List Value} (d : decode (mB M) pc = .ok (.invokestatic i, 3)) (hl : Cond.methodLinkNest (mY M).cls i (mY M') RX7 ∈ pw_nest) (hv : MV M' 3) (hi : Cond.static (mY M') ∈ pw_Tb) (hR : MR M M') (hm : mCe M' = 0 ∧ mSl M' = 0) (hrest : (rest.map fun v => v.category).sum ≤ 8) (h : CTv X M' [a1, a2, a3] σ μ (fun σ' μ' => PW X M b1 b2 (pc + 3) ls rest σ' μ' Q)) : PW X M b1 b2 pc ls (a3 :: a2 :: a1 :: rest) σ μ Q :=
  pw_callSN (As := [a1, a2, a3]) (b1' := b1) (b2' := b2) d hl hv hi hR rfl hrest (by omega) (by omega) h (fun r σ' μ' ⟨hr, hq⟩ => by subst hr; exact hq)
theorem pw_cSN4i {M' : Mt} {i : Nat} {a1 a2 a3 a4 : Value} {rest : List Value} (d : decode (mB M) pc = .ok (.invokestatic i, 3)) (hl : Cond.methodLinkNest (mY M).cls i (mY M') RX7 ∈ pw_nest) (hv : MV M' 4) (hi : Cond.static (mY M') ∈ pw_Tb) (hR : MR M M') (hm : mCe M' = 0 ∧ mSl M' = 0) (hrest : (rest.map fun v => v.category).sum ≤ 8) (h : CTi X M' [a1, a2, a3, a4] σ μ (fun x σ' μ' => PW X M b1 b2 (pc + 3) ls (.int x :: rest) σ' μ' Q)) : PW X M b1 b2 pc ls (a4 :: a3 :: a2 :: a1 :: rest) σ μ Q :=
  pw_callSN (As := [a1, a2, a3, a4]) (b1' := b1) (b2' := b2) d hl hv hi hR rfl hrest (by omega) (by omega) h (fun r σ' μ' ⟨x, hr, hq⟩ => by subst hr; exact hq)
theorem pw_cSN4v {M' : Mt} {i : Nat} {a1 a2 a3 a4 : Value} {rest : List Value} (d : decode (mB M) pc = .ok (.invokestatic i, 3)) (hl : Cond.methodLinkNest (mY M).cls i (mY M') RX7 ∈ pw_nest) (hv : MV M' 4) (hi : Cond.static (mY M') ∈ pw_Tb) (hR : MR M M') (hm : mCe M' = 0 ∧ mSl M' = 0) (hrest : (rest.map fun v => v.category).sum ≤ 8) (h : CTv X M' [a1, a2, a3, a4] σ μ (fun σ' μ' => PW X M b1 b2 (pc + 3) ls rest σ' μ' Q)) : PW X M b1 b2 pc ls (a4 :: a3 :: a2 :: a1 :: rest) σ μ Q :=
  pw_callSN (As := [a1, a2, a3, a4]) (b1' := b1) (b2' := b2) d hl hv hi hR rfl hrest (by omega) (by omega) h (fun r σ' μ' ⟨hr, hq⟩ => by subst hr; exact hq)
end PWC
