/-! THE CLAIM OUT OF ONE WALK OF THE LAW'S BODY. Your part is whole_start (and what it stands on); all else here is the same for every law, but numbers. -/
def R_law : String := "BusSilencesLaw"
def lw_P (b : Addr) (xs : List Int32) (args : Array Value) (s : State) : Prop := args = #[.ref b] ∧ s.IntsAt b xs ∧ xs.length ≤ 260 ∧ (Jvm.Cond.and given_1 narrow_1).before args s = true
def lw_Q (_ : Array Value) (s : State) (o : Outcome) (t : State) : Prop := o = .returned (some (.int 1)) ∧ Framed s o t [] 600000 7302250
def lw_Z (below : List Frame) (a : Array Value) (s : State) : State → Prop := fun t => ∃ o, t.status = .running ∧ Ended t below o ∧ lw_Q a s o t
/-- the law's own end, with 1 on the stack, nothing written that was there before, its room as the claim has it -/
theorem lw_ret {p : Program} {l : Launch} {e : Env} {s : State} {m : MethodId} {below : List Frame} {meth : Method} {c : Code} {b : Nat} (hx : p.tables.exec = Jvm.exec) (hb : c.code = code) (hr : meth.sig.returnType = ret) (hlocks : meth.locks = false) {pc : Nat} {H : Heap} {ls : Array Slot} (hdg : decode code pc = .ok (.ireturn, 1)) : W p l e room_1 s m #[Value.ref b] below meth c H [] 600000 7302250 (lw_Z below #[Value.ref b] s) (F0 m pc ls [.int 1]) := by
  intro T hT X
  obtain ⟨fs, hret, hrun, hended, hW, hframe⟩ := X.leave (v := some (.int 1)) (hlocks := hlocks) (fun h => by rw [hr] at h; cases h)
  have hmeth' : T.vm.method? m = some meth := X.method'
  refine ⟨T.setFrames fs, ?_, .returned (some (.int 1)), hrun, hended, rfl, ⟨_, rfl⟩, hW, hframe⟩
  jvm_step X.here [X.here.top, hx, hb, hdg, hmeth', hr, ret, narrow_b1]
  (try refine ⟨rfl, ?_⟩); (try refine ⟨rfl, ?_⟩)
  first | (intro acts; rw [hret _ acts rfl rfl rfl]) | rw [hret _ _ rfl rfl rfl]
  exact Steps.refl _
/-- what holds at the law's entry: the machine, the code, the tables' words (any of lw_tbl by 'hts w (by decide +kernel)'), the script of L ints xs at the cell b, what the Statement gives of the start (any of its parts by flat_of_before) -/
def lw_At (p : Program) (s : State) (m : MethodId) (meth : Method) (c : Code) (b L : Nat) (xs : Nat → Int32) : Prop :=
  p.tables.exec = Jvm.exec ∧ c.code = code ∧ meth.sig.returnType = ret ∧ c.maxLocals = 17 ∧ s.vm.findClass R_law = some m.cls ∧ (∀ w ∈ lw_tbl, w.before #[Value.ref b] s = true) ∧ va_X b L xs s s.heap ∧ b < s.heap.size ∧ meth.locks = false ∧ (Jvm.Cond.and given_1 narrow_1).before #[Value.ref b] s = true
-- ===== YOUR PART BEGINS =====
set_option maxRecDepth 100000 in
set_option maxHeartbeats 4000000 in
theorem whole_start {p : Program} {e : Env} {s : State} {m : MethodId} {below : List Frame} {meth : Method} {c : Code} (l : Launch) (hflags : l.flags = flags0) {b L : Nat} {xs : Nat → Int32} (hL : L ≤ 260) (C0 : lw_At p s m meth c b L xs) : W p l e room_1 s m #[Value.ref b] below meth c s.heap [] 0 0 (lw_Z below #[Value.ref b] s) (entryFrame m ([Value.ref b] : List Value).toArray 17) := by
  obtain ⟨hx, hb, hr, hml, hown, hts, hX, hbl, hlocks, hgv⟩ := id C0
  have hs := flat_of_before _ hgv
  have htp : ∀ w ∈ pw_Tb, w.before #[Value.ref b] s = true := fun w hw => hts w (List.mem_filter.mp hw).1
  have hkn : ∀ c, c < 9 → ∃ cC iS, u_Kn s (pw_R c) (pw_T c) (pw_N c) cC iS := pw_nine (u_known htp (pw_hin 0 (by decide)) (htp _ tX0)) (u_known htp (pw_hin 1 (by decide)) (htp _ tX1)) (u_known htp (pw_hin 2 (by decide)) (htp _ tX2)) (u_known htp (pw_hin 3 (by decide)) (htp _ tX3)) (u_known htp (pw_hin 4 (by decide)) (htp _ tX4)) (u_known htp (pw_hin 5 (by decide)) (htp _ tX5)) (u_known htp (pw_hin 6 (by decide)) (htp _ tX6)) (u_known htp (pw_hin 7 (by decide)) (htp _ tX7)) (u_known htp (pw_hin 8 (by decide)) (htp _ tX7))
  obtain ⟨dC, dI, hKc⟩ : ∃ (dC : Nat → ClassId) (dI : Nat → Nat → Nat), ∀ c, c < 9 → u_Kn s (pw_R c) (pw_T c) (pw_N c) (dC c) (dI c) := by
    have h2 : ∀ c, ∃ q : ClassId × (Nat → Nat), c < 9 → u_Kn s (pw_R c) (pw_T c) (pw_N c) q.1 q.2 := fun c => by
      rcases Classical.em (c < 9) with hc | hc
      · obtain ⟨x1, x2, x3⟩ := hkn c hc
        exact ⟨(x1, x2), fun _ => x3⟩
      · obtain ⟨x1, x2, x3⟩ := hkn 0 (by decide)
        exact ⟨(x1, x2), fun h => absurd h hc⟩
    exact ⟨fun c => (h2 c).choose.1, fun c => (h2 c).choose.2, fun c hc => (h2 c).choose_spec hc⟩
  obtain ⟨kC, aC, nC⟩ := ar_char (hts (.arrayClass .char) (by decide +kernel))
  obtain ⟨kI, aI, nI8⟩ := ar_int (hts (.arrayClass .int) (by decide +kernel))
  obtain ⟨kB, aB9, nB⟩ := ar_obj (C := RX0) (hts (.arrayOver (.object RX0)) (by decide +kernel))
  obtain ⟨kS, aS9, nS9⟩ := ar_obj (C := RX6) (hts (.arrayOver (.object RX6)) (by decide +kernel))
  have nI9 := va_nm_int nI8
  obtain ⟨tA, tAv, tAl, tAs⟩ := sa_start (n := "AT_FIRST") (f := pw_AF) nI9 (hs (.eq (.length (.static "BusSilences" "AT_FIRST" "[I")) (.int 5)) (by decide +kernel)) (fun j hj => by
    rcases (by omega : j = 0 ∨ j = 1 ∨ j = 2 ∨ j = 3 ∨ j = 4) with e | e | e | e | e
    · subst e
      exact hs (.eq (.elem (.static "BusSilences" "AT_FIRST" "[I") (.int 0)) (.int 3)) (by decide +kernel)
    · subst e
      exact hs (.eq (.elem (.static "BusSilences" "AT_FIRST" "[I") (.int 1)) (.int 40)) (by decide +kernel)
    · subst e
      exact hs (.eq (.elem (.static "BusSilences" "AT_FIRST" "[I") (.int 2)) (.int 1)) (by decide +kernel)
    · subst e
      exact hs (.eq (.elem (.static "BusSilences" "AT_FIRST" "[I") (.int 3)) (.int 1)) (by decide +kernel)
    · subst e
      exact hs (.eq (.elem (.static "BusSilences" "AT_FIRST" "[I") (.int 4)) (.int 4)) (by decide +kernel)) (hs (.exactly (.static "BusSilences" "AT_FIRST" "[I") "[I") (by decide +kernel))
  obtain ⟨tL, tLv, tLl, tLs⟩ := sa_start (n := "LOWEST") (f := pw_LO) nI9 (hs (.eq (.length (.static "BusSilences" "LOWEST" "[I")) (.int 5)) (by decide +kernel)) (fun j hj => by
    rcases (by omega : j = 0 ∨ j = 1 ∨ j = 2 ∨ j = 3 ∨ j = 4) with e | e | e | e | e
    · subst e
      exact hs (.eq (.elem (.static "BusSilences" "LOWEST" "[I") (.int 0)) (.int 1)) (by decide +kernel)
    · subst e
      exact hs (.eq (.elem (.static "BusSilences" "LOWEST" "[I") (.int 1)) (.int 2)) (by decide +kernel)
    · subst e
      exact hs (.eq (.elem (.static "BusSilences" "LOWEST" "[I") (.int 2)) (.int 0)) (by decide +kernel)
    · subst e
      exact hs (.eq (.elem (.static "BusSilences" "LOWEST" "[I") (.int 3)) (.int 0)) (by decide +kernel)
    · subst e
      exact hs (.eq (.elem (.static "BusSilences" "LOWEST" "[I") (.int 4)) (.int 1)) (by decide +kernel)) (hs (.exactly (.static "BusSilences" "LOWEST" "[I") "[I") (by decide +kernel))
  obtain ⟨tG, tGv, tGl, tGs⟩ := sa_start (n := "GREATEST") (f := pw_GR) nI9 (hs (.eq (.length (.static "BusSilences" "GREATEST" "[I")) (.int 5)) (by decide +kernel)) (fun j hj => by
    rcases (by omega : j = 0 ∨ j = 1 ∨ j = 2 ∨ j = 3 ∨ j = 4) with e | e | e | e | e
    · subst e
      exact hs (.eq (.elem (.static "BusSilences" "GREATEST" "[I") (.int 0)) (.int 20)) (by decide +kernel)
    · subst e
      exact hs (.eq (.elem (.static "BusSilences" "GREATEST" "[I") (.int 1)) (.int 99)) (by decide +kernel)
    · subst e
      exact hs (.eq (.elem (.static "BusSilences" "GREATEST" "[I") (.int 2)) (.int 9)) (by decide +kernel)
    · subst e
      exact hs (.eq (.elem (.static "BusSilences" "GREATEST" "[I") (.int 3)) (.int 9)) (by decide +kernel)
    · subst e
      exact hs (.eq (.elem (.static "BusSilences" "GREATEST" "[I") (.int 4)) (.int 9)) (by decide +kernel)) (hs (.exactly (.static "BusSilences" "GREATEST" "[I") "[I") (by decide +kernel))
  have hA : ∀ a : Nat, a < s.heap.size → ¬ (fun q : Nat => s.heap.size ≤ q) a := fun a ha => Nat.not_le.mpr ha
  have hini : (Cond.initialized "BusSilences").before #[Value.ref b] s = true := hts _ (by decide +kernel)
  let X : Cx := (l, s.heap.size, (dC, dI), (kC, kI, kI, kB, kS), (tA, tL, tG), (b, L, xs))
  have SX0 : SX X s := by
    refine ⟨⟨fun c q hq => ?_, fun k q hq => ?_⟩, fun w hw => va_Nw.of (pw_nest_on w hw) (hts w (List.mem_append_right _ (pw_nest_in w hw))), va_AO.of (hts (.arrayOver (.object RX0)) (by decide +kernel)), va_AO.of (hts (.arrayOver (.object RX6)) (by decide +kernel)), ⟨va_Zref (hts (.laysStatic "BusSilences" "AT_FIRST" "[I") (by decide +kernel)) hini tAv hA, va_Zref (hts (.laysStatic "BusSilences" "LOWEST" "[I") (by decide +kernel)) hini tLv hA, va_Zref (hts (.laysStatic "BusSilences" "GREATEST" "[I") (by decide +kernel)) hini tGv hA⟩, ⟨tAs, tLs, tGs⟩, ⟨tAl, tLl, tGl⟩, hX, hbl, Nat.le_refl _⟩
    · have hc : c < 9 := (List.getElem?_eq_some_iff.mp hq).1
      have e := Option.some.inj (hq.symm.trans (pw_cl c hc))
      subst e
      exact hKc c hc
    · match k, hq with
      | 0, hq => cases hq; exact ⟨aC, nC⟩
      | 1, hq => cases hq; exact ⟨aI, nI8⟩
      | 2, hq => cases hq; exact ⟨aI, nI8⟩
      | 3, hq => cases hq; exact ⟨aB9, nB⟩
      | 4, hq => cases hq; exact ⟨aS9, nS9⟩
      | k + 5, hq => cases hq
  have HP0 : HP X ((fun _ => 0), (fun _ => 0), (fun _ _ => none), 0) (fun _ _ => 0) s.heap := ⟨fun k q h => (by cases h), rfl, fun a h => absurd rfl h, fun a h => (by cases h)⟩
  rw [lg_entry_eq]
  refine law_body (X := X) (σ := ((fun _ => 0), (fun _ => 0), (fun _ _ => none), 0)) (μ := fun _ _ => 0) hL rfl p e room_1 s m _ below meth c s.heap [] 0 0 _ _ ⟨hx, hb, hr, hml, hown, htp, hlocks, fun h => absurd h (by decide), Nat.le_refl _, Nat.le_refl _⟩ SX0 HP0 va_S.rf (pw_ent_L (n := 17) (av := [.ref b]) (Nat.le_of_ble_eq_true rfl)) (by show 0 + 600000 ≤ 600000; omega) (by show 0 + 7302250 ≤ 7302250; omega) ?_
  intro H' locs' cells' slots' ar' pc' r σ' μ' hQ hret hP hS hc hsl
  obtain ⟨y, rfl, ey⟩ := hQ
  have ey2 : y = nI 1 := ey
  subst ey2
  refine W.widen (k := 600000) (n := 7302250) hc hsl (va_forget (fun q hq => hS.2.2 q hq) ?_)
  rcases hret with ⟨h1, -, -⟩ | ⟨z, ty, h1, h2, h3, hd⟩ | ⟨v, C, h1, h2, h3, hd⟩
  · cases h1
  · exact lw_ret hx hb hr hlocks hd
  · cases h3
-- ===== YOUR PART ENDS =====
set_option maxHeartbeats 4000000 in
theorem lw_walk (l : Launch) (hflags : l.flags = flags0) (b : Addr) (xs : List Int32) : MetFree l x (headSpec (Jvm.Cond.code x code maxLocals ret :: tables_1) room_1) (lw_P b xs) (fun _ _ _ _ _ => True) lw_Q := by
  refine MetFree.of_bodyS (code := code) (maxLocals := maxLocals) (ret := ret) (by decide) ?_ ?_
  · intro args s m h hn
    obtain ⟨meth, c, h1, h2, h3, h4, h5, h6, -, -⟩ := Cond.code_spec hn (atoms_spec (ws := Jvm.Cond.code x code maxLocals ret :: tables_1) h _ List.mem_cons_self)
    exact ⟨meth, c, h1, h2, h3, h4, h5, h6⟩
  · intro p e s m args below meth c s₁ B hml0 hP _
    obtain ⟨rfl, hx, hbd, hgv⟩ := hP
    obtain ⟨scr, harrAt, hlist, hof, hsmall⟩ := hx
    obtain ⟨hcb, hkn, -, -⟩ := State.arrayAt?_spec harrAt
    have hown : s.vm.findClass R_law = some m.cls := findClass_of_methodNamed B.named
    have hts0 : ∀ c ∈ (Jvm.Cond.code x code maxLocals ret :: tables_1), c.before #[Value.ref b] s = true := atoms_spec (ws := Jvm.Cond.code x code maxLocals ret :: tables_1) B.pre
    have hts : ∀ w ∈ lw_tbl, w.before #[Value.ref b] s = true := k2_hts_sels lw_privs (fun w hw => hts0 w (List.mem_cons_of_mem _ hw)) lw_privs_ok
    have hml : c.maxLocals = 17 := B.maxLocals_eq (hts0 _ List.mem_cons_self)
    have X₀ : Stand p l e room_1 s m #[Value.ref b] below meth c s₁ [] 0 0 := Stand.of_body B
    have hh0 : s₁.heap = s.heap := by rw [B.state]; rfl
    have hsz : scr.slots.size = xs.length := by rw [← Array.length_toList, hlist, List.length_map]
    have hval : ∀ j : Nat, j < xs.length → scr.slots[j]? = some (.int (xs.getD j 0)) := fun j hj => by
      rw [← Array.getElem?_toList, hlist]
      simp [hj]
    have hbl : b < s.heap.size := (Array.getElem?_eq_some_iff.mp hcb).1
    have hX : va_X b xs.length (fun j => xs.getD j 0) s s.heap := ⟨scr, hcb, hof, hkn, hsz, hval⟩
    have K : W p l e room_1 s m #[Value.ref b] below meth c s₁.heap [] 0 0 (lw_Z below #[Value.ref b] s) (entryFrame m ([Value.ref b] : List Value).toArray 17) := by
      rw [hh0]
      exact whole_start l hflags hbd ⟨B.exec, B.bytes, B.returns, hml, hown, hts, hX, hbl, B.notSynchronized, hgv⟩
    obtain ⟨t, a1, o, b1, b2, b3⟩ := K s₁ rfl X₀
    exact ⟨t, o, a1, b1, b2, b3⟩
theorem lw_pre_spec {args : Array Value} {s : State} (h : (Jvm.Cond.and given_1 narrow_1).before args s = true) (hr : rest_1_c.before args s = true) : ∃ (b : Addr) (xs : List Int32), lw_P b xs args s := by
  have hs := flat_of_before _ h
  have hq := flat_of_before _ hr
  have hc : (Cond.count 1).before args s = true := hs _ (by decide +kernel)
  have harr : (Cond.arrayOf (.arg 0) .int).before args s = true := hs _ (by decide +kernel)
  have hle : (Cond.le (.length (.arg 0)) (.int 260)).before args s = true := hs _ (by decide +kernel)
  have hlen : (Cond.isInt (.length (.arg 0))).before args s = true := hq _ (by decide +kernel)
  have hall : (Cond.all (.arg 0) (.isInt (.elem (.arg 0) (.index 0)))).before args s = true := hq _ (by decide +kernel)
  obtain ⟨b, xs, hb, hx⟩ := State.ints_of_pre rfl harr hlen hall
  have hsm : xs.length < 2 ^ 31 := hx.choose_spec.2.2.2
  have hev : (Term.length (.arg 0)).eval args s none [] s = some (.int xs.length.toInt32) := hx.length_eval hb
  have hv := Cond.le_ints hev (show (Term.int 260).eval args s none [] s = some (.int 260) from rfl)
  have hd : xs.length.toInt32 ≤ 260 := by
    simpa [Cond.before, Cond.holds, hv] using hle
  have hN : xs.length ≤ 260 := (Int32.ofNat_le_ofNat hsm (by decide)).mp (show Int32.ofNat xs.length ≤ Int32.ofNat 260 from hd)
  exact ⟨b, xs, Cond.one_arg hc (show args[0]? = some (.ref b) from hb), hx, hN, h⟩
theorem lw_comes (l : Launch) (hflags : l.flags = flags0) : Comes l x (Jvm.Cond.code x code maxLocals ret :: tables_1) room_1 (fun tb e args s => Calls_1 tb e args s ∧ rest_1 tb e args s ∧ Pre_1 tb e args s)
    (fun _ _ args s o t => lw_Q args s o t) := by
  intro p e ha hc hk s m args below hf hfit hheap happ hpre
  obtain ⟨b, xs, hP⟩ := lw_pre_spec hpre.2.2 hpre.2.1
  obtain ⟨k, o, h1, h2, h3, hQ⟩ := lw_walk l hflags b xs p e ha hc hk s m args below hf ((Spec.applies_iff_loose hf).mp happ).1 hP trivial
  exact ⟨k, o, h1, h2, h3, hQ⟩
theorem lw_frame {s t : State} {o : Outcome} {args : Array Value} (h : Framed s o t [] 600000 7302250) :
    Framed s o t (fieldLocs frame_1_writes args s ++ arrayLocs frame_1_arrays args s ++ staticLocs frame_1_statics s) 600000 7302250 := h
theorem lw_limb (L : Cond) (hL : ∀ (args : Array Value) (s t : State), L.after args s (.returned (some (.int 1))) t = true) :
    ArmFor flags0 classFile x code maxLocals ret World_1 tables_1 room_1 Calls_1 rest_1 Pre_1
      (fun tb e a s o t => postC L tb e a s o t ∧ Framed s o t (fieldLocs frame_1_writes a s ++ arrayLocs frame_1_arrays a s ++ staticLocs frame_1_statics s) 600000 7302250) := by
  intro l hflags _ _ p e ha hc hk s m args below hf hfit hheap happ hpre
  obtain ⟨k, o, h1, h2, h3, rfl, hF⟩ := lw_comes l hflags p e ha hc hk s m args below hf hfit hheap happ hpre
  exact ⟨k, _, h1, h2, h3, hL args s _, lw_frame hF⟩
theorem i_vc : Claimed_1_1 ∧ Claimed_1_2 := ⟨lw_limb limb_1_1 (fun args s t => by simp [limb_1_1, Cond.after, Cond.holds, Cond.value]), lw_limb limb_1_2 (fun args s t => Cond.after_iff.mpr (by
  first | (rw [show limb_1_2 = Cond.eq .result (.int 1) from rfl, Cond.eq_ints (x := 1) (y := 1) rfl rfl]; simp; done) | (simp [limb_1_2, Cond.value, Term.eval]; done)))⟩
