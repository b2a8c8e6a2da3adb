/-! The law from its entry; what holds at its start -/
set_option maxRecDepth 100000 in
set_option maxHeartbeats 4000000 in
theorem law_body {X : Cx} {σ : Sp} {μ : Mm} (hL : (cxS X).2.1 ≤ 2048) (hn : nn σ = 0) : PW X mL_law 600000 7302250 0 [some (.ref (cxS X).1), none, none, none] [] σ μ (LI QL) := by
  refine pw_new 7 dL_law_0 lL_7 tX7 uX7 (by decide) (a := cxB X) (b1' := 599999) (b2' := 7302244) (by rw [hn, Nat.add_zero]) (show 599999 + 1 ≤ 600000 from by omega) (show 7302244 + 6 ≤ 7302250 from by omega) ?_
  refine pw_dup dL_law_3 ?_
  refine pw_cI0 dL_law_4 kL_9 vX7_init nX7_init rfl rfl ⟨by decide, by decide⟩ (Nat.le_of_ble_eq_true rfl) (b1' := 599435) (b2' := 7298264) (show 599435 + 564 ≤ 599999 from by omega) (show 7298264 + 3980 ≤ 7302244 from by omega) (i_X (by rw [wN_nn, hn]) (wN_tg (by rw [hn, Nat.add_zero])) (wC_self _ _ _) (fun σ8 μ8 o8 n8 c8 => ?_))
  refine pw_astore_1 dL_law_7 (by decide) ?_
  refine pw_new 8 dL_law_8 lL_10 tX8 uX8 (by decide) (a := cxB X + 565) (b1' := 599434) (b2' := 7298251) n8.symm (show 599434 + 1 ≤ 599435 from by omega) (show 7298251 + 13 ≤ 7298264 from by omega) ?_
  refine pw_dup dL_law_11 ?_
  refine pw_cI0 dL_law_12 kL_12 vX8_init nX8_init rfl rfl ⟨by decide, by decide⟩ (Nat.le_of_ble_eq_true rfl) (b1' := 599426) (b2' := 7294485) (show 599426 + 8 ≤ 599434 from by omega) (show 7294485 + 3766 ≤ 7298251 from by omega) (i_M (by rw [wN_nn, ← Nat.add_assoc, n8]) (wN_tg n8.symm) (wC_self _ _ _) (fun σ9 μ9 o9 n9 m9 x9 => ?_))
  have ob : OLD (cxB X + 565) σ8 μ8 σ9 μ9 := (OLD.rf.n (B := cxB X) (b := cxB X + 565) (t := 8 + 1) (l := 0) (f := fun _ => 0) n8.symm (Nat.le_refl _)).c o9 (Nat.le_refl _)
  have c9 : CX σ9 μ9 (cxB X) 0 A0 := c8.o (fun _ => rfl) ob (Nat.le_refl _)
  refine pw_astore_2 dL_law_15 (by decide) ?_
  refine pw_iconst (v := nI 0) dL_law_16 (by decide) ?_
  refine pw_istore_3 dL_law_17 (by decide) ?_
  exact pw_bud (show 62 * 512 ≤ 599426 by omega) (show 431 * 512 ≤ 7294485 by omega) (law_loop hL 512 0 σ9 μ9 0 A0 (by omega) (Nat.zero_le _) c9 x9 m9 wa_A0 (by omega))
theorem ar_int {args : Array Value} {s : State} (h : (Cond.arrayClass .int).before args s = true) : ∃ c, ArrOfT s c .int ∧ va_RA s c .int := by
  obtain ⟨c, k, comp, h1, h2, h3⟩ := Cond.arrayClass_spec h
  exact ⟨c, fun n z => ⟨fun q hq => (by cases hq), k, h2, comp, h3⟩, h1⟩
theorem ar_char {args : Array Value} {s : State} (h : (Cond.arrayClass .char).before args s = true) : ∃ c, ArrOfT s c .char ∧ va_RA s c .char := by
  obtain ⟨c, k, comp, h1, h2, h3⟩ := Cond.arrayClass_spec h
  exact ⟨c, fun n z => ⟨fun q hq => (by cases hq), k, h2, comp, h3⟩, h1⟩
theorem ar_bool {args : Array Value} {s : State} (h : (Cond.arrayClass .boolean).before args s = true) : ∃ c, ArrOfT s c .boolean ∧ va_RA s c .boolean := by
  obtain ⟨c, k, comp, h1, h2, h3⟩ := Cond.arrayClass_spec h
  exact ⟨c, fun n z => ⟨fun q hq => (by cases hq), k, h2, comp, h3⟩, h1⟩
theorem ar_obj {args : Array Value} {s : State} {C : String} (h : (Cond.arrayOver (.object C)).before args s = true) : ∃ c, ArrOfT s c (.object C) ∧ va_RA s c (.object C) := by
  obtain ⟨comp, c, k, h1, h2, h3, h4, h5⟩ := Cond.arrayOver_spec h
  exact ⟨c, fun n z => ⟨fun q hq => (by cases hq), k, h3, comp, h4⟩, k, comp, h3, h4, h1, h5⟩
theorem len_small {args : Array Value} {s : State} {tm : Term} {v : Value} (hv : (Term.length tm).eval args s none [] s = some v) {t : Addr} {cell : Cell} (ht : tm.eval args s none [] s = some (.ref t)) (hat : s.arrayAt? t = some cell) : cell.slots.size < 2 ^ 31 := by
  simp only [Term.eval, ht, hat, Option.bind_eq_bind, Option.bind_some] at hv
  by_cases hlt : cell.slots.size < 2147483648
  · exact hlt
  · simp [hlt] at hv
theorem sa_start {args : Array Value} {s : State} {n : String} {f : Nat → Int32} {cI : ClassId} (hcI : s.vm.findClass "[I" = some cI) (h5 : (Cond.eq (.length (.static RX7 n "[I")) (.int 5)).before args s = true) (hel : ∀ j, j < 5 → (Cond.eq (.elem (.static RX7 n "[I") (.int (Int32.ofNat j))) (.int (f j))).before args s = true) (hex : (Cond.exactly (.static RX7 n "[I") "[I").before args s = true) :
    ∃ t, (Term.static RX7 n "[I").eval args s none [] s = some (.ref t) ∧ t < s.heap.size ∧ pw_SA cI t f s.heap := by
  have hv := va_eqt h5
  obtain ⟨t, cell, ht, hat, hv2⟩ := Term.length_spec hv
  have hsz := len_small hv ht hat
  have e5 : cell.slots.size = 5 := (nI_eq hsz (by decide)).mp (show nI cell.slots.size = nI 5 from (Value.int.inj hv2).symm)
  obtain ⟨hcell, hkn, hst, -⟩ := State.arrayAt?_spec hat
  obtain ⟨a2, c2, cell2, k2, q1, q2, q3, q4, q5, q6, -⟩ := Cond.exactly_spec (args := args) (first := s) (o := none) (s := s) (idx := []) hex
  cases ht.symm.trans q1
  cases hcell.symm.trans q3
  have hel2 : ∀ j, j < 5 → cell.slots[j]? = some (.int (f j)) := fun j hj => by
    obtain ⟨a, i, cell3, h1, h2, h3, h4, h6⟩ := Term.elem_spec (va_eqt (hel j hj))
    cases ht.symm.trans h1
    cases hat.symm.trans h3
    have hi : i = nI j := by
      have e : (Term.int (Int32.ofNat j)).eval args s none [] s = some (.int (Int32.ofNat j)) := rfl
      cases h2.symm.trans e
      rfl
    rw [hi, nI_clamp (by omega)] at h6
    exact h6
  refine ⟨t, ht, (Array.getElem?_eq_some_iff.mp hcell).1, cell, hcell, q6.trans (Option.some.inj (q2.symm.trans hcI)), ?_, hst, hkn⟩
  apply Array.ext_getElem?
  intro j
  rcases Nat.lt_or_ge j 5 with g | g
  · rw [hel2 j g, arrV_read _ _ g]
  · rw [Array.getElem?_eq_none (by omega), Array.getElem?_eq_none (by rw [arrV_size]; exact g)]
