/-! The law from its entry; what holds at its start -/
theorem ar_int {args : Array Value} {s : State} (h : (Cond.arrayClass .int).before args s = true) : ∃ c, ArrOfT s c .int ∧ va_RA s c .int := by
  obtain ⟨c, k, comp, h1, h2, h3⟩ := Cond.arrayClass_spec h
  exact ⟨c, fun n z => ⟨fun q hq => (by cases hq), k, h2, comp, h3⟩, h1⟩
theorem ar_char {args : Array Value} {s : State} (h : (Cond.arrayClass .char).before args s = true) : ∃ c, ArrOfT s c .char ∧ va_RA s c .char := by
  obtain ⟨c, k, comp, h1, h2, h3⟩ := Cond.arrayClass_spec h
  exact ⟨c, fun n z => ⟨fun q hq => (by cases hq), k, h2, comp, h3⟩, h1⟩
theorem ar_obj {args : Array Value} {s : State} {C : String} (h : (Cond.arrayOver (.object C)).before args s = true) : ∃ c, ArrOfT s c (.object C) ∧ va_RA s c (.object C) := by
  obtain ⟨comp, c, k, h1, h2, h3, h4, h5⟩ := Cond.arrayOver_spec h
  exact ⟨c, fun n z => ⟨fun q hq => (by cases hq), k, h3, comp, h4⟩, k, comp, h3, h4, h1, h5⟩
theorem len_small {args : Array Value} {s : State} {tm : Term} {v : Value} (hv : (Term.length tm).eval args s none [] s = some v) {t : Addr} {cell : Cell} (ht : tm.eval args s none [] s = some (.ref t)) (hat : s.arrayAt? t = some cell) : cell.slots.size < 2 ^ 31 := by
  simp only [Term.eval, ht, hat, Option.bind_eq_bind, Option.bind_some] at hv
  by_cases hlt : cell.slots.size < 2147483648
  · exact hlt
  · simp [hlt] at hv
theorem sa_start {args : Array Value} {s : State} {n : String} {f : Nat → Int32} {cI : ClassId} (hcI : s.vm.findClass "[I" = some cI) (h5 : (Cond.eq (.length (.static RX7 n "[I")) (.int 5)).before args s = true) (hel : ∀ j, j < 5 → (Cond.eq (.elem (.static RX7 n "[I") (.int (Int32.ofNat j))) (.int (f j))).before args s = true) (hex : (Cond.exactly (.static RX7 n "[I") "[I").before args s = true) :
    ∃ t, (Term.static RX7 n "[I").eval args s none [] s = some (.ref t) ∧ t < s.heap.size ∧ pw_SA cI t f s.heap := by
  have hv := va_eqt h5
  obtain ⟨t, cell, ht, hat, hv2⟩ := Term.length_spec hv
  have hsz := len_small hv ht hat
  have e5 : cell.slots.size = 5 := (nI_eq hsz (by decide)).mp (show nI cell.slots.size = nI 5 from (Value.int.inj hv2).symm)
  obtain ⟨hcell, hkn, hst, -⟩ := State.arrayAt?_spec hat
  obtain ⟨a2, c2, cell2, k2, q1, q2, q3, q4, q5, q6, -⟩ := Cond.exactly_spec (args := args) (first := s) (o := none) (s := s) (idx := []) hex
  cases ht.symm.trans q1
  cases hcell.symm.trans q3
  have hel2 : ∀ j, j < 5 → cell.slots[j]? = some (.int (f j)) := fun j hj => by
    obtain ⟨a, i, cell3, h1, h2, h3, h4, h6⟩ := Term.elem_spec (va_eqt (hel j hj))
    cases ht.symm.trans h1
    cases hat.symm.trans h3
    have hi : i = nI j := by
      have e : (Term.int (Int32.ofNat j)).eval args s none [] s = some (.int (Int32.ofNat j)) := rfl
      cases h2.symm.trans e
      rfl
    rw [hi, nI_clamp (by omega)] at h6
    exact h6
  refine ⟨t, ht, (Array.getElem?_eq_some_iff.mp hcell).1, cell, hcell, q6.trans (Option.some.inj (q2.symm.trans hcI)), ?_, hst, hkn⟩
  apply Array.ext_getElem?
  intro j
  rcases Nat.lt_or_ge j 5 with g | g
  · rw [hel2 j g, arrV_read _ _ g]
  · rw [Array.getElem?_eq_none (by omega), Array.getElem?_eq_none (by rw [arrV_size]; exact g)]

