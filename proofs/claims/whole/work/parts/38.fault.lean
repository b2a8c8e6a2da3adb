/-! Texts: the fault of a text (class) -/
theorem nmG_b {P : Pd} (h80 : P.2 ≤ 80) : ∀ {f v i : Nat}, i ≤ 80 → i ≤ (nmG P f v i).2 ∧ (nmG P f v i).2 ≤ 80 ∧ (v ≤ 999 → (nmG P f v i).1 ≤ 999)
  | 0, v, i, hi => ⟨Nat.le_refl i, hi, fun h => h⟩
  | f + 1, v, i, hi => by
    rcases Classical.em (0 < v ∧ dgT P i ∧ 10 * v + dgV P i ≤ 999) with h | h
    · have e : nmG P (f + 1) v i = nmG P f (10 * v + dgV P i) (i + 1) := cif_y h
      have g := h.2.1.1
      have k := nmG_b h80 (f := f) (v := 10 * v + dgV P i) (i := i + 1) (by omega)
      rw [e]
      exact ⟨by omega, k.2.1, fun _ => k.2.2 h.2.2⟩
    · have e : nmG P (f + 1) v i = (v, i) := cif_n h
      rw [e]
      exact ⟨Nat.le_refl i, hi, fun h => h⟩
theorem wsG_b {P : Pd} (h80 : P.2 ≤ 80) : ∀ {f i : Nat} {s : Nat → Prop}, i ≤ 80 → i ≤ (wsG P f s i).2 ∧ (wsG P f s i).2 ≤ 80
  | 0, i, s, hi => ⟨Nat.le_refl i, hi⟩
  | f + 1, i, s, hi => by
    rcases Classical.em (wrT P i ∧ ¬ s (wrV P i)) with h | h
    · have e : wsG P (f + 1) s i = wsG P f (fun v => s v ∨ wrV P i = v) (i + 1) := cif_y h
      have g := h.1.1
      have k := wsG_b h80 (f := f) (s := fun v => s v ∨ wrV P i = v) (i := i + 1) (by omega)
      rw [e]
      exact ⟨by omega, k.2⟩
    · have e : wsG P (f + 1) s i = (s, i) := cif_n h
      rw [e]
      exact ⟨Nat.le_refl i, hi⟩
theorem orG_b {P : Pd} {i : Nat} (h80 : P.2 ≤ 80) (hi : i ≤ 80) : (orG P i).2 ≤ 80 ∧ ((orG P i).1 ≠ none → i < (orG P i).2) := by
  unfold orG
  rcases Classical.em (chT P i 33) with c1x | c1x
  · rw [cif_y c1x]
    have gc1x := c1x.1
    rcases Classical.em (wrT P (i + 1)) with c2x | c2x
    · rw [cif_y c2x]
      have gc2x := c2x.1
      exact ⟨by show i + 1 + 1 ≤ 80; omega, fun _ => by show i < i + 1 + 1; omega⟩
    · rw [cif_n c2x]
      exact ⟨by show i + 1 ≤ 80; omega, fun h95 => absurd rfl h95⟩
  · rw [cif_n c1x]
    rcases Classical.em (chT P i 98) with c3x | c3x
    · rw [cif_y c3x]
      have gc3x := c3x.1
      rcases Classical.em (dgT P (i + 1)) with c4x | c4x
      · rw [cif_y c4x]
        have gc4x := c4x.1
        have kn := nmG_b h80 (f := 3) (v := dgV P (i + 1)) (i := i + 1 + 1) (by omega)
        exact ⟨by show (nmG P 3 (dgV P (i + 1)) (i + 1 + 1)).2 ≤ 80; omega, fun _ => by show i < (nmG P 3 (dgV P (i + 1)) (i + 1 + 1)).2; omega⟩
      · rw [cif_n c4x]
        exact ⟨by show i + 1 ≤ 80; omega, fun h95 => absurd rfl h95⟩
    · rw [cif_n c3x]
      rcases Classical.em (chT P i 115) with c5x | c5x
      · rw [cif_y c5x]
        have gc5x := c5x.1
        rcases Classical.em (∃ w, w < 6 ∧ (wsG P 6 (fun _ => False) (i + 1)).1 w) with c6x | c6x
        · rw [cif_y c6x]
          have kw := wsG_b h80 (f := 6) (s := fun _ => False) (i := i + 1) (by omega)
          exact ⟨by show (wsG P 6 (fun _ => False) (i + 1)).2 ≤ 80; omega, fun _ => by show i < (wsG P 6 (fun _ => False) (i + 1)).2; omega⟩
        · rw [cif_n c6x]
          have kw := wsG_b h80 (f := 6) (s := fun _ => False) (i := i + 1) (by omega)
          exact ⟨by show (wsG P 6 (fun _ => False) (i + 1)).2 ≤ 80; omega, fun h95 => absurd rfl h95⟩
      · rw [cif_n c5x]
        rcases Classical.em (chT P i 119) with c7x | c7x
        · rw [cif_y c7x]
          have gc7x := c7x.1
          rcases Classical.em (dgT P (i + 1)) with c8x | c8x
          · rw [cif_y c8x]
            have gc8x := c8x.1
            rcases Classical.em (wrT P (i + 1 + 1)) with c9x | c9x
            · rw [cif_y c9x]
              have gc9x := c9x.1
              rcases Classical.em (chT P (i + 1 + 1 + 1) 61) with c10x | c10x
              · rw [cif_y c10x]
                have gc10x := c10x.1
                rcases Classical.em (dgT P (i + 1 + 1 + 1 + 1)) with c11x | c11x
                · rw [cif_y c11x]
                  have gc11x := c11x.1
                  have kn := nmG_b h80 (f := 3) (v := dgV P (i + 1 + 1 + 1 + 1)) (i := i + 1 + 1 + 1 + 1 + 1) (by omega)
                  exact ⟨by show (nmG P 3 (dgV P (i + 1 + 1 + 1 + 1)) (i + 1 + 1 + 1 + 1 + 1)).2 ≤ 80; omega, fun _ => by show i < (nmG P 3 (dgV P (i + 1 + 1 + 1 + 1)) (i + 1 + 1 + 1 + 1 + 1)).2; omega⟩
                · rw [cif_n c11x]
                  exact ⟨by show i + 1 + 1 + 1 + 1 ≤ 80; omega, fun h95 => absurd rfl h95⟩
              · rw [cif_n c10x]
                exact ⟨by show i + 1 + 1 + 1 ≤ 80; omega, fun h95 => absurd rfl h95⟩
            · rw [cif_n c9x]
              exact ⟨by show i + 1 + 1 ≤ 80; omega, fun h95 => absurd rfl h95⟩
          · rw [cif_n c8x]
            exact ⟨by show i + 1 ≤ 80; omega, fun h95 => absurd rfl h95⟩
        · rw [cif_n c7x]
          rcases Classical.em (chT P i 122) with c12x | c12x
          · rw [cif_y c12x]
            have gc12x := c12x.1
            rcases Classical.em (dgT P (i + 1)) with c13x | c13x
            · rw [cif_y c13x]
              have gc13x := c13x.1
              exact ⟨by show i + 1 + 1 ≤ 80; omega, fun _ => by show i < i + 1 + 1; omega⟩
            · rw [cif_n c13x]
              exact ⟨by show i + 1 ≤ 80; omega, fun h95 => absurd rfl h95⟩
          · rw [cif_n c12x]
            exact ⟨by show i ≤ 80; omega, fun h95 => absurd rfl h95⟩
noncomputable def flG (P : Pd) : Nat → Nat → Int32
  | 0, i => nI i
  | f + 1, i => cif ((orG P i).1 = none) (nI (orG P i).2) (cif (P.2 ≤ (orG P i).2) (-6) (cif (chT P (orG P i).2 59) (flG P f ((orG P i).2 + 1)) (nI (orG P i).2)))
theorem orG_out {P : Pd} {i : Nat} (h : P.2 ≤ i) : orG P i = (none, i) := by
  have k : ∀ c, ¬ chT P i c := fun c hc => absurd hc.1 (by omega)
  unfold orG
  rw [cif_n (k 33), cif_n (k 98), cif_n (k 115), cif_n (k 119), cif_n (k 122)]
