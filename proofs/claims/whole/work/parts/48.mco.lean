/-! Texts of the model: carryOut -/
noncomputable def coG : List Od → Bs → Bs × Nat
  | [], B => (B, 0)
  | o :: os, B => if doR B o < 0 then (B, 0) else ((coG os (doN B o)).1, (coG os (doN B o)).2 + 1)
theorem co_e {o : Od} {os : List Od} {B : Bs} (h : doR B o < 0) : coG (o :: os) B = (B, 0) := if_pos h
theorem co_g {o : Od} {os : List Od} {B : Bs} (h : ¬ doR B o < 0) : coG (o :: os) B = ((coG os (doN B o)).1, (coG os (doN B o)).2 + 1) := if_neg h
noncomputable def coR (A : Aw) : Int32 := cif (flG (aP A) 80 0 = -6) (nI (coG (olG (aP A) 80 0) (aB A)).2) (-3)
noncomputable def coA (A : Aw) : Aw := cif (flG (aP A) 80 0 = -6) ((coG (olG (aP A) 80 0) (aB A)).1, pushH (aH A) (aB A), aS A, ((aP A).1, 0)) A
theorem orG_k {P : Pd} {i j : Nat} {o : Od} (e : orG P i = (some o, j)) : okO o := by
  unfold orG at e
  rcases Classical.em (chT P i 33) with c | c
  · rw [cif_y c] at e
    rcases Classical.em (wrT P (i + 1)) with d | d
    · rw [cif_y d] at e
      exact Or.inl (congrArg (fun q : Od => q.1) (Option.some.inj (congrArg Prod.fst e))).symm
    · rw [cif_n d] at e
      exact absurd (congrArg Prod.fst e).symm so_ne
  rw [cif_n c] at e
  rcases Classical.em (chT P i 98) with c | c
  · rw [cif_y c] at e
    rcases Classical.em (dgT P (i + 1)) with d | d
    · rw [cif_y d] at e
      exact Or.inr (Or.inl (congrArg (fun q : Od => q.1) (Option.some.inj (congrArg Prod.fst e))).symm)
    · rw [cif_n d] at e
      exact absurd (congrArg Prod.fst e).symm so_ne
  rw [cif_n c] at e
  rcases Classical.em (chT P i 115) with c | c
  · rw [cif_y c] at e
    rcases Classical.em (∃ w, w < 6 ∧ (wsG P 6 (fun _ => False) (i + 1)).1 w) with d | d
    · rw [cif_y d] at e
      exact Or.inr (Or.inr (Or.inl (congrArg (fun q : Od => q.1) (Option.some.inj (congrArg Prod.fst e))).symm))
    · rw [cif_n d] at e
      exact absurd (congrArg Prod.fst e).symm so_ne
  rw [cif_n c] at e
  rcases Classical.em (chT P i 119) with c | c
  · rw [cif_y c] at e
    rcases Classical.em (dgT P (i + 1)) with d | d
    · rw [cif_y d] at e
      rcases Classical.em (wrT P (i + 1 + 1)) with d | d
      · rw [cif_y d] at e
        rcases Classical.em (chT P (i + 1 + 1 + 1) 61) with d | d
        · rw [cif_y d] at e
          rcases Classical.em (dgT P (i + 1 + 1 + 1 + 1)) with d | d
          · rw [cif_y d] at e
            exact Or.inr (Or.inr (Or.inr (Or.inl (congrArg (fun q : Od => q.1) (Option.some.inj (congrArg Prod.fst e))).symm)))
          · rw [cif_n d] at e
            exact absurd (congrArg Prod.fst e).symm so_ne
        · rw [cif_n d] at e
          exact absurd (congrArg Prod.fst e).symm so_ne
      · rw [cif_n d] at e
        exact absurd (congrArg Prod.fst e).symm so_ne
    · rw [cif_n d] at e
      exact absurd (congrArg Prod.fst e).symm so_ne
  rw [cif_n c] at e
  rcases Classical.em (chT P i 122) with c | c
  · rw [cif_y c] at e
    rcases Classical.em (dgT P (i + 1)) with d | d
    · rw [cif_y d] at e
      exact Or.inr (Or.inr (Or.inr (Or.inr (congrArg (fun q : Od => q.1) (Option.some.inj (congrArg Prod.fst e))).symm)))
    · rw [cif_n d] at e
      exact absurd (congrArg Prod.fst e).symm so_ne
  rw [cif_n c] at e
  exact absurd (congrArg Prod.fst e).symm so_ne
theorem ol_no {P : Pd} {f i j : Nat} (e : orG P i = (none, j)) : olG P f i = [] := by
  cases f with
  | zero => rfl
  | succ f =>
    rw [ol_s, e]
    rfl
theorem ol_ok {P : Pd} (h80 : P.2 ≤ 80) : ∀ f i, i ≤ P.2 → (∀ o, o ∈ olG P f i → okO o) ∧ 2 * (olG P f i).length ≤ P.2 + 1 - i
  | 0, i, hi => ⟨fun o ho => absurd ho List.not_mem_nil, Nat.zero_le _⟩
  | f + 1, i, hi => by
    cases e : orG P i with
    | mk r j =>
      cases r with
      | none =>
        rw [ol_no e]
        exact ⟨fun o ho => absurd ho List.not_mem_nil, Nat.zero_le _⟩
      | some o =>
        have hb := orG_b (P := P) (i := i) h80 (by omega)
        rw [e] at hb
        have hij : i < j := hb.2 so_ne
        have hi2 : i < P.2 := by
          rcases Nat.lt_or_ge i P.2 with g | g
          · exact g
          · exact absurd (congrArg Prod.fst ((orG_out g).symm.trans e)).symm so_ne
        rcases Nat.lt_or_ge j P.2 with g | g
        · have ih := ol_ok h80 f (j + 1) (by omega)
          rw [ol_go e g]
          refine ⟨fun o' ho => ?_, ?_⟩
          · rcases List.mem_cons.mp ho with q | q
            · rw [q]
              exact orG_k e
            · exact ih.1 o' q
          · rw [List.length_cons]
            omega
        · rw [ol_end e g]
          refine ⟨fun o' ho => ?_, ?_⟩
          · rw [List.mem_singleton.mp ho]
            exact orG_k e
          · show 2 * 1 ≤ P.2 + 1 - i
            omega
set_option maxRecDepth 100000 in
set_option maxHeartbeats 4000000 in
theorem ms_carryOut {X : Cx} {σ : Sp} {μ : Mm} {Q : Int32 → Sp → Mm → Prop} {m : Nat} {A : Aw} (h : ShM σ m) (hx : MX μ m A) (wa : WA A) (q : ∀ μ', FMm μ m μ' → MX μ' m (coA A) → Q (coR A) σ μ') : CTi X mX8_carryOut [.ref m] σ μ Q := by
  refine CT.of (by decide +kernel) (Nat.le_of_ble_eq_true rfl) ?_
  show PW X mX8_carryOut 0 0 0 [some (.ref m), none] [] σ μ (LI Q)
  have wf := wa.1.1
  refine pw_aload_0 dX8_carryOut_0 ?_
  refine pw_cV0i 8 dX8_carryOut_1 kX8_223 vX8_readPad iX8_readPad ⟨by decide, by decide⟩ ⟨rfl, rfl⟩ (by decide) rfl (Nat.le_of_ble_eq_true rfl) h.t (m_readPad h hx.2.2.2 (fun ν9 rs9 ok9 => ?_))
  refine pw_bipush (v := -6) dX8_carryOut_4 (by decide) ?_
  obtain ⟨hx9, fm0⟩ := hx.rs rs9
  refine pw_icmp_eq 12 dX8_carryOut_6 (by decide) (fun h1 => ?_) (fun h1 => ?_)
  · skip
    have ok8 := ok9 h1
    have ol9 := ol_ok (P := aP A) hx.2.2.2.2.1 80 0 (Nat.zero_le _)
    have h80 : (aP A).2 ≤ 80 := hx.2.2.2.2.1
    refine pw_aload_0 dX8_carryOut_12 ?_
    refine pw_cV0v 8 dX8_carryOut_13 kX8_48 vX8_record iX8_record ⟨by decide, by decide⟩ ⟨rfl, rfl⟩ (by decide) rfl (Nat.le_of_ble_eq_true rfl) h.t (m_record h hx9.2.1 hx9.1 (fun μ1 f1 f2 hp1 => ?_))
    refine pw_iconst (v := nI 0) dX8_carryOut_16 (by decide) ?_
    refine pw_istore_1 dX8_carryOut_17 (by decide) ?_
    have n10 : μ1 m 10 = nI (0 + (olG (aP A) 80 0).length) := by rw [f2 10 (by decide), Nat.zero_add]; exact ok8.1
    have mol0 : MOL (μ1 (m + 8)) 0 (olG (aP A) 80 0) := by rw [f1 (m + 8) (by omega) (by omega)]; exact ok8.2
    have ex9 : ∀ n ν z B', FM μ1 m ν → ZR z B' → ((B', n) = coG (olG (aP A) 80 0) (aB A)) → PW X mX8_carryOut 0 0 49 [some (.ref m), some (.int (nI n))] [] σ (wC ν (m + 1) z) (LI Q) := by
      intro n ν z B' fm9 hz9 eb
      refine pw_aload_0 dX8_carryOut_49 ?_
      refine pw_iconst (v := nI 0) dX8_carryOut_50 (by decide) ?_
      refine pw_putI 8 7 dX8_carryOut_51 fX8_183 rfl (by decide) rfl (Or.inl rfl) rfl (by decide) h.t ?_
      refine pw_iload_1 dX8_carryOut_54 ?_
      refine pw_ireturn dX8_carryOut_55 rfl ?_
      have e1 : coR A = nI n := (cif_y h1).trans (by rw [← eb])
      have e2 : coA A = (B', pushH (aH A) (aB A), aS A, ((aP A).1, 0)) := (cif_y h1).trans (by rw [← eb])
      obtain ⟨g1, g2⟩ := hx9.fin f1 f2 hp1 fm9 hz9
      rw [e1, e2] at q
      refine q _ (fun a ha => (wr_n _ _ _ (by omega)).trans ((g1 a ha).trans (fm0 a ha))) ?_
      exact g2.pd (fun a a1 a2 a3 a4 a5 a6 a7 => wr_n _ _ _ a7) (by rw [wr_s, upd_n _ _ (by decide)]) ⟨rdS, Nat.zero_le _, fun j hj => absurd hj (Nat.not_lt_zero j)⟩
    have loop : ∀ os n B ν z, n + os.length ≤ 40 → (∀ o, o ∈ os → okO o) → WF B → ZR z B → MOL (ν (m + 8)) n os → ν m 10 = nI (n + os.length) → FM μ1 m ν → (∀ k, (((coG os B).1, n + (coG os B).2) : Bs × Nat) = k → k = coG (olG (aP A) 80 0) (aB A)) → PW X mX8_carryOut 0 0 18 [some (.ref m), some (.int (nI n))] [] σ (wC ν (m + 1) z) (LI Q) := by
      intro os
      induction os with
      | nil =>
        intro n B ν z hl hok wf9 hz9 mol9 n9x fm9 ek
        have n9y : wC ν (m + 1) z m 10 = nI (n + 0) := (congrFun (wC_ne _ _ (show m ≠ m + 1 by omega)) 10).trans n9x
        refine pw_iload_1 dX8_carryOut_18 ?_
        refine pw_aload_0 dX8_carryOut_19 ?_
        refine pw_getI 8 10 dX8_carryOut_20 fX8_211 rfl (by decide) rfl h.t ?_
        refine pw_top n9y ?_
        refine pw_icmp_ge 49 dX8_carryOut_23 (by decide) (fun _ => ?_) (fun hh => absurd (by rw [nI_leI (by omega) (by omega)]; omega) hh)
        exact ex9 n ν z _ fm9 hz9 (ek _ rfl)
      | cons o os ih =>
        intro n B ν z hl hok wf9 hz9 mol9 n9x fm9 ek
        have n9y : wC ν (m + 1) z m 10 = nI (n + (os.length + 1)) := (congrFun (wC_ne _ _ (show m ≠ m + 1 by omega)) 10).trans n9x
        have hl2 : n + (os.length + 1) ≤ 40 := hl
        refine pw_iload_1 dX8_carryOut_18 ?_
        refine pw_aload_0 dX8_carryOut_19 ?_
        refine pw_getI 8 10 dX8_carryOut_20 fX8_211 rfl (by decide) rfl h.t ?_
        refine pw_top n9y ?_
        refine pw_icmp_ge 49 dX8_carryOut_23 (by decide) (fun hh => absurd hh (by rw [nI_leI (by omega) (by omega)]; omega)) (fun _ => ?_)
        refine pw_aload_0 dX8_carryOut_26 ?_
        refine pw_iconst (v := nI 4) dX8_carryOut_27 (by decide) ?_
        refine pw_iload_1 dX8_carryOut_28 ?_
        refine pw_imulN dX8_carryOut_29 ?_
        refine pw_cV1i 8 dX8_carryOut_30 kX8_226 vX8_whyNot iX8_whyNot ⟨by decide, by decide⟩ ⟨rfl, rfl⟩ (by decide) rfl (Nat.le_of_ble_eq_true rfl) h.t (m_whyNot h hz9 wf9 (hok _ List.mem_cons_self) mol9.1 (by omega) (fun p9 => ?_) (fun p9 r9 n9 => ?_))
        · skip
          refine pw_if_ne 49 dX8_carryOut_33 (by decide) (fun hh => absurd hh (by decide)) (fun _ => ?_)
          refine pw_aload_0 dX8_carryOut_36 ?_
          refine pw_iconst (v := nI 4) dX8_carryOut_37 (by decide) ?_
          refine pw_iload_1 dX8_carryOut_38 ?_
          refine pw_imulN dX8_carryOut_39 ?_
          refine pw_cV1v 8 dX8_carryOut_40 kX8_229 vX8_does iX8_does ⟨by decide, by decide⟩ ⟨rfl, rfl⟩ (by decide) rfl (Nat.le_of_ble_eq_true rfl) h.t (m_does h hz9 wf9 (hok _ List.mem_cons_self) mol9.1 (by omega) p9 (fun ν8 z8 fm8 hz8 => ?_))
          refine pw_iincN_1 dX8_carryOut_43 (by decide) ?_
          refine pw_goto 18 dX8_carryOut_46 (by decide) ?_
          refine ih (n + 1) _ ν8 z8 (by omega) (fun o' ho => hok o' (List.mem_cons_of_mem _ ho)) (do_wf wf9) hz8 ?_ ?_ (fun a ha => (fm8 a ha).trans (fm9 a ha)) (fun k hk => ek k ?_)
          · rw [fm8 (m + 8) (by omega)]
            exact mol9.2
          · rw [fm8 m (by omega), n9x]
            exact congrArg nI (show n + (os.length + 1) = n + 1 + os.length by omega)
          · rw [← hk, co_g p9]
            exact congrArg (Prod.mk _) (show n + ((coG os (doN B o)).2 + 1) = n + 1 + (coG os (doN B o)).2 by omega)
        · skip
          refine pw_if_ne 49 dX8_carryOut_33 (by decide) (fun _ => ?_) (fun hh => absurd hh n9)
          exact ex9 n ν z _ fm9 hz9 (ek _ (by rw [co_e p9, Nat.add_zero]))
    have e1 : wC μ1 (m + 1) (μ1 (m + 1)) = μ1 := wC_id _ _
    rw [← e1]
    exact loop _ 0 (aB A) μ1 _ (by have h95 := ol9.2; omega) ol9.1 wf (by rw [f1 (m + 1) (by omega) (by omega)]; exact hx9.1) mol0 n10 (fun _ _ => rfl) (fun k hk => by rw [← hk, Nat.zero_add])
  · skip
    refine pw_bipush (v := -3) dX8_carryOut_9 (by decide) ?_
    refine pw_ireturn dX8_carryOut_11 rfl ?_
    have e1 : coR A = -3 := cif_n h1
    have e2 : coA A = A := cif_n h1
    rw [e1, e2] at q
    exact q _ fm0 hx9
