/-! What both answer; the model: what there is -/
noncomputable def owF (B : Bs) (v : Nat) (y : Int32) : Int32 := if y = nI 0 then bW B v 0 else if y = nI 1 then bW B v 1 else if y = nI 2 then msk (fun s => atB B s (nI v)) (nS B) else if y = nI 3 then msk (fun s => spB B s ∧ fwB B s = v) (nS B) else if y = nI 4 then nI (smN (fun s => wcB B s (nI v)) (nS B)) else if y = nI 5 then bW B v 2 else if y = nI 6 then bW B v 3 else -2
noncomputable def owR (B : Bs) (x y : Int32) : Int32 := cif (inN 6 x) (owF B (ixN x) y) (-1)
noncomputable def ofR (B : Bs) (x y : Int32) : Int32 := cif (inN (nS B) x) (faF (bS B (ixN x)) y) (-1)
noncomputable def roR (B : Bs) (x r y : Int32) : Int32 := cif (inN (nS B) x ∧ inN (nwF (bS B (ixN x))) r) (cif (inN 3 y) (bS B (ixN x) (5 + 3 * ixN r + ixN y)) (-2)) (-1)
noncomputable def heR (B : Bs) (x r y : Int32) : Int32 := cif (inN (nS B) x ∧ inN (nkF (bS B (ixN x))) r) (cif (inN 4 y) (bS B (ixN x) (24 + 4 * ixN r + ixN y)) (-2)) (-1)
noncomputable def ctF (A : Aw) (y : Int32) : Int32 := if y = nI 0 then bG (aB A) 5 else if y = nI 1 then nI (nS (aB A)) else if y = nI 2 then msk (spB (aB A)) (nS (aB A)) else if y = nI 3 then msk (awB (aB A)) (nS (aB A)) else if y = nI 4 then smI (fun s => bS (aB A) s 4) (nS (aB A)) else if y = nI 5 then smI (fun s => bS (aB A) s 19) (nS (aB A)) else if y = nI 6 then smI (fun s => bS (aB A) s 20) (nS (aB A)) else if y = nI 7 then smI (fun s => bS (aB A) s 22) (nS (aB A)) else if y = nI 8 then msk (fun v => bW (aB A) v 1 = nI 1) 6 else if y = nI 9 then smI (fun s => bS (aB A) s 1) (nS (aB A))
  else if y = nI 10 then bG (aB A) 0 else if y = nI 11 then bG (aB A) 1 else if y = nI 12 then bG (aB A) 2 else if y = nI 13 then bG (aB A) 3 else if y = nI 14 then bG (aB A) 4 else if y = nI 15 then nI (aP A).2 else if y = nI 16 then nI (aH A).2 else -2
noncomputable def whF (B : Bs) (i : Nat) : Int32 := cif (spB B i) (nI 1) (cif (bS B i 3 = nI 1) (nI 2) (cif (bS B i 2 = nI 1) (nI 3) (cif (nwF (bS B i) = 0) (nI 4) (cif (bG B 0 ≤ bW B (fwB B i) 0) (nI 0) (cif (bW B (fwB B i) 1 = nI 1) (nI 5) (nI 6))))))
noncomputable def whR (B : Bs) (x : Int32) : Int32 := cif (inN (nS B) x) (whF B (ixN x)) (-1)
noncomputable def wtB (B : Bs) (v : Nat) : Nat := smN (fun s => wcB B s (nI v)) (nS B)
noncomputable def buS (B : Bs) (v : Nat) (P : Int32 × Nat) : Int32 × Nat := if P.2 < wtB B v then (nI v, wtB B v) else P
noncomputable def buR (B : Bs) : Int32 := (itr (buS B) 6 (-6, 0)).1
theorem if_out {n : Nat} {x : Int32} (hn : n < 2 ^ 30) (h : x.toInt < 0 ∨ (n : Int) < x.toInt) (k : Nat) (hk : k ≤ n) : x ≠ nI k := sw_ne hn h hk
theorem ow_out {B : Bs} {v : Nat} {y : Int32} (h : y.toInt < 0 ∨ ((6 : Nat) : Int) < y.toInt) : owF B v y = -2 := by
  have e := fun k (hk : k ≤ 6) => sw_ne (by decide) h hk
  unfold owF
  rw [if_neg (e 0 (by omega)), if_neg (e 1 (by omega)), if_neg (e 2 (by omega)), if_neg (e 3 (by omega)), if_neg (e 4 (by omega)), if_neg (e 5 (by omega)), if_neg (e 6 (by omega))]
theorem ct_out {A : Aw} {y : Int32} (h : y.toInt < 0 ∨ ((16 : Nat) : Int) < y.toInt) : ctF A y = -2 := by
  have e := fun k (hk : k ≤ 16) => sw_ne (by decide) h hk
  unfold ctF
  rw [if_neg (e 0 (by omega)), if_neg (e 1 (by omega)), if_neg (e 2 (by omega)), if_neg (e 3 (by omega)), if_neg (e 4 (by omega)), if_neg (e 5 (by omega)), if_neg (e 6 (by omega)), if_neg (e 7 (by omega)), if_neg (e 8 (by omega)), if_neg (e 9 (by omega)), if_neg (e 10 (by omega)), if_neg (e 11 (by omega)), if_neg (e 12 (by omega)), if_neg (e 13 (by omega)), if_neg (e 14 (by omega)), if_neg (e 15 (by omega)), if_neg (e 16 (by omega))]
theorem in_w1 {r : Int32} {w : Nat} (hw : w ≤ 4) (h0 : ¬ r < nI 0) (h1 : ¬ nI w - nI 1 < r) : ∃ e, e < w ∧ r = nI e := by
  obtain ⟨e, he, rfl⟩ := nI_of h0
  refine ⟨e, ?_, rfl⟩
  rcases Nat.lt_or_ge e w with q | q
  · exact q
  · refine absurd ?_ h1
    rcases Nat.eq_zero_or_pos w with rfl | hp
    · exact Int32.lt_of_lt_of_le (show nI 0 - nI 1 < nI 0 by decide) (nI_pos' he)
    · rw [pk_sub hp, nI_ltI (by omega) he]
      omega
theorem in_w0 {r : Int32} {w : Nat} (hw : w ≤ 4) (h : r < nI 0 ∨ nI w - nI 1 < r) : ∀ e, e < w → r ≠ nI e := by
  rintro e he rfl
  rcases h with h | h
  · exact nI_pos (by omega) h
  · rw [pk_sub (by omega), nI_ltI (by omega) (by omega)] at h
    omega
theorem bu_y {B : Bs} {v : Nat} {P : Int32 × Nat} (h : P.2 < wtB B v) : buS B v P = (nI v, wtB B v) := if_pos h
theorem bu_n {B : Bs} {v : Nat} {P : Int32 × Nat} (h : ¬ P.2 < wtB B v) : buS B v P = P := if_neg h
theorem wc_le {B : Bs} {s : Nat} {x : Int32} (wf : WF B) (hs : s < 8) : wcB B s x ≤ 4 := Nat.le_trans (cntP_le _ _) (wf.w hs).2
theorem sm_le {f : Nat → Nat} {c : Nat} : ∀ {n : Nat}, (∀ k, k < n → f k ≤ c) → smN f n ≤ c * n
  | 0, _ => Nat.le_refl _
  | n + 1, h => by
    have ih := sm_le (n := n) fun k hk => h k (by omega)
    have := h n (by omega)
    show smN f n + f n ≤ c * (n + 1)
    rw [Nat.mul_succ]
    omega
theorem wt_le {B : Bs} {v : Nat} (wf : WF B) : wtB B v ≤ 32 := by
  have h8 := wf.n8
  have := sm_le (f := fun s => wcB B s (nI v)) (c := 4) (n := nS B) fun k hk => wc_le wf (by omega)
  have e : wtB B v = smN (fun s => wcB B s (nI v)) (nS B) := rfl
  omega
theorem bu_le {B : Bs} (wf : WF B) : ∀ k, (itr (buS B) k (-6, 0)).2 ≤ 32
  | 0 => by show 0 ≤ 32; omega
  | k + 1 => by
    have ih := bu_le wf k
    show (buS B k (itr (buS B) k (-6, 0))).2 ≤ 32
    generalize itr (buS B) k (-6, 0) = P at ih
    by_cases h : P.2 < wtB B k
    · rw [bu_y h]
      exact wt_le wf
    · rw [bu_n h]
      exact ih
