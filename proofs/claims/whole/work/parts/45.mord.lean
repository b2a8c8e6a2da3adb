/-! Texts of the model: an order read -/
def RS (m k : Nat) (μ ν : Mm) : Prop := (∀ a, a ≠ m → a ≠ m + 8 → ν a = μ a) ∧ (∀ j, j ≠ 10 → j ≠ 11 → j ≠ 12 → ν m j = μ m j) ∧ ∀ j, j < 4 * k → ν (m + 8) j = μ (m + 8) j
theorem RS.rf {m k : Nat} {μ : Mm} : RS m k μ μ := ⟨fun _ _ _ => rfl, fun _ _ _ _ => rfl, fun _ _ => rfl⟩
theorem RS.tr {m k l : Nat} {μ ν κ : Mm} (h : RS m k μ ν) (g : RS m l ν κ) (hkl : k ≤ l) : RS m k μ κ := ⟨fun a a1 a2 => (g.1 a a1 a2).trans (h.1 a a1 a2), fun j j1 j2 j3 => (g.2.1 j j1 j2 j3).trans (h.2.1 j j1 j2 j3), fun j hj => (g.2.2 j (by omega)).trans (h.2.2 j hj)⟩
theorem RS.tw {m k : Nat} {μ ν κ : Mm} (h : RS m k μ ν) (g : TW m ν κ) : RS m k μ κ := ⟨fun a a1 a2 => (g.1 a a1).trans (h.1 a a1 a2), fun j j1 j2 j3 => (g.2 j j2 j3).trans (h.2.1 j j1 j2 j3), fun j hj => (congrFun (g.1 (m + 8) (by omega)) j).trans (h.2.2 j hj)⟩
theorem RS.f {m k f : Nat} {x : Int32} {μ ν : Mm} (h : RS m k μ ν) (hf : f = 10 ∨ f = 11 ∨ f = 12) : RS m k μ (wr ν m f x) := ⟨fun a a1 a2 => (wr_n _ _ _ a1).trans (h.1 a a1 a2), fun j j1 j2 j3 => by
  rw [wr_s, upd_n _ _ (by omega)]
  exact h.2.1 j j1 j2 j3, fun j hj => by
  rw [wr_n _ _ _ (by omega)]
  exact h.2.2 j hj⟩
theorem RS.o {m k e : Nat} {x : Int32} {μ ν : Mm} (h : RS m k μ ν) (he : 4 * k ≤ e) : RS m k μ (wr ν (m + 8) e x) := ⟨fun a a1 a2 => (wr_n _ _ _ a2).trans (h.1 a a1 a2), fun j j1 j2 j3 => by
  rw [wr_n _ _ _ (by omega)]
  exact h.2.1 j j1 j2 j3, fun j hj => by
  rw [wr_s, upd_n _ _ (by omega)]
  exact h.2.2 j hj⟩
theorem QX.rs {μ ν : Mm} {m k : Nat} {P : Pd} (h : QX μ m P) (g : RS m k μ ν) : QX ν m P := ⟨(g.2.1 7 (by decide) (by decide) (by decide)).trans h.1, h.2.1, fun j hj => (congrFun (g.1 (m + 6) (by omega) (by omega)) j).trans (h.2.2 j hj)⟩
/-- an order in the model's row -/
def MO (f : Nat → Int32) (k : Nat) (o : Od) : Prop := f (4 * k) = nI o.1 ∧ f (4 * k + 1) = o.2.1 ∧ (o.1 = 119 → f (4 * k + 2) = o.2.2.1 ∧ f (4 * k + 3) = o.2.2.2)
set_option maxRecDepth 100000 in
set_option maxHeartbeats 4000000 in
theorem m_readOrder {X : Cx} {σ : Sp} {μ : Mm} {Q : Sp → Mm → Prop} {m i k : Nat} {P : Pd} (h : ShM σ m) (hq : QX μ m P) (hk : μ m 10 = nI k) (ha : μ m 11 = nI i) (hw : μ m 12 = -6) (hi : i ≤ 80) (hk9 : k ≤ 40) (q1 : ∀ o j, orG P i = (some o, j) → ∀ ν, RS m k μ ν → ν m 10 = nI (k + 1) → ν m 11 = nI j → ν m 12 = -6 → MO (ν (m + 8)) k o → Q σ ν) (q0 : ∀ j, orG P i = (none, j) → ∀ ν, RS m k μ ν → ν m 10 = nI (k + 1) → ν m 12 = nI j → Q σ ν) : CTv X mX8_readOrder [.ref m] σ μ Q := by
  refine CT.of (by decide +kernel) (Nat.le_of_ble_eq_true rfl) ?_
  show PW X mX8_readOrder 0 0 0 [some (.ref m), none, none] [] σ μ (LV Q)
  have h80 := hq.2.1
  refine pw_iconst (v := nI 4) dX8_readOrder_0 (by decide) ?_
  refine pw_aload_0 dX8_readOrder_1 ?_
  refine pw_getI 8 10 dX8_readOrder_2 fX8_211 rfl (by decide) rfl h.t ?_
  refine pw_top hk ?_
  refine pw_imulN dX8_readOrder_5 ?_
  refine pw_istore_1 dX8_readOrder_6 (by decide) ?_
  refine pw_aload_0 dX8_readOrder_7 ?_
  refine pw_cV0i 8 dX8_readOrder_8 kX8_198 vX8_letter iX8_letter ⟨by decide, by decide⟩ ⟨rfl, rfl⟩ (by decide) rfl (Nat.le_of_ble_eq_true rfl) h.t (m_letter h (hq.rs (RS.rf : RS m k μ μ)) ha (by omega) ?_)
  rcases Classical.em (mlG P i = nI 33) with l33 | l33
  · skip
    have c33 := ml_y (by omega) l33
    have hb0 := c33.1
    refine pw_top l33 ?_
    refine pw_istore_2 dX8_readOrder_11 (by decide) ?_
    refine pw_aload_0 dX8_readOrder_12 ?_
    refine pw_getr 8 9 dX8_readOrder_13 fX8_33 rfl (by decide) rfl h.t h.r9 ?_
    refine pw_iload_1 dX8_readOrder_16 ?_
    refine pw_iload_2 dX8_readOrder_17 ?_
    refine pw_iastN dX8_readOrder_18 h.a8 (by omega) (by decide) ?_
    refine pw_gen (P := fun ν => RS m k μ ν ∧ ν m 7 = (nI P.2) ∧ ν m 10 = (nI k) ∧ ν m 11 = (nI i) ∧ ν m 12 = ((-6)) ∧ ν (m + 8) (4 * k) = (nI 33)) ⟨(RS.rf : RS m k μ μ).o (by omega), rdO hq.1 (by omega), rdO hk (by omega), rdO ha (by omega), rdO hw (by omega), rdS⟩ (fun μ1 ⟨rl1, mh1c7, mh1c10, mh1c11, mh1c12, oh1c0⟩ => ?_)
    refine pw_aload_0 dX8_readOrder_19 ?_
    refine pw_iload_2 dX8_readOrder_20 ?_
    refine pw_bipush (v := nI 115) dX8_readOrder_21 (by decide) ?_
    refine pw_icmp_eq 50 dX8_readOrder_23 (by decide) (fun hh => absurd hh (by decide)) (fun _ => ?_)
    refine pw_iload_2 dX8_readOrder_26 ?_
    refine pw_bipush (v := nI 119) dX8_readOrder_27 (by decide) ?_
    refine pw_icmp_eq 50 dX8_readOrder_29 (by decide) (fun hh => absurd hh (by decide)) (fun _ => ?_)
    refine pw_iload_2 dX8_readOrder_32 ?_
    refine pw_bipush (v := nI 33) dX8_readOrder_33 (by decide) ?_
    refine pw_icmp_eq 50 dX8_readOrder_35 (by decide) (fun _ => ?_) (fun hh => absurd (by decide) hh)
    refine pw_iconst (v := nI 1) dX8_readOrder_50 (by decide) ?_
    refine pw_goto 55 dX8_readOrder_51 (by decide) ?_
    refine pw_cV1v 8 dX8_readOrder_55 kX8_201 vX8_wants iX8_wants ⟨by decide, by decide⟩ ⟨rfl, rfl⟩ (by decide) rfl (Nat.le_of_ble_eq_true rfl) h.t (m_wantsT h mh1c11 mh1c12 (by decide) (fun ν2 tw2 a2 w2 => ?_))
    refine pw_iload_2 dX8_readOrder_58 ?_
    refine pw_lookup (off := 113) 172 dX8_readOrder_59 (by decide) (by decide) (by decide) ?_
    refine pw_aload_0 dX8_readOrder_172 ?_
    refine pw_getr 8 9 dX8_readOrder_173 fX8_33 rfl (by decide) rfl h.t h.r9 ?_
    refine pw_iload_1 dX8_readOrder_176 ?_
    refine pw_iconst (v := nI 1) dX8_readOrder_177 (by decide) ?_
    refine pw_iaddN dX8_readOrder_178 ?_
    refine pw_aload_0 dX8_readOrder_179 ?_
    refine pw_cV0i 8 dX8_readOrder_180 kX8_208 vX8_wireRead iX8_wireRead ⟨by decide, by decide⟩ ⟨rfl, rfl⟩ (by decide) rfl (Nat.le_of_ble_eq_true rfl) h.t (m_wireRead2 h (hq.rs (rl1.tw tw2)) a2 w2 (by omega) (fun hd3 ν3 tw3 a3 w3 => ?_) (fun hd3 ν3 x3 tw3 a3 w3 => ?_))
    · skip
      have hb3 := hd3.1
      refine pw_iastN dX8_readOrder_183 h.a8 (by omega) (by decide) ?_
      refine pw_gen (P := fun ν => RS m k μ ν ∧ ν m 7 = (nI P.2) ∧ ν m 10 = (nI k) ∧ ν m 11 = (nI (i + 1 + 1)) ∧ ν m 12 = ((-6)) ∧ ν (m + 8) ((4 * k) + 1) = (nI (wrV P (i + 1))) ∧ ν (m + 8) (4 * k) = (nI 33)) ⟨((rl1.tw tw2).tw tw3).o (by omega), rdO (((tw3.2 7 (by decide) (by decide)).trans (((tw2.2 7 (by decide) (by decide)).trans mh1c7)))) (by omega), rdO (((tw3.2 10 (by decide) (by decide)).trans (((tw2.2 10 (by decide) (by decide)).trans mh1c10)))) (by omega), rdO a3 (by omega), rdO w3 (by omega), rdS, rdN (((congrFun (tw3.1 (m + 8) (by omega)) _).trans (((congrFun (tw2.1 (m + 8) (by omega)) _).trans oh1c0)))) (by omega)⟩ (fun μ4 ⟨rl4, mh4c7, mh4c10, mh4c11, mh4c12, oh4c0, oh4c1⟩ => ?_)
      refine pw_goto 214 dX8_readOrder_184 (by decide) ?_
      refine pw_aload_0 dX8_readOrder_214 ?_
      refine pw_dup dX8_readOrder_215 ?_
      refine pw_getI 8 10 dX8_readOrder_216 fX8_211 rfl (by decide) rfl h.t ?_
      refine pw_top mh4c10 ?_
      refine pw_iconst (v := nI 1) dX8_readOrder_219 (by decide) ?_
      refine pw_iaddN dX8_readOrder_220 ?_
      refine pw_putI 8 10 dX8_readOrder_221 fX8_211 rfl (by decide) rfl (Or.inl rfl) rfl (by decide) h.t ?_
      refine pw_gen (P := fun ν => RS m k μ ν ∧ ν m 7 = (nI P.2) ∧ ν m 10 = (nI (k + 1)) ∧ ν m 11 = (nI (i + 1 + 1)) ∧ ν m 12 = ((-6)) ∧ ν (m + 8) ((4 * k) + 1) = (nI (wrV P (i + 1))) ∧ ν (m + 8) (4 * k) = (nI 33)) ⟨rl4.f (by decide), rdN mh4c7 (by decide), rdS, rdN mh4c11 (by decide), rdN mh4c12 (by decide), rdO oh4c0 (by omega), rdO oh4c1 (by omega)⟩ (fun μ5 ⟨rl5, mh5c7, mh5c10, mh5c11, mh5c12, oh5c0, oh5c1⟩ => ?_)
      refine pw_return dX8_readOrder_224 rfl ?_
      have e9 : orG P i = (some (33, (nI (wrV P (i + 1))), 0, 0), i + 1 + 1) := by
        unfold orG
        rw [cif_y (p := chT P i 33) c33, cif_y (p := wrT P (i + 1)) hd3]
      exact q1 _ _ e9 _ rl5 mh5c10 mh5c11 mh5c12 ⟨oh5c1, oh5c0, fun h95 => absurd (show (33 : Nat) = 119 from h95) (by decide)⟩
    · skip
      refine pw_iastN dX8_readOrder_183 h.a8 (by omega) (by decide) ?_
      refine pw_gen (P := fun ν => RS m k μ ν ∧ ν m 7 = (nI P.2) ∧ ν m 10 = (nI k) ∧ ν m 11 = (nI (i + 1 + 1)) ∧ ν m 12 = (nI (i + 1)) ∧ ν (m + 8) ((4 * k) + 1) = x3 ∧ ν (m + 8) (4 * k) = (nI 33)) ⟨((rl1.tw tw2).tw tw3).o (by omega), rdO (((tw3.2 7 (by decide) (by decide)).trans (((tw2.2 7 (by decide) (by decide)).trans mh1c7)))) (by omega), rdO (((tw3.2 10 (by decide) (by decide)).trans (((tw2.2 10 (by decide) (by decide)).trans mh1c10)))) (by omega), rdO a3 (by omega), rdO w3 (by omega), rdS, rdN (((congrFun (tw3.1 (m + 8) (by omega)) _).trans (((congrFun (tw2.1 (m + 8) (by omega)) _).trans oh1c0)))) (by omega)⟩ (fun μ6 ⟨rl6, mh6c7, mh6c10, mh6c11, mh6c12, oh6c0, oh6c1⟩ => ?_)
      refine pw_goto 214 dX8_readOrder_184 (by decide) ?_
      refine pw_aload_0 dX8_readOrder_214 ?_
      refine pw_dup dX8_readOrder_215 ?_
      refine pw_getI 8 10 dX8_readOrder_216 fX8_211 rfl (by decide) rfl h.t ?_
      refine pw_top mh6c10 ?_
      refine pw_iconst (v := nI 1) dX8_readOrder_219 (by decide) ?_
      refine pw_iaddN dX8_readOrder_220 ?_
      refine pw_putI 8 10 dX8_readOrder_221 fX8_211 rfl (by decide) rfl (Or.inl rfl) rfl (by decide) h.t ?_
      refine pw_gen (P := fun ν => RS m k μ ν ∧ ν m 7 = (nI P.2) ∧ ν m 10 = (nI (k + 1)) ∧ ν m 11 = (nI (i + 1 + 1)) ∧ ν m 12 = (nI (i + 1)) ∧ ν (m + 8) ((4 * k) + 1) = x3 ∧ ν (m + 8) (4 * k) = (nI 33)) ⟨rl6.f (by decide), rdN mh6c7 (by decide), rdS, rdN mh6c11 (by decide), rdN mh6c12 (by decide), rdO oh6c0 (by omega), rdO oh6c1 (by omega)⟩ (fun μ7 ⟨rl7, mh7c7, mh7c10, mh7c11, mh7c12, oh7c0, oh7c1⟩ => ?_)
      refine pw_return dX8_readOrder_224 rfl ?_
      have e9 : orG P i = (none, i + 1) := by
        unfold orG
        rw [cif_y (p := chT P i 33) c33, cif_n (p := wrT P (i + 1)) hd3]
      exact q0 _ e9 _ rl7 mh7c10 mh7c12
  rcases Classical.em (mlG P i = nI 98) with l98 | l98
  · skip
    have c98 := ml_y (by omega) l98
    have hb0 := c98.1
    refine pw_top l98 ?_
    refine pw_istore_2 dX8_readOrder_11 (by decide) ?_
    refine pw_aload_0 dX8_readOrder_12 ?_
    refine pw_getr 8 9 dX8_readOrder_13 fX8_33 rfl (by decide) rfl h.t h.r9 ?_
    refine pw_iload_1 dX8_readOrder_16 ?_
    refine pw_iload_2 dX8_readOrder_17 ?_
    refine pw_iastN dX8_readOrder_18 h.a8 (by omega) (by decide) ?_
    refine pw_gen (P := fun ν => RS m k μ ν ∧ ν m 7 = (nI P.2) ∧ ν m 10 = (nI k) ∧ ν m 11 = (nI i) ∧ ν m 12 = ((-6)) ∧ ν (m + 8) (4 * k) = (nI 98)) ⟨(RS.rf : RS m k μ μ).o (by omega), rdO hq.1 (by omega), rdO hk (by omega), rdO ha (by omega), rdO hw (by omega), rdS⟩ (fun μ8 ⟨rl8, mh8c7, mh8c10, mh8c11, mh8c12, oh8c0⟩ => ?_)
    refine pw_aload_0 dX8_readOrder_19 ?_
    refine pw_iload_2 dX8_readOrder_20 ?_
    refine pw_bipush (v := nI 115) dX8_readOrder_21 (by decide) ?_
    refine pw_icmp_eq 50 dX8_readOrder_23 (by decide) (fun hh => absurd hh (by decide)) (fun _ => ?_)
    refine pw_iload_2 dX8_readOrder_26 ?_
    refine pw_bipush (v := nI 119) dX8_readOrder_27 (by decide) ?_
    refine pw_icmp_eq 50 dX8_readOrder_29 (by decide) (fun hh => absurd hh (by decide)) (fun _ => ?_)
    refine pw_iload_2 dX8_readOrder_32 ?_
    refine pw_bipush (v := nI 33) dX8_readOrder_33 (by decide) ?_
    refine pw_icmp_eq 50 dX8_readOrder_35 (by decide) (fun hh => absurd hh (by decide)) (fun _ => ?_)
    refine pw_iload_2 dX8_readOrder_38 ?_
    refine pw_bipush (v := nI 122) dX8_readOrder_39 (by decide) ?_
    refine pw_icmp_eq 50 dX8_readOrder_41 (by decide) (fun hh => absurd hh (by decide)) (fun _ => ?_)
    refine pw_iload_2 dX8_readOrder_44 ?_
    refine pw_bipush (v := nI 98) dX8_readOrder_45 (by decide) ?_
    refine pw_icmp_ne 54 dX8_readOrder_47 (by decide) (fun hh => absurd hh (by decide)) (fun _ => ?_)
    refine pw_iconst (v := nI 1) dX8_readOrder_50 (by decide) ?_
    refine pw_goto 55 dX8_readOrder_51 (by decide) ?_
    refine pw_cV1v 8 dX8_readOrder_55 kX8_201 vX8_wants iX8_wants ⟨by decide, by decide⟩ ⟨rfl, rfl⟩ (by decide) rfl (Nat.le_of_ble_eq_true rfl) h.t (m_wantsT h mh8c11 mh8c12 (by decide) (fun ν9 tw9 a9 w9 => ?_))
    refine pw_iload_2 dX8_readOrder_58 ?_
    refine pw_lookup (off := 143) 202 dX8_readOrder_59 (by decide) (by decide) (by decide) ?_
    refine pw_aload_0 dX8_readOrder_202 ?_
    refine pw_getr 8 9 dX8_readOrder_203 fX8_33 rfl (by decide) rfl h.t h.r9 ?_
    refine pw_iload_1 dX8_readOrder_206 ?_
    refine pw_iconst (v := nI 1) dX8_readOrder_207 (by decide) ?_
    refine pw_iaddN dX8_readOrder_208 ?_
    refine pw_aload_0 dX8_readOrder_209 ?_
    refine pw_cV0i 8 dX8_readOrder_210 kX8_217 vX8_number iX8_number ⟨by decide, by decide⟩ ⟨rfl, rfl⟩ (by decide) rfl (Nat.le_of_ble_eq_true rfl) h.t (m_number2 h (hq.rs (rl8.tw tw9)) a9 w9 (by omega) (fun hd10 ν10 tw10 a10 w10 => ?_) (fun hd10 ν10 x10 tw10 a10 w10 => ?_))
    · skip
      have hb10 := hd10.1
      refine pw_iastN dX8_readOrder_213 h.a8 (by omega) (by decide) ?_
      refine pw_gen (P := fun ν => RS m k μ ν ∧ ν m 7 = (nI P.2) ∧ ν m 10 = (nI k) ∧ ν m 11 = (nI ((nmG P 3 (dgV P (i + 1)) (i + 1 + 1)).2)) ∧ ν m 12 = ((-6)) ∧ ν (m + 8) ((4 * k) + 1) = (nI ((nmG P 3 (dgV P (i + 1)) (i + 1 + 1)).1)) ∧ ν (m + 8) (4 * k) = (nI 98)) ⟨((rl8.tw tw9).tw tw10).o (by omega), rdO (((tw10.2 7 (by decide) (by decide)).trans (((tw9.2 7 (by decide) (by decide)).trans mh8c7)))) (by omega), rdO (((tw10.2 10 (by decide) (by decide)).trans (((tw9.2 10 (by decide) (by decide)).trans mh8c10)))) (by omega), rdO a10 (by omega), rdO w10 (by omega), rdS, rdN (((congrFun (tw10.1 (m + 8) (by omega)) _).trans (((congrFun (tw9.1 (m + 8) (by omega)) _).trans oh8c0)))) (by omega)⟩ (fun μ11 ⟨rl11, mh11c7, mh11c10, mh11c11, mh11c12, oh11c0, oh11c1⟩ => ?_)
      refine pw_aload_0 dX8_readOrder_214 ?_
      refine pw_dup dX8_readOrder_215 ?_
      refine pw_getI 8 10 dX8_readOrder_216 fX8_211 rfl (by decide) rfl h.t ?_
      refine pw_top mh11c10 ?_
      refine pw_iconst (v := nI 1) dX8_readOrder_219 (by decide) ?_
      refine pw_iaddN dX8_readOrder_220 ?_
      refine pw_putI 8 10 dX8_readOrder_221 fX8_211 rfl (by decide) rfl (Or.inl rfl) rfl (by decide) h.t ?_
      refine pw_gen (P := fun ν => RS m k μ ν ∧ ν m 7 = (nI P.2) ∧ ν m 10 = (nI (k + 1)) ∧ ν m 11 = (nI ((nmG P 3 (dgV P (i + 1)) (i + 1 + 1)).2)) ∧ ν m 12 = ((-6)) ∧ ν (m + 8) ((4 * k) + 1) = (nI ((nmG P 3 (dgV P (i + 1)) (i + 1 + 1)).1)) ∧ ν (m + 8) (4 * k) = (nI 98)) ⟨rl11.f (by decide), rdN mh11c7 (by decide), rdS, rdN mh11c11 (by decide), rdN mh11c12 (by decide), rdO oh11c0 (by omega), rdO oh11c1 (by omega)⟩ (fun μ12 ⟨rl12, mh12c7, mh12c10, mh12c11, mh12c12, oh12c0, oh12c1⟩ => ?_)
      refine pw_return dX8_readOrder_224 rfl ?_
      have e9 : orG P i = (some (98, (nI ((nmG P 3 (dgV P (i + 1)) (i + 1 + 1)).1)), 0, 0), (nmG P 3 (dgV P (i + 1)) (i + 1 + 1)).2) := by
        unfold orG
        rw [cif_n (p := chT P i 33) (fun h95 => absurd (l98.symm.trans (ml_i h95)) (by decide)), cif_y (p := chT P i 98) c98, cif_y (p := dgT P (i + 1)) hd10]
      exact q1 _ _ e9 _ rl12 mh12c10 mh12c11 mh12c12 ⟨oh12c1, oh12c0, fun h95 => absurd (show (98 : Nat) = 119 from h95) (by decide)⟩
    · skip
      refine pw_iastN dX8_readOrder_213 h.a8 (by omega) (by decide) ?_
      refine pw_gen (P := fun ν => RS m k μ ν ∧ ν m 7 = (nI P.2) ∧ ν m 10 = (nI k) ∧ ν m 11 = (nI (i + 1 + 1)) ∧ ν m 12 = (nI (i + 1)) ∧ ν (m + 8) ((4 * k) + 1) = x10 ∧ ν (m + 8) (4 * k) = (nI 98)) ⟨((rl8.tw tw9).tw tw10).o (by omega), rdO (((tw10.2 7 (by decide) (by decide)).trans (((tw9.2 7 (by decide) (by decide)).trans mh8c7)))) (by omega), rdO (((tw10.2 10 (by decide) (by decide)).trans (((tw9.2 10 (by decide) (by decide)).trans mh8c10)))) (by omega), rdO a10 (by omega), rdO w10 (by omega), rdS, rdN (((congrFun (tw10.1 (m + 8) (by omega)) _).trans (((congrFun (tw9.1 (m + 8) (by omega)) _).trans oh8c0)))) (by omega)⟩ (fun μ13 ⟨rl13, mh13c7, mh13c10, mh13c11, mh13c12, oh13c0, oh13c1⟩ => ?_)
      refine pw_aload_0 dX8_readOrder_214 ?_
      refine pw_dup dX8_readOrder_215 ?_
      refine pw_getI 8 10 dX8_readOrder_216 fX8_211 rfl (by decide) rfl h.t ?_
      refine pw_top mh13c10 ?_
      refine pw_iconst (v := nI 1) dX8_readOrder_219 (by decide) ?_
      refine pw_iaddN dX8_readOrder_220 ?_
      refine pw_putI 8 10 dX8_readOrder_221 fX8_211 rfl (by decide) rfl (Or.inl rfl) rfl (by decide) h.t ?_
      refine pw_gen (P := fun ν => RS m k μ ν ∧ ν m 7 = (nI P.2) ∧ ν m 10 = (nI (k + 1)) ∧ ν m 11 = (nI (i + 1 + 1)) ∧ ν m 12 = (nI (i + 1)) ∧ ν (m + 8) ((4 * k) + 1) = x10 ∧ ν (m + 8) (4 * k) = (nI 98)) ⟨rl13.f (by decide), rdN mh13c7 (by decide), rdS, rdN mh13c11 (by decide), rdN mh13c12 (by decide), rdO oh13c0 (by omega), rdO oh13c1 (by omega)⟩ (fun μ14 ⟨rl14, mh14c7, mh14c10, mh14c11, mh14c12, oh14c0, oh14c1⟩ => ?_)
      refine pw_return dX8_readOrder_224 rfl ?_
      have e9 : orG P i = (none, i + 1) := by
        unfold orG
        rw [cif_n (p := chT P i 33) (fun h95 => absurd (l98.symm.trans (ml_i h95)) (by decide)), cif_y (p := chT P i 98) c98, cif_n (p := dgT P (i + 1)) hd10]
      exact q0 _ e9 _ rl14 mh14c10 mh14c12
  rcases Classical.em (mlG P i = nI 115) with l115 | l115
  · skip
    have c115 := ml_y (by omega) l115
    have hb0 := c115.1
    refine pw_top l115 ?_
    refine pw_istore_2 dX8_readOrder_11 (by decide) ?_
    refine pw_aload_0 dX8_readOrder_12 ?_
    refine pw_getr 8 9 dX8_readOrder_13 fX8_33 rfl (by decide) rfl h.t h.r9 ?_
    refine pw_iload_1 dX8_readOrder_16 ?_
    refine pw_iload_2 dX8_readOrder_17 ?_
    refine pw_iastN dX8_readOrder_18 h.a8 (by omega) (by decide) ?_
    refine pw_gen (P := fun ν => RS m k μ ν ∧ ν m 7 = (nI P.2) ∧ ν m 10 = (nI k) ∧ ν m 11 = (nI i) ∧ ν m 12 = ((-6)) ∧ ν (m + 8) (4 * k) = (nI 115)) ⟨(RS.rf : RS m k μ μ).o (by omega), rdO hq.1 (by omega), rdO hk (by omega), rdO ha (by omega), rdO hw (by omega), rdS⟩ (fun μ15 ⟨rl15, mh15c7, mh15c10, mh15c11, mh15c12, oh15c0⟩ => ?_)
    refine pw_aload_0 dX8_readOrder_19 ?_
    refine pw_iload_2 dX8_readOrder_20 ?_
    refine pw_bipush (v := nI 115) dX8_readOrder_21 (by decide) ?_
    refine pw_icmp_eq 50 dX8_readOrder_23 (by decide) (fun _ => ?_) (fun hh => absurd (by decide) hh)
    refine pw_iconst (v := nI 1) dX8_readOrder_50 (by decide) ?_
    refine pw_goto 55 dX8_readOrder_51 (by decide) ?_
    refine pw_cV1v 8 dX8_readOrder_55 kX8_201 vX8_wants iX8_wants ⟨by decide, by decide⟩ ⟨rfl, rfl⟩ (by decide) rfl (Nat.le_of_ble_eq_true rfl) h.t (m_wantsT h mh15c11 mh15c12 (by decide) (fun ν16 tw16 a16 w16 => ?_))
    refine pw_iload_2 dX8_readOrder_58 ?_
    refine pw_lookup (off := 41) 100 dX8_readOrder_59 (by decide) (by decide) (by decide) ?_
    refine pw_aload_0 dX8_readOrder_100 ?_
    refine pw_getr 8 9 dX8_readOrder_101 fX8_33 rfl (by decide) rfl h.t h.r9 ?_
    refine pw_iload_1 dX8_readOrder_104 ?_
    refine pw_iconst (v := nI 1) dX8_readOrder_105 (by decide) ?_
    refine pw_iaddN dX8_readOrder_106 ?_
    refine pw_aload_0 dX8_readOrder_107 ?_
    refine pw_cV0i 8 dX8_readOrder_108 kX8_214 vX8_wiresRead iX8_wiresRead ⟨by decide, by decide⟩ ⟨rfl, rfl⟩ (by decide) rfl (Nat.le_of_ble_eq_true rfl) h.t (m_wiresRead2 h (hq.rs (rl15.tw tw16)) a16 w16 (by omega) (fun hd17 ν17 tw17 a17 w17 => ?_) (fun hd17 ν17 x17 tw17 a17 w17 => ?_))
    · skip
      have hb17 := hd17.1
      refine pw_iastN dX8_readOrder_111 h.a8 (by omega) (by decide) ?_
      refine pw_gen (P := fun ν => RS m k μ ν ∧ ν m 7 = (nI P.2) ∧ ν m 10 = (nI k) ∧ ν m 11 = (nI ((wsG P 6 (fun _ => False) (i + 1)).2)) ∧ ν m 12 = ((-6)) ∧ ν (m + 8) ((4 * k) + 1) = (msk (wsG P 6 (fun _ => False) (i + 1)).1 6) ∧ ν (m + 8) (4 * k) = (nI 115)) ⟨((rl15.tw tw16).tw tw17).o (by omega), rdO (((tw17.2 7 (by decide) (by decide)).trans (((tw16.2 7 (by decide) (by decide)).trans mh15c7)))) (by omega), rdO (((tw17.2 10 (by decide) (by decide)).trans (((tw16.2 10 (by decide) (by decide)).trans mh15c10)))) (by omega), rdO a17 (by omega), rdO w17 (by omega), rdS, rdN (((congrFun (tw17.1 (m + 8) (by omega)) _).trans (((congrFun (tw16.1 (m + 8) (by omega)) _).trans oh15c0)))) (by omega)⟩ (fun μ18 ⟨rl18, mh18c7, mh18c10, mh18c11, mh18c12, oh18c0, oh18c1⟩ => ?_)
      refine pw_goto 214 dX8_readOrder_112 (by decide) ?_
      refine pw_aload_0 dX8_readOrder_214 ?_
      refine pw_dup dX8_readOrder_215 ?_
      refine pw_getI 8 10 dX8_readOrder_216 fX8_211 rfl (by decide) rfl h.t ?_
      refine pw_top mh18c10 ?_
      refine pw_iconst (v := nI 1) dX8_readOrder_219 (by decide) ?_
      refine pw_iaddN dX8_readOrder_220 ?_
      refine pw_putI 8 10 dX8_readOrder_221 fX8_211 rfl (by decide) rfl (Or.inl rfl) rfl (by decide) h.t ?_
      refine pw_gen (P := fun ν => RS m k μ ν ∧ ν m 7 = (nI P.2) ∧ ν m 10 = (nI (k + 1)) ∧ ν m 11 = (nI ((wsG P 6 (fun _ => False) (i + 1)).2)) ∧ ν m 12 = ((-6)) ∧ ν (m + 8) ((4 * k) + 1) = (msk (wsG P 6 (fun _ => False) (i + 1)).1 6) ∧ ν (m + 8) (4 * k) = (nI 115)) ⟨rl18.f (by decide), rdN mh18c7 (by decide), rdS, rdN mh18c11 (by decide), rdN mh18c12 (by decide), rdO oh18c0 (by omega), rdO oh18c1 (by omega)⟩ (fun μ19 ⟨rl19, mh19c7, mh19c10, mh19c11, mh19c12, oh19c0, oh19c1⟩ => ?_)
      refine pw_return dX8_readOrder_224 rfl ?_
      have e9 : orG P i = (some (115, (msk (wsG P 6 (fun _ => False) (i + 1)).1 6), 0, 0), (wsG P 6 (fun _ => False) (i + 1)).2) := by
        unfold orG
        rw [cif_n (p := chT P i 33) (fun h95 => absurd (l115.symm.trans (ml_i h95)) (by decide)), cif_n (p := chT P i 98) (fun h95 => absurd (l115.symm.trans (ml_i h95)) (by decide)), cif_y (p := chT P i 115) c115, cif_y (ws_ex hd17)]
      exact q1 _ _ e9 _ rl19 mh19c10 mh19c11 mh19c12 ⟨oh19c1, oh19c0, fun h95 => absurd (show (115 : Nat) = 119 from h95) (by decide)⟩
    · skip
      refine pw_iastN dX8_readOrder_111 h.a8 (by omega) (by decide) ?_
      refine pw_gen (P := fun ν => RS m k μ ν ∧ ν m 7 = (nI P.2) ∧ ν m 10 = (nI k) ∧ ν m 11 = (nI (i + 1 + 1)) ∧ ν m 12 = (nI (i + 1)) ∧ ν (m + 8) ((4 * k) + 1) = x17 ∧ ν (m + 8) (4 * k) = (nI 115)) ⟨((rl15.tw tw16).tw tw17).o (by omega), rdO (((tw17.2 7 (by decide) (by decide)).trans (((tw16.2 7 (by decide) (by decide)).trans mh15c7)))) (by omega), rdO (((tw17.2 10 (by decide) (by decide)).trans (((tw16.2 10 (by decide) (by decide)).trans mh15c10)))) (by omega), rdO a17 (by omega), rdO w17 (by omega), rdS, rdN (((congrFun (tw17.1 (m + 8) (by omega)) _).trans (((congrFun (tw16.1 (m + 8) (by omega)) _).trans oh15c0)))) (by omega)⟩ (fun μ20 ⟨rl20, mh20c7, mh20c10, mh20c11, mh20c12, oh20c0, oh20c1⟩ => ?_)
      refine pw_goto 214 dX8_readOrder_112 (by decide) ?_
      refine pw_aload_0 dX8_readOrder_214 ?_
      refine pw_dup dX8_readOrder_215 ?_
      refine pw_getI 8 10 dX8_readOrder_216 fX8_211 rfl (by decide) rfl h.t ?_
      refine pw_top mh20c10 ?_
      refine pw_iconst (v := nI 1) dX8_readOrder_219 (by decide) ?_
      refine pw_iaddN dX8_readOrder_220 ?_
      refine pw_putI 8 10 dX8_readOrder_221 fX8_211 rfl (by decide) rfl (Or.inl rfl) rfl (by decide) h.t ?_
      refine pw_gen (P := fun ν => RS m k μ ν ∧ ν m 7 = (nI P.2) ∧ ν m 10 = (nI (k + 1)) ∧ ν m 11 = (nI (i + 1 + 1)) ∧ ν m 12 = (nI (i + 1)) ∧ ν (m + 8) ((4 * k) + 1) = x17 ∧ ν (m + 8) (4 * k) = (nI 115)) ⟨rl20.f (by decide), rdN mh20c7 (by decide), rdS, rdN mh20c11 (by decide), rdN mh20c12 (by decide), rdO oh20c0 (by omega), rdO oh20c1 (by omega)⟩ (fun μ21 ⟨rl21, mh21c7, mh21c10, mh21c11, mh21c12, oh21c0, oh21c1⟩ => ?_)
      refine pw_return dX8_readOrder_224 rfl ?_
      have e9 : orG P i = (none, i + 1) := by
        unfold orG
        rw [cif_n (p := chT P i 33) (fun h95 => absurd (l115.symm.trans (ml_i h95)) (by decide)), cif_n (p := chT P i 98) (fun h95 => absurd (l115.symm.trans (ml_i h95)) (by decide)), cif_y (p := chT P i 115) c115, ws_nex hd17, cif_n (fun hh => hh.elim (fun w hh => hh.2))]
      exact q0 _ e9 _ rl21 mh21c10 mh21c12
  rcases Classical.em (mlG P i = nI 119) with l119 | l119
  · skip
    have c119 := ml_y (by omega) l119
    have hb0 := c119.1
    refine pw_top l119 ?_
    refine pw_istore_2 dX8_readOrder_11 (by decide) ?_
    refine pw_aload_0 dX8_readOrder_12 ?_
    refine pw_getr 8 9 dX8_readOrder_13 fX8_33 rfl (by decide) rfl h.t h.r9 ?_
    refine pw_iload_1 dX8_readOrder_16 ?_
    refine pw_iload_2 dX8_readOrder_17 ?_
    refine pw_iastN dX8_readOrder_18 h.a8 (by omega) (by decide) ?_
    refine pw_gen (P := fun ν => RS m k μ ν ∧ ν m 7 = (nI P.2) ∧ ν m 10 = (nI k) ∧ ν m 11 = (nI i) ∧ ν m 12 = ((-6)) ∧ ν (m + 8) (4 * k) = (nI 119)) ⟨(RS.rf : RS m k μ μ).o (by omega), rdO hq.1 (by omega), rdO hk (by omega), rdO ha (by omega), rdO hw (by omega), rdS⟩ (fun μ22 ⟨rl22, mh22c7, mh22c10, mh22c11, mh22c12, oh22c0⟩ => ?_)
    refine pw_aload_0 dX8_readOrder_19 ?_
    refine pw_iload_2 dX8_readOrder_20 ?_
    refine pw_bipush (v := nI 115) dX8_readOrder_21 (by decide) ?_
    refine pw_icmp_eq 50 dX8_readOrder_23 (by decide) (fun hh => absurd hh (by decide)) (fun _ => ?_)
    refine pw_iload_2 dX8_readOrder_26 ?_
    refine pw_bipush (v := nI 119) dX8_readOrder_27 (by decide) ?_
    refine pw_icmp_eq 50 dX8_readOrder_29 (by decide) (fun _ => ?_) (fun hh => absurd (by decide) hh)
    refine pw_iconst (v := nI 1) dX8_readOrder_50 (by decide) ?_
    refine pw_goto 55 dX8_readOrder_51 (by decide) ?_
    refine pw_cV1v 8 dX8_readOrder_55 kX8_201 vX8_wants iX8_wants ⟨by decide, by decide⟩ ⟨rfl, rfl⟩ (by decide) rfl (Nat.le_of_ble_eq_true rfl) h.t (m_wantsT h mh22c11 mh22c12 (by decide) (fun ν23 tw23 a23 w23 => ?_))
    refine pw_iload_2 dX8_readOrder_58 ?_
    refine pw_lookup (off := 56) 115 dX8_readOrder_59 (by decide) (by decide) (by decide) ?_
    refine pw_aload_0 dX8_readOrder_115 ?_
    refine pw_getr 8 9 dX8_readOrder_116 fX8_33 rfl (by decide) rfl h.t h.r9 ?_
    refine pw_iload_1 dX8_readOrder_119 ?_
    refine pw_iconst (v := nI 1) dX8_readOrder_120 (by decide) ?_
    refine pw_iaddN dX8_readOrder_121 ?_
    refine pw_aload_0 dX8_readOrder_122 ?_
    refine pw_cV0i 8 dX8_readOrder_123 kX8_205 vX8_digit iX8_digit ⟨by decide, by decide⟩ ⟨rfl, rfl⟩ (by decide) rfl (Nat.le_of_ble_eq_true rfl) h.t (m_digit2 h (hq.rs (rl22.tw tw23)) a23 w23 (by omega) (fun hd24 ν24 tw24 a24 w24 => ?_) (fun hd24 ν24 x24 tw24 a24 w24 => ?_))
    · skip
      have hb24 := hd24.1
      refine pw_iastN dX8_readOrder_126 h.a8 (by omega) (by decide) ?_
      refine pw_gen (P := fun ν => RS m k μ ν ∧ ν m 7 = (nI P.2) ∧ ν m 10 = (nI k) ∧ ν m 11 = (nI (i + 1 + 1)) ∧ ν m 12 = ((-6)) ∧ ν (m + 8) ((4 * k) + 1) = (nI (dgV P (i + 1))) ∧ ν (m + 8) (4 * k) = (nI 119)) ⟨((rl22.tw tw23).tw tw24).o (by omega), rdO (((tw24.2 7 (by decide) (by decide)).trans (((tw23.2 7 (by decide) (by decide)).trans mh22c7)))) (by omega), rdO (((tw24.2 10 (by decide) (by decide)).trans (((tw23.2 10 (by decide) (by decide)).trans mh22c10)))) (by omega), rdO a24 (by omega), rdO w24 (by omega), rdS, rdN (((congrFun (tw24.1 (m + 8) (by omega)) _).trans (((congrFun (tw23.1 (m + 8) (by omega)) _).trans oh22c0)))) (by omega)⟩ (fun μ25 ⟨rl25, mh25c7, mh25c10, mh25c11, mh25c12, oh25c0, oh25c1⟩ => ?_)
      refine pw_aload_0 dX8_readOrder_127 ?_
      refine pw_getr 8 9 dX8_readOrder_128 fX8_33 rfl (by decide) rfl h.t h.r9 ?_
      refine pw_iload_1 dX8_readOrder_131 ?_
      refine pw_iconst (v := nI 2) dX8_readOrder_132 (by decide) ?_
      refine pw_iaddN dX8_readOrder_133 ?_
      refine pw_aload_0 dX8_readOrder_134 ?_
      refine pw_cV0i 8 dX8_readOrder_135 kX8_208 vX8_wireRead iX8_wireRead ⟨by decide, by decide⟩ ⟨rfl, rfl⟩ (by decide) rfl (Nat.le_of_ble_eq_true rfl) h.t (m_wireRead2 h (hq.rs rl25) mh25c11 mh25c12 (by omega) (fun hd26 ν26 tw26 a26 w26 => ?_) (fun hd26 ν26 x26 tw26 a26 w26 => ?_))
      · skip
        have hb26 := hd26.1
        refine pw_iastN dX8_readOrder_138 h.a8 (by omega) (by decide) ?_
        refine pw_gen (P := fun ν => RS m k μ ν ∧ ν m 7 = (nI P.2) ∧ ν m 10 = (nI k) ∧ ν m 11 = (nI (i + 1 + 1 + 1)) ∧ ν m 12 = ((-6)) ∧ ν (m + 8) ((4 * k) + 1) = (nI (dgV P (i + 1))) ∧ ν (m + 8) ((4 * k) + 2) = (nI (wrV P (i + 1 + 1))) ∧ ν (m + 8) (4 * k) = (nI 119)) ⟨(rl25.tw tw26).o (by omega), rdO (((tw26.2 7 (by decide) (by decide)).trans mh25c7)) (by omega), rdO (((tw26.2 10 (by decide) (by decide)).trans mh25c10)) (by omega), rdO a26 (by omega), rdO w26 (by omega), rdN (((congrFun (tw26.1 (m + 8) (by omega)) _).trans oh25c0)) (by omega), rdS, rdN (((congrFun (tw26.1 (m + 8) (by omega)) _).trans oh25c1)) (by omega)⟩ (fun μ27 ⟨rl27, mh27c7, mh27c10, mh27c11, mh27c12, oh27c0, oh27c1, oh27c2⟩ => ?_)
        refine pw_aload_0 dX8_readOrder_139 ?_
        refine pw_aload_0 dX8_readOrder_140 ?_
        refine pw_cV0i 8 dX8_readOrder_141 kX8_198 vX8_letter iX8_letter ⟨by decide, by decide⟩ ⟨rfl, rfl⟩ (by decide) rfl (Nat.le_of_ble_eq_true rfl) h.t (m_letter h (hq.rs rl27) mh27c11 (by omega) ?_)
        refine pw_bipush (v := nI 61) dX8_readOrder_144 (by decide) ?_
        refine pw_icmp_ne 153 dX8_readOrder_146 (by decide) (fun s61 => ?_) (fun s61 => ?_)
        · skip
          refine pw_iconst (v := nI 0) dX8_readOrder_153 (by decide) ?_
          refine pw_cV1v 8 dX8_readOrder_154 kX8_201 vX8_wants iX8_wants ⟨by decide, by decide⟩ ⟨rfl, rfl⟩ (by decide) rfl (Nat.le_of_ble_eq_true rfl) h.t (m_wantsF h mh27c11 mh27c12 (fun ν28 tw28 a28 w28 => ?_))
          refine pw_aload_0 dX8_readOrder_157 ?_
          refine pw_getr 8 9 dX8_readOrder_158 fX8_33 rfl (by decide) rfl h.t h.r9 ?_
          refine pw_iload_1 dX8_readOrder_161 ?_
          refine pw_iconst (v := nI 3) dX8_readOrder_162 (by decide) ?_
          refine pw_iaddN dX8_readOrder_163 ?_
          refine pw_aload_0 dX8_readOrder_164 ?_
          refine pw_cV0i 8 dX8_readOrder_165 kX8_217 vX8_number iX8_number ⟨by decide, by decide⟩ ⟨rfl, rfl⟩ (by decide) rfl (Nat.le_of_ble_eq_true rfl) h.t (m_numberN h (hq.rs (rl27.tw tw28)) a28 w28 (nI_ne6 (by omega)) (by omega) (fun ν29 x29 tw29 a29 w29 => ?_))
          refine pw_iastN dX8_readOrder_168 h.a8 (by omega) (by decide) ?_
          refine pw_gen (P := fun ν => RS m k μ ν ∧ ν m 7 = (nI P.2) ∧ ν m 10 = (nI k) ∧ ν m 11 = (nI (i + 1 + 1 + 1 + 1)) ∧ ν m 12 = (nI (i + 1 + 1 + 1)) ∧ ν (m + 8) ((4 * k) + 1) = (nI (dgV P (i + 1))) ∧ ν (m + 8) ((4 * k) + 2) = (nI (wrV P (i + 1 + 1))) ∧ ν (m + 8) ((4 * k) + 3) = x29 ∧ ν (m + 8) (4 * k) = (nI 119)) ⟨((rl27.tw tw28).tw tw29).o (by omega), rdO (((tw29.2 7 (by decide) (by decide)).trans (((tw28.2 7 (by decide) (by decide)).trans mh27c7)))) (by omega), rdO (((tw29.2 10 (by decide) (by decide)).trans (((tw28.2 10 (by decide) (by decide)).trans mh27c10)))) (by omega), rdO a29 (by omega), rdO w29 (by omega), rdN (((congrFun (tw29.1 (m + 8) (by omega)) _).trans (((congrFun (tw28.1 (m + 8) (by omega)) _).trans oh27c0)))) (by omega), rdN (((congrFun (tw29.1 (m + 8) (by omega)) _).trans (((congrFun (tw28.1 (m + 8) (by omega)) _).trans oh27c1)))) (by omega), rdS, rdN (((congrFun (tw29.1 (m + 8) (by omega)) _).trans (((congrFun (tw28.1 (m + 8) (by omega)) _).trans oh27c2)))) (by omega)⟩ (fun μ30 ⟨rl30, mh30c7, mh30c10, mh30c11, mh30c12, oh30c0, oh30c1, oh30c2, oh30c3⟩ => ?_)
          refine pw_goto 214 dX8_readOrder_169 (by decide) ?_
          refine pw_aload_0 dX8_readOrder_214 ?_
          refine pw_dup dX8_readOrder_215 ?_
          refine pw_getI 8 10 dX8_readOrder_216 fX8_211 rfl (by decide) rfl h.t ?_
          refine pw_top mh30c10 ?_
          refine pw_iconst (v := nI 1) dX8_readOrder_219 (by decide) ?_
          refine pw_iaddN dX8_readOrder_220 ?_
          refine pw_putI 8 10 dX8_readOrder_221 fX8_211 rfl (by decide) rfl (Or.inl rfl) rfl (by decide) h.t ?_
          refine pw_gen (P := fun ν => RS m k μ ν ∧ ν m 7 = (nI P.2) ∧ ν m 10 = (nI (k + 1)) ∧ ν m 11 = (nI (i + 1 + 1 + 1 + 1)) ∧ ν m 12 = (nI (i + 1 + 1 + 1)) ∧ ν (m + 8) ((4 * k) + 1) = (nI (dgV P (i + 1))) ∧ ν (m + 8) ((4 * k) + 2) = (nI (wrV P (i + 1 + 1))) ∧ ν (m + 8) ((4 * k) + 3) = x29 ∧ ν (m + 8) (4 * k) = (nI 119)) ⟨rl30.f (by decide), rdN mh30c7 (by decide), rdS, rdN mh30c11 (by decide), rdN mh30c12 (by decide), rdO oh30c0 (by omega), rdO oh30c1 (by omega), rdO oh30c2 (by omega), rdO oh30c3 (by omega)⟩ (fun μ31 ⟨rl31, mh31c7, mh31c10, mh31c11, mh31c12, oh31c0, oh31c1, oh31c2, oh31c3⟩ => ?_)
          refine pw_return dX8_readOrder_224 rfl ?_
          have e9 : orG P i = (none, i + 1 + 1 + 1) := by
            unfold orG
            rw [cif_n (p := chT P i 33) (fun h95 => absurd (l119.symm.trans (ml_i h95)) (by decide)), cif_n (p := chT P i 98) (fun h95 => absurd (l119.symm.trans (ml_i h95)) (by decide)), cif_n (p := chT P i 115) (fun h95 => absurd (l119.symm.trans (ml_i h95)) (by decide)), cif_y (p := chT P i 119) c119, cif_y (p := dgT P (i + 1)) hd24, cif_y (p := wrT P (i + 1 + 1)) hd26, cif_n (p := chT P (i + 1 + 1 + 1) 61) (fun h95 => s61 (ml_i h95))]
          exact q0 _ e9 _ rl31 mh31c10 mh31c12
        · skip
          have t61 := ml_y (by omega) s61
          have hb61 := t61.1
          refine pw_iconst (v := nI 1) dX8_readOrder_149 (by decide) ?_
          refine pw_goto 154 dX8_readOrder_150 (by decide) ?_
          refine pw_cV1v 8 dX8_readOrder_154 kX8_201 vX8_wants iX8_wants ⟨by decide, by decide⟩ ⟨rfl, rfl⟩ (by decide) rfl (Nat.le_of_ble_eq_true rfl) h.t (m_wantsT h mh27c11 mh27c12 (by decide) (fun ν32 tw32 a32 w32 => ?_))
          refine pw_aload_0 dX8_readOrder_157 ?_
          refine pw_getr 8 9 dX8_readOrder_158 fX8_33 rfl (by decide) rfl h.t h.r9 ?_
          refine pw_iload_1 dX8_readOrder_161 ?_
          refine pw_iconst (v := nI 3) dX8_readOrder_162 (by decide) ?_
          refine pw_iaddN dX8_readOrder_163 ?_
          refine pw_aload_0 dX8_readOrder_164 ?_
          refine pw_cV0i 8 dX8_readOrder_165 kX8_217 vX8_number iX8_number ⟨by decide, by decide⟩ ⟨rfl, rfl⟩ (by decide) rfl (Nat.le_of_ble_eq_true rfl) h.t (m_number2 h (hq.rs (rl27.tw tw32)) a32 w32 (by omega) (fun hd33 ν33 tw33 a33 w33 => ?_) (fun hd33 ν33 x33 tw33 a33 w33 => ?_))
          · skip
            have hb33 := hd33.1
            refine pw_iastN dX8_readOrder_168 h.a8 (by omega) (by decide) ?_
            refine pw_gen (P := fun ν => RS m k μ ν ∧ ν m 7 = (nI P.2) ∧ ν m 10 = (nI k) ∧ ν m 11 = (nI ((nmG P 3 (dgV P (i + 1 + 1 + 1 + 1)) (i + 1 + 1 + 1 + 1 + 1)).2)) ∧ ν m 12 = ((-6)) ∧ ν (m + 8) ((4 * k) + 1) = (nI (dgV P (i + 1))) ∧ ν (m + 8) ((4 * k) + 2) = (nI (wrV P (i + 1 + 1))) ∧ ν (m + 8) ((4 * k) + 3) = (nI ((nmG P 3 (dgV P (i + 1 + 1 + 1 + 1)) (i + 1 + 1 + 1 + 1 + 1)).1)) ∧ ν (m + 8) (4 * k) = (nI 119)) ⟨((rl27.tw tw32).tw tw33).o (by omega), rdO (((tw33.2 7 (by decide) (by decide)).trans (((tw32.2 7 (by decide) (by decide)).trans mh27c7)))) (by omega), rdO (((tw33.2 10 (by decide) (by decide)).trans (((tw32.2 10 (by decide) (by decide)).trans mh27c10)))) (by omega), rdO a33 (by omega), rdO w33 (by omega), rdN (((congrFun (tw33.1 (m + 8) (by omega)) _).trans (((congrFun (tw32.1 (m + 8) (by omega)) _).trans oh27c0)))) (by omega), rdN (((congrFun (tw33.1 (m + 8) (by omega)) _).trans (((congrFun (tw32.1 (m + 8) (by omega)) _).trans oh27c1)))) (by omega), rdS, rdN (((congrFun (tw33.1 (m + 8) (by omega)) _).trans (((congrFun (tw32.1 (m + 8) (by omega)) _).trans oh27c2)))) (by omega)⟩ (fun μ34 ⟨rl34, mh34c7, mh34c10, mh34c11, mh34c12, oh34c0, oh34c1, oh34c2, oh34c3⟩ => ?_)
            refine pw_goto 214 dX8_readOrder_169 (by decide) ?_
            refine pw_aload_0 dX8_readOrder_214 ?_
            refine pw_dup dX8_readOrder_215 ?_
            refine pw_getI 8 10 dX8_readOrder_216 fX8_211 rfl (by decide) rfl h.t ?_
            refine pw_top mh34c10 ?_
            refine pw_iconst (v := nI 1) dX8_readOrder_219 (by decide) ?_
            refine pw_iaddN dX8_readOrder_220 ?_
            refine pw_putI 8 10 dX8_readOrder_221 fX8_211 rfl (by decide) rfl (Or.inl rfl) rfl (by decide) h.t ?_
            refine pw_gen (P := fun ν => RS m k μ ν ∧ ν m 7 = (nI P.2) ∧ ν m 10 = (nI (k + 1)) ∧ ν m 11 = (nI ((nmG P 3 (dgV P (i + 1 + 1 + 1 + 1)) (i + 1 + 1 + 1 + 1 + 1)).2)) ∧ ν m 12 = ((-6)) ∧ ν (m + 8) ((4 * k) + 1) = (nI (dgV P (i + 1))) ∧ ν (m + 8) ((4 * k) + 2) = (nI (wrV P (i + 1 + 1))) ∧ ν (m + 8) ((4 * k) + 3) = (nI ((nmG P 3 (dgV P (i + 1 + 1 + 1 + 1)) (i + 1 + 1 + 1 + 1 + 1)).1)) ∧ ν (m + 8) (4 * k) = (nI 119)) ⟨rl34.f (by decide), rdN mh34c7 (by decide), rdS, rdN mh34c11 (by decide), rdN mh34c12 (by decide), rdO oh34c0 (by omega), rdO oh34c1 (by omega), rdO oh34c2 (by omega), rdO oh34c3 (by omega)⟩ (fun μ35 ⟨rl35, mh35c7, mh35c10, mh35c11, mh35c12, oh35c0, oh35c1, oh35c2, oh35c3⟩ => ?_)
            refine pw_return dX8_readOrder_224 rfl ?_
            have e9 : orG P i = (some (119, (nI (dgV P (i + 1))), (nI (wrV P (i + 1 + 1))), (nI ((nmG P 3 (dgV P (i + 1 + 1 + 1 + 1)) (i + 1 + 1 + 1 + 1 + 1)).1))), (nmG P 3 (dgV P (i + 1 + 1 + 1 + 1)) (i + 1 + 1 + 1 + 1 + 1)).2) := by
              unfold orG
              rw [cif_n (p := chT P i 33) (fun h95 => absurd (l119.symm.trans (ml_i h95)) (by decide)), cif_n (p := chT P i 98) (fun h95 => absurd (l119.symm.trans (ml_i h95)) (by decide)), cif_n (p := chT P i 115) (fun h95 => absurd (l119.symm.trans (ml_i h95)) (by decide)), cif_y (p := chT P i 119) c119, cif_y (p := dgT P (i + 1)) hd24, cif_y (p := wrT P (i + 1 + 1)) hd26, cif_y (p := chT P (i + 1 + 1 + 1) 61) t61, cif_y (p := dgT P (i + 1 + 1 + 1 + 1)) hd33]
            exact q1 _ _ e9 _ rl35 mh35c10 mh35c11 mh35c12 ⟨oh35c3, oh35c0, fun _ => ⟨oh35c1, oh35c2⟩⟩
          · skip
            refine pw_iastN dX8_readOrder_168 h.a8 (by omega) (by decide) ?_
            refine pw_gen (P := fun ν => RS m k μ ν ∧ ν m 7 = (nI P.2) ∧ ν m 10 = (nI k) ∧ ν m 11 = (nI (i + 1 + 1 + 1 + 1 + 1)) ∧ ν m 12 = (nI (i + 1 + 1 + 1 + 1)) ∧ ν (m + 8) ((4 * k) + 1) = (nI (dgV P (i + 1))) ∧ ν (m + 8) ((4 * k) + 2) = (nI (wrV P (i + 1 + 1))) ∧ ν (m + 8) ((4 * k) + 3) = x33 ∧ ν (m + 8) (4 * k) = (nI 119)) ⟨((rl27.tw tw32).tw tw33).o (by omega), rdO (((tw33.2 7 (by decide) (by decide)).trans (((tw32.2 7 (by decide) (by decide)).trans mh27c7)))) (by omega), rdO (((tw33.2 10 (by decide) (by decide)).trans (((tw32.2 10 (by decide) (by decide)).trans mh27c10)))) (by omega), rdO a33 (by omega), rdO w33 (by omega), rdN (((congrFun (tw33.1 (m + 8) (by omega)) _).trans (((congrFun (tw32.1 (m + 8) (by omega)) _).trans oh27c0)))) (by omega), rdN (((congrFun (tw33.1 (m + 8) (by omega)) _).trans (((congrFun (tw32.1 (m + 8) (by omega)) _).trans oh27c1)))) (by omega), rdS, rdN (((congrFun (tw33.1 (m + 8) (by omega)) _).trans (((congrFun (tw32.1 (m + 8) (by omega)) _).trans oh27c2)))) (by omega)⟩ (fun μ36 ⟨rl36, mh36c7, mh36c10, mh36c11, mh36c12, oh36c0, oh36c1, oh36c2, oh36c3⟩ => ?_)
            refine pw_goto 214 dX8_readOrder_169 (by decide) ?_
            refine pw_aload_0 dX8_readOrder_214 ?_
            refine pw_dup dX8_readOrder_215 ?_
            refine pw_getI 8 10 dX8_readOrder_216 fX8_211 rfl (by decide) rfl h.t ?_
            refine pw_top mh36c10 ?_
            refine pw_iconst (v := nI 1) dX8_readOrder_219 (by decide) ?_
            refine pw_iaddN dX8_readOrder_220 ?_
            refine pw_putI 8 10 dX8_readOrder_221 fX8_211 rfl (by decide) rfl (Or.inl rfl) rfl (by decide) h.t ?_
            refine pw_gen (P := fun ν => RS m k μ ν ∧ ν m 7 = (nI P.2) ∧ ν m 10 = (nI (k + 1)) ∧ ν m 11 = (nI (i + 1 + 1 + 1 + 1 + 1)) ∧ ν m 12 = (nI (i + 1 + 1 + 1 + 1)) ∧ ν (m + 8) ((4 * k) + 1) = (nI (dgV P (i + 1))) ∧ ν (m + 8) ((4 * k) + 2) = (nI (wrV P (i + 1 + 1))) ∧ ν (m + 8) ((4 * k) + 3) = x33 ∧ ν (m + 8) (4 * k) = (nI 119)) ⟨rl36.f (by decide), rdN mh36c7 (by decide), rdS, rdN mh36c11 (by decide), rdN mh36c12 (by decide), rdO oh36c0 (by omega), rdO oh36c1 (by omega), rdO oh36c2 (by omega), rdO oh36c3 (by omega)⟩ (fun μ37 ⟨rl37, mh37c7, mh37c10, mh37c11, mh37c12, oh37c0, oh37c1, oh37c2, oh37c3⟩ => ?_)
            refine pw_return dX8_readOrder_224 rfl ?_
            have e9 : orG P i = (none, i + 1 + 1 + 1 + 1) := by
              unfold orG
              rw [cif_n (p := chT P i 33) (fun h95 => absurd (l119.symm.trans (ml_i h95)) (by decide)), cif_n (p := chT P i 98) (fun h95 => absurd (l119.symm.trans (ml_i h95)) (by decide)), cif_n (p := chT P i 115) (fun h95 => absurd (l119.symm.trans (ml_i h95)) (by decide)), cif_y (p := chT P i 119) c119, cif_y (p := dgT P (i + 1)) hd24, cif_y (p := wrT P (i + 1 + 1)) hd26, cif_y (p := chT P (i + 1 + 1 + 1) 61) t61, cif_n (p := dgT P (i + 1 + 1 + 1 + 1)) hd33]
            exact q0 _ e9 _ rl37 mh37c10 mh37c12
      · skip
        refine pw_iastN dX8_readOrder_138 h.a8 (by omega) (by decide) ?_
        refine pw_gen (P := fun ν => RS m k μ ν ∧ ν m 7 = (nI P.2) ∧ ν m 10 = (nI k) ∧ ν m 11 = (nI (i + 1 + 1 + 1)) ∧ ν m 12 = (nI (i + 1 + 1)) ∧ ν (m + 8) ((4 * k) + 1) = (nI (dgV P (i + 1))) ∧ ν (m + 8) ((4 * k) + 2) = x26 ∧ ν (m + 8) (4 * k) = (nI 119)) ⟨(rl25.tw tw26).o (by omega), rdO (((tw26.2 7 (by decide) (by decide)).trans mh25c7)) (by omega), rdO (((tw26.2 10 (by decide) (by decide)).trans mh25c10)) (by omega), rdO a26 (by omega), rdO w26 (by omega), rdN (((congrFun (tw26.1 (m + 8) (by omega)) _).trans oh25c0)) (by omega), rdS, rdN (((congrFun (tw26.1 (m + 8) (by omega)) _).trans oh25c1)) (by omega)⟩ (fun μ38 ⟨rl38, mh38c7, mh38c10, mh38c11, mh38c12, oh38c0, oh38c1, oh38c2⟩ => ?_)
        refine pw_aload_0 dX8_readOrder_139 ?_
        refine pw_aload_0 dX8_readOrder_140 ?_
        refine pw_cV0i 8 dX8_readOrder_141 kX8_198 vX8_letter iX8_letter ⟨by decide, by decide⟩ ⟨rfl, rfl⟩ (by decide) rfl (Nat.le_of_ble_eq_true rfl) h.t (m_letter h (hq.rs rl38) mh38c11 (by omega) ?_)
        refine pw_bipush (v := nI 61) dX8_readOrder_144 (by decide) ?_
        refine pw_icmp_ne 153 dX8_readOrder_146 (by decide) (fun _ => ?_) (fun _ => ?_)
        · skip
          refine pw_iconst (v := nI 0) dX8_readOrder_153 (by decide) ?_
          refine pw_cV1v 8 dX8_readOrder_154 kX8_201 vX8_wants iX8_wants ⟨by decide, by decide⟩ ⟨rfl, rfl⟩ (by decide) rfl (Nat.le_of_ble_eq_true rfl) h.t (m_wantsN h mh38c11 mh38c12 (nI_ne6 (by omega)) (fun ν39 tw39 a39 w39 => ?_))
          refine pw_aload_0 dX8_readOrder_157 ?_
          refine pw_getr 8 9 dX8_readOrder_158 fX8_33 rfl (by decide) rfl h.t h.r9 ?_
          refine pw_iload_1 dX8_readOrder_161 ?_
          refine pw_iconst (v := nI 3) dX8_readOrder_162 (by decide) ?_
          refine pw_iaddN dX8_readOrder_163 ?_
          refine pw_aload_0 dX8_readOrder_164 ?_
          refine pw_cV0i 8 dX8_readOrder_165 kX8_217 vX8_number iX8_number ⟨by decide, by decide⟩ ⟨rfl, rfl⟩ (by decide) rfl (Nat.le_of_ble_eq_true rfl) h.t (m_numberN h (hq.rs (rl38.tw tw39)) a39 w39 (nI_ne6 (by omega)) (by omega) (fun ν40 x40 tw40 a40 w40 => ?_))
          refine pw_iastN dX8_readOrder_168 h.a8 (by omega) (by decide) ?_
          refine pw_gen (P := fun ν => RS m k μ ν ∧ ν m 7 = (nI P.2) ∧ ν m 10 = (nI k) ∧ ν m 11 = (nI (i + 1 + 1 + 1)) ∧ ν m 12 = (nI (i + 1 + 1)) ∧ ν (m + 8) ((4 * k) + 1) = (nI (dgV P (i + 1))) ∧ ν (m + 8) ((4 * k) + 2) = x26 ∧ ν (m + 8) ((4 * k) + 3) = x40 ∧ ν (m + 8) (4 * k) = (nI 119)) ⟨((rl38.tw tw39).tw tw40).o (by omega), rdO (((tw40.2 7 (by decide) (by decide)).trans (((tw39.2 7 (by decide) (by decide)).trans mh38c7)))) (by omega), rdO (((tw40.2 10 (by decide) (by decide)).trans (((tw39.2 10 (by decide) (by decide)).trans mh38c10)))) (by omega), rdO a40 (by omega), rdO w40 (by omega), rdN (((congrFun (tw40.1 (m + 8) (by omega)) _).trans (((congrFun (tw39.1 (m + 8) (by omega)) _).trans oh38c0)))) (by omega), rdN (((congrFun (tw40.1 (m + 8) (by omega)) _).trans (((congrFun (tw39.1 (m + 8) (by omega)) _).trans oh38c1)))) (by omega), rdS, rdN (((congrFun (tw40.1 (m + 8) (by omega)) _).trans (((congrFun (tw39.1 (m + 8) (by omega)) _).trans oh38c2)))) (by omega)⟩ (fun μ41 ⟨rl41, mh41c7, mh41c10, mh41c11, mh41c12, oh41c0, oh41c1, oh41c2, oh41c3⟩ => ?_)
          refine pw_goto 214 dX8_readOrder_169 (by decide) ?_
          refine pw_aload_0 dX8_readOrder_214 ?_
          refine pw_dup dX8_readOrder_215 ?_
          refine pw_getI 8 10 dX8_readOrder_216 fX8_211 rfl (by decide) rfl h.t ?_
          refine pw_top mh41c10 ?_
          refine pw_iconst (v := nI 1) dX8_readOrder_219 (by decide) ?_
          refine pw_iaddN dX8_readOrder_220 ?_
          refine pw_putI 8 10 dX8_readOrder_221 fX8_211 rfl (by decide) rfl (Or.inl rfl) rfl (by decide) h.t ?_
          refine pw_gen (P := fun ν => RS m k μ ν ∧ ν m 7 = (nI P.2) ∧ ν m 10 = (nI (k + 1)) ∧ ν m 11 = (nI (i + 1 + 1 + 1)) ∧ ν m 12 = (nI (i + 1 + 1)) ∧ ν (m + 8) ((4 * k) + 1) = (nI (dgV P (i + 1))) ∧ ν (m + 8) ((4 * k) + 2) = x26 ∧ ν (m + 8) ((4 * k) + 3) = x40 ∧ ν (m + 8) (4 * k) = (nI 119)) ⟨rl41.f (by decide), rdN mh41c7 (by decide), rdS, rdN mh41c11 (by decide), rdN mh41c12 (by decide), rdO oh41c0 (by omega), rdO oh41c1 (by omega), rdO oh41c2 (by omega), rdO oh41c3 (by omega)⟩ (fun μ42 ⟨rl42, mh42c7, mh42c10, mh42c11, mh42c12, oh42c0, oh42c1, oh42c2, oh42c3⟩ => ?_)
          refine pw_return dX8_readOrder_224 rfl ?_
          have e9 : orG P i = (none, i + 1 + 1) := by
            unfold orG
            rw [cif_n (p := chT P i 33) (fun h95 => absurd (l119.symm.trans (ml_i h95)) (by decide)), cif_n (p := chT P i 98) (fun h95 => absurd (l119.symm.trans (ml_i h95)) (by decide)), cif_n (p := chT P i 115) (fun h95 => absurd (l119.symm.trans (ml_i h95)) (by decide)), cif_y (p := chT P i 119) c119, cif_y (p := dgT P (i + 1)) hd24, cif_n (p := wrT P (i + 1 + 1)) hd26]
          exact q0 _ e9 _ rl42 mh42c10 mh42c12
        · skip
          refine pw_iconst (v := nI 1) dX8_readOrder_149 (by decide) ?_
          refine pw_goto 154 dX8_readOrder_150 (by decide) ?_
          refine pw_cV1v 8 dX8_readOrder_154 kX8_201 vX8_wants iX8_wants ⟨by decide, by decide⟩ ⟨rfl, rfl⟩ (by decide) rfl (Nat.le_of_ble_eq_true rfl) h.t (m_wantsN h mh38c11 mh38c12 (nI_ne6 (by omega)) (fun ν43 tw43 a43 w43 => ?_))
          refine pw_aload_0 dX8_readOrder_157 ?_
          refine pw_getr 8 9 dX8_readOrder_158 fX8_33 rfl (by decide) rfl h.t h.r9 ?_
          refine pw_iload_1 dX8_readOrder_161 ?_
          refine pw_iconst (v := nI 3) dX8_readOrder_162 (by decide) ?_
          refine pw_iaddN dX8_readOrder_163 ?_
          refine pw_aload_0 dX8_readOrder_164 ?_
          refine pw_cV0i 8 dX8_readOrder_165 kX8_217 vX8_number iX8_number ⟨by decide, by decide⟩ ⟨rfl, rfl⟩ (by decide) rfl (Nat.le_of_ble_eq_true rfl) h.t (m_numberN h (hq.rs (rl38.tw tw43)) a43 w43 (nI_ne6 (by omega)) (by omega) (fun ν44 x44 tw44 a44 w44 => ?_))
          refine pw_iastN dX8_readOrder_168 h.a8 (by omega) (by decide) ?_
          refine pw_gen (P := fun ν => RS m k μ ν ∧ ν m 7 = (nI P.2) ∧ ν m 10 = (nI k) ∧ ν m 11 = (nI (i + 1 + 1 + 1)) ∧ ν m 12 = (nI (i + 1 + 1)) ∧ ν (m + 8) ((4 * k) + 1) = (nI (dgV P (i + 1))) ∧ ν (m + 8) ((4 * k) + 2) = x26 ∧ ν (m + 8) ((4 * k) + 3) = x44 ∧ ν (m + 8) (4 * k) = (nI 119)) ⟨((rl38.tw tw43).tw tw44).o (by omega), rdO (((tw44.2 7 (by decide) (by decide)).trans (((tw43.2 7 (by decide) (by decide)).trans mh38c7)))) (by omega), rdO (((tw44.2 10 (by decide) (by decide)).trans (((tw43.2 10 (by decide) (by decide)).trans mh38c10)))) (by omega), rdO a44 (by omega), rdO w44 (by omega), rdN (((congrFun (tw44.1 (m + 8) (by omega)) _).trans (((congrFun (tw43.1 (m + 8) (by omega)) _).trans oh38c0)))) (by omega), rdN (((congrFun (tw44.1 (m + 8) (by omega)) _).trans (((congrFun (tw43.1 (m + 8) (by omega)) _).trans oh38c1)))) (by omega), rdS, rdN (((congrFun (tw44.1 (m + 8) (by omega)) _).trans (((congrFun (tw43.1 (m + 8) (by omega)) _).trans oh38c2)))) (by omega)⟩ (fun μ45 ⟨rl45, mh45c7, mh45c10, mh45c11, mh45c12, oh45c0, oh45c1, oh45c2, oh45c3⟩ => ?_)
          refine pw_goto 214 dX8_readOrder_169 (by decide) ?_
          refine pw_aload_0 dX8_readOrder_214 ?_
          refine pw_dup dX8_readOrder_215 ?_
          refine pw_getI 8 10 dX8_readOrder_216 fX8_211 rfl (by decide) rfl h.t ?_
          refine pw_top mh45c10 ?_
          refine pw_iconst (v := nI 1) dX8_readOrder_219 (by decide) ?_
          refine pw_iaddN dX8_readOrder_220 ?_
          refine pw_putI 8 10 dX8_readOrder_221 fX8_211 rfl (by decide) rfl (Or.inl rfl) rfl (by decide) h.t ?_
          refine pw_gen (P := fun ν => RS m k μ ν ∧ ν m 7 = (nI P.2) ∧ ν m 10 = (nI (k + 1)) ∧ ν m 11 = (nI (i + 1 + 1 + 1)) ∧ ν m 12 = (nI (i + 1 + 1)) ∧ ν (m + 8) ((4 * k) + 1) = (nI (dgV P (i + 1))) ∧ ν (m + 8) ((4 * k) + 2) = x26 ∧ ν (m + 8) ((4 * k) + 3) = x44 ∧ ν (m + 8) (4 * k) = (nI 119)) ⟨rl45.f (by decide), rdN mh45c7 (by decide), rdS, rdN mh45c11 (by decide), rdN mh45c12 (by decide), rdO oh45c0 (by omega), rdO oh45c1 (by omega), rdO oh45c2 (by omega), rdO oh45c3 (by omega)⟩ (fun μ46 ⟨rl46, mh46c7, mh46c10, mh46c11, mh46c12, oh46c0, oh46c1, oh46c2, oh46c3⟩ => ?_)
          refine pw_return dX8_readOrder_224 rfl ?_
          have e9 : orG P i = (none, i + 1 + 1) := by
            unfold orG
            rw [cif_n (p := chT P i 33) (fun h95 => absurd (l119.symm.trans (ml_i h95)) (by decide)), cif_n (p := chT P i 98) (fun h95 => absurd (l119.symm.trans (ml_i h95)) (by decide)), cif_n (p := chT P i 115) (fun h95 => absurd (l119.symm.trans (ml_i h95)) (by decide)), cif_y (p := chT P i 119) c119, cif_y (p := dgT P (i + 1)) hd24, cif_n (p := wrT P (i + 1 + 1)) hd26]
          exact q0 _ e9 _ rl46 mh46c10 mh46c12
    · skip
      refine pw_iastN dX8_readOrder_126 h.a8 (by omega) (by decide) ?_
      refine pw_gen (P := fun ν => RS m k μ ν ∧ ν m 7 = (nI P.2) ∧ ν m 10 = (nI k) ∧ ν m 11 = (nI (i + 1 + 1)) ∧ ν m 12 = (nI (i + 1)) ∧ ν (m + 8) ((4 * k) + 1) = x24 ∧ ν (m + 8) (4 * k) = (nI 119)) ⟨((rl22.tw tw23).tw tw24).o (by omega), rdO (((tw24.2 7 (by decide) (by decide)).trans (((tw23.2 7 (by decide) (by decide)).trans mh22c7)))) (by omega), rdO (((tw24.2 10 (by decide) (by decide)).trans (((tw23.2 10 (by decide) (by decide)).trans mh22c10)))) (by omega), rdO a24 (by omega), rdO w24 (by omega), rdS, rdN (((congrFun (tw24.1 (m + 8) (by omega)) _).trans (((congrFun (tw23.1 (m + 8) (by omega)) _).trans oh22c0)))) (by omega)⟩ (fun μ47 ⟨rl47, mh47c7, mh47c10, mh47c11, mh47c12, oh47c0, oh47c1⟩ => ?_)
      refine pw_aload_0 dX8_readOrder_127 ?_
      refine pw_getr 8 9 dX8_readOrder_128 fX8_33 rfl (by decide) rfl h.t h.r9 ?_
      refine pw_iload_1 dX8_readOrder_131 ?_
      refine pw_iconst (v := nI 2) dX8_readOrder_132 (by decide) ?_
      refine pw_iaddN dX8_readOrder_133 ?_
      refine pw_aload_0 dX8_readOrder_134 ?_
      refine pw_cV0i 8 dX8_readOrder_135 kX8_208 vX8_wireRead iX8_wireRead ⟨by decide, by decide⟩ ⟨rfl, rfl⟩ (by decide) rfl (Nat.le_of_ble_eq_true rfl) h.t (m_wireReadN h (hq.rs rl47) mh47c11 mh47c12 (nI_ne6 (by omega)) (by omega) (fun ν48 x48 tw48 a48 w48 => ?_))
      refine pw_iastN dX8_readOrder_138 h.a8 (by omega) (by decide) ?_
      refine pw_gen (P := fun ν => RS m k μ ν ∧ ν m 7 = (nI P.2) ∧ ν m 10 = (nI k) ∧ ν m 11 = (nI (i + 1 + 1)) ∧ ν m 12 = (nI (i + 1)) ∧ ν (m + 8) ((4 * k) + 1) = x24 ∧ ν (m + 8) ((4 * k) + 2) = x48 ∧ ν (m + 8) (4 * k) = (nI 119)) ⟨(rl47.tw tw48).o (by omega), rdO (((tw48.2 7 (by decide) (by decide)).trans mh47c7)) (by omega), rdO (((tw48.2 10 (by decide) (by decide)).trans mh47c10)) (by omega), rdO a48 (by omega), rdO w48 (by omega), rdN (((congrFun (tw48.1 (m + 8) (by omega)) _).trans oh47c0)) (by omega), rdS, rdN (((congrFun (tw48.1 (m + 8) (by omega)) _).trans oh47c1)) (by omega)⟩ (fun μ49 ⟨rl49, mh49c7, mh49c10, mh49c11, mh49c12, oh49c0, oh49c1, oh49c2⟩ => ?_)
      refine pw_aload_0 dX8_readOrder_139 ?_
      refine pw_aload_0 dX8_readOrder_140 ?_
      refine pw_cV0i 8 dX8_readOrder_141 kX8_198 vX8_letter iX8_letter ⟨by decide, by decide⟩ ⟨rfl, rfl⟩ (by decide) rfl (Nat.le_of_ble_eq_true rfl) h.t (m_letter h (hq.rs rl49) mh49c11 (by omega) ?_)
      refine pw_bipush (v := nI 61) dX8_readOrder_144 (by decide) ?_
      refine pw_icmp_ne 153 dX8_readOrder_146 (by decide) (fun _ => ?_) (fun _ => ?_)
      · skip
        refine pw_iconst (v := nI 0) dX8_readOrder_153 (by decide) ?_
        refine pw_cV1v 8 dX8_readOrder_154 kX8_201 vX8_wants iX8_wants ⟨by decide, by decide⟩ ⟨rfl, rfl⟩ (by decide) rfl (Nat.le_of_ble_eq_true rfl) h.t (m_wantsN h mh49c11 mh49c12 (nI_ne6 (by omega)) (fun ν50 tw50 a50 w50 => ?_))
        refine pw_aload_0 dX8_readOrder_157 ?_
        refine pw_getr 8 9 dX8_readOrder_158 fX8_33 rfl (by decide) rfl h.t h.r9 ?_
        refine pw_iload_1 dX8_readOrder_161 ?_
        refine pw_iconst (v := nI 3) dX8_readOrder_162 (by decide) ?_
        refine pw_iaddN dX8_readOrder_163 ?_
        refine pw_aload_0 dX8_readOrder_164 ?_
        refine pw_cV0i 8 dX8_readOrder_165 kX8_217 vX8_number iX8_number ⟨by decide, by decide⟩ ⟨rfl, rfl⟩ (by decide) rfl (Nat.le_of_ble_eq_true rfl) h.t (m_numberN h (hq.rs (rl49.tw tw50)) a50 w50 (nI_ne6 (by omega)) (by omega) (fun ν51 x51 tw51 a51 w51 => ?_))
        refine pw_iastN dX8_readOrder_168 h.a8 (by omega) (by decide) ?_
        refine pw_gen (P := fun ν => RS m k μ ν ∧ ν m 7 = (nI P.2) ∧ ν m 10 = (nI k) ∧ ν m 11 = (nI (i + 1 + 1)) ∧ ν m 12 = (nI (i + 1)) ∧ ν (m + 8) ((4 * k) + 1) = x24 ∧ ν (m + 8) ((4 * k) + 2) = x48 ∧ ν (m + 8) ((4 * k) + 3) = x51 ∧ ν (m + 8) (4 * k) = (nI 119)) ⟨((rl49.tw tw50).tw tw51).o (by omega), rdO (((tw51.2 7 (by decide) (by decide)).trans (((tw50.2 7 (by decide) (by decide)).trans mh49c7)))) (by omega), rdO (((tw51.2 10 (by decide) (by decide)).trans (((tw50.2 10 (by decide) (by decide)).trans mh49c10)))) (by omega), rdO a51 (by omega), rdO w51 (by omega), rdN (((congrFun (tw51.1 (m + 8) (by omega)) _).trans (((congrFun (tw50.1 (m + 8) (by omega)) _).trans oh49c0)))) (by omega), rdN (((congrFun (tw51.1 (m + 8) (by omega)) _).trans (((congrFun (tw50.1 (m + 8) (by omega)) _).trans oh49c1)))) (by omega), rdS, rdN (((congrFun (tw51.1 (m + 8) (by omega)) _).trans (((congrFun (tw50.1 (m + 8) (by omega)) _).trans oh49c2)))) (by omega)⟩ (fun μ52 ⟨rl52, mh52c7, mh52c10, mh52c11, mh52c12, oh52c0, oh52c1, oh52c2, oh52c3⟩ => ?_)
        refine pw_goto 214 dX8_readOrder_169 (by decide) ?_
        refine pw_aload_0 dX8_readOrder_214 ?_
        refine pw_dup dX8_readOrder_215 ?_
        refine pw_getI 8 10 dX8_readOrder_216 fX8_211 rfl (by decide) rfl h.t ?_
        refine pw_top mh52c10 ?_
        refine pw_iconst (v := nI 1) dX8_readOrder_219 (by decide) ?_
        refine pw_iaddN dX8_readOrder_220 ?_
        refine pw_putI 8 10 dX8_readOrder_221 fX8_211 rfl (by decide) rfl (Or.inl rfl) rfl (by decide) h.t ?_
        refine pw_gen (P := fun ν => RS m k μ ν ∧ ν m 7 = (nI P.2) ∧ ν m 10 = (nI (k + 1)) ∧ ν m 11 = (nI (i + 1 + 1)) ∧ ν m 12 = (nI (i + 1)) ∧ ν (m + 8) ((4 * k) + 1) = x24 ∧ ν (m + 8) ((4 * k) + 2) = x48 ∧ ν (m + 8) ((4 * k) + 3) = x51 ∧ ν (m + 8) (4 * k) = (nI 119)) ⟨rl52.f (by decide), rdN mh52c7 (by decide), rdS, rdN mh52c11 (by decide), rdN mh52c12 (by decide), rdO oh52c0 (by omega), rdO oh52c1 (by omega), rdO oh52c2 (by omega), rdO oh52c3 (by omega)⟩ (fun μ53 ⟨rl53, mh53c7, mh53c10, mh53c11, mh53c12, oh53c0, oh53c1, oh53c2, oh53c3⟩ => ?_)
        refine pw_return dX8_readOrder_224 rfl ?_
        have e9 : orG P i = (none, i + 1) := by
          unfold orG
          rw [cif_n (p := chT P i 33) (fun h95 => absurd (l119.symm.trans (ml_i h95)) (by decide)), cif_n (p := chT P i 98) (fun h95 => absurd (l119.symm.trans (ml_i h95)) (by decide)), cif_n (p := chT P i 115) (fun h95 => absurd (l119.symm.trans (ml_i h95)) (by decide)), cif_y (p := chT P i 119) c119, cif_n (p := dgT P (i + 1)) hd24]
        exact q0 _ e9 _ rl53 mh53c10 mh53c12
      · skip
        refine pw_iconst (v := nI 1) dX8_readOrder_149 (by decide) ?_
        refine pw_goto 154 dX8_readOrder_150 (by decide) ?_
        refine pw_cV1v 8 dX8_readOrder_154 kX8_201 vX8_wants iX8_wants ⟨by decide, by decide⟩ ⟨rfl, rfl⟩ (by decide) rfl (Nat.le_of_ble_eq_true rfl) h.t (m_wantsN h mh49c11 mh49c12 (nI_ne6 (by omega)) (fun ν54 tw54 a54 w54 => ?_))
        refine pw_aload_0 dX8_readOrder_157 ?_
        refine pw_getr 8 9 dX8_readOrder_158 fX8_33 rfl (by decide) rfl h.t h.r9 ?_
        refine pw_iload_1 dX8_readOrder_161 ?_
        refine pw_iconst (v := nI 3) dX8_readOrder_162 (by decide) ?_
        refine pw_iaddN dX8_readOrder_163 ?_
        refine pw_aload_0 dX8_readOrder_164 ?_
        refine pw_cV0i 8 dX8_readOrder_165 kX8_217 vX8_number iX8_number ⟨by decide, by decide⟩ ⟨rfl, rfl⟩ (by decide) rfl (Nat.le_of_ble_eq_true rfl) h.t (m_numberN h (hq.rs (rl49.tw tw54)) a54 w54 (nI_ne6 (by omega)) (by omega) (fun ν55 x55 tw55 a55 w55 => ?_))
        refine pw_iastN dX8_readOrder_168 h.a8 (by omega) (by decide) ?_
        refine pw_gen (P := fun ν => RS m k μ ν ∧ ν m 7 = (nI P.2) ∧ ν m 10 = (nI k) ∧ ν m 11 = (nI (i + 1 + 1)) ∧ ν m 12 = (nI (i + 1)) ∧ ν (m + 8) ((4 * k) + 1) = x24 ∧ ν (m + 8) ((4 * k) + 2) = x48 ∧ ν (m + 8) ((4 * k) + 3) = x55 ∧ ν (m + 8) (4 * k) = (nI 119)) ⟨((rl49.tw tw54).tw tw55).o (by omega), rdO (((tw55.2 7 (by decide) (by decide)).trans (((tw54.2 7 (by decide) (by decide)).trans mh49c7)))) (by omega), rdO (((tw55.2 10 (by decide) (by decide)).trans (((tw54.2 10 (by decide) (by decide)).trans mh49c10)))) (by omega), rdO a55 (by omega), rdO w55 (by omega), rdN (((congrFun (tw55.1 (m + 8) (by omega)) _).trans (((congrFun (tw54.1 (m + 8) (by omega)) _).trans oh49c0)))) (by omega), rdN (((congrFun (tw55.1 (m + 8) (by omega)) _).trans (((congrFun (tw54.1 (m + 8) (by omega)) _).trans oh49c1)))) (by omega), rdS, rdN (((congrFun (tw55.1 (m + 8) (by omega)) _).trans (((congrFun (tw54.1 (m + 8) (by omega)) _).trans oh49c2)))) (by omega)⟩ (fun μ56 ⟨rl56, mh56c7, mh56c10, mh56c11, mh56c12, oh56c0, oh56c1, oh56c2, oh56c3⟩ => ?_)
        refine pw_goto 214 dX8_readOrder_169 (by decide) ?_
        refine pw_aload_0 dX8_readOrder_214 ?_
        refine pw_dup dX8_readOrder_215 ?_
        refine pw_getI 8 10 dX8_readOrder_216 fX8_211 rfl (by decide) rfl h.t ?_
        refine pw_top mh56c10 ?_
        refine pw_iconst (v := nI 1) dX8_readOrder_219 (by decide) ?_
        refine pw_iaddN dX8_readOrder_220 ?_
        refine pw_putI 8 10 dX8_readOrder_221 fX8_211 rfl (by decide) rfl (Or.inl rfl) rfl (by decide) h.t ?_
        refine pw_gen (P := fun ν => RS m k μ ν ∧ ν m 7 = (nI P.2) ∧ ν m 10 = (nI (k + 1)) ∧ ν m 11 = (nI (i + 1 + 1)) ∧ ν m 12 = (nI (i + 1)) ∧ ν (m + 8) ((4 * k) + 1) = x24 ∧ ν (m + 8) ((4 * k) + 2) = x48 ∧ ν (m + 8) ((4 * k) + 3) = x55 ∧ ν (m + 8) (4 * k) = (nI 119)) ⟨rl56.f (by decide), rdN mh56c7 (by decide), rdS, rdN mh56c11 (by decide), rdN mh56c12 (by decide), rdO oh56c0 (by omega), rdO oh56c1 (by omega), rdO oh56c2 (by omega), rdO oh56c3 (by omega)⟩ (fun μ57 ⟨rl57, mh57c7, mh57c10, mh57c11, mh57c12, oh57c0, oh57c1, oh57c2, oh57c3⟩ => ?_)
        refine pw_return dX8_readOrder_224 rfl ?_
        have e9 : orG P i = (none, i + 1) := by
          unfold orG
          rw [cif_n (p := chT P i 33) (fun h95 => absurd (l119.symm.trans (ml_i h95)) (by decide)), cif_n (p := chT P i 98) (fun h95 => absurd (l119.symm.trans (ml_i h95)) (by decide)), cif_n (p := chT P i 115) (fun h95 => absurd (l119.symm.trans (ml_i h95)) (by decide)), cif_y (p := chT P i 119) c119, cif_n (p := dgT P (i + 1)) hd24]
        exact q0 _ e9 _ rl57 mh57c10 mh57c12
  rcases Classical.em (mlG P i = nI 122) with l122 | l122
  · skip
    have c122 := ml_y (by omega) l122
    have hb0 := c122.1
    refine pw_top l122 ?_
    refine pw_istore_2 dX8_readOrder_11 (by decide) ?_
    refine pw_aload_0 dX8_readOrder_12 ?_
    refine pw_getr 8 9 dX8_readOrder_13 fX8_33 rfl (by decide) rfl h.t h.r9 ?_
    refine pw_iload_1 dX8_readOrder_16 ?_
    refine pw_iload_2 dX8_readOrder_17 ?_
    refine pw_iastN dX8_readOrder_18 h.a8 (by omega) (by decide) ?_
    refine pw_gen (P := fun ν => RS m k μ ν ∧ ν m 7 = (nI P.2) ∧ ν m 10 = (nI k) ∧ ν m 11 = (nI i) ∧ ν m 12 = ((-6)) ∧ ν (m + 8) (4 * k) = (nI 122)) ⟨(RS.rf : RS m k μ μ).o (by omega), rdO hq.1 (by omega), rdO hk (by omega), rdO ha (by omega), rdO hw (by omega), rdS⟩ (fun μ58 ⟨rl58, mh58c7, mh58c10, mh58c11, mh58c12, oh58c0⟩ => ?_)
    refine pw_aload_0 dX8_readOrder_19 ?_
    refine pw_iload_2 dX8_readOrder_20 ?_
    refine pw_bipush (v := nI 115) dX8_readOrder_21 (by decide) ?_
    refine pw_icmp_eq 50 dX8_readOrder_23 (by decide) (fun hh => absurd hh (by decide)) (fun _ => ?_)
    refine pw_iload_2 dX8_readOrder_26 ?_
    refine pw_bipush (v := nI 119) dX8_readOrder_27 (by decide) ?_
    refine pw_icmp_eq 50 dX8_readOrder_29 (by decide) (fun hh => absurd hh (by decide)) (fun _ => ?_)
    refine pw_iload_2 dX8_readOrder_32 ?_
    refine pw_bipush (v := nI 33) dX8_readOrder_33 (by decide) ?_
    refine pw_icmp_eq 50 dX8_readOrder_35 (by decide) (fun hh => absurd hh (by decide)) (fun _ => ?_)
    refine pw_iload_2 dX8_readOrder_38 ?_
    refine pw_bipush (v := nI 122) dX8_readOrder_39 (by decide) ?_
    refine pw_icmp_eq 50 dX8_readOrder_41 (by decide) (fun _ => ?_) (fun hh => absurd (by decide) hh)
    refine pw_iconst (v := nI 1) dX8_readOrder_50 (by decide) ?_
    refine pw_goto 55 dX8_readOrder_51 (by decide) ?_
    refine pw_cV1v 8 dX8_readOrder_55 kX8_201 vX8_wants iX8_wants ⟨by decide, by decide⟩ ⟨rfl, rfl⟩ (by decide) rfl (Nat.le_of_ble_eq_true rfl) h.t (m_wantsT h mh58c11 mh58c12 (by decide) (fun ν59 tw59 a59 w59 => ?_))
    refine pw_iload_2 dX8_readOrder_58 ?_
    refine pw_lookup (off := 128) 187 dX8_readOrder_59 (by decide) (by decide) (by decide) ?_
    refine pw_aload_0 dX8_readOrder_187 ?_
    refine pw_getr 8 9 dX8_readOrder_188 fX8_33 rfl (by decide) rfl h.t h.r9 ?_
    refine pw_iload_1 dX8_readOrder_191 ?_
    refine pw_iconst (v := nI 1) dX8_readOrder_192 (by decide) ?_
    refine pw_iaddN dX8_readOrder_193 ?_
    refine pw_aload_0 dX8_readOrder_194 ?_
    refine pw_cV0i 8 dX8_readOrder_195 kX8_205 vX8_digit iX8_digit ⟨by decide, by decide⟩ ⟨rfl, rfl⟩ (by decide) rfl (Nat.le_of_ble_eq_true rfl) h.t (m_digit2 h (hq.rs (rl58.tw tw59)) a59 w59 (by omega) (fun hd60 ν60 tw60 a60 w60 => ?_) (fun hd60 ν60 x60 tw60 a60 w60 => ?_))
    · skip
      have hb60 := hd60.1
      refine pw_iastN dX8_readOrder_198 h.a8 (by omega) (by decide) ?_
      refine pw_gen (P := fun ν => RS m k μ ν ∧ ν m 7 = (nI P.2) ∧ ν m 10 = (nI k) ∧ ν m 11 = (nI (i + 1 + 1)) ∧ ν m 12 = ((-6)) ∧ ν (m + 8) ((4 * k) + 1) = (nI (dgV P (i + 1))) ∧ ν (m + 8) (4 * k) = (nI 122)) ⟨((rl58.tw tw59).tw tw60).o (by omega), rdO (((tw60.2 7 (by decide) (by decide)).trans (((tw59.2 7 (by decide) (by decide)).trans mh58c7)))) (by omega), rdO (((tw60.2 10 (by decide) (by decide)).trans (((tw59.2 10 (by decide) (by decide)).trans mh58c10)))) (by omega), rdO a60 (by omega), rdO w60 (by omega), rdS, rdN (((congrFun (tw60.1 (m + 8) (by omega)) _).trans (((congrFun (tw59.1 (m + 8) (by omega)) _).trans oh58c0)))) (by omega)⟩ (fun μ61 ⟨rl61, mh61c7, mh61c10, mh61c11, mh61c12, oh61c0, oh61c1⟩ => ?_)
      refine pw_goto 214 dX8_readOrder_199 (by decide) ?_
      refine pw_aload_0 dX8_readOrder_214 ?_
      refine pw_dup dX8_readOrder_215 ?_
      refine pw_getI 8 10 dX8_readOrder_216 fX8_211 rfl (by decide) rfl h.t ?_
      refine pw_top mh61c10 ?_
      refine pw_iconst (v := nI 1) dX8_readOrder_219 (by decide) ?_
      refine pw_iaddN dX8_readOrder_220 ?_
      refine pw_putI 8 10 dX8_readOrder_221 fX8_211 rfl (by decide) rfl (Or.inl rfl) rfl (by decide) h.t ?_
      refine pw_gen (P := fun ν => RS m k μ ν ∧ ν m 7 = (nI P.2) ∧ ν m 10 = (nI (k + 1)) ∧ ν m 11 = (nI (i + 1 + 1)) ∧ ν m 12 = ((-6)) ∧ ν (m + 8) ((4 * k) + 1) = (nI (dgV P (i + 1))) ∧ ν (m + 8) (4 * k) = (nI 122)) ⟨rl61.f (by decide), rdN mh61c7 (by decide), rdS, rdN mh61c11 (by decide), rdN mh61c12 (by decide), rdO oh61c0 (by omega), rdO oh61c1 (by omega)⟩ (fun μ62 ⟨rl62, mh62c7, mh62c10, mh62c11, mh62c12, oh62c0, oh62c1⟩ => ?_)
      refine pw_return dX8_readOrder_224 rfl ?_
      have e9 : orG P i = (some (122, (nI (dgV P (i + 1))), 0, 0), i + 1 + 1) := by
        unfold orG
        rw [cif_n (p := chT P i 33) (fun h95 => absurd (l122.symm.trans (ml_i h95)) (by decide)), cif_n (p := chT P i 98) (fun h95 => absurd (l122.symm.trans (ml_i h95)) (by decide)), cif_n (p := chT P i 115) (fun h95 => absurd (l122.symm.trans (ml_i h95)) (by decide)), cif_n (p := chT P i 119) (fun h95 => absurd (l122.symm.trans (ml_i h95)) (by decide)), cif_y (p := chT P i 122) c122, cif_y (p := dgT P (i + 1)) hd60]
      exact q1 _ _ e9 _ rl62 mh62c10 mh62c11 mh62c12 ⟨oh62c1, oh62c0, fun h95 => absurd (show (122 : Nat) = 119 from h95) (by decide)⟩
    · skip
      refine pw_iastN dX8_readOrder_198 h.a8 (by omega) (by decide) ?_
      refine pw_gen (P := fun ν => RS m k μ ν ∧ ν m 7 = (nI P.2) ∧ ν m 10 = (nI k) ∧ ν m 11 = (nI (i + 1 + 1)) ∧ ν m 12 = (nI (i + 1)) ∧ ν (m + 8) ((4 * k) + 1) = x60 ∧ ν (m + 8) (4 * k) = (nI 122)) ⟨((rl58.tw tw59).tw tw60).o (by omega), rdO (((tw60.2 7 (by decide) (by decide)).trans (((tw59.2 7 (by decide) (by decide)).trans mh58c7)))) (by omega), rdO (((tw60.2 10 (by decide) (by decide)).trans (((tw59.2 10 (by decide) (by decide)).trans mh58c10)))) (by omega), rdO a60 (by omega), rdO w60 (by omega), rdS, rdN (((congrFun (tw60.1 (m + 8) (by omega)) _).trans (((congrFun (tw59.1 (m + 8) (by omega)) _).trans oh58c0)))) (by omega)⟩ (fun μ63 ⟨rl63, mh63c7, mh63c10, mh63c11, mh63c12, oh63c0, oh63c1⟩ => ?_)
      refine pw_goto 214 dX8_readOrder_199 (by decide) ?_
      refine pw_aload_0 dX8_readOrder_214 ?_
      refine pw_dup dX8_readOrder_215 ?_
      refine pw_getI 8 10 dX8_readOrder_216 fX8_211 rfl (by decide) rfl h.t ?_
      refine pw_top mh63c10 ?_
      refine pw_iconst (v := nI 1) dX8_readOrder_219 (by decide) ?_
      refine pw_iaddN dX8_readOrder_220 ?_
      refine pw_putI 8 10 dX8_readOrder_221 fX8_211 rfl (by decide) rfl (Or.inl rfl) rfl (by decide) h.t ?_
      refine pw_gen (P := fun ν => RS m k μ ν ∧ ν m 7 = (nI P.2) ∧ ν m 10 = (nI (k + 1)) ∧ ν m 11 = (nI (i + 1 + 1)) ∧ ν m 12 = (nI (i + 1)) ∧ ν (m + 8) ((4 * k) + 1) = x60 ∧ ν (m + 8) (4 * k) = (nI 122)) ⟨rl63.f (by decide), rdN mh63c7 (by decide), rdS, rdN mh63c11 (by decide), rdN mh63c12 (by decide), rdO oh63c0 (by omega), rdO oh63c1 (by omega)⟩ (fun μ64 ⟨rl64, mh64c7, mh64c10, mh64c11, mh64c12, oh64c0, oh64c1⟩ => ?_)
      refine pw_return dX8_readOrder_224 rfl ?_
      have e9 : orG P i = (none, i + 1) := by
        unfold orG
        rw [cif_n (p := chT P i 33) (fun h95 => absurd (l122.symm.trans (ml_i h95)) (by decide)), cif_n (p := chT P i 98) (fun h95 => absurd (l122.symm.trans (ml_i h95)) (by decide)), cif_n (p := chT P i 115) (fun h95 => absurd (l122.symm.trans (ml_i h95)) (by decide)), cif_n (p := chT P i 119) (fun h95 => absurd (l122.symm.trans (ml_i h95)) (by decide)), cif_y (p := chT P i 122) c122, cif_n (p := dgT P (i + 1)) hd60]
      exact q0 _ e9 _ rl64 mh64c10 mh64c12
  refine pw_istore_2 dX8_readOrder_11 (by decide) ?_
  refine pw_aload_0 dX8_readOrder_12 ?_
  refine pw_getr 8 9 dX8_readOrder_13 fX8_33 rfl (by decide) rfl h.t h.r9 ?_
  refine pw_iload_1 dX8_readOrder_16 ?_
  refine pw_iload_2 dX8_readOrder_17 ?_
  refine pw_iastN dX8_readOrder_18 h.a8 (by omega) (by decide) ?_
  refine pw_gen (P := fun ν => RS m k μ ν ∧ ν m 7 = (nI P.2) ∧ ν m 10 = (nI k) ∧ ν m 11 = (nI i) ∧ ν m 12 = ((-6)) ∧ ν (m + 8) (4 * k) = (mlG P i)) ⟨(RS.rf : RS m k μ μ).o (by omega), rdO hq.1 (by omega), rdO hk (by omega), rdO ha (by omega), rdO hw (by omega), rdS⟩ (fun μ65 ⟨rl65, mh65c7, mh65c10, mh65c11, mh65c12, oh65c0⟩ => ?_)
  refine pw_aload_0 dX8_readOrder_19 ?_
  refine pw_iload_2 dX8_readOrder_20 ?_
  refine pw_bipush (v := nI 115) dX8_readOrder_21 (by decide) ?_
  refine pw_icmp_eq 50 dX8_readOrder_23 (by decide) (fun hh => absurd hh l115) (fun _ => ?_)
  refine pw_iload_2 dX8_readOrder_26 ?_
  refine pw_bipush (v := nI 119) dX8_readOrder_27 (by decide) ?_
  refine pw_icmp_eq 50 dX8_readOrder_29 (by decide) (fun hh => absurd hh l119) (fun _ => ?_)
  refine pw_iload_2 dX8_readOrder_32 ?_
  refine pw_bipush (v := nI 33) dX8_readOrder_33 (by decide) ?_
  refine pw_icmp_eq 50 dX8_readOrder_35 (by decide) (fun hh => absurd hh l33) (fun _ => ?_)
  refine pw_iload_2 dX8_readOrder_38 ?_
  refine pw_bipush (v := nI 122) dX8_readOrder_39 (by decide) ?_
  refine pw_icmp_eq 50 dX8_readOrder_41 (by decide) (fun hh => absurd hh l122) (fun _ => ?_)
  refine pw_iload_2 dX8_readOrder_44 ?_
  refine pw_bipush (v := nI 98) dX8_readOrder_45 (by decide) ?_
  refine pw_icmp_ne 54 dX8_readOrder_47 (by decide) (fun _ => ?_) (fun hh => absurd hh l98)
  refine pw_iconst (v := nI 0) dX8_readOrder_54 (by decide) ?_
  refine pw_cV1v 8 dX8_readOrder_55 kX8_201 vX8_wants iX8_wants ⟨by decide, by decide⟩ ⟨rfl, rfl⟩ (by decide) rfl (Nat.le_of_ble_eq_true rfl) h.t (m_wantsF h mh65c11 mh65c12 (fun ν66 tw66 a66 w66 => ?_))
  refine pw_iload_2 dX8_readOrder_58 ?_
  refine pw_lookup (off := 143) 202 dX8_readOrder_59 (by decide) (show Op.lookupswitch.offset [(33, 113), (115, 41), (119, 56), (122, 128)] 143 ((mlG P i)).toInt = 143 by rw [lv_osw l33 (by decide), lv_osw l115 (by decide), lv_osw l119 (by decide), lv_osw l122 (by decide)] <;> rfl) (by decide) ?_
  refine pw_aload_0 dX8_readOrder_202 ?_
  refine pw_getr 8 9 dX8_readOrder_203 fX8_33 rfl (by decide) rfl h.t h.r9 ?_
  refine pw_iload_1 dX8_readOrder_206 ?_
  refine pw_iconst (v := nI 1) dX8_readOrder_207 (by decide) ?_
  refine pw_iaddN dX8_readOrder_208 ?_
  refine pw_aload_0 dX8_readOrder_209 ?_
  refine pw_cV0i 8 dX8_readOrder_210 kX8_217 vX8_number iX8_number ⟨by decide, by decide⟩ ⟨rfl, rfl⟩ (by decide) rfl (Nat.le_of_ble_eq_true rfl) h.t (m_numberN h (hq.rs (rl65.tw tw66)) a66 w66 (nI_ne6 (by omega)) (by omega) (fun ν67 x67 tw67 a67 w67 => ?_))
  refine pw_iastN dX8_readOrder_213 h.a8 (by omega) (by decide) ?_
  refine pw_gen (P := fun ν => RS m k μ ν ∧ ν m 7 = (nI P.2) ∧ ν m 10 = (nI k) ∧ ν m 11 = (nI (i + 1)) ∧ ν m 12 = (nI i) ∧ ν (m + 8) ((4 * k) + 1) = x67 ∧ ν (m + 8) (4 * k) = (mlG P i)) ⟨((rl65.tw tw66).tw tw67).o (by omega), rdO (((tw67.2 7 (by decide) (by decide)).trans (((tw66.2 7 (by decide) (by decide)).trans mh65c7)))) (by omega), rdO (((tw67.2 10 (by decide) (by decide)).trans (((tw66.2 10 (by decide) (by decide)).trans mh65c10)))) (by omega), rdO a67 (by omega), rdO w67 (by omega), rdS, rdN (((congrFun (tw67.1 (m + 8) (by omega)) _).trans (((congrFun (tw66.1 (m + 8) (by omega)) _).trans oh65c0)))) (by omega)⟩ (fun μ68 ⟨rl68, mh68c7, mh68c10, mh68c11, mh68c12, oh68c0, oh68c1⟩ => ?_)
  refine pw_aload_0 dX8_readOrder_214 ?_
  refine pw_dup dX8_readOrder_215 ?_
  refine pw_getI 8 10 dX8_readOrder_216 fX8_211 rfl (by decide) rfl h.t ?_
  refine pw_top mh68c10 ?_
  refine pw_iconst (v := nI 1) dX8_readOrder_219 (by decide) ?_
  refine pw_iaddN dX8_readOrder_220 ?_
  refine pw_putI 8 10 dX8_readOrder_221 fX8_211 rfl (by decide) rfl (Or.inl rfl) rfl (by decide) h.t ?_
  refine pw_gen (P := fun ν => RS m k μ ν ∧ ν m 7 = (nI P.2) ∧ ν m 10 = (nI (k + 1)) ∧ ν m 11 = (nI (i + 1)) ∧ ν m 12 = (nI i) ∧ ν (m + 8) ((4 * k) + 1) = x67 ∧ ν (m + 8) (4 * k) = (mlG P i)) ⟨rl68.f (by decide), rdN mh68c7 (by decide), rdS, rdN mh68c11 (by decide), rdN mh68c12 (by decide), rdO oh68c0 (by omega), rdO oh68c1 (by omega)⟩ (fun μ69 ⟨rl69, mh69c7, mh69c10, mh69c11, mh69c12, oh69c0, oh69c1⟩ => ?_)
  refine pw_return dX8_readOrder_224 rfl ?_
  have e9 : orG P i = (none, i) := by
    unfold orG
    rw [cif_n (p := chT P i 33) (fun h95 => l33 (ml_i h95)), cif_n (p := chT P i 98) (fun h95 => l98 (ml_i h95)), cif_n (p := chT P i 115) (fun h95 => l115 (ml_i h95)), cif_n (p := chT P i 119) (fun h95 => l119 (ml_i h95)), cif_n (p := chT P i 122) (fun h95 => l122 (ml_i h95))]
  exact q0 _ e9 _ rl69 mh69c10 mh69c12
