/-! The law's beat: rest, the whole -/
theorem GDn.rss {n w : Nat} {L : Nat → Prop} {B : Bs} (h : GDn n B) (hw : w < 6) : GDn n (rsS L w B) := ⟨h.1.krs hw, h.2.1.sW, h.2.2⟩
theorem GDn.rsk {n : Nat} {L : Nat → Prop} {B : Bs} (h : GDn n B) : ∀ k, k ≤ 6 → GDn n (itr (rsS L) k B)
  | 0, _ => h
  | k + 1, hk => (GDn.rsk h k (by omega)).rss (by omega)
theorem rsk_G {L : Nat → Prop} {B : Bs} : ∀ k, bG (itr (rsS L) k B) = bG B
  | 0 => rfl
  | k + 1 => rsk_G k
theorem chk_G {L : Nat → Prop} {B : Bs} : ∀ k, bG (itr (chS L) k B) = bG B
  | 0 => rfl
  | k + 1 => by
    have ih := chk_G (L := L) (B := B) k
    show bG (chS L k (itr (chS L) k B)) = _
    rw [← ih]
    generalize itr (chS L) k B = C
    have e2 : ∀ D, bG (ch2 D k) = bG D := fun D => by
      unfold ch2
      by_cases h : spB D k
      · rw [cif_y h, Fr_gu.1]
        rfl
      · rw [cif_n h]
        rfl
    have e3 : ∀ D, bG (ch3 D k) = bG D := fun D => by
      unfold ch3
      by_cases h : wkP D k
      · rw [cif_y h]
        rfl
      · rw [cif_n h]
    unfold chS
    rw [e3]
    split
    · rw [e2]
      rfl
    · rfl
theorem bt_G5 (B : Bs) : bG (rsB B) 5 = bG B 5 := by
  unfold rsB chB goB
  rw [rsk_G, chk_G, show bG (itr (goP (lowB (bgB B)) (awB (bgB B)) (nS B)) (nS B) (bgB B, 0)).1 = bG (bgB B) from Fr_goN.1, Fr_bg.1]
theorem GDn.bt {n m : Nat} {B : Bs} (h : GDn n B) (ht : WT m B) (hm : m < 131072) : GDn n (btO B) := by
  have h1 := h.bg
  have t1 : WT m (bgB B) := ht.eq (by rw [Fr_bg.1])
  have h2 : GDn n (goB B).1 := by
    unfold goB
    rw [h.2.2]
    exact h1.gok t1 hm n (Nat.le_refl n)
  have h3 : GDn n (chB B) := by
    unfold chB
    rw [h.2.2]
    exact h2.chk (Nat.le_refl n)
  have h4 : GDn n (rsB B) := h3.rsk 6 (Nat.le_refl 6)
  exact ⟨h4.1.setG5, h4.2.1.sG (by omega), (nS_setG _ _ (by omega)).trans h4.2.2⟩
theorem WT.bt {m : Nat} {B : Bs} (h : WT m B) : WT (m + 1) (btO B) := by
  obtain ⟨t, h1, h2⟩ := h
  exact ⟨t + 1, by omega, (upd_s (bG (rsB B)) 5 (bG B 5 + nI 1)).trans (by rw [h2, nI_add])⟩
set_option maxRecDepth 100000 in
set_option maxHeartbeats 4000000 in
theorem bt_rs {X : Cx} {σ : Sp} {μ : Mm} {Q : Int32 → Sp → Mm → Prop} {κ : Prop} {μ0 : Mm} {p n hd : Nat} {B : Bs} {L : Nat → Prop} (hs : ShL σ p) (hl : LU κ μ0 p B μ) (gd : GDn n B) (K : ∀ ν, LU κ μ0 p (setG (itr (rsS L) 6 B) 5 (bG (itr (rsS L) 6 B) 5 + nI 1)) ν → Q (nI hd) σ ν) : PW X mL_beat 0 0 857 [some (.ref p), some (.ref (p + 1)), some (.ref (p + 2)), some (.ref (p + 3)), some (.ref (p + 4)), some (.ref (p + 5)), some (.int (msk L 6)), none, some (.int (nI hd)), none, none, none, none, none, none] [] σ μ (LI Q) := by
  have h8 := gd.n8
  refine pw_iconst (v := nI 0) dL_beat_857 (by decide) ?_
  refine pw_istore_10 dL_beat_858 (by decide) ?_
  refine pw_up (P := fun k => ∀ ν, LU κ μ0 p (itr (rsS L) k B) ν → PW X mL_beat 0 0 860 [some (.ref p), some (.ref (p + 1)), some (.ref (p + 2)), some (.ref (p + 3)), some (.ref (p + 4)), some (.ref (p + 5)), some (.int (msk L 6)), none, some (.int (nI hd)), none, some (.int (nI k)), none, none, none, none] [] σ ν (LI Q)) 6 ?_ ?_ 0 (Nat.zero_le _) _ hl
  · intro ν hl1
    have gd1 := gd.rsk (L := L) 6 (Nat.le_refl 6)
    refine pw_iload_10 dL_beat_860 ?_
    refine pw_bipush (v := nI 6) dL_beat_862 (by decide) ?_
    refine pw_icmp_ge 917 dL_beat_864 (by decide) (fun _ => ?_) (fun hh => absurd (by decide) hh)
    refine pw_aload_5 dL_beat_917 ?_
    refine pw_iconst (v := nI 5) dL_beat_919 (by decide) ?_
    refine pw_dup2_11 dL_beat_920 ?_
    refine pw_ialdN dL_beat_921 hs.t (by omega) (by decide) ?_
    refine pw_top (hl1.t (k := 5) (by omega)) ?_
    refine pw_iconst (v := nI 1) dL_beat_922 (by decide) ?_
    refine pw_iadd dL_beat_923 ?_
    refine pw_iastN dL_beat_924 hs.t (by omega) (by decide) ?_
    refine pw_gen (P := LU κ μ0 p (setG (itr (rsS L) 6 B) 5 ((bG (itr (rsS L) 6 B) 5) + (nI 1)))) (hl1.wT 5 (by omega)) (fun μ1 hl1 => ?_)
    refine pw_iload_8 dL_beat_925 ?_
    refine pw_ireturn dL_beat_927 rfl ?_
    exact K _ hl1
  · intro k hk ihk ν hl1
    have gd1 := gd.rsk (L := L) k (by omega)
    have ih2 : ∀ ν, LU κ μ0 p (rsS L k (itr (rsS L) k B)) ν → PW X mL_beat 0 0 860 [some (.ref p), some (.ref (p + 1)), some (.ref (p + 2)), some (.ref (p + 3)), some (.ref (p + 4)), some (.ref (p + 5)), some (.int (msk L 6)), none, some (.int (nI hd)), none, some (.int (nI (k + 1))), none, none, none, none] [] σ ν (LI Q) := ihk
    clear ihk
    generalize itr (rsS L) k B = D at hl1 gd1 ih2
    have hlw : bi (msk L 6) (nI k) = nI 1 ↔ L k := msk_bi (by decide) hk
    obtain ⟨wv, wv9, ewv⟩ := (gd1.wf.2.2.1 k hk).1
    refine pw_iload_10 dL_beat_860 ?_
    refine pw_bipush (v := nI 6) dL_beat_862 (by decide) ?_
    refine pw_icmp_ge 917 dL_beat_864 (by decide) (fun hh => absurd hh (by rw [nI_leI (by omega) (by omega)]; omega)) (fun _ => ?_)
    refine pw_aload_4 dL_beat_867 ?_
    refine pw_iload_10 dL_beat_869 ?_
    refine pw_iload_6 dL_beat_871 ?_
    refine pw_iload_10 dL_beat_873 ?_
    refine pw_ishr dL_beat_875 ?_
    refine pw_iconst (v := nI 1) dL_beat_876 (by decide) ?_
    refine pw_iand dL_beat_877 ?_
    refine pw_iconst (v := nI 1) dL_beat_878 (by decide) ?_
    refine pw_icmp_ne 886 dL_beat_879 (by decide) (fun h1 => ?_) (fun h1 => ?_)
    · skip
      refine pw_aload_4 dL_beat_886 ?_
      refine pw_iload_10 dL_beat_888 ?_
      refine pw_ialdN dL_beat_890 hs.w (by omega) (by decide) ?_
      refine pw_top (hl1.rw k 0 (by omega) (by omega) (by omega)) ?_
      refine pw_sipush (v := nI 999) dL_beat_891 (by decide) ?_
      refine pw_icmp_ne 903 dL_beat_894 (by decide) (fun h2 => ?_) (fun h2 => ?_)
      · skip
        refine pw_aload_4 dL_beat_903 ?_
        refine pw_iload_10 dL_beat_905 ?_
        refine pw_ialdN dL_beat_907 hs.w (by omega) (by decide) ?_
        refine pw_top (hl1.rw k 0 (by omega) (by omega) (by omega)) ?_
        refine pw_iconst (v := nI 1) dL_beat_908 (by decide) ?_
        refine pw_iadd dL_beat_909 ?_
        refine pw_iastN dL_beat_910 hs.w (by omega) (by decide) ?_
        refine pw_gen (P := LU κ μ0 p (setW D k 0 ((bW D k 0) + (nI 1)))) (hl1.wW k 0 (by omega) (by omega) (by omega)) (fun μ2 hl2 => ?_)
        refine pw_iincN_10 dL_beat_911 (by decide) ?_
        refine pw_goto 860 dL_beat_914 (by decide) ?_
        refine pw_fg (ls' := [some (.ref p), some (.ref (p + 1)), some (.ref (p + 2)), some (.ref (p + 3)), some (.ref (p + 4)), some (.ref (p + 5)), some (.int (msk L 6)), none, some (.int (nI hd)), none, some (.int (nI (k + 1))), none, none, none, none]) ⟨Or.inr rfl, Or.inr rfl, Or.inr rfl, Or.inr rfl, Or.inr rfl, Or.inr rfl, Or.inr rfl, Or.inl rfl, Or.inr rfl, Or.inl rfl, Or.inr rfl, Or.inl rfl, Or.inl rfl, Or.inl rfl, Or.inl rfl, trivial⟩ ?_
        have e9 : rsS L k D = setW D k 0 (bW D k 0 + nI 1) := by
          unfold rsS
          have h9 : wv ≠ 999 := fun e => h2 (by rw [ewv, e])
          rw [cif_n (fun h95 => h1 (hlw.mpr h95)), if_pos (by rw [ewv, nI_ltI (by omega) (by omega)]; omega)]
        rw [e9] at ih2
        exact ih2 _ hl2
      · skip
        refine pw_sipush (v := nI 999) dL_beat_897 (by decide) ?_
        refine pw_goto 910 dL_beat_900 (by decide) ?_
        refine pw_iastN dL_beat_910 hs.w (by omega) (by decide) ?_
        refine pw_gen (P := LU κ μ0 p (setW D k 0 (nI 999))) (hl1.wW k 0 (by omega) (by omega) (by omega)) (fun μ3 hl3 => ?_)
        refine pw_iincN_10 dL_beat_911 (by decide) ?_
        refine pw_goto 860 dL_beat_914 (by decide) ?_
        refine pw_fg (ls' := [some (.ref p), some (.ref (p + 1)), some (.ref (p + 2)), some (.ref (p + 3)), some (.ref (p + 4)), some (.ref (p + 5)), some (.int (msk L 6)), none, some (.int (nI hd)), none, some (.int (nI (k + 1))), none, none, none, none]) ⟨Or.inr rfl, Or.inr rfl, Or.inr rfl, Or.inr rfl, Or.inr rfl, Or.inr rfl, Or.inr rfl, Or.inl rfl, Or.inr rfl, Or.inl rfl, Or.inr rfl, Or.inl rfl, Or.inl rfl, Or.inl rfl, Or.inl rfl, trivial⟩ ?_
        have e9 : rsS L k D = setW D k 0 (nI 999) := by
          unfold rsS
          rw [cif_n (fun h95 => h1 (hlw.mpr h95)), if_neg (by rw [h2]; exact Int32.lt_irrefl)]
        rw [e9] at ih2
        exact ih2 _ hl3
    · skip
      refine pw_iconst (v := nI 0) dL_beat_882 (by decide) ?_
      refine pw_goto 910 dL_beat_883 (by decide) ?_
      refine pw_iastN dL_beat_910 hs.w (by omega) (by decide) ?_
      refine pw_gen (P := LU κ μ0 p (setW D k 0 (nI 0))) (hl1.wW k 0 (by omega) (by omega) (by omega)) (fun μ4 hl4 => ?_)
      refine pw_iincN_10 dL_beat_911 (by decide) ?_
      refine pw_goto 860 dL_beat_914 (by decide) ?_
      refine pw_fg (ls' := [some (.ref p), some (.ref (p + 1)), some (.ref (p + 2)), some (.ref (p + 3)), some (.ref (p + 4)), some (.ref (p + 5)), some (.int (msk L 6)), none, some (.int (nI hd)), none, some (.int (nI (k + 1))), none, none, none, none]) ⟨Or.inr rfl, Or.inr rfl, Or.inr rfl, Or.inr rfl, Or.inr rfl, Or.inr rfl, Or.inr rfl, Or.inl rfl, Or.inr rfl, Or.inl rfl, Or.inr rfl, Or.inl rfl, Or.inl rfl, Or.inl rfl, Or.inl rfl, trivial⟩ ?_
      have e9 : rsS L k D = setW D k 0 (nI 0) := by
        unfold rsS
        rw [cif_y (hlw.mp h1)]
      rw [e9] at ih2
      exact ih2 _ hl4
set_option maxRecDepth 100000 in
set_option maxHeartbeats 4000000 in
theorem k_beat {X : Cx} {σ : Sp} {μ : Mm} {Q : Int32 → Sp → Mm → Prop} {κ : Prop} {μ0 : Mm} {p n m9 : Nat} {B : Bs} (hs : ShL σ p) (hl : LU κ μ0 p B μ) (gd : GDn n B) (ht : WT m9 B) (hm9 : m9 < 131072) (q : ∀ ν, LU κ μ0 p (btO B) ν → Q (nI (btN B)) σ ν) : CTi X mL_beat [.ref p, .ref (p + 1), .ref (p + 2), .ref (p + 3), .ref (p + 4), .ref (p + 5)] σ μ Q := by
  refine CT.of (by decide +kernel) (Nat.le_of_ble_eq_true rfl) ?_
  show PW X mL_beat 0 0 0 [some (.ref p), some (.ref (p + 1)), some (.ref (p + 2)), some (.ref (p + 3)), some (.ref (p + 4)), some (.ref (p + 5)), none, none, none, none, none, none, none, none, none] [] σ μ (LI Q)
  refine pw_iconst (v := nI 0) dL_beat_0 (by decide) ?_
  refine pw_istore_6 dL_beat_1 (by decide) ?_
  refine pw_iconst (v := nI 0) dL_beat_3 (by decide) ?_
  refine pw_istore_7 dL_beat_4 (by decide) ?_
  refine pw_iconst (v := nI 0) dL_beat_6 (by decide) ?_
  refine pw_istore_8 dL_beat_7 (by decide) ?_
  refine pw_iconst (v := nI 0) dL_beat_9 (by decide) ?_
  refine pw_istore_9 dL_beat_10 (by decide) ?_
  refine bt_begin hs hl gd (fun ν1 h1 => ?_)
  have t1 : WT m9 (bgB B) := ht.eq (by rw [Fr_bg.1])
  refine bt_bits hs h1 gd.bg ?_
  refine bt_go hs h1 gd.bg t1 hm9 (fun ν2 h2 => ?_)
  have eg : itr (goP (lowB (bgB B)) (awB (bgB B)) n) n (bgB B, 0) = goB B := by unfold goB; rw [gd.hn]
  rw [eg] at h2 ⊢
  have gd2 : GDn n (goB B).1 := by rw [← eg]; exact gd.bg.gok t1 hm9 n (Nat.le_refl n)
  refine bt_ch hs h2 gd2 (fun ν3 h3 => ?_)
  have ec : itr (chS (lowB (bgB B))) n (goB B).1 = chB B := by unfold chB; rw [gd.hn]
  rw [ec] at h3
  have gd3 : GDn n (chB B) := by rw [← ec]; exact gd2.chk (Nat.le_refl n)
  refine bt_rs hs h3 gd3 (fun ν4 h4 => ?_)
  have er : setG (itr (rsS (lowB (bgB B))) 6 (chB B)) 5 (bG (itr (rsS (lowB (bgB B))) 6 (chB B)) 5 + nI 1) = btO B := by
    show setG (rsB B) 5 (bG (rsB B) 5 + nI 1) = setG (rsB B) 5 (bG B 5 + nI 1)
    rw [bt_G5]
  rw [er] at h4
  exact q _ h4
