/-! The law's beat: faults and bits -/
theorem told_or : ∀ i, i < 8 → ∀ x, x < 256 → nI (256 * i + x) = (nI i <<< (nI 8 &&& 31)) ||| nI x := by decide +kernel
theorem told_bt {B : Bs} {i v k : Nat} (hi : i < 8) (hv : v < 256) (hk : k ≤ 10) (e5 : bS B i 5 = nI v) (e17 : bS B i 17 = nI k) : nI (256 * i + v) >>> (nI (10 - k) &&& 31) &&& nI 1 = btB B i := by
  have h := bit_eq hi hv hk
  rw [← told_or i hi v hv, pk_sub (show k ≤ 10 from hk)] at h
  unfold btB
  rw [e5, e17, pk_sub (show k ≤ 10 from hk)]
  exact h
def lowK (B : Bs) (k : Nat) (w : Nat) : Prop := bW B w 1 = nI 1 ∨ ∃ s, s < k ∧ spB B s ∧ btB B s = nI 0 ∧ fwB B s = w
def btK (B : Bs) (s : Nat) : Prop := spB B s → btB B s = nI 1
theorem btB_01 (B : Bs) (i : Nat) : btB B i = nI 0 ∨ btB B i = nI 1 := by
  unfold btB
  split
  · exact bi_01 _ _
  · exact bi_01 _ _
theorem low_n {B : Bs} {k : Nat} (h : ¬ (spB B k ∧ btB B k = nI 0)) : msk (lowK B (k + 1)) 6 = msk (lowK B k) 6 := msk_cong fun w _ => by
  unfold lowK
  constructor
  · rintro (h1 | ⟨s, h1, h2, h3, h4⟩)
    · exact Or.inl h1
    · rcases Nat.lt_or_ge s k with g | g
      · exact Or.inr ⟨s, g, h2, h3, h4⟩
      · have : s = k := by omega
        subst this
        exact absurd ⟨h2, h3⟩ h
  · rintro (h1 | ⟨s, h1, h2, h3, h4⟩)
    · exact Or.inl h1
    · exact Or.inr ⟨s, by omega, h2, h3, h4⟩
theorem low_y {B : Bs} {k x : Nat} (h1 : spB B k) (h2 : btB B k = nI 0) (hx : fwB B k = x) (h6 : x < 6) : msk (lowK B (k + 1)) 6 = msk (lowK B k) 6 ||| (nI 1 <<< (nI x &&& 31)) := by
  rw [msk_or1 (by decide) h6]
  refine msk_cong fun w _ => ?_
  unfold lowK
  constructor
  · rintro (q | ⟨s, q1, q2, q3, q4⟩)
    · exact Or.inl (Or.inl q)
    · rcases Nat.lt_or_ge s k with g | g
      · exact Or.inl (Or.inr ⟨s, g, q2, q3, q4⟩)
      · have : s = k := by omega
        subst this
        exact Or.inr (hx.symm.trans q4)
  · rintro ((q | ⟨s, q1, q2, q3, q4⟩) | q)
    · exact Or.inl q
    · exact Or.inr ⟨s, by omega, q2, q3, q4⟩
    · exact Or.inr ⟨k, by omega, h1, h2, hx.trans q⟩
theorem zsh : ∀ j, j < 32 → nI 0 <<< (nI j &&& 31) = nI 0 := by decide +kernel
set_option maxRecDepth 100000 in
set_option maxHeartbeats 4000000 in
theorem bt_bits {X : Cx} {σ : Sp} {μ : Mm} {Q : Int32 → Sp → Mm → Prop} {κ : Prop} {μ0 : Mm} {p n : Nat} {B : Bs} (hs : ShL σ p) (hl : LU κ μ0 p B μ) (gd : GDn n B) (K : PW X mL_beat 0 0 285 [some (.ref p), some (.ref (p + 1)), some (.ref (p + 2)), some (.ref (p + 3)), some (.ref (p + 4)), some (.ref (p + 5)), some (.int (msk (lowB B) 6)), none, some (.int (nI 0)), some (.int (msk (btK B) n)), none, none, none, none, none] [] σ μ (LI Q)) : PW X mL_beat 0 0 151 [some (.ref p), some (.ref (p + 1)), some (.ref (p + 2)), some (.ref (p + 3)), some (.ref (p + 4)), some (.ref (p + 5)), some (.int (nI 0)), none, some (.int (nI 0)), none, none, none, none, none, none] [] σ μ (LI Q) := by
  have h8 := gd.n8
  have e0 : msk (fun v => bW B v 1 = nI 1) 0 = nI 0 := msk_0 (fun _ h95 => absurd h95 (Nat.not_lt_zero _))
  have L2 : PW X mL_beat 0 0 154 [some (.ref p), some (.ref (p + 1)), some (.ref (p + 2)), some (.ref (p + 3)), some (.ref (p + 4)), some (.ref (p + 5)), some (.int (msk (fun v => bW B v 1 = nI 1) 0)), none, some (.int (nI 0)), some (.int (nI 0)), none, none, none, none, none] [] σ μ (LI Q) := by
    refine pw_up (P := fun k => PW X mL_beat 0 0 154 [some (.ref p), some (.ref (p + 1)), some (.ref (p + 2)), some (.ref (p + 3)), some (.ref (p + 4)), some (.ref (p + 5)), some (.int (msk (fun v => bW B v 1 = nI 1) k)), none, some (.int (nI 0)), some (.int (nI k)), none, none, none, none, none] [] σ μ (LI Q)) 6 ?_ ?_ 0 (Nat.zero_le _)
    · skip
      refine pw_iload_9 dL_beat_154 ?_
      refine pw_bipush (v := nI 6) dL_beat_156 (by decide) ?_
      refine pw_icmp_ge 183 dL_beat_158 (by decide) (fun _ => ?_) (fun hh => absurd (by decide) hh)
      refine pw_iconst (v := nI 0) dL_beat_183 (by decide) ?_
      refine pw_istore_9 dL_beat_184 (by decide) ?_
      refine pw_iconst (v := nI 0) dL_beat_186 (by decide) ?_
      refine pw_istore_10 dL_beat_187 (by decide) ?_
      have e1 : msk (fun v => bW B v 1 = nI 1) 6 = msk (lowK B 0) 6 := msk_cong fun v _ => ⟨Or.inl, fun h95 => h95.elim id (fun ⟨s, h96, _⟩ => absurd h96 (Nat.not_lt_zero s))⟩
      have e2 : msk (btK B) 0 = nI 0 := msk_0 (fun _ h95 => absurd h95 (Nat.not_lt_zero _))
      rw [e1]
      refine pw_fg (ls' := [some (.ref p), some (.ref (p + 1)), some (.ref (p + 2)), some (.ref (p + 3)), some (.ref (p + 4)), some (.ref (p + 5)), some (.int (msk (lowK B 0) 6)), none, some (.int (nI 0)), some (.int (msk (btK B) 0)), some (.int (nI 0)), none, none, none, none]) (by rw [e2]; exact ⟨Or.inr rfl, Or.inr rfl, Or.inr rfl, Or.inr rfl, Or.inr rfl, Or.inr rfl, Or.inr rfl, Or.inl rfl, Or.inr rfl, Or.inr rfl, Or.inr rfl, Or.inl rfl, Or.inl rfl, Or.inl rfl, Or.inl rfl, trivial⟩) ?_
      refine pw_up (P := fun k => PW X mL_beat 0 0 189 [some (.ref p), some (.ref (p + 1)), some (.ref (p + 2)), some (.ref (p + 3)), some (.ref (p + 4)), some (.ref (p + 5)), some (.int (msk (lowK B k) 6)), none, some (.int (nI 0)), some (.int (msk (btK B) k)), some (.int (nI k)), none, none, none, none] [] σ μ (LI Q)) n ?_ ?_ 0 (Nat.zero_le _)
      · skip
        refine pw_iload_10 dL_beat_189 ?_
        refine pw_aload_5 dL_beat_191 ?_
        refine pw_bipush (v := nI 6) dL_beat_193 (by decide) ?_
        refine pw_ialdN dL_beat_195 hs.t (by omega) (by decide) ?_
        refine pw_top ((hl.t (by omega)).trans gd.g6) ?_
        refine pw_icmp_ge 285 dL_beat_196 (by decide) (fun _ => ?_) (fun hh => absurd (by rw [nI_leI (by omega) (by omega)]; omega) hh)
        refine pw_fg (ls' := [some (.ref p), some (.ref (p + 1)), some (.ref (p + 2)), some (.ref (p + 3)), some (.ref (p + 4)), some (.ref (p + 5)), some (.int (msk (lowK B n) 6)), none, some (.int (nI 0)), some (.int (msk (btK B) n)), none, none, none, none, none]) ⟨Or.inr rfl, Or.inr rfl, Or.inr rfl, Or.inr rfl, Or.inr rfl, Or.inr rfl, Or.inr rfl, Or.inl rfl, Or.inr rfl, Or.inr rfl, Or.inl rfl, Or.inl rfl, Or.inl rfl, Or.inl rfl, Or.inl rfl, trivial⟩ ?_
        have e3 : msk (lowK B n) 6 = msk (lowB B) 6 := msk_cong fun v _ => by unfold lowK lowB; rw [gd.hn]
        rw [e3]
        exact K
      · intro k hk ih
        refine pw_iload_10 dL_beat_189 ?_
        refine pw_aload_5 dL_beat_191 ?_
        refine pw_bipush (v := nI 6) dL_beat_193 (by decide) ?_
        refine pw_ialdN dL_beat_195 hs.t (by omega) (by decide) ?_
        refine pw_top ((hl.t (by omega)).trans gd.g6) ?_
        refine pw_icmp_ge 285 dL_beat_196 (by decide) (fun hh => absurd hh (by rw [nI_leI (by omega) (by omega)]; omega)) (fun _ => ?_)
        rcases Classical.em (spB B k) with sp1 | sp1
        · skip
          obtain ⟨h0, kk, kk10, kke, kkv⟩ := gd.sp hk sp1
          obtain ⟨v, x, y, hv, hx6, hy, e5, e6, e7⟩ := gd.wd hk h0
          have hq : μ (p + 2) k = nI (v + 256 * x + 2048 * y) := hl.word (by omega) h0 e5 e6 e7
          have hfw : fwB B k = x := by unfold fwB; rw [e6, nI_clamp (by omega)]
          refine pw_sipush (v := nI 256) dL_beat_199 (by decide) ?_
          refine pw_iload_10 dL_beat_202 ?_
          refine pw_imulN dL_beat_204 ?_
          refine pw_aload_2 dL_beat_205 ?_
          refine pw_iload_10 dL_beat_206 ?_
          refine pw_ialdN dL_beat_208 hs.q (by omega) (by decide) ?_
          refine pw_top hq ?_
          refine pw_sipush (v := nI 256) dL_beat_209 (by decide) ?_
          refine pw_irem dL_beat_212 (by decide) ?_
          refine pw_top ((pk_rem (d := 256) (by omega) (by decide) (by decide)).trans (congrArg nI (show (v + 256 * x + 2048 * y) % 256 = v by omega))) ?_
          refine pw_iaddN dL_beat_213 ?_
          refine pw_istore_11 dL_beat_214 (by decide) ?_
          refine pw_aload_0 dL_beat_216 ?_
          refine pw_bipush (v := nI 40) dL_beat_217 (by decide) ?_
          refine pw_iload_10 dL_beat_219 ?_
          refine pw_iaddN dL_beat_221 ?_
          refine pw_ialdN dL_beat_222 hs.a (by omega) (by decide) ?_
          refine pw_top ((hl.a5 (i := k) (by omega) (by omega)).trans kkv) ?_
          refine pw_if_ge 230 dL_beat_223 (by decide) (fun _ => ?_) (fun hh => absurd (nI_pos' (by omega)) hh)
          refine pw_iload_11 dL_beat_230 ?_
          refine pw_bipush (v := nI 10) dL_beat_232 (by decide) ?_
          refine pw_aload_0 dL_beat_234 ?_
          refine pw_bipush (v := nI 40) dL_beat_235 (by decide) ?_
          refine pw_iload_10 dL_beat_237 ?_
          refine pw_iaddN dL_beat_239 ?_
          refine pw_ialdN dL_beat_240 hs.a (by omega) (by decide) ?_
          refine pw_top ((hl.a5 (i := k) (by omega) (by omega)).trans kkv) ?_
          refine pw_isubN dL_beat_241 (by omega) ?_
          refine pw_ishr dL_beat_242 ?_
          refine pw_iconst (v := nI 1) dL_beat_243 (by decide) ?_
          refine pw_iand dL_beat_244 ?_
          refine pw_top (told_bt (by omega) hv kk10 e5 kke) ?_
          rcases btB_01 B k with bt1 | bt1
          · skip
            refine pw_top bt1 ?_
            refine pw_istore_12 dL_beat_245 (by decide) ?_
            refine pw_iload_9 dL_beat_247 ?_
            refine pw_iload_12 dL_beat_249 ?_
            refine pw_iload_10 dL_beat_251 ?_
            refine pw_ishl dL_beat_253 ?_
            refine pw_ior dL_beat_254 ?_
            refine pw_istore_9 dL_beat_255 (by decide) ?_
            refine pw_iload_6 dL_beat_257 ?_
            refine pw_iload_12 dL_beat_259 ?_
            refine pw_if_ne 275 dL_beat_261 (by decide) (fun hh => absurd hh (by decide)) (fun _ => ?_)
            refine pw_iconst (v := nI 1) dL_beat_264 (by decide) ?_
            refine pw_aload_2 dL_beat_265 ?_
            refine pw_iload_10 dL_beat_266 ?_
            refine pw_cS2i dL_beat_268 kL_10 vL_wireOf sL_wireOf ⟨by decide, by decide⟩ ⟨rfl, rfl⟩ (Nat.le_of_ble_eq_true rfl) (c_wireOf (x := x) hs.q (by omega) (hl.word (by omega) h0 e5 e6 e7) (by omega) (by omega) ?_)
            refine pw_ishl dL_beat_271 ?_
            refine pw_goto 276 dL_beat_272 (by decide) ?_
            refine pw_ior dL_beat_276 ?_
            refine pw_istore_6 dL_beat_277 (by decide) ?_
            refine pw_iincN_10 dL_beat_279 (by decide) ?_
            refine pw_goto 189 dL_beat_282 (by decide) ?_
            have e3 := low_y sp1 bt1 hfw hx6
            have e4 : msk (btK B) (k + 1) = msk (btK B) k ||| (nI 0 <<< (nI k &&& 31)) := by
              rw [zsh k (by omega), or_0]
              exact msk_n (fun h95 => absurd ((h95 sp1).symm.trans bt1) (by decide))
            rw [e3, e4] at ih
            refine pw_fg (ls' := [some (.ref p), some (.ref (p + 1)), some (.ref (p + 2)), some (.ref (p + 3)), some (.ref (p + 4)), some (.ref (p + 5)), _, none, some (.int (nI 0)), _, some (.int (nI (k + 1))), none, none, none, none]) ⟨Or.inr rfl, Or.inr rfl, Or.inr rfl, Or.inr rfl, Or.inr rfl, Or.inr rfl, Or.inr rfl, Or.inl rfl, Or.inr rfl, Or.inr rfl, Or.inr rfl, Or.inl rfl, Or.inl rfl, Or.inl rfl, Or.inl rfl, trivial⟩ ?_
            exact ih
          · skip
            refine pw_top bt1 ?_
            refine pw_istore_12 dL_beat_245 (by decide) ?_
            refine pw_iload_9 dL_beat_247 ?_
            refine pw_iload_12 dL_beat_249 ?_
            refine pw_iload_10 dL_beat_251 ?_
            refine pw_ishl dL_beat_253 ?_
            refine pw_ior dL_beat_254 ?_
            refine pw_istore_9 dL_beat_255 (by decide) ?_
            refine pw_iload_6 dL_beat_257 ?_
            refine pw_iload_12 dL_beat_259 ?_
            refine pw_if_ne 275 dL_beat_261 (by decide) (fun _ => ?_) (fun hh => absurd hh (by decide))
            refine pw_iconst (v := nI 0) dL_beat_275 (by decide) ?_
            refine pw_ior dL_beat_276 ?_
            refine pw_top (or_0 _) ?_
            refine pw_istore_6 dL_beat_277 (by decide) ?_
            refine pw_iincN_10 dL_beat_279 (by decide) ?_
            refine pw_goto 189 dL_beat_282 (by decide) ?_
            have e3 := low_n (B := B) (k := k) (fun h95 => absurd (h95.2.symm.trans bt1) (by decide))
            have e4 : msk (btK B) (k + 1) = msk (btK B) k ||| (nI 1 <<< (nI k &&& 31)) := msk_y (fun _ => bt1)
            rw [e3, e4] at ih
            refine pw_fg (ls' := [some (.ref p), some (.ref (p + 1)), some (.ref (p + 2)), some (.ref (p + 3)), some (.ref (p + 4)), some (.ref (p + 5)), _, none, some (.int (nI 0)), _, some (.int (nI (k + 1))), none, none, none, none]) ⟨Or.inr rfl, Or.inr rfl, Or.inr rfl, Or.inr rfl, Or.inr rfl, Or.inr rfl, Or.inr rfl, Or.inl rfl, Or.inr rfl, Or.inr rfl, Or.inr rfl, Or.inl rfl, Or.inl rfl, Or.inl rfl, Or.inl rfl, trivial⟩ ?_
            exact ih
        · skip
          refine pw_sipush (v := nI 256) dL_beat_199 (by decide) ?_
          refine pw_iload_10 dL_beat_202 ?_
          refine pw_imulN dL_beat_204 ?_
          refine pw_aload_2 dL_beat_205 ?_
          refine pw_iload_10 dL_beat_206 ?_
          refine pw_ialdN dL_beat_208 hs.q (by omega) (by decide) ?_
          refine pw_sipush (v := nI 256) dL_beat_209 (by decide) ?_
          refine pw_irem dL_beat_212 (by decide) ?_
          refine pw_iadd dL_beat_213 ?_
          refine pw_istore_11 dL_beat_214 (by decide) ?_
          refine pw_aload_0 dL_beat_216 ?_
          refine pw_bipush (v := nI 40) dL_beat_217 (by decide) ?_
          refine pw_iload_10 dL_beat_219 ?_
          refine pw_iaddN dL_beat_221 ?_
          refine pw_ialdN dL_beat_222 hs.a (by omega) (by decide) ?_
          refine pw_top ((hl.a5 (i := k) (by omega) (by omega)).trans (spV_no sp1)) ?_
          refine pw_if_ge 230 dL_beat_223 (by decide) (fun hh => absurd hh m1_neg) (fun _ => ?_)
          refine pw_iconst (v := nI 1) dL_beat_226 (by decide) ?_
          refine pw_goto 245 dL_beat_227 (by decide) ?_
          refine pw_istore_12 dL_beat_245 (by decide) ?_
          refine pw_iload_9 dL_beat_247 ?_
          refine pw_iload_12 dL_beat_249 ?_
          refine pw_iload_10 dL_beat_251 ?_
          refine pw_ishl dL_beat_253 ?_
          refine pw_ior dL_beat_254 ?_
          refine pw_istore_9 dL_beat_255 (by decide) ?_
          refine pw_iload_6 dL_beat_257 ?_
          refine pw_iload_12 dL_beat_259 ?_
          refine pw_if_ne 275 dL_beat_261 (by decide) (fun _ => ?_) (fun hh => absurd hh (by decide))
          refine pw_iconst (v := nI 0) dL_beat_275 (by decide) ?_
          refine pw_ior dL_beat_276 ?_
          refine pw_top (or_0 _) ?_
          refine pw_istore_6 dL_beat_277 (by decide) ?_
          refine pw_iincN_10 dL_beat_279 (by decide) ?_
          refine pw_goto 189 dL_beat_282 (by decide) ?_
          have e3 := low_n (B := B) (k := k) (fun h95 => sp1 h95.1)
          have e4 : msk (btK B) (k + 1) = msk (btK B) k ||| (nI 1 <<< (nI k &&& 31)) := msk_y (fun h95 => absurd h95 sp1)
          rw [e3, e4] at ih
          refine pw_fg (ls' := [some (.ref p), some (.ref (p + 1)), some (.ref (p + 2)), some (.ref (p + 3)), some (.ref (p + 4)), some (.ref (p + 5)), _, none, some (.int (nI 0)), _, some (.int (nI (k + 1))), none, none, none, none]) ⟨Or.inr rfl, Or.inr rfl, Or.inr rfl, Or.inr rfl, Or.inr rfl, Or.inr rfl, Or.inr rfl, Or.inl rfl, Or.inr rfl, Or.inr rfl, Or.inr rfl, Or.inl rfl, Or.inl rfl, Or.inl rfl, Or.inl rfl, trivial⟩ ?_
          exact ih
    · intro k hk ih
      refine pw_iload_9 dL_beat_154 ?_
      refine pw_bipush (v := nI 6) dL_beat_156 (by decide) ?_
      refine pw_icmp_ge 183 dL_beat_158 (by decide) (fun hh => absurd hh (by rw [nI_leI (by omega) (by omega)]; omega)) (fun _ => ?_)
      refine pw_iload_6 dL_beat_161 ?_
      refine pw_aload_4 dL_beat_163 ?_
      refine pw_bipush (v := nI 6) dL_beat_165 (by decide) ?_
      refine pw_iload_9 dL_beat_167 ?_
      refine pw_iaddN dL_beat_169 ?_
      refine pw_ialdN dL_beat_170 hs.w (by omega) (by decide) ?_
      refine pw_top (hl.rw k 1 (by omega) (by omega) (by omega)) ?_
      refine pw_iload_9 dL_beat_171 ?_
      refine pw_ishl dL_beat_173 ?_
      refine pw_ior dL_beat_174 ?_
      refine pw_istore_6 dL_beat_175 (by decide) ?_
      refine pw_iincN_9 dL_beat_177 (by decide) ?_
      refine pw_goto 154 dL_beat_180 (by decide) ?_
      have e8 : msk (fun v => bW B v 1 = nI 1) (k + 1) = msk (fun v => bW B v 1 = nI 1) k ||| (bW B k 1 <<< (nI k &&& 31)) := by
        rcases (gd.wf.2.2.1 k hk).2 with g | g
        · rw [g, zsh k (by omega), or_0]
          exact msk_n (fun h95 => absurd (g.symm.trans h95) (by decide))
        · rw [g]
          exact msk_y g
      rw [e8] at ih
      exact ih
  refine pw_iconst (v := nI 0) dL_beat_151 (by decide) ?_
  refine pw_istore_9 dL_beat_152 (by decide) ?_
  rw [e0] at L2
  exact L2
