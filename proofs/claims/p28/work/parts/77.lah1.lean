/-! The law's look ahead: nine hundred beats -/
set_option maxRecDepth 100000 in
set_option maxHeartbeats 4000000 in
theorem ah_262 {X : Cx} {σ : Sp} {μ : Mm} {Q : Int32 → Sp → Mm → Prop} {κ : Prop} {ν0 : Mm} {o p p2 n i m m9 : Nat} {hx : Int32} {B : Bs} (hs : ShL σ p) (hs2 : ShL σ p2) (hl : LU κ ν0 p2 (bk B m) μ) (hp : LU κ ν0 p B ν0) (h12 : p + 6 ≤ p2) (gd : GDn n B) (ht : WT m9 B) (hm9 : m9 ≤ 4000) (hi : i < n) (hm : m < 901) (ih : ∀ e hw qv sv ν, LU κ ν0 p2 (bk B (m + 1)) ν → EH B i (m + 1) e hw → FI (quP B) (m + 1) qv → FI (fun k => k ≤ 600 ∧ slP B i k) (m + 1) sv → PW X mL_ahead 0 0 106 [some (.ref o), some (.ref p), some (.ref (p + 1)), some (.ref (p + 2)), some (.ref (p + 3)), some (.ref (p + 4)), some (.ref (p + 5)), some (.int hx), some (.ref p2), some (.ref (p2 + 1)), some (.ref (p2 + 2)), some (.ref (p2 + 3)), some (.ref (p2 + 4)), some (.ref (p2 + 5)), some (.int (nI i)), some (.int e), some (.int hw), some (.int qv), some (.int sv), some (.int (nI (m + 1))), none, none, none, none, none, none, none] [] σ ν (LI Q)) {e hw qv sv : Int32} (he : EH B i (m + 1) e hw) (hq : FI (quP B) (m + 1) qv) (hsv : FI (fun k => k ≤ 600 ∧ slP B i k) (m + 1) sv) : PW X mL_ahead 0 0 262 [some (.ref o), some (.ref p), some (.ref (p + 1)), some (.ref (p + 2)), some (.ref (p + 3)), some (.ref (p + 4)), some (.ref (p + 5)), some (.int hx), some (.ref p2), some (.ref (p2 + 1)), some (.ref (p2 + 2)), some (.ref (p2 + 3)), some (.ref (p2 + 4)), some (.ref (p2 + 5)), some (.int (nI i)), some (.int e), some (.int hw), some (.int qv), some (.int sv), some (.int (nI m)), none, none, none, none, none, none, none] [] σ μ (LI Q) := by
  have h8 := gd.n8
  have hiS : i < nS B := by rw [gd.hn]; exact hi
  obtain ⟨gdC, htC⟩ := gd.bkk ht m (by omega)
  have hlp : LU κ μ p B μ := hp.mv (fun a a1 a2 => hl.out (by omega))
  refine pw_aload_8 dL_ahead_262 ?_
  refine pw_aload_9 dL_ahead_264 ?_
  refine pw_aload_10 dL_ahead_266 ?_
  refine pw_aload_11 dL_ahead_268 ?_
  refine pw_aload_12 dL_ahead_270 ?_
  refine pw_aload_13 dL_ahead_272 ?_
  refine pw_cS6i dL_ahead_274 kL_66 vL_beat sL_beat ⟨by decide, by decide⟩ ⟨rfl, rfl⟩ (Nat.le_of_ble_eq_true rfl) (k_beat hs2 hl gdC htC (by omega) (fun ν1 hl1 => ?_))
  refine pw_pop dL_ahead_277 ?_
  refine pw_iincN_19 dL_ahead_278 (by decide) ?_
  refine pw_goto 106 dL_ahead_281 (by decide) ?_
  refine pw_fg (ls' := [some (.ref o), some (.ref p), some (.ref (p + 1)), some (.ref (p + 2)), some (.ref (p + 3)), some (.ref (p + 4)), some (.ref (p + 5)), some (.int hx), some (.ref p2), some (.ref (p2 + 1)), some (.ref (p2 + 2)), some (.ref (p2 + 3)), some (.ref (p2 + 4)), some (.ref (p2 + 5)), some (.int (nI i)), some (.int e), some (.int hw), some (.int qv), some (.int sv), some (.int (nI (m + 1))), none, none, none, none, none, none, none]) ⟨Or.inr rfl, Or.inr rfl, Or.inr rfl, Or.inr rfl, Or.inr rfl, Or.inr rfl, Or.inr rfl, Or.inr rfl, Or.inr rfl, Or.inr rfl, Or.inr rfl, Or.inr rfl, Or.inr rfl, Or.inr rfl, Or.inr rfl, Or.inr rfl, Or.inr rfl, Or.inr rfl, Or.inr rfl, Or.inr rfl, Or.inl rfl, Or.inl rfl, Or.inl rfl, Or.inl rfl, Or.inl rfl, Or.inl rfl, Or.inl rfl, trivial⟩ ?_
  exact ih e hw qv sv ν1 hl1 he hq hsv
set_option maxRecDepth 100000 in
set_option maxHeartbeats 4000000 in
theorem ah_228 {X : Cx} {σ : Sp} {μ : Mm} {Q : Int32 → Sp → Mm → Prop} {κ : Prop} {ν0 : Mm} {o p p2 n i m m9 : Nat} {hx : Int32} {B : Bs} (hs : ShL σ p) (hs2 : ShL σ p2) (hl : LU κ ν0 p2 (bk B m) μ) (hp : LU κ ν0 p B ν0) (h12 : p + 6 ≤ p2) (gd : GDn n B) (ht : WT m9 B) (hm9 : m9 ≤ 4000) (hi : i < n) (hm : m < 901) (ih : ∀ e hw qv sv ν, LU κ ν0 p2 (bk B (m + 1)) ν → EH B i (m + 1) e hw → FI (quP B) (m + 1) qv → FI (fun k => k ≤ 600 ∧ slP B i k) (m + 1) sv → PW X mL_ahead 0 0 106 [some (.ref o), some (.ref p), some (.ref (p + 1)), some (.ref (p + 2)), some (.ref (p + 3)), some (.ref (p + 4)), some (.ref (p + 5)), some (.int hx), some (.ref p2), some (.ref (p2 + 1)), some (.ref (p2 + 2)), some (.ref (p2 + 3)), some (.ref (p2 + 4)), some (.ref (p2 + 5)), some (.int (nI i)), some (.int e), some (.int hw), some (.int qv), some (.int sv), some (.int (nI (m + 1))), none, none, none, none, none, none, none] [] σ ν (LI Q)) {e hw qv sv : Int32} (he : EH B i (m + 1) e hw) (hq : FI (quP B) (m + 1) qv) (hsv : FI (fun k => k ≤ 600 ∧ slP B i k) m sv) : PW X mL_ahead 0 0 228 [some (.ref o), some (.ref p), some (.ref (p + 1)), some (.ref (p + 2)), some (.ref (p + 3)), some (.ref (p + 4)), some (.ref (p + 5)), some (.int hx), some (.ref p2), some (.ref (p2 + 1)), some (.ref (p2 + 2)), some (.ref (p2 + 3)), some (.ref (p2 + 4)), some (.ref (p2 + 5)), some (.int (nI i)), some (.int e), some (.int hw), some (.int qv), some (.int sv), some (.int (nI m)), none, none, none, none, none, none, none] [] σ μ (LI Q) := by
  have h8 := gd.n8
  have hiS : i < nS B := by rw [gd.hn]; exact hi
  obtain ⟨gdC, htC⟩ := gd.bkk ht m (by omega)
  have hlp : LU κ μ p B μ := hp.mv (fun a a1 a2 => hl.out (by omega))
  refine pw_iload_18 dL_ahead_228 ?_
  rcases hsv.cs with x1 | ⟨k1, k1b, x1⟩
  · skip
    subst x1
    refine pw_if_ge 258 dL_ahead_230 (by decide) (fun hh => absurd hh m6_lt) (fun _ => ?_)
    refine pw_iload_19 dL_ahead_233 ?_
    refine pw_sipush (v := nI 600) dL_ahead_235 (by decide) ?_
    rcases Nat.lt_or_ge 600 m with g1 | g1
    · skip
      refine pw_icmp_gt 258 dL_ahead_238 (by decide) (fun _ => ?_) (fun hh => absurd (nI_lt g1 (by omega)) hh)
      refine pw_iload_18 dL_ahead_258 ?_
      refine pw_istore_18 dL_ahead_260 (by decide) ?_
      refine pw_fg (ls' := [some (.ref o), some (.ref p), some (.ref (p + 1)), some (.ref (p + 2)), some (.ref (p + 3)), some (.ref (p + 4)), some (.ref (p + 5)), some (.int hx), some (.ref p2), some (.ref (p2 + 1)), some (.ref (p2 + 2)), some (.ref (p2 + 3)), some (.ref (p2 + 4)), some (.ref (p2 + 5)), some (.int (nI i)), some (.int e), some (.int hw), some (.int qv), some (.int ((-6))), some (.int (nI m)), none, none, none, none, none, none, none]) ⟨Or.inr rfl, Or.inr rfl, Or.inr rfl, Or.inr rfl, Or.inr rfl, Or.inr rfl, Or.inr rfl, Or.inr rfl, Or.inr rfl, Or.inr rfl, Or.inr rfl, Or.inr rfl, Or.inr rfl, Or.inr rfl, Or.inr rfl, Or.inr rfl, Or.inr rfl, Or.inr rfl, Or.inr rfl, Or.inr rfl, Or.inl rfl, Or.inl rfl, Or.inl rfl, Or.inl rfl, Or.inl rfl, Or.inl rfl, Or.inl rfl, trivial⟩ ?_
      exact ah_262 hs hs2 hl hp h12 gd ht hm9 hi hm ih he hq (hsv.n (by omega) (fun h95 => absurd h95.1 (by omega)))
    · skip
      refine pw_icmp_gt 258 dL_ahead_238 (by decide) (fun hh => absurd hh (nI_nlt g1 (by omega))) (fun _ => ?_)
      refine pw_aload_8 dL_ahead_241 ?_
      refine pw_bipush (v := nI 16) dL_ahead_243 (by decide) ?_
      refine pw_iload_14 dL_ahead_245 ?_
      refine pw_iaddN dL_ahead_247 ?_
      refine pw_ialdN dL_ahead_248 hs2.a (by omega) (by decide) ?_
      refine pw_top (hl.a2 (i := i) (by omega) (by omega)) ?_
      refine pw_iconst (v := nI 1) dL_ahead_249 (by decide) ?_
      refine pw_icmp_ne 258 dL_ahead_250 (by decide) (fun h2 => ?_) (fun h2 => ?_)
      · skip
        refine pw_iload_18 dL_ahead_258 ?_
        refine pw_istore_18 dL_ahead_260 (by decide) ?_
        refine pw_fg (ls' := [some (.ref o), some (.ref p), some (.ref (p + 1)), some (.ref (p + 2)), some (.ref (p + 3)), some (.ref (p + 4)), some (.ref (p + 5)), some (.int hx), some (.ref p2), some (.ref (p2 + 1)), some (.ref (p2 + 2)), some (.ref (p2 + 3)), some (.ref (p2 + 4)), some (.ref (p2 + 5)), some (.int (nI i)), some (.int e), some (.int hw), some (.int qv), some (.int ((-6))), some (.int (nI m)), none, none, none, none, none, none, none]) ⟨Or.inr rfl, Or.inr rfl, Or.inr rfl, Or.inr rfl, Or.inr rfl, Or.inr rfl, Or.inr rfl, Or.inr rfl, Or.inr rfl, Or.inr rfl, Or.inr rfl, Or.inr rfl, Or.inr rfl, Or.inr rfl, Or.inr rfl, Or.inr rfl, Or.inr rfl, Or.inr rfl, Or.inr rfl, Or.inr rfl, Or.inl rfl, Or.inl rfl, Or.inl rfl, Or.inl rfl, Or.inl rfl, Or.inl rfl, Or.inl rfl, trivial⟩ ?_
        exact ah_262 hs hs2 hl hp h12 gd ht hm9 hi hm ih he hq (hsv.n (by omega) (fun h95 => h95.2 (((gdC.s hi).2.1.1).resolve_right h2)))
      · skip
        refine pw_iload_19 dL_ahead_253 ?_
        refine pw_goto 260 dL_ahead_255 (by decide) ?_
        refine pw_istore_18 dL_ahead_260 (by decide) ?_
        refine pw_fg (ls' := [some (.ref o), some (.ref p), some (.ref (p + 1)), some (.ref (p + 2)), some (.ref (p + 3)), some (.ref (p + 4)), some (.ref (p + 5)), some (.int hx), some (.ref p2), some (.ref (p2 + 1)), some (.ref (p2 + 2)), some (.ref (p2 + 3)), some (.ref (p2 + 4)), some (.ref (p2 + 5)), some (.int (nI i)), some (.int e), some (.int hw), some (.int qv), some (.int (nI m)), some (.int (nI m)), none, none, none, none, none, none, none]) ⟨Or.inr rfl, Or.inr rfl, Or.inr rfl, Or.inr rfl, Or.inr rfl, Or.inr rfl, Or.inr rfl, Or.inr rfl, Or.inr rfl, Or.inr rfl, Or.inr rfl, Or.inr rfl, Or.inr rfl, Or.inr rfl, Or.inr rfl, Or.inr rfl, Or.inr rfl, Or.inr rfl, Or.inr rfl, Or.inr rfl, Or.inl rfl, Or.inl rfl, Or.inl rfl, Or.inl rfl, Or.inl rfl, Or.inl rfl, Or.inl rfl, trivial⟩ ?_
        exact ah_262 hs hs2 hl hp h12 gd ht hm9 hi hm ih he hq (hsv.y (by omega) ⟨g1, fun h95 => absurd (h95.symm.trans h2) (by decide)⟩)
  · skip
    subst x1
    refine pw_if_ge 258 dL_ahead_230 (by decide) (fun _ => ?_) (fun hh => absurd (nI_pos' (by omega)) hh)
    refine pw_iload_18 dL_ahead_258 ?_
    refine pw_istore_18 dL_ahead_260 (by decide) ?_
    refine pw_fg (ls' := [some (.ref o), some (.ref p), some (.ref (p + 1)), some (.ref (p + 2)), some (.ref (p + 3)), some (.ref (p + 4)), some (.ref (p + 5)), some (.int hx), some (.ref p2), some (.ref (p2 + 1)), some (.ref (p2 + 2)), some (.ref (p2 + 3)), some (.ref (p2 + 4)), some (.ref (p2 + 5)), some (.int (nI i)), some (.int e), some (.int hw), some (.int qv), some (.int (nI k1)), some (.int (nI m)), none, none, none, none, none, none, none]) ⟨Or.inr rfl, Or.inr rfl, Or.inr rfl, Or.inr rfl, Or.inr rfl, Or.inr rfl, Or.inr rfl, Or.inr rfl, Or.inr rfl, Or.inr rfl, Or.inr rfl, Or.inr rfl, Or.inr rfl, Or.inr rfl, Or.inr rfl, Or.inr rfl, Or.inr rfl, Or.inr rfl, Or.inr rfl, Or.inr rfl, Or.inl rfl, Or.inl rfl, Or.inl rfl, Or.inl rfl, Or.inl rfl, Or.inl rfl, Or.inl rfl, trivial⟩ ?_
    exact ah_262 hs hs2 hl hp h12 gd ht hm9 hi hm ih he hq (hsv.k (by omega))
set_option maxRecDepth 100000 in
set_option maxHeartbeats 4000000 in
theorem ah_168 {X : Cx} {σ : Sp} {μ : Mm} {Q : Int32 → Sp → Mm → Prop} {κ : Prop} {ν0 : Mm} {o p p2 n i m m9 : Nat} {hx : Int32} {B : Bs} (hs : ShL σ p) (hs2 : ShL σ p2) (hl : LU κ ν0 p2 (bk B m) μ) (hp : LU κ ν0 p B ν0) (h12 : p + 6 ≤ p2) (gd : GDn n B) (ht : WT m9 B) (hm9 : m9 ≤ 4000) (hi : i < n) (hm : m < 901) (ih : ∀ e hw qv sv ν, LU κ ν0 p2 (bk B (m + 1)) ν → EH B i (m + 1) e hw → FI (quP B) (m + 1) qv → FI (fun k => k ≤ 600 ∧ slP B i k) (m + 1) sv → PW X mL_ahead 0 0 106 [some (.ref o), some (.ref p), some (.ref (p + 1)), some (.ref (p + 2)), some (.ref (p + 3)), some (.ref (p + 4)), some (.ref (p + 5)), some (.int hx), some (.ref p2), some (.ref (p2 + 1)), some (.ref (p2 + 2)), some (.ref (p2 + 3)), some (.ref (p2 + 4)), some (.ref (p2 + 5)), some (.int (nI i)), some (.int e), some (.int hw), some (.int qv), some (.int sv), some (.int (nI (m + 1))), none, none, none, none, none, none, none] [] σ ν (LI Q)) {e hw qv sv : Int32} (he : EH B i m e hw) (hq : FI (quP B) (m + 1) qv) (hsv : FI (fun k => k ≤ 600 ∧ slP B i k) m sv) : PW X mL_ahead 0 0 168 [some (.ref o), some (.ref p), some (.ref (p + 1)), some (.ref (p + 2)), some (.ref (p + 3)), some (.ref (p + 4)), some (.ref (p + 5)), some (.int hx), some (.ref p2), some (.ref (p2 + 1)), some (.ref (p2 + 2)), some (.ref (p2 + 3)), some (.ref (p2 + 4)), some (.ref (p2 + 5)), some (.int (nI i)), some (.int e), some (.int hw), some (.int qv), some (.int sv), some (.int (nI m)), none, none, none, none, none, none, none] [] σ μ (LI Q) := by
  have h8 := gd.n8
  have hiS : i < nS B := by rw [gd.hn]; exact hi
  obtain ⟨gdC, htC⟩ := gd.bkk ht m (by omega)
  have hlp : LU κ μ p B μ := hp.mv (fun a a1 a2 => hl.out (by omega))
  have w4 := (gd.s hi).w.2
  have w5 := (gdC.s hi).w.2
  refine pw_iload_15 dL_ahead_168 ?_
  rcases he with ⟨rfl, rfl, hno⟩ | ⟨k1, k1b, hk1, hk2, rfl, rfl⟩
  · skip
    refine pw_if_ge 228 dL_ahead_170 (by decide) (fun hh => absurd hh m6_lt) (fun _ => ?_)
    refine pw_iload_19 dL_ahead_173 ?_
    refine pw_sipush (v := nI 600) dL_ahead_175 (by decide) ?_
    rcases Nat.lt_or_ge 600 m with g1 | g1
    · skip
      refine pw_icmp_gt 228 dL_ahead_178 (by decide) (fun _ => ?_) (fun hh => absurd (nI_lt g1 (by omega)) hh)
      refine pw_fg (ls' := [some (.ref o), some (.ref p), some (.ref (p + 1)), some (.ref (p + 2)), some (.ref (p + 3)), some (.ref (p + 4)), some (.ref (p + 5)), some (.int hx), some (.ref p2), some (.ref (p2 + 1)), some (.ref (p2 + 2)), some (.ref (p2 + 3)), some (.ref (p2 + 4)), some (.ref (p2 + 5)), some (.int (nI i)), some (.int ((-6))), some (.int ((-6))), some (.int qv), some (.int sv), some (.int (nI m)), none, none, none, none, none, none, none]) ⟨Or.inr rfl, Or.inr rfl, Or.inr rfl, Or.inr rfl, Or.inr rfl, Or.inr rfl, Or.inr rfl, Or.inr rfl, Or.inr rfl, Or.inr rfl, Or.inr rfl, Or.inr rfl, Or.inr rfl, Or.inr rfl, Or.inr rfl, Or.inr rfl, Or.inr rfl, Or.inr rfl, Or.inr rfl, Or.inr rfl, Or.inl rfl, Or.inl rfl, Or.inl rfl, Or.inl rfl, Or.inl rfl, Or.inl rfl, Or.inl rfl, trivial⟩ ?_
      exact ah_228 hs hs2 hl hp h12 gd ht hm9 hi hm ih (Or.inl ⟨rfl, rfl, fun j hj => (Nat.lt_or_ge j m).elim (hno j) (fun g9 => by rw [show j = m by omega]; exact (fun h95 => absurd h95.1 (by omega)))⟩) hq hsv
    · skip
      refine pw_icmp_gt 228 dL_ahead_178 (by decide) (fun hh => absurd hh (nI_nlt g1 (by omega))) (fun _ => ?_)
      refine pw_aload_8 dL_ahead_181 ?_
      refine pw_bipush (v := nI 32) dL_ahead_183 (by decide) ?_
      refine pw_iload_14 dL_ahead_185 ?_
      refine pw_iaddN dL_ahead_187 ?_
      refine pw_ialdN dL_ahead_188 hs2.a (by omega) (by decide) ?_
      refine pw_top ((hl.a4 (i := i) (by omega) (by omega)).trans ((gdC.s (i := i) (by omega)).w).1) ?_
      refine pw_aload_1 dL_ahead_189 ?_
      refine pw_bipush (v := nI 32) dL_ahead_190 (by decide) ?_
      refine pw_iload_14 dL_ahead_192 ?_
      refine pw_iaddN dL_ahead_194 ?_
      refine pw_ialdN dL_ahead_195 hs.a (by omega) (by decide) ?_
      refine pw_top ((hlp.a4 (i := i) (by omega) (by omega)).trans (gd.s hi).w.1) ?_
      refine pw_icmp_ge 228 dL_ahead_196 (by decide) (fun h2 => ?_) (fun h2 => ?_)
      · skip
        refine pw_fg (ls' := [some (.ref o), some (.ref p), some (.ref (p + 1)), some (.ref (p + 2)), some (.ref (p + 3)), some (.ref (p + 4)), some (.ref (p + 5)), some (.int hx), some (.ref p2), some (.ref (p2 + 1)), some (.ref (p2 + 2)), some (.ref (p2 + 3)), some (.ref (p2 + 4)), some (.ref (p2 + 5)), some (.int (nI i)), some (.int ((-6))), some (.int ((-6))), some (.int qv), some (.int sv), some (.int (nI m)), none, none, none, none, none, none, none]) ⟨Or.inr rfl, Or.inr rfl, Or.inr rfl, Or.inr rfl, Or.inr rfl, Or.inr rfl, Or.inr rfl, Or.inr rfl, Or.inr rfl, Or.inr rfl, Or.inr rfl, Or.inr rfl, Or.inr rfl, Or.inr rfl, Or.inr rfl, Or.inr rfl, Or.inr rfl, Or.inr rfl, Or.inr rfl, Or.inr rfl, Or.inl rfl, Or.inl rfl, Or.inl rfl, Or.inl rfl, Or.inl rfl, Or.inl rfl, Or.inl rfl, trivial⟩ ?_
        exact ah_228 hs hs2 hl hp h12 gd ht hm9 hi hm ih (Or.inl ⟨rfl, rfl, fun j hj => (Nat.lt_or_ge j m).elim (hno j) (fun g9 => by rw [show j = m by omega]; exact (fun h95 => by have h96 := (en_iff gd.wf hiS).mp h95.2; have h97 := h2; rw [nI_leI (by omega) (by omega)] at h97; omega))⟩) hq hsv
      · skip
        refine pw_iload_19 dL_ahead_199 ?_
        refine pw_istore_15 dL_ahead_201 (by decide) ?_
        refine pw_aload_8 dL_ahead_203 ?_
        refine pw_bipush (v := nI 56) dL_ahead_205 (by decide) ?_
        refine pw_iload_14 dL_ahead_207 ?_
        refine pw_iaddN dL_ahead_209 ?_
        refine pw_ialdN dL_ahead_210 hs2.a (by omega) (by decide) ?_
        refine pw_top (hl.a7 (i := i) (by omega) (by omega)) ?_
        refine pw_aload_1 dL_ahead_211 ?_
        refine pw_bipush (v := nI 56) dL_ahead_212 (by decide) ?_
        refine pw_iload_14 dL_ahead_214 ?_
        refine pw_iaddN dL_ahead_216 ?_
        refine pw_ialdN dL_ahead_217 hs.a (by omega) (by decide) ?_
        refine pw_top (hlp.a7 (i := i) (by omega) (by omega)) ?_
        refine pw_icmp_le 225 dL_ahead_218 (by decide) (fun h3 => ?_) (fun h3 => ?_)
        · skip
          refine pw_iconst (v := nI 2) dL_ahead_225 (by decide) ?_
          refine pw_istore_16 dL_ahead_226 (by decide) ?_
          refine pw_fg (ls' := [some (.ref o), some (.ref p), some (.ref (p + 1)), some (.ref (p + 2)), some (.ref (p + 3)), some (.ref (p + 4)), some (.ref (p + 5)), some (.int hx), some (.ref p2), some (.ref (p2 + 1)), some (.ref (p2 + 2)), some (.ref (p2 + 3)), some (.ref (p2 + 4)), some (.ref (p2 + 5)), some (.int (nI i)), some (.int (nI m)), some (.int (nI 2)), some (.int qv), some (.int sv), some (.int (nI m)), none, none, none, none, none, none, none]) ⟨Or.inr rfl, Or.inr rfl, Or.inr rfl, Or.inr rfl, Or.inr rfl, Or.inr rfl, Or.inr rfl, Or.inr rfl, Or.inr rfl, Or.inr rfl, Or.inr rfl, Or.inr rfl, Or.inr rfl, Or.inr rfl, Or.inr rfl, Or.inr rfl, Or.inr rfl, Or.inr rfl, Or.inr rfl, Or.inr rfl, Or.inl rfl, Or.inl rfl, Or.inl rfl, Or.inl rfl, Or.inl rfl, Or.inl rfl, Or.inl rfl, trivial⟩ ?_
          exact ah_228 hs hs2 hl hp h12 gd ht hm9 hi hm ih (Or.inr ⟨m, by omega, ⟨g1, (en_iff gd.wf hiS).mpr (by have h97 := h2; rw [nI_leI (by omega) (by omega)] at h97; omega)⟩, hno, rfl, (show _ = hoV B i m from (if_neg (Int32.not_lt.mpr h3)).symm)⟩) hq hsv
        · skip
          refine pw_iconst (v := nI 1) dL_ahead_221 (by decide) ?_
          refine pw_goto 226 dL_ahead_222 (by decide) ?_
          refine pw_istore_16 dL_ahead_226 (by decide) ?_
          refine pw_fg (ls' := [some (.ref o), some (.ref p), some (.ref (p + 1)), some (.ref (p + 2)), some (.ref (p + 3)), some (.ref (p + 4)), some (.ref (p + 5)), some (.int hx), some (.ref p2), some (.ref (p2 + 1)), some (.ref (p2 + 2)), some (.ref (p2 + 3)), some (.ref (p2 + 4)), some (.ref (p2 + 5)), some (.int (nI i)), some (.int (nI m)), some (.int (nI 1)), some (.int qv), some (.int sv), some (.int (nI m)), none, none, none, none, none, none, none]) ⟨Or.inr rfl, Or.inr rfl, Or.inr rfl, Or.inr rfl, Or.inr rfl, Or.inr rfl, Or.inr rfl, Or.inr rfl, Or.inr rfl, Or.inr rfl, Or.inr rfl, Or.inr rfl, Or.inr rfl, Or.inr rfl, Or.inr rfl, Or.inr rfl, Or.inr rfl, Or.inr rfl, Or.inr rfl, Or.inr rfl, Or.inl rfl, Or.inl rfl, Or.inl rfl, Or.inl rfl, Or.inl rfl, Or.inl rfl, Or.inl rfl, trivial⟩ ?_
          exact ah_228 hs hs2 hl hp h12 gd ht hm9 hi hm ih (Or.inr ⟨m, by omega, ⟨g1, (en_iff gd.wf hiS).mpr (by have h97 := h2; rw [nI_leI (by omega) (by omega)] at h97; omega)⟩, hno, rfl, (show _ = hoV B i m from (if_pos (Int32.not_le.mp h3)).symm)⟩) hq hsv
  · skip
    refine pw_if_ge 228 dL_ahead_170 (by decide) (fun _ => ?_) (fun hh => absurd (nI_pos' (by omega)) hh)
    refine pw_fg (ls' := [some (.ref o), some (.ref p), some (.ref (p + 1)), some (.ref (p + 2)), some (.ref (p + 3)), some (.ref (p + 4)), some (.ref (p + 5)), some (.int hx), some (.ref p2), some (.ref (p2 + 1)), some (.ref (p2 + 2)), some (.ref (p2 + 3)), some (.ref (p2 + 4)), some (.ref (p2 + 5)), some (.int (nI i)), some (.int (nI k1)), some (.int (hoV B i k1)), some (.int qv), some (.int sv), some (.int (nI m)), none, none, none, none, none, none, none]) ⟨Or.inr rfl, Or.inr rfl, Or.inr rfl, Or.inr rfl, Or.inr rfl, Or.inr rfl, Or.inr rfl, Or.inr rfl, Or.inr rfl, Or.inr rfl, Or.inr rfl, Or.inr rfl, Or.inr rfl, Or.inr rfl, Or.inr rfl, Or.inr rfl, Or.inr rfl, Or.inr rfl, Or.inr rfl, Or.inr rfl, Or.inl rfl, Or.inl rfl, Or.inl rfl, Or.inl rfl, Or.inl rfl, Or.inl rfl, Or.inl rfl, trivial⟩ ?_
    exact ah_228 hs hs2 hl hp h12 gd ht hm9 hi hm ih (Or.inr ⟨k1, by omega, hk1, hk2, rfl, rfl⟩) hq hsv
theorem lt_sm {f : Nat → Nat} {n : Nat} (h : ∀ s, s < n → f s ≤ 4) : smN f n ≤ 4 * n := smN_le n h
set_option maxRecDepth 100000 in
set_option maxHeartbeats 4000000 in
theorem ah_106 {X : Cx} {σ : Sp} {μ : Mm} {Q : Int32 → Sp → Mm → Prop} {κ : Prop} {ν0 : Mm} {o p p2 n i m m9 : Nat} {hx : Int32} {B : Bs} (hs : ShL σ p) (hs2 : ShL σ p2) (hl : LU κ ν0 p2 (bk B m) μ) (hp : LU κ ν0 p B ν0) (h12 : p + 6 ≤ p2) (gd : GDn n B) (ht : WT m9 B) (hm9 : m9 ≤ 4000) (hi : i < n) (hm : m < 901) (ih : ∀ e hw qv sv ν, LU κ ν0 p2 (bk B (m + 1)) ν → EH B i (m + 1) e hw → FI (quP B) (m + 1) qv → FI (fun k => k ≤ 600 ∧ slP B i k) (m + 1) sv → PW X mL_ahead 0 0 106 [some (.ref o), some (.ref p), some (.ref (p + 1)), some (.ref (p + 2)), some (.ref (p + 3)), some (.ref (p + 4)), some (.ref (p + 5)), some (.int hx), some (.ref p2), some (.ref (p2 + 1)), some (.ref (p2 + 2)), some (.ref (p2 + 3)), some (.ref (p2 + 4)), some (.ref (p2 + 5)), some (.int (nI i)), some (.int e), some (.int hw), some (.int qv), some (.int sv), some (.int (nI (m + 1))), none, none, none, none, none, none, none] [] σ ν (LI Q)) {e hw qv sv : Int32} (he : EH B i m e hw) (hq : FI (quP B) m qv) (hsv : FI (fun k => k ≤ 600 ∧ slP B i k) m sv) : PW X mL_ahead 0 0 106 [some (.ref o), some (.ref p), some (.ref (p + 1)), some (.ref (p + 2)), some (.ref (p + 3)), some (.ref (p + 4)), some (.ref (p + 5)), some (.int hx), some (.ref p2), some (.ref (p2 + 1)), some (.ref (p2 + 2)), some (.ref (p2 + 3)), some (.ref (p2 + 4)), some (.ref (p2 + 5)), some (.int (nI i)), some (.int e), some (.int hw), some (.int qv), some (.int sv), some (.int (nI m)), none, none, none, none, none, none, none] [] σ μ (LI Q) := by
  have h8 := gd.n8
  have hiS : i < nS B := by rw [gd.hn]; exact hi
  obtain ⟨gdC, htC⟩ := gd.bkk ht m (by omega)
  have hlp : LU κ μ p B μ := hp.mv (fun a a1 a2 => hl.out (by omega))
  refine pw_iload_19 dL_ahead_106 ?_
  refine pw_sipush (v := nI 900) dL_ahead_108 (by decide) ?_
  refine pw_icmp_gt 284 dL_ahead_111 (by decide) (fun hh => absurd hh (nI_nlt (by omega) (by omega))) (fun _ => ?_)
  refine pw_iconst (v := nI 0) dL_ahead_114 (by decide) ?_
  refine pw_istore_20 dL_ahead_115 (by decide) ?_
  refine pw_iconst (v := nI 0) dL_ahead_117 (by decide) ?_
  refine pw_istore_21 dL_ahead_118 (by decide) ?_
  refine pw_fg (ls' := [some (.ref o), some (.ref p), some (.ref (p + 1)), some (.ref (p + 2)), some (.ref (p + 3)), some (.ref (p + 4)), some (.ref (p + 5)), some (.int hx), some (.ref p2), some (.ref (p2 + 1)), some (.ref (p2 + 2)), some (.ref (p2 + 3)), some (.ref (p2 + 4)), some (.ref (p2 + 5)), some (.int (nI i)), some (.int e), some (.int hw), some (.int qv), some (.int sv), some (.int (nI m)), some (.int (nI (smN (fun s => nwF (bS (bk B m) s)) 0))), some (.int (nI 0)), none, none, none, none, none]) ⟨Or.inr rfl, Or.inr rfl, Or.inr rfl, Or.inr rfl, Or.inr rfl, Or.inr rfl, Or.inr rfl, Or.inr rfl, Or.inr rfl, Or.inr rfl, Or.inr rfl, Or.inr rfl, Or.inr rfl, Or.inr rfl, Or.inr rfl, Or.inr rfl, Or.inr rfl, Or.inr rfl, Or.inr rfl, Or.inr rfl, Or.inr rfl, Or.inr rfl, Or.inl rfl, Or.inl rfl, Or.inl rfl, Or.inl rfl, Or.inl rfl, trivial⟩ ?_
  refine pw_up (P := fun k => PW X mL_ahead 0 0 120 [some (.ref o), some (.ref p), some (.ref (p + 1)), some (.ref (p + 2)), some (.ref (p + 3)), some (.ref (p + 4)), some (.ref (p + 5)), some (.int hx), some (.ref p2), some (.ref (p2 + 1)), some (.ref (p2 + 2)), some (.ref (p2 + 3)), some (.ref (p2 + 4)), some (.ref (p2 + 5)), some (.int (nI i)), some (.int e), some (.int hw), some (.int qv), some (.int sv), some (.int (nI m)), some (.int (nI (smN (fun s => nwF (bS (bk B m) s)) k))), some (.int (nI k)), none, none, none, none, none] [] σ μ (LI Q)) n ?_ ?_ 0 (Nat.zero_le _)
  · skip
    have hsm : smN (fun s => nwF (bS (bk B m) s)) n ≤ 4 * n := lt_sm (fun s hs => (gdC.s hs).w.2)
    refine pw_iload_21 dL_ahead_120 ?_
    refine pw_aload_6 dL_ahead_122 ?_
    refine pw_bipush (v := nI 6) dL_ahead_124 (by decide) ?_
    refine pw_ialdN dL_ahead_126 hs.t (by omega) (by decide) ?_
    refine pw_top ((hlp.t (by omega)).trans gd.g6) ?_
    refine pw_icmp_ge 149 dL_ahead_127 (by decide) (fun _ => ?_) (fun hh => absurd (by rw [nI_leI (by omega) (by omega)]; omega) hh)
    refine pw_iload_17 dL_ahead_149 ?_
    rcases hq.cs with x1 | ⟨k1, k1b, x1⟩
    · skip
      subst x1
      refine pw_if_ge 164 dL_ahead_151 (by decide) (fun hh => absurd hh m6_lt) (fun _ => ?_)
      refine pw_iload_20 dL_ahead_154 ?_
      rcases Nat.eq_zero_or_pos (smN (fun s => nwF (bS (bk B m) s)) n) with z1 | z1
      · skip
        refine pw_if_ne 164 dL_ahead_156 (by decide) (fun hh => absurd (by rw [z1]; rfl) hh) (fun _ => ?_)
        refine pw_iload_19 dL_ahead_159 ?_
        refine pw_goto 166 dL_ahead_161 (by decide) ?_
        refine pw_istore_17 dL_ahead_166 (by decide) ?_
        refine pw_fg (ls' := [some (.ref o), some (.ref p), some (.ref (p + 1)), some (.ref (p + 2)), some (.ref (p + 3)), some (.ref (p + 4)), some (.ref (p + 5)), some (.int hx), some (.ref p2), some (.ref (p2 + 1)), some (.ref (p2 + 2)), some (.ref (p2 + 3)), some (.ref (p2 + 4)), some (.ref (p2 + 5)), some (.int (nI i)), some (.int e), some (.int hw), some (.int (nI m)), some (.int sv), some (.int (nI m)), none, none, none, none, none, none, none]) ⟨Or.inr rfl, Or.inr rfl, Or.inr rfl, Or.inr rfl, Or.inr rfl, Or.inr rfl, Or.inr rfl, Or.inr rfl, Or.inr rfl, Or.inr rfl, Or.inr rfl, Or.inr rfl, Or.inr rfl, Or.inr rfl, Or.inr rfl, Or.inr rfl, Or.inr rfl, Or.inr rfl, Or.inr rfl, Or.inr rfl, Or.inl rfl, Or.inl rfl, Or.inl rfl, Or.inl rfl, Or.inl rfl, Or.inl rfl, Or.inl rfl, trivial⟩ ?_
        exact ah_168 hs hs2 hl hp h12 gd ht hm9 hi hm ih he (hq.y (by omega) ((show quP B m ↔ smN (fun s => nwF (bS (bk B m) s)) n = 0 from by unfold quP; rw [gd.hn]; exact sm0.symm).mpr z1)) hsv
      · skip
        refine pw_if_ne 164 dL_ahead_156 (by decide) (fun _ => ?_) (fun hh => absurd hh (nI_ne0 z1 (by omega)))
        refine pw_iload_17 dL_ahead_164 ?_
        refine pw_istore_17 dL_ahead_166 (by decide) ?_
        refine pw_fg (ls' := [some (.ref o), some (.ref p), some (.ref (p + 1)), some (.ref (p + 2)), some (.ref (p + 3)), some (.ref (p + 4)), some (.ref (p + 5)), some (.int hx), some (.ref p2), some (.ref (p2 + 1)), some (.ref (p2 + 2)), some (.ref (p2 + 3)), some (.ref (p2 + 4)), some (.ref (p2 + 5)), some (.int (nI i)), some (.int e), some (.int hw), some (.int ((-6))), some (.int sv), some (.int (nI m)), none, none, none, none, none, none, none]) ⟨Or.inr rfl, Or.inr rfl, Or.inr rfl, Or.inr rfl, Or.inr rfl, Or.inr rfl, Or.inr rfl, Or.inr rfl, Or.inr rfl, Or.inr rfl, Or.inr rfl, Or.inr rfl, Or.inr rfl, Or.inr rfl, Or.inr rfl, Or.inr rfl, Or.inr rfl, Or.inr rfl, Or.inr rfl, Or.inr rfl, Or.inl rfl, Or.inl rfl, Or.inl rfl, Or.inl rfl, Or.inl rfl, Or.inl rfl, Or.inl rfl, trivial⟩ ?_
        exact ah_168 hs hs2 hl hp h12 gd ht hm9 hi hm ih he (hq.n (by omega) (fun h95 => absurd ((show quP B m ↔ smN (fun s => nwF (bS (bk B m) s)) n = 0 from by unfold quP; rw [gd.hn]; exact sm0.symm).mp h95) (by omega))) hsv
    · skip
      subst x1
      refine pw_if_ge 164 dL_ahead_151 (by decide) (fun _ => ?_) (fun hh => absurd (nI_pos' (by omega)) hh)
      refine pw_iload_17 dL_ahead_164 ?_
      refine pw_istore_17 dL_ahead_166 (by decide) ?_
      refine pw_fg (ls' := [some (.ref o), some (.ref p), some (.ref (p + 1)), some (.ref (p + 2)), some (.ref (p + 3)), some (.ref (p + 4)), some (.ref (p + 5)), some (.int hx), some (.ref p2), some (.ref (p2 + 1)), some (.ref (p2 + 2)), some (.ref (p2 + 3)), some (.ref (p2 + 4)), some (.ref (p2 + 5)), some (.int (nI i)), some (.int e), some (.int hw), some (.int (nI k1)), some (.int sv), some (.int (nI m)), none, none, none, none, none, none, none]) ⟨Or.inr rfl, Or.inr rfl, Or.inr rfl, Or.inr rfl, Or.inr rfl, Or.inr rfl, Or.inr rfl, Or.inr rfl, Or.inr rfl, Or.inr rfl, Or.inr rfl, Or.inr rfl, Or.inr rfl, Or.inr rfl, Or.inr rfl, Or.inr rfl, Or.inr rfl, Or.inr rfl, Or.inr rfl, Or.inr rfl, Or.inl rfl, Or.inl rfl, Or.inl rfl, Or.inl rfl, Or.inl rfl, Or.inl rfl, Or.inl rfl, trivial⟩ ?_
      exact ah_168 hs hs2 hl hp h12 gd ht hm9 hi hm ih he (hq.k (by omega)) hsv
  · intro k hk ihk
    refine pw_iload_21 dL_ahead_120 ?_
    refine pw_aload_6 dL_ahead_122 ?_
    refine pw_bipush (v := nI 6) dL_ahead_124 (by decide) ?_
    refine pw_ialdN dL_ahead_126 hs.t (by omega) (by decide) ?_
    refine pw_top ((hlp.t (by omega)).trans gd.g6) ?_
    refine pw_icmp_ge 149 dL_ahead_127 (by decide) (fun hh => absurd hh (by rw [nI_leI (by omega) (by omega)]; omega)) (fun _ => ?_)
    refine pw_iload_20 dL_ahead_130 ?_
    refine pw_aload_8 dL_ahead_132 ?_
    refine pw_bipush (v := nI 32) dL_ahead_134 (by decide) ?_
    refine pw_iload_21 dL_ahead_136 ?_
    refine pw_iaddN dL_ahead_138 ?_
    refine pw_ialdN dL_ahead_139 hs2.a (by omega) (by decide) ?_
    refine pw_top ((hl.a4 (i := k) (by omega) (by omega)).trans ((gdC.s (i := k) (by omega)).w).1) ?_
    refine pw_iaddN dL_ahead_140 ?_
    refine pw_istore_20 dL_ahead_141 (by decide) ?_
    refine pw_iincN_21 dL_ahead_143 (by decide) ?_
    refine pw_goto 120 dL_ahead_146 (by decide) ?_
    exact ihk
set_option maxRecDepth 100000 in
set_option maxHeartbeats 4000000 in
theorem ah_103 {X : Cx} {σ : Sp} {μ : Mm} {Q : Int32 → Sp → Mm → Prop} {κ : Prop} {ν0 : Mm} {o p p2 n i m9 : Nat} {hx : Int32} {B : Bs} (hs : ShL σ p) (hs2 : ShL σ p2) (hl : LU κ ν0 p2 B μ) (hp : LU κ ν0 p B ν0) (h12 : p + 6 ≤ p2) (gd : GDn n B) (ht : WT m9 B) (hm9 : m9 ≤ 4000) (hi : i < n) (K : ∀ e hw qv sv ν, (∀ a, (a < p2 ∨ p2 + 6 ≤ a) → ν a = ν0 a) → EH B i 901 e hw → ssR (quP B) 900 = qv → ssR (slP B i) 600 = sv → PW X mL_ahead 0 0 284 [some (.ref o), some (.ref p), some (.ref (p + 1)), some (.ref (p + 2)), some (.ref (p + 3)), some (.ref (p + 4)), some (.ref (p + 5)), some (.int hx), some (.ref p2), some (.ref (p2 + 1)), some (.ref (p2 + 2)), some (.ref (p2 + 3)), some (.ref (p2 + 4)), some (.ref (p2 + 5)), some (.int (nI i)), some (.int e), some (.int hw), some (.int qv), some (.int sv), none, none, none, none, none, none, none, none] [] σ ν (LI Q)) : PW X mL_ahead 0 0 106 [some (.ref o), some (.ref p), some (.ref (p + 1)), some (.ref (p + 2)), some (.ref (p + 3)), some (.ref (p + 4)), some (.ref (p + 5)), some (.int hx), some (.ref p2), some (.ref (p2 + 1)), some (.ref (p2 + 2)), some (.ref (p2 + 3)), some (.ref (p2 + 4)), some (.ref (p2 + 5)), some (.int (nI i)), some (.int ((-6))), some (.int ((-6))), some (.int ((-6))), some (.int ((-6))), some (.int (nI 0)), none, none, none, none, none, none, none] [] σ μ (LI Q) := by
  refine pw_up (P := fun m => ∀ e hw qv sv ν, LU κ ν0 p2 (bk B m) ν → EH B i m e hw → FI (quP B) m qv → FI (fun k => k ≤ 600 ∧ slP B i k) m sv → PW X mL_ahead 0 0 106 [some (.ref o), some (.ref p), some (.ref (p + 1)), some (.ref (p + 2)), some (.ref (p + 3)), some (.ref (p + 4)), some (.ref (p + 5)), some (.int hx), some (.ref p2), some (.ref (p2 + 1)), some (.ref (p2 + 2)), some (.ref (p2 + 3)), some (.ref (p2 + 4)), some (.ref (p2 + 5)), some (.int (nI i)), some (.int e), some (.int hw), some (.int qv), some (.int sv), some (.int (nI m)), none, none, none, none, none, none, none] [] σ ν (LI Q)) 901 ?_ ?_ 0 (Nat.zero_le _) _ _ _ _ _ hl (Or.inl ⟨rfl, rfl, fun j hj => absurd hj (Nat.not_lt_zero j)⟩) (FI.z _) (FI.z _)
  · intro e hw qv sv ν hl1 he hq hsv
    refine pw_iload_19 dL_ahead_106 ?_
    refine pw_sipush (v := nI 900) dL_ahead_108 (by decide) ?_
    refine pw_icmp_gt 284 dL_ahead_111 (by decide) (fun _ => ?_) (fun hh => absurd (by decide) hh)
    refine pw_fg (ls' := [some (.ref o), some (.ref p), some (.ref (p + 1)), some (.ref (p + 2)), some (.ref (p + 3)), some (.ref (p + 4)), some (.ref (p + 5)), some (.int hx), some (.ref p2), some (.ref (p2 + 1)), some (.ref (p2 + 2)), some (.ref (p2 + 3)), some (.ref (p2 + 4)), some (.ref (p2 + 5)), some (.int (nI i)), some (.int e), some (.int hw), some (.int qv), some (.int sv), none, none, none, none, none, none, none, none]) ⟨Or.inr rfl, Or.inr rfl, Or.inr rfl, Or.inr rfl, Or.inr rfl, Or.inr rfl, Or.inr rfl, Or.inr rfl, Or.inr rfl, Or.inr rfl, Or.inr rfl, Or.inr rfl, Or.inr rfl, Or.inr rfl, Or.inr rfl, Or.inr rfl, Or.inr rfl, Or.inr rfl, Or.inr rfl, Or.inl rfl, Or.inl rfl, Or.inl rfl, Or.inl rfl, Or.inl rfl, Or.inl rfl, Or.inl rfl, Or.inl rfl, trivial⟩ ?_
    exact K e hw qv sv ν (fun a ha => hl1.out ha) he hq.ss (hsv.ssb (by omega))
  · intro m hm ih e hw qv sv ν hl1 he hq hsv
    exact ah_106 hs hs2 hl1 hp h12 gd ht hm9 hi hm ih he hq hsv
