/-! The law's choices -/
theorem WT.mono {m m' : Nat} {B : Bs} (h : WT m B) (hm : m ≤ m') : WT m' B := by
  obtain ⟨t, h1, h2⟩ := h
  exact ⟨t, by omega, h2⟩
theorem clk_G {B : Bs} : ∀ k, bG (itr clS k B) = bG B
  | 0 => rfl
  | k + 1 => clk_G k
theorem cm_G5 {B : Bs} {x : Int32} : bG (cmB B x) 5 = bG B 5 := upd_n (bG B) (nI (nS B + 1)) (show 5 ≠ 6 by omega)
set_option maxRecDepth 100000 in
set_option maxHeartbeats 4000000 in
theorem law_st {X : Cx} {σ : Sp} {μ : Mm} {Q : Int32 → Sp → Mm → Prop} {b1 b2 : Nat} {o x9 p n e : Nat} {hx0 : Int32} {A : Aw} (hc : CX σ μ o x9 A) (hno : ∀ k, aS A k = none) (wa : WA A) (hs : ShL σ p) (hl : LU True μ p (aB A) μ) (gd : GDn n (aB A)) (ht : WT (60 * e) (aB A)) (hop : p = o + 565) (he : e < 60) (K : ∀ μ' x' A' n', CX σ μ' o x' A' → (∀ k, aS A' k = none) → WA A' → LU True μ' p (aB A') μ' → GDn n' (aB A') → WT (60 * (e + 1)) (aB A') → (2 ≤ n' ∨ e + 1 ≤ n') → PW X mL_law b1 b2 943 [some (.ref (cxS X).1), some (.ref o), some (.ref p), some (.ref (p + 1)), some (.ref (p + 2)), some (.ref (p + 3)), some (.ref (p + 4)), some (.ref (p + 5)), some (.int (nI e)), none, none, some (.int (nI 1)), none, none, none, none, none] [] σ μ' (LI Q)) (hn8 : n < 8) (hn0 : 2 ≤ n ∨ e ≤ n) : PW X mL_law b1 b2 123 [some (.ref (cxS X).1), some (.ref o), some (.ref p), some (.ref (p + 1)), some (.ref (p + 2)), some (.ref (p + 3)), some (.ref (p + 4)), some (.ref (p + 5)), some (.int (nI e)), some (.int hx0), none, none, none, none, none, none, none] [] σ μ (LI Q) := by
  have h8 := gd.n8
  have w9 := gd.wf
  refine pw_iconst (v := nI 1) dL_law_123 (by decide) ?_
  refine pw_iload_9 dL_law_124 ?_
  refine pw_iconst (v := nI 4) dL_law_126 (by decide) ?_
  refine pw_ishr dL_law_127 ?_
  refine pw_iload_9 dL_law_128 ?_
  refine pw_bipush (v := nI 12) dL_law_130 (by decide) ?_
  refine pw_ishr dL_law_132 ?_
  refine pw_iconst (v := nI 2) dL_law_133 (by decide) ?_
  refine pw_cS2i dL_law_134 kL_59 vL_low sL_low ⟨by decide, by decide⟩ ⟨rfl, rfl⟩ (Nat.le_of_ble_eq_true rfl) (c_low (by omega) (by omega) (fun j1 j1b => ?_))
  refine pw_if_ne 145 dL_law_137 (by decide) (fun h2 => ?_) (fun h2 => ?_)
  · skip
    refine pw_bipush (v := nI 7) dL_law_145 (by decide) ?_
    refine pw_cS2i dL_law_147 kL_59 vL_low sL_low ⟨by decide, by decide⟩ ⟨rfl, rfl⟩ (Nat.le_of_ble_eq_true rfl) (c_low (by omega) (by omega) (fun j3 j3b => ?_))
    refine pw_iaddN dL_law_150 ?_
    refine pw_istore_12 dL_law_151 (by decide) ?_
    refine pw_aload_7 dL_law_153 ?_
    refine pw_bipush (v := nI 6) dL_law_155 (by decide) ?_
    refine pw_ialdN dL_law_157 hs.t (by omega) (by decide) ?_
    refine pw_top ((hl.t (by omega)).trans gd.g6) ?_
    refine pw_istore_13 dL_law_158 (by decide) ?_
    refine pw_aload_2 dL_law_160 ?_
    refine pw_iload_13 dL_law_161 ?_
    refine pw_iload_12 dL_law_163 ?_
    refine pw_iastN dL_law_165 hs.a (by omega) (by decide) ?_
    refine pw_aload_2 dL_law_166 ?_
    refine pw_bipush (v := nI 8) dL_law_167 (by decide) ?_
    refine pw_iload_13 dL_law_169 ?_
    refine pw_iaddN dL_law_171 ?_
    refine pw_aload_7 dL_law_172 ?_
    refine pw_iconst (v := nI 1) dL_law_174 (by decide) ?_
    refine pw_ialdN dL_law_175 hs.t (by omega) (by decide) ?_
    refine pw_top ((lx_o (by omega)).trans (hl.t (by omega))) ?_
    refine pw_iastN dL_law_176 hs.a (by omega) (by decide) ?_
    refine pw_aload_2 dL_law_177 ?_
    refine pw_bipush (v := nI 40) dL_law_178 (by decide) ?_
    refine pw_iload_13 dL_law_180 ?_
    refine pw_iaddN dL_law_182 ?_
    refine pw_iconst (v := -1) dL_law_183 (by decide) ?_
    refine pw_iastN dL_law_184 hs.a (by omega) (by decide) ?_
    refine pw_aload_7 dL_law_185 ?_
    refine pw_bipush (v := nI 6) dL_law_187 (by decide) ?_
    refine pw_dup2_11 dL_law_189 ?_
    refine pw_ialdN dL_law_190 hs.t (by omega) (by decide) ?_
    refine pw_top ((lx_o (by omega)).trans ((lx_o (by omega)).trans ((lx_o (by omega)).trans ((hl.t (by omega)).trans gd.g6)))) ?_
    refine pw_iconst (v := nI 1) dL_law_191 (by decide) ?_
    refine pw_iaddN dL_law_192 ?_
    refine pw_iastN dL_law_193 hs.t (by omega) (by decide) ?_
    refine pw_gen (P := LU True μ p (cmB (aB A) (nI (1 + j3)))) (hl.cm gd hn8 _) (fun ν hlc => ?_)
    refine pw_aload_1 dL_law_194 ?_
    refine pw_iload_12 dL_law_195 ?_
    refine pw_cV1i 7 dL_law_197 kL_86 vX7_station iX7_station ⟨by decide, by decide⟩ ⟨rfl, rfl⟩ (by decide) rfl (Nat.le_of_ble_eq_true rfl) hc.1.t (kf_station (hc.mv hno (fun a ha => hlc.out (Or.inl (by omega)))) wa (fun μ1 x1 hc1 fx1 => ?_))
    refine pw_top (cm_v gd.hn hn8 (j := 1 + j3) (by omega) (by omega)).1 ?_
    refine pw_iload_13 dL_law_200 ?_
    refine pw_icmp_ne 209 dL_law_202 (by decide) (fun hh => absurd rfl hh) (fun _ => ?_)
    refine pw_iconst (v := nI 1) dL_law_205 (by decide) ?_
    refine pw_goto 210 dL_law_206 (by decide) ?_
    refine pw_istore_11 dL_law_210 (by decide) ?_
    refine pw_goto 943 dL_law_212 (by decide) ?_
    have eB : aB (upA A (cmR (aB A) (nI (1 + j3))) (cmN (aB A) (nI (1 + j3)))) = cmB (aB A) (nI (1 + j3)) := (up_B (fun h95 => cm_neg gd.wf h95)).trans (cm_v gd.hn hn8 (j := 1 + j3) (by omega) (by omega)).2
    refine pw_fg (ls' := [some (.ref (cxS X).1), some (.ref o), some (.ref p), some (.ref (p + 1)), some (.ref (p + 2)), some (.ref (p + 3)), some (.ref (p + 4)), some (.ref (p + 5)), some (.int (nI e)), none, none, some (.int (nI 1)), none, none, none, none, none]) ⟨Or.inr rfl, Or.inr rfl, Or.inr rfl, Or.inr rfl, Or.inr rfl, Or.inr rfl, Or.inr rfl, Or.inr rfl, Or.inr rfl, Or.inl rfl, Or.inl rfl, Or.inr rfl, Or.inl rfl, Or.inl rfl, Or.inl rfl, Or.inl rfl, Or.inl rfl, trivial⟩ ?_
    refine K _ _ _ (n + 1) hc1 (fun k => by rw [up_S]; exact hno k) (wa_cm wa) ?_ ?_ ?_ (hn0.imp (fun h95 => by omega) (fun h95 => by omega))
    · rw [eB]
      exact hlc.mv (fun a a1 a2 => fx1 a (by omega) (by omega))
    · rw [eB]
      exact gd.cm hn8
    · rw [eB]
      exact ((ht.mono (by omega)).eq cm_G5)
  · skip
    refine pw_bipush (v := nI 63) dL_law_140 (by decide) ?_
    refine pw_goto 147 dL_law_142 (by decide) ?_
    refine pw_cS2i dL_law_147 kL_59 vL_low sL_low ⟨by decide, by decide⟩ ⟨rfl, rfl⟩ (Nat.le_of_ble_eq_true rfl) (c_low (by omega) (by omega) (fun j4 j4b => ?_))
    refine pw_iaddN dL_law_150 ?_
    refine pw_istore_12 dL_law_151 (by decide) ?_
    refine pw_aload_7 dL_law_153 ?_
    refine pw_bipush (v := nI 6) dL_law_155 (by decide) ?_
    refine pw_ialdN dL_law_157 hs.t (by omega) (by decide) ?_
    refine pw_top ((hl.t (by omega)).trans gd.g6) ?_
    refine pw_istore_13 dL_law_158 (by decide) ?_
    refine pw_aload_2 dL_law_160 ?_
    refine pw_iload_13 dL_law_161 ?_
    refine pw_iload_12 dL_law_163 ?_
    refine pw_iastN dL_law_165 hs.a (by omega) (by decide) ?_
    refine pw_aload_2 dL_law_166 ?_
    refine pw_bipush (v := nI 8) dL_law_167 (by decide) ?_
    refine pw_iload_13 dL_law_169 ?_
    refine pw_iaddN dL_law_171 ?_
    refine pw_aload_7 dL_law_172 ?_
    refine pw_iconst (v := nI 1) dL_law_174 (by decide) ?_
    refine pw_ialdN dL_law_175 hs.t (by omega) (by decide) ?_
    refine pw_top ((lx_o (by omega)).trans (hl.t (by omega))) ?_
    refine pw_iastN dL_law_176 hs.a (by omega) (by decide) ?_
    refine pw_aload_2 dL_law_177 ?_
    refine pw_bipush (v := nI 40) dL_law_178 (by decide) ?_
    refine pw_iload_13 dL_law_180 ?_
    refine pw_iaddN dL_law_182 ?_
    refine pw_iconst (v := -1) dL_law_183 (by decide) ?_
    refine pw_iastN dL_law_184 hs.a (by omega) (by decide) ?_
    refine pw_aload_7 dL_law_185 ?_
    refine pw_bipush (v := nI 6) dL_law_187 (by decide) ?_
    refine pw_dup2_11 dL_law_189 ?_
    refine pw_ialdN dL_law_190 hs.t (by omega) (by decide) ?_
    refine pw_top ((lx_o (by omega)).trans ((lx_o (by omega)).trans ((lx_o (by omega)).trans ((hl.t (by omega)).trans gd.g6)))) ?_
    refine pw_iconst (v := nI 1) dL_law_191 (by decide) ?_
    refine pw_iaddN dL_law_192 ?_
    refine pw_iastN dL_law_193 hs.t (by omega) (by decide) ?_
    refine pw_gen (P := LU True μ p (cmB (aB A) (nI (1 + j4)))) (hl.cm gd hn8 _) (fun ν hlc => ?_)
    refine pw_aload_1 dL_law_194 ?_
    refine pw_iload_12 dL_law_195 ?_
    refine pw_cV1i 7 dL_law_197 kL_86 vX7_station iX7_station ⟨by decide, by decide⟩ ⟨rfl, rfl⟩ (by decide) rfl (Nat.le_of_ble_eq_true rfl) hc.1.t (kf_station (hc.mv hno (fun a ha => hlc.out (Or.inl (by omega)))) wa (fun μ1 x1 hc1 fx1 => ?_))
    refine pw_top (cm_v gd.hn hn8 (j := 1 + j4) (by omega) (by omega)).1 ?_
    refine pw_iload_13 dL_law_200 ?_
    refine pw_icmp_ne 209 dL_law_202 (by decide) (fun hh => absurd rfl hh) (fun _ => ?_)
    refine pw_iconst (v := nI 1) dL_law_205 (by decide) ?_
    refine pw_goto 210 dL_law_206 (by decide) ?_
    refine pw_istore_11 dL_law_210 (by decide) ?_
    refine pw_goto 943 dL_law_212 (by decide) ?_
    have eB : aB (upA A (cmR (aB A) (nI (1 + j4))) (cmN (aB A) (nI (1 + j4)))) = cmB (aB A) (nI (1 + j4)) := (up_B (fun h95 => cm_neg gd.wf h95)).trans (cm_v gd.hn hn8 (j := 1 + j4) (by omega) (by omega)).2
    refine pw_fg (ls' := [some (.ref (cxS X).1), some (.ref o), some (.ref p), some (.ref (p + 1)), some (.ref (p + 2)), some (.ref (p + 3)), some (.ref (p + 4)), some (.ref (p + 5)), some (.int (nI e)), none, none, some (.int (nI 1)), none, none, none, none, none]) ⟨Or.inr rfl, Or.inr rfl, Or.inr rfl, Or.inr rfl, Or.inr rfl, Or.inr rfl, Or.inr rfl, Or.inr rfl, Or.inr rfl, Or.inl rfl, Or.inl rfl, Or.inr rfl, Or.inl rfl, Or.inl rfl, Or.inl rfl, Or.inl rfl, Or.inl rfl, trivial⟩ ?_
    refine K _ _ _ (n + 1) hc1 (fun k => by rw [up_S]; exact hno k) (wa_cm wa) ?_ ?_ ?_ (hn0.imp (fun h95 => by omega) (fun h95 => by omega))
    · rw [eB]
      exact hlc.mv (fun a a1 a2 => fx1 a (by omega) (by omega))
    · rw [eB]
      exact gd.cm hn8
    · rw [eB]
      exact ((ht.mono (by omega)).eq cm_G5)
set_option maxRecDepth 100000 in
set_option maxHeartbeats 4000000 in
theorem law_wd {X : Cx} {σ : Sp} {μ : Mm} {Q : Int32 → Sp → Mm → Prop} {b1 b2 : Nat} {o x9 p n e : Nat} {hx0 : Int32} {A : Aw} (hc : CX σ μ o x9 A) (hno : ∀ k, aS A k = none) (wa : WA A) (hs : ShL σ p) (hl : LU True μ p (aB A) μ) (gd : GDn n (aB A)) (ht : WT (60 * e) (aB A)) (hop : p = o + 565) (he : e < 60) (K : ∀ μ' x' A' n', CX σ μ' o x' A' → (∀ k, aS A' k = none) → WA A' → LU True μ' p (aB A') μ' → GDn n' (aB A') → WT (60 * (e + 1)) (aB A') → (2 ≤ n' ∨ e + 1 ≤ n') → PW X mL_law b1 b2 943 [some (.ref (cxS X).1), some (.ref o), some (.ref p), some (.ref (p + 1)), some (.ref (p + 2)), some (.ref (p + 3)), some (.ref (p + 4)), some (.ref (p + 5)), some (.int (nI e)), none, none, some (.int (nI 1)), none, none, none, none, none] [] σ μ' (LI Q)) (hn2 : 2 ≤ n) : PW X mL_law b1 b2 222 [some (.ref (cxS X).1), some (.ref o), some (.ref p), some (.ref (p + 1)), some (.ref (p + 2)), some (.ref (p + 3)), some (.ref (p + 4)), some (.ref (p + 5)), some (.int (nI e)), some (.int hx0), none, none, none, none, none, none, none] [] σ μ (LI Q) := by
  have h8 := gd.n8
  have w9 := gd.wf
  refine pw_iload_9 dL_law_222 ?_
  refine pw_iconst (v := nI 4) dL_law_224 (by decide) ?_
  refine pw_ishr dL_law_225 ?_
  refine pw_aload_7 dL_law_226 ?_
  refine pw_bipush (v := nI 6) dL_law_228 (by decide) ?_
  refine pw_ialdN dL_law_230 hs.t (by omega) (by decide) ?_
  refine pw_top ((hl.t (by omega)).trans gd.g6) ?_
  refine pw_cS2i dL_law_231 kL_59 vL_low sL_low ⟨by decide, by decide⟩ ⟨rfl, rfl⟩ (Nat.le_of_ble_eq_true rfl) (c_low (by omega) (by omega) (fun j1 j1b => ?_))
  refine pw_istore_12 dL_law_234 (by decide) ?_
  refine pw_iload_9 dL_law_236 ?_
  refine pw_bipush (v := nI 7) dL_law_238 (by decide) ?_
  refine pw_ishr dL_law_240 ?_
  refine pw_iload_9 dL_law_241 ?_
  refine pw_bipush (v := nI 10) dL_law_243 (by decide) ?_
  refine pw_ishr dL_law_245 ?_
  refine pw_iconst (v := nI 2) dL_law_246 (by decide) ?_
  refine pw_cS2i dL_law_247 kL_59 vL_low sL_low ⟨by decide, by decide⟩ ⟨rfl, rfl⟩ (Nat.le_of_ble_eq_true rfl) (c_low (by omega) (by omega) (fun j2 j2b => ?_))
  refine pw_if_ne 258 dL_law_250 (by decide) (fun h3 => ?_) (fun h3 => ?_)
  · skip
    refine pw_iconst (v := nI 3) dL_law_258 (by decide) ?_
    refine pw_cS2i dL_law_259 kL_59 vL_low sL_low ⟨by decide, by decide⟩ ⟨rfl, rfl⟩ (Nat.le_of_ble_eq_true rfl) (c_low (by omega) (by omega) (fun j4 j4b => ?_))
    refine pw_istore_13 dL_law_262 (by decide) ?_
    refine pw_iload_9 dL_law_264 ?_
    refine pw_bipush (v := nI 13) dL_law_266 (by decide) ?_
    refine pw_ishr dL_law_268 ?_
    refine pw_sipush (v := nI 256) dL_law_269 (by decide) ?_
    refine pw_cS2i dL_law_272 kL_59 vL_low sL_low ⟨by decide, by decide⟩ ⟨rfl, rfl⟩ (Nat.le_of_ble_eq_true rfl) (c_low (by omega) (by omega) (fun j5 j5b => ?_))
    refine pw_istore_14 dL_law_275 (by decide) ?_
    refine pw_aload_2 dL_law_277 ?_
    refine pw_iload_12 dL_law_278 ?_
    refine pw_ialdN dL_law_280 hs.a (by omega) (by decide) ?_
    refine pw_top (hl.a0 (i := j1) (by omega) (by omega)) ?_
    refine pw_iload_13 dL_law_281 ?_
    refine pw_ishr dL_law_283 ?_
    refine pw_iconst (v := nI 1) dL_law_284 (by decide) ?_
    refine pw_iand dL_law_285 ?_
    refine pw_iconst (v := nI 1) dL_law_286 (by decide) ?_
    rcases Classical.em (atB (aB A) j1 (nI j4)) with at1 | at1
    · skip
      refine pw_icmp_ne 294 dL_law_287 (by decide) (fun hh => absurd (show _ = nI 1 from at1) hh) (fun _ => ?_)
      refine pw_iconst (v := nI 1) dL_law_290 (by decide) ?_
      refine pw_goto 295 dL_law_291 (by decide) ?_
      refine pw_istore_15 dL_law_295 (by decide) ?_
      refine pw_aload_2 dL_law_297 ?_
      refine pw_bipush (v := nI 32) dL_law_298 (by decide) ?_
      refine pw_iload_12 dL_law_300 ?_
      refine pw_iaddN dL_law_302 ?_
      refine pw_ialdN dL_law_303 hs.a (by omega) (by decide) ?_
      refine pw_top ((hl.a4 (i := j1) (by omega) (by omega)).trans ((gd.s (i := j1) (by omega)).w).1) ?_
      refine pw_iconst (v := nI 4) dL_law_304 (by decide) ?_
      have hw4 := (gd.s (i := j1) (by omega)).w.2
      rcases Nat.lt_or_ge (nwF (bS (aB A) j1)) 4 with fu1 | fu1
      · skip
        refine pw_icmp_ne 312 dL_law_305 (by decide) (fun _ => ?_) (fun hh => absurd ((nI_eq (by omega) (by omega)).mp hh) (by omega))
        refine pw_iconst (v := nI 0) dL_law_312 (by decide) ?_
        refine pw_istore_16 dL_law_313 (by decide) ?_
        refine pw_iload_15 dL_law_315 ?_
        refine pw_if_eq 361 dL_law_317 (by decide) (fun hh => absurd hh (by decide)) (fun _ => ?_)
        refine pw_iload_16 dL_law_320 ?_
        refine pw_if_ne 361 dL_law_322 (by decide) (fun hh => absurd hh (by decide)) (fun _ => ?_)
        refine pw_aload_4 dL_law_325 ?_
        refine pw_bipush (v := nI 8) dL_law_327 (by decide) ?_
        refine pw_aload_2 dL_law_329 ?_
        refine pw_bipush (v := nI 32) dL_law_330 (by decide) ?_
        refine pw_iload_12 dL_law_332 ?_
        refine pw_iaddN dL_law_334 ?_
        refine pw_ialdN dL_law_335 hs.a (by omega) (by decide) ?_
        refine pw_top ((hl.a4 (i := j1) (by omega) (by omega)).trans ((gd.s (i := j1) (by omega)).w).1) ?_
        refine pw_imulN dL_law_336 ?_
        refine pw_iload_12 dL_law_337 ?_
        refine pw_iaddN dL_law_339 ?_
        refine pw_iload_14 dL_law_340 ?_
        refine pw_sipush (v := nI 256) dL_law_342 (by decide) ?_
        refine pw_iload_13 dL_law_345 ?_
        refine pw_imulN dL_law_347 ?_
        refine pw_iaddN dL_law_348 ?_
        refine pw_iastN dL_law_349 hs.q (by omega) (by decide) ?_
        refine pw_aload_2 dL_law_350 ?_
        refine pw_bipush (v := nI 32) dL_law_351 (by decide) ?_
        refine pw_iload_12 dL_law_353 ?_
        refine pw_iaddN dL_law_355 ?_
        refine pw_dup2_11 dL_law_356 ?_
        refine pw_ialdN dL_law_357 hs.a (by omega) (by decide) ?_
        refine pw_top ((lx_o (by omega)).trans ((hl.a4 (i := j1) (by omega) (by omega)).trans (gd.s (i := j1) (by omega)).w.1)) ?_
        refine pw_iconst (v := nI 1) dL_law_358 (by decide) ?_
        refine pw_iaddN dL_law_359 ?_
        refine pw_iastN dL_law_360 hs.a (by omega) (by decide) ?_
        refine pw_gen (P := LU True μ p (setS (aB A) j1 (gtF (bS (aB A) j1) (nwF (bS (aB A) j1)) (nI j5) (nI j4)))) (hl.gt (by omega) rfl fu1) (fun ν hlg => ?_)
        refine pw_aload_1 dL_law_361 ?_
        refine pw_iload_12 dL_law_362 ?_
        refine pw_iload_13 dL_law_364 ?_
        refine pw_iload_14 dL_law_366 ?_
        refine pw_cV3i 7 dL_law_368 kL_89 vX7_word iX7_word ⟨by decide, by decide⟩ ⟨rfl, rfl⟩ (by decide) rfl (Nat.le_of_ble_eq_true rfl) hc.1.t (kf_word (hc.mv hno (fun a ha => hlg.out (Or.inl (by omega)))) wa (fun μ1 x1 hc1 fx1 => ?_))
        refine pw_top ((wd_v (i := j1) (x := j4) (v := j5) gd.hn h8 (by omega) (by omega) (by omega)).1.trans ((cif_y at1).trans (if_neg (by omega)))) ?_
        refine pw_iload_15 dL_law_371 ?_
        refine pw_if_ne 381 dL_law_373 (by decide) (fun _ => ?_) (fun hh => absurd hh (by decide))
        refine pw_iload_16 dL_law_381 ?_
        refine pw_if_eq 391 dL_law_383 (by decide) (fun _ => ?_) (fun hh => absurd (by decide) hh)
        refine pw_aload_2 dL_law_391 ?_
        refine pw_bipush (v := nI 32) dL_law_392 (by decide) ?_
        refine pw_iload_12 dL_law_394 ?_
        refine pw_iaddN dL_law_396 ?_
        refine pw_ialdN dL_law_397 hs.a (by omega) (by decide) ?_
        refine pw_top (((hlg.mv (ν := μ1) (fun a a1 a2 => fx1 a (by omega) (by omega))).a4 (i := j1) (by omega) (by omega)).trans (by rw [bS_setS_s]; try exact upd_s _ _ _)) ?_
        refine pw_icmp_ne 405 dL_law_398 (by decide) (fun hh => absurd rfl hh) (fun _ => ?_)
        refine pw_iconst (v := nI 1) dL_law_401 (by decide) ?_
        refine pw_goto 406 dL_law_402 (by decide) ?_
        refine pw_istore_11 dL_law_406 (by decide) ?_
        refine pw_goto 943 dL_law_408 (by decide) ?_
        have eB : aB (upA A (wdR (aB A) (nI j1) (nI j4) (nI j5)) (wdN (aB A) (nI j1) (nI j4) (nI j5))) = setS (aB A) j1 (gtF (bS (aB A) j1) (nwF (bS (aB A) j1)) (nI j5) (nI j4)) := (up_B (fun h95 => wd_neg gd.wf h95)).trans ((wd_v (i := j1) (x := j4) (v := j5) gd.hn h8 (by omega) (by omega) (by omega)).2.trans (cif_y ⟨at1, by omega⟩))
        refine pw_fg (ls' := [some (.ref (cxS X).1), some (.ref o), some (.ref p), some (.ref (p + 1)), some (.ref (p + 2)), some (.ref (p + 3)), some (.ref (p + 4)), some (.ref (p + 5)), some (.int (nI e)), none, none, some (.int (nI 1)), none, none, none, none, none]) ⟨Or.inr rfl, Or.inr rfl, Or.inr rfl, Or.inr rfl, Or.inr rfl, Or.inr rfl, Or.inr rfl, Or.inr rfl, Or.inr rfl, Or.inl rfl, Or.inl rfl, Or.inr rfl, Or.inl rfl, Or.inl rfl, Or.inl rfl, Or.inl rfl, Or.inl rfl, trivial⟩ ?_
        refine K _ _ _ n hc1 (fun k => by rw [up_S]; exact hno k) (wa_wd wa) ?_ ?_ ?_ (Or.inl hn2)
        · rw [eB]
          exact hlg.mv (fun a a1 a2 => fx1 a (by omega) (by omega))
        · rw [eB]
          exact gd.gt (by omega) fu1 (by omega) (by omega)
        · rw [eB]
          exact ((ht.mono (by omega)).eq rfl)
      · skip
        have fu2 : nwF (bS (aB A) j1) = 4 := by omega
        refine pw_icmp_ne 312 dL_law_305 (by decide) (fun hh => absurd (by rw [fu2]) hh) (fun _ => ?_)
        refine pw_iconst (v := nI 1) dL_law_308 (by decide) ?_
        refine pw_goto 313 dL_law_309 (by decide) ?_
        refine pw_istore_16 dL_law_313 (by decide) ?_
        refine pw_iload_15 dL_law_315 ?_
        refine pw_if_eq 361 dL_law_317 (by decide) (fun hh => absurd hh (by decide)) (fun _ => ?_)
        refine pw_iload_16 dL_law_320 ?_
        refine pw_if_ne 361 dL_law_322 (by decide) (fun _ => ?_) (fun hh => absurd hh (by decide))
        refine pw_aload_1 dL_law_361 ?_
        refine pw_iload_12 dL_law_362 ?_
        refine pw_iload_13 dL_law_364 ?_
        refine pw_iload_14 dL_law_366 ?_
        refine pw_cV3i 7 dL_law_368 kL_89 vX7_word iX7_word ⟨by decide, by decide⟩ ⟨rfl, rfl⟩ (by decide) rfl (Nat.le_of_ble_eq_true rfl) hc.1.t (kf_word (hc.mv hno (fun a ha => hl.out (Or.inl (by omega)))) wa (fun μ1 x1 hc1 fx1 => ?_))
        refine pw_top ((wd_v (i := j1) (x := j4) (v := j5) gd.hn h8 (by omega) (by omega) (by omega)).1.trans ((cif_y at1).trans (if_pos fu2))) ?_
        refine pw_iload_15 dL_law_371 ?_
        refine pw_if_ne 381 dL_law_373 (by decide) (fun _ => ?_) (fun hh => absurd hh (by decide))
        refine pw_iload_16 dL_law_381 ?_
        refine pw_if_eq 391 dL_law_383 (by decide) (fun hh => absurd hh (by decide)) (fun _ => ?_)
        refine pw_bipush (v := -4) dL_law_386 (by decide) ?_
        refine pw_goto 398 dL_law_388 (by decide) ?_
        refine pw_icmp_ne 405 dL_law_398 (by decide) (fun hh => absurd rfl hh) (fun _ => ?_)
        refine pw_iconst (v := nI 1) dL_law_401 (by decide) ?_
        refine pw_goto 406 dL_law_402 (by decide) ?_
        refine pw_istore_11 dL_law_406 (by decide) ?_
        refine pw_goto 943 dL_law_408 (by decide) ?_
        have eB : aB (upA A (wdR (aB A) (nI j1) (nI j4) (nI j5)) (wdN (aB A) (nI j1) (nI j4) (nI j5))) = aB A := (up_B (fun h95 => wd_neg gd.wf h95)).trans ((wd_v (i := j1) (x := j4) (v := j5) gd.hn h8 (by omega) (by omega) (by omega)).2.trans (cif_n (fun h95 => h95.2 fu2)))
        refine pw_fg (ls' := [some (.ref (cxS X).1), some (.ref o), some (.ref p), some (.ref (p + 1)), some (.ref (p + 2)), some (.ref (p + 3)), some (.ref (p + 4)), some (.ref (p + 5)), some (.int (nI e)), none, none, some (.int (nI 1)), none, none, none, none, none]) ⟨Or.inr rfl, Or.inr rfl, Or.inr rfl, Or.inr rfl, Or.inr rfl, Or.inr rfl, Or.inr rfl, Or.inr rfl, Or.inr rfl, Or.inl rfl, Or.inl rfl, Or.inr rfl, Or.inl rfl, Or.inl rfl, Or.inl rfl, Or.inl rfl, Or.inl rfl, trivial⟩ ?_
        refine K _ _ _ n hc1 (fun k => by rw [up_S]; exact hno k) (wa_wd wa) ?_ ?_ ?_ (Or.inl hn2)
        · rw [eB]
          exact hl.mv (fun a a1 a2 => fx1 a (by omega) (by omega))
        · rw [eB]
          exact gd
        · rw [eB]
          exact ((ht.mono (by omega)).eq rfl)
    · skip
      refine pw_icmp_ne 294 dL_law_287 (by decide) (fun _ => ?_) (fun hh => absurd (show atB (aB A) j1 (nI j4) from hh) at1)
      refine pw_iconst (v := nI 0) dL_law_294 (by decide) ?_
      refine pw_istore_15 dL_law_295 (by decide) ?_
      refine pw_aload_2 dL_law_297 ?_
      refine pw_bipush (v := nI 32) dL_law_298 (by decide) ?_
      refine pw_iload_12 dL_law_300 ?_
      refine pw_iaddN dL_law_302 ?_
      refine pw_ialdN dL_law_303 hs.a (by omega) (by decide) ?_
      refine pw_top ((hl.a4 (i := j1) (by omega) (by omega)).trans ((gd.s (i := j1) (by omega)).w).1) ?_
      refine pw_iconst (v := nI 4) dL_law_304 (by decide) ?_
      have hw4 := (gd.s (i := j1) (by omega)).w.2
      rcases Nat.lt_or_ge (nwF (bS (aB A) j1)) 4 with fu1 | fu1
      · skip
        refine pw_icmp_ne 312 dL_law_305 (by decide) (fun _ => ?_) (fun hh => absurd ((nI_eq (by omega) (by omega)).mp hh) (by omega))
        refine pw_iconst (v := nI 0) dL_law_312 (by decide) ?_
        refine pw_istore_16 dL_law_313 (by decide) ?_
        refine pw_iload_15 dL_law_315 ?_
        refine pw_if_eq 361 dL_law_317 (by decide) (fun _ => ?_) (fun hh => absurd (by decide) hh)
        refine pw_aload_1 dL_law_361 ?_
        refine pw_iload_12 dL_law_362 ?_
        refine pw_iload_13 dL_law_364 ?_
        refine pw_iload_14 dL_law_366 ?_
        refine pw_cV3i 7 dL_law_368 kL_89 vX7_word iX7_word ⟨by decide, by decide⟩ ⟨rfl, rfl⟩ (by decide) rfl (Nat.le_of_ble_eq_true rfl) hc.1.t (kf_word (hc.mv hno (fun a ha => hl.out (Or.inl (by omega)))) wa (fun μ1 x1 hc1 fx1 => ?_))
        refine pw_top ((wd_v (i := j1) (x := j4) (v := j5) gd.hn h8 (by omega) (by omega) (by omega)).1.trans (cif_n at1)) ?_
        refine pw_iload_15 dL_law_371 ?_
        refine pw_if_ne 381 dL_law_373 (by decide) (fun hh => absurd hh (by decide)) (fun _ => ?_)
        refine pw_bipush (v := -5) dL_law_376 (by decide) ?_
        refine pw_goto 398 dL_law_378 (by decide) ?_
        refine pw_icmp_ne 405 dL_law_398 (by decide) (fun hh => absurd rfl hh) (fun _ => ?_)
        refine pw_iconst (v := nI 1) dL_law_401 (by decide) ?_
        refine pw_goto 406 dL_law_402 (by decide) ?_
        refine pw_istore_11 dL_law_406 (by decide) ?_
        refine pw_goto 943 dL_law_408 (by decide) ?_
        have eB : aB (upA A (wdR (aB A) (nI j1) (nI j4) (nI j5)) (wdN (aB A) (nI j1) (nI j4) (nI j5))) = aB A := (up_B (fun h95 => wd_neg gd.wf h95)).trans ((wd_v (i := j1) (x := j4) (v := j5) gd.hn h8 (by omega) (by omega) (by omega)).2.trans (cif_n (fun h95 => at1 h95.1)))
        refine pw_fg (ls' := [some (.ref (cxS X).1), some (.ref o), some (.ref p), some (.ref (p + 1)), some (.ref (p + 2)), some (.ref (p + 3)), some (.ref (p + 4)), some (.ref (p + 5)), some (.int (nI e)), none, none, some (.int (nI 1)), none, none, none, none, none]) ⟨Or.inr rfl, Or.inr rfl, Or.inr rfl, Or.inr rfl, Or.inr rfl, Or.inr rfl, Or.inr rfl, Or.inr rfl, Or.inr rfl, Or.inl rfl, Or.inl rfl, Or.inr rfl, Or.inl rfl, Or.inl rfl, Or.inl rfl, Or.inl rfl, Or.inl rfl, trivial⟩ ?_
        refine K _ _ _ n hc1 (fun k => by rw [up_S]; exact hno k) (wa_wd wa) ?_ ?_ ?_ (Or.inl hn2)
        · rw [eB]
          exact hl.mv (fun a a1 a2 => fx1 a (by omega) (by omega))
        · rw [eB]
          exact gd
        · rw [eB]
          exact ((ht.mono (by omega)).eq rfl)
      · skip
        have fu2 : nwF (bS (aB A) j1) = 4 := by omega
        refine pw_icmp_ne 312 dL_law_305 (by decide) (fun hh => absurd (by rw [fu2]) hh) (fun _ => ?_)
        refine pw_iconst (v := nI 1) dL_law_308 (by decide) ?_
        refine pw_goto 313 dL_law_309 (by decide) ?_
        refine pw_istore_16 dL_law_313 (by decide) ?_
        refine pw_iload_15 dL_law_315 ?_
        refine pw_if_eq 361 dL_law_317 (by decide) (fun _ => ?_) (fun hh => absurd (by decide) hh)
        refine pw_aload_1 dL_law_361 ?_
        refine pw_iload_12 dL_law_362 ?_
        refine pw_iload_13 dL_law_364 ?_
        refine pw_iload_14 dL_law_366 ?_
        refine pw_cV3i 7 dL_law_368 kL_89 vX7_word iX7_word ⟨by decide, by decide⟩ ⟨rfl, rfl⟩ (by decide) rfl (Nat.le_of_ble_eq_true rfl) hc.1.t (kf_word (hc.mv hno (fun a ha => hl.out (Or.inl (by omega)))) wa (fun μ1 x1 hc1 fx1 => ?_))
        refine pw_top ((wd_v (i := j1) (x := j4) (v := j5) gd.hn h8 (by omega) (by omega) (by omega)).1.trans (cif_n at1)) ?_
        refine pw_iload_15 dL_law_371 ?_
        refine pw_if_ne 381 dL_law_373 (by decide) (fun hh => absurd hh (by decide)) (fun _ => ?_)
        refine pw_bipush (v := -5) dL_law_376 (by decide) ?_
        refine pw_goto 398 dL_law_378 (by decide) ?_
        refine pw_icmp_ne 405 dL_law_398 (by decide) (fun hh => absurd rfl hh) (fun _ => ?_)
        refine pw_iconst (v := nI 1) dL_law_401 (by decide) ?_
        refine pw_goto 406 dL_law_402 (by decide) ?_
        refine pw_istore_11 dL_law_406 (by decide) ?_
        refine pw_goto 943 dL_law_408 (by decide) ?_
        have eB : aB (upA A (wdR (aB A) (nI j1) (nI j4) (nI j5)) (wdN (aB A) (nI j1) (nI j4) (nI j5))) = aB A := (up_B (fun h95 => wd_neg gd.wf h95)).trans ((wd_v (i := j1) (x := j4) (v := j5) gd.hn h8 (by omega) (by omega) (by omega)).2.trans (cif_n (fun h95 => at1 h95.1)))
        refine pw_fg (ls' := [some (.ref (cxS X).1), some (.ref o), some (.ref p), some (.ref (p + 1)), some (.ref (p + 2)), some (.ref (p + 3)), some (.ref (p + 4)), some (.ref (p + 5)), some (.int (nI e)), none, none, some (.int (nI 1)), none, none, none, none, none]) ⟨Or.inr rfl, Or.inr rfl, Or.inr rfl, Or.inr rfl, Or.inr rfl, Or.inr rfl, Or.inr rfl, Or.inr rfl, Or.inr rfl, Or.inl rfl, Or.inl rfl, Or.inr rfl, Or.inl rfl, Or.inl rfl, Or.inl rfl, Or.inl rfl, Or.inl rfl, trivial⟩ ?_
        refine K _ _ _ n hc1 (fun k => by rw [up_S]; exact hno k) (wa_wd wa) ?_ ?_ ?_ (Or.inl hn2)
        · rw [eB]
          exact hl.mv (fun a a1 a2 => fx1 a (by omega) (by omega))
        · rw [eB]
          exact gd
        · rw [eB]
          exact ((ht.mono (by omega)).eq rfl)
  · skip
    refine pw_bipush (v := nI 6) dL_law_253 (by decide) ?_
    refine pw_goto 259 dL_law_255 (by decide) ?_
    refine pw_cS2i dL_law_259 kL_59 vL_low sL_low ⟨by decide, by decide⟩ ⟨rfl, rfl⟩ (Nat.le_of_ble_eq_true rfl) (c_low (by omega) (by omega) (fun j6 j6b => ?_))
    refine pw_istore_13 dL_law_262 (by decide) ?_
    refine pw_iload_9 dL_law_264 ?_
    refine pw_bipush (v := nI 13) dL_law_266 (by decide) ?_
    refine pw_ishr dL_law_268 ?_
    refine pw_sipush (v := nI 256) dL_law_269 (by decide) ?_
    refine pw_cS2i dL_law_272 kL_59 vL_low sL_low ⟨by decide, by decide⟩ ⟨rfl, rfl⟩ (Nat.le_of_ble_eq_true rfl) (c_low (by omega) (by omega) (fun j7 j7b => ?_))
    refine pw_istore_14 dL_law_275 (by decide) ?_
    refine pw_aload_2 dL_law_277 ?_
    refine pw_iload_12 dL_law_278 ?_
    refine pw_ialdN dL_law_280 hs.a (by omega) (by decide) ?_
    refine pw_top (hl.a0 (i := j1) (by omega) (by omega)) ?_
    refine pw_iload_13 dL_law_281 ?_
    refine pw_ishr dL_law_283 ?_
    refine pw_iconst (v := nI 1) dL_law_284 (by decide) ?_
    refine pw_iand dL_law_285 ?_
    refine pw_iconst (v := nI 1) dL_law_286 (by decide) ?_
    rcases Classical.em (atB (aB A) j1 (nI j6)) with at1 | at1
    · skip
      refine pw_icmp_ne 294 dL_law_287 (by decide) (fun hh => absurd (show _ = nI 1 from at1) hh) (fun _ => ?_)
      refine pw_iconst (v := nI 1) dL_law_290 (by decide) ?_
      refine pw_goto 295 dL_law_291 (by decide) ?_
      refine pw_istore_15 dL_law_295 (by decide) ?_
      refine pw_aload_2 dL_law_297 ?_
      refine pw_bipush (v := nI 32) dL_law_298 (by decide) ?_
      refine pw_iload_12 dL_law_300 ?_
      refine pw_iaddN dL_law_302 ?_
      refine pw_ialdN dL_law_303 hs.a (by omega) (by decide) ?_
      refine pw_top ((hl.a4 (i := j1) (by omega) (by omega)).trans ((gd.s (i := j1) (by omega)).w).1) ?_
      refine pw_iconst (v := nI 4) dL_law_304 (by decide) ?_
      have hw4 := (gd.s (i := j1) (by omega)).w.2
      rcases Nat.lt_or_ge (nwF (bS (aB A) j1)) 4 with fu1 | fu1
      · skip
        refine pw_icmp_ne 312 dL_law_305 (by decide) (fun _ => ?_) (fun hh => absurd ((nI_eq (by omega) (by omega)).mp hh) (by omega))
        refine pw_iconst (v := nI 0) dL_law_312 (by decide) ?_
        refine pw_istore_16 dL_law_313 (by decide) ?_
        refine pw_iload_15 dL_law_315 ?_
        refine pw_if_eq 361 dL_law_317 (by decide) (fun hh => absurd hh (by decide)) (fun _ => ?_)
        refine pw_iload_16 dL_law_320 ?_
        refine pw_if_ne 361 dL_law_322 (by decide) (fun hh => absurd hh (by decide)) (fun _ => ?_)
        refine pw_aload_4 dL_law_325 ?_
        refine pw_bipush (v := nI 8) dL_law_327 (by decide) ?_
        refine pw_aload_2 dL_law_329 ?_
        refine pw_bipush (v := nI 32) dL_law_330 (by decide) ?_
        refine pw_iload_12 dL_law_332 ?_
        refine pw_iaddN dL_law_334 ?_
        refine pw_ialdN dL_law_335 hs.a (by omega) (by decide) ?_
        refine pw_top ((hl.a4 (i := j1) (by omega) (by omega)).trans ((gd.s (i := j1) (by omega)).w).1) ?_
        refine pw_imulN dL_law_336 ?_
        refine pw_iload_12 dL_law_337 ?_
        refine pw_iaddN dL_law_339 ?_
        refine pw_iload_14 dL_law_340 ?_
        refine pw_sipush (v := nI 256) dL_law_342 (by decide) ?_
        refine pw_iload_13 dL_law_345 ?_
        refine pw_imulN dL_law_347 ?_
        refine pw_iaddN dL_law_348 ?_
        refine pw_iastN dL_law_349 hs.q (by omega) (by decide) ?_
        refine pw_aload_2 dL_law_350 ?_
        refine pw_bipush (v := nI 32) dL_law_351 (by decide) ?_
        refine pw_iload_12 dL_law_353 ?_
        refine pw_iaddN dL_law_355 ?_
        refine pw_dup2_11 dL_law_356 ?_
        refine pw_ialdN dL_law_357 hs.a (by omega) (by decide) ?_
        refine pw_top ((lx_o (by omega)).trans ((hl.a4 (i := j1) (by omega) (by omega)).trans (gd.s (i := j1) (by omega)).w.1)) ?_
        refine pw_iconst (v := nI 1) dL_law_358 (by decide) ?_
        refine pw_iaddN dL_law_359 ?_
        refine pw_iastN dL_law_360 hs.a (by omega) (by decide) ?_
        refine pw_gen (P := LU True μ p (setS (aB A) j1 (gtF (bS (aB A) j1) (nwF (bS (aB A) j1)) (nI j7) (nI j6)))) (hl.gt (by omega) rfl fu1) (fun ν hlg => ?_)
        refine pw_aload_1 dL_law_361 ?_
        refine pw_iload_12 dL_law_362 ?_
        refine pw_iload_13 dL_law_364 ?_
        refine pw_iload_14 dL_law_366 ?_
        refine pw_cV3i 7 dL_law_368 kL_89 vX7_word iX7_word ⟨by decide, by decide⟩ ⟨rfl, rfl⟩ (by decide) rfl (Nat.le_of_ble_eq_true rfl) hc.1.t (kf_word (hc.mv hno (fun a ha => hlg.out (Or.inl (by omega)))) wa (fun μ1 x1 hc1 fx1 => ?_))
        refine pw_top ((wd_v (i := j1) (x := j6) (v := j7) gd.hn h8 (by omega) (by omega) (by omega)).1.trans ((cif_y at1).trans (if_neg (by omega)))) ?_
        refine pw_iload_15 dL_law_371 ?_
        refine pw_if_ne 381 dL_law_373 (by decide) (fun _ => ?_) (fun hh => absurd hh (by decide))
        refine pw_iload_16 dL_law_381 ?_
        refine pw_if_eq 391 dL_law_383 (by decide) (fun _ => ?_) (fun hh => absurd (by decide) hh)
        refine pw_aload_2 dL_law_391 ?_
        refine pw_bipush (v := nI 32) dL_law_392 (by decide) ?_
        refine pw_iload_12 dL_law_394 ?_
        refine pw_iaddN dL_law_396 ?_
        refine pw_ialdN dL_law_397 hs.a (by omega) (by decide) ?_
        refine pw_top (((hlg.mv (ν := μ1) (fun a a1 a2 => fx1 a (by omega) (by omega))).a4 (i := j1) (by omega) (by omega)).trans (by rw [bS_setS_s]; try exact upd_s _ _ _)) ?_
        refine pw_icmp_ne 405 dL_law_398 (by decide) (fun hh => absurd rfl hh) (fun _ => ?_)
        refine pw_iconst (v := nI 1) dL_law_401 (by decide) ?_
        refine pw_goto 406 dL_law_402 (by decide) ?_
        refine pw_istore_11 dL_law_406 (by decide) ?_
        refine pw_goto 943 dL_law_408 (by decide) ?_
        have eB : aB (upA A (wdR (aB A) (nI j1) (nI j6) (nI j7)) (wdN (aB A) (nI j1) (nI j6) (nI j7))) = setS (aB A) j1 (gtF (bS (aB A) j1) (nwF (bS (aB A) j1)) (nI j7) (nI j6)) := (up_B (fun h95 => wd_neg gd.wf h95)).trans ((wd_v (i := j1) (x := j6) (v := j7) gd.hn h8 (by omega) (by omega) (by omega)).2.trans (cif_y ⟨at1, by omega⟩))
        refine pw_fg (ls' := [some (.ref (cxS X).1), some (.ref o), some (.ref p), some (.ref (p + 1)), some (.ref (p + 2)), some (.ref (p + 3)), some (.ref (p + 4)), some (.ref (p + 5)), some (.int (nI e)), none, none, some (.int (nI 1)), none, none, none, none, none]) ⟨Or.inr rfl, Or.inr rfl, Or.inr rfl, Or.inr rfl, Or.inr rfl, Or.inr rfl, Or.inr rfl, Or.inr rfl, Or.inr rfl, Or.inl rfl, Or.inl rfl, Or.inr rfl, Or.inl rfl, Or.inl rfl, Or.inl rfl, Or.inl rfl, Or.inl rfl, trivial⟩ ?_
        refine K _ _ _ n hc1 (fun k => by rw [up_S]; exact hno k) (wa_wd wa) ?_ ?_ ?_ (Or.inl hn2)
        · rw [eB]
          exact hlg.mv (fun a a1 a2 => fx1 a (by omega) (by omega))
        · rw [eB]
          exact gd.gt (by omega) fu1 (by omega) (by omega)
        · rw [eB]
          exact ((ht.mono (by omega)).eq rfl)
      · skip
        have fu2 : nwF (bS (aB A) j1) = 4 := by omega
        refine pw_icmp_ne 312 dL_law_305 (by decide) (fun hh => absurd (by rw [fu2]) hh) (fun _ => ?_)
        refine pw_iconst (v := nI 1) dL_law_308 (by decide) ?_
        refine pw_goto 313 dL_law_309 (by decide) ?_
        refine pw_istore_16 dL_law_313 (by decide) ?_
        refine pw_iload_15 dL_law_315 ?_
        refine pw_if_eq 361 dL_law_317 (by decide) (fun hh => absurd hh (by decide)) (fun _ => ?_)
        refine pw_iload_16 dL_law_320 ?_
        refine pw_if_ne 361 dL_law_322 (by decide) (fun _ => ?_) (fun hh => absurd hh (by decide))
        refine pw_aload_1 dL_law_361 ?_
        refine pw_iload_12 dL_law_362 ?_
        refine pw_iload_13 dL_law_364 ?_
        refine pw_iload_14 dL_law_366 ?_
        refine pw_cV3i 7 dL_law_368 kL_89 vX7_word iX7_word ⟨by decide, by decide⟩ ⟨rfl, rfl⟩ (by decide) rfl (Nat.le_of_ble_eq_true rfl) hc.1.t (kf_word (hc.mv hno (fun a ha => hl.out (Or.inl (by omega)))) wa (fun μ1 x1 hc1 fx1 => ?_))
        refine pw_top ((wd_v (i := j1) (x := j6) (v := j7) gd.hn h8 (by omega) (by omega) (by omega)).1.trans ((cif_y at1).trans (if_pos fu2))) ?_
        refine pw_iload_15 dL_law_371 ?_
        refine pw_if_ne 381 dL_law_373 (by decide) (fun _ => ?_) (fun hh => absurd hh (by decide))
        refine pw_iload_16 dL_law_381 ?_
        refine pw_if_eq 391 dL_law_383 (by decide) (fun hh => absurd hh (by decide)) (fun _ => ?_)
        refine pw_bipush (v := -4) dL_law_386 (by decide) ?_
        refine pw_goto 398 dL_law_388 (by decide) ?_
        refine pw_icmp_ne 405 dL_law_398 (by decide) (fun hh => absurd rfl hh) (fun _ => ?_)
        refine pw_iconst (v := nI 1) dL_law_401 (by decide) ?_
        refine pw_goto 406 dL_law_402 (by decide) ?_
        refine pw_istore_11 dL_law_406 (by decide) ?_
        refine pw_goto 943 dL_law_408 (by decide) ?_
        have eB : aB (upA A (wdR (aB A) (nI j1) (nI j6) (nI j7)) (wdN (aB A) (nI j1) (nI j6) (nI j7))) = aB A := (up_B (fun h95 => wd_neg gd.wf h95)).trans ((wd_v (i := j1) (x := j6) (v := j7) gd.hn h8 (by omega) (by omega) (by omega)).2.trans (cif_n (fun h95 => h95.2 fu2)))
        refine pw_fg (ls' := [some (.ref (cxS X).1), some (.ref o), some (.ref p), some (.ref (p + 1)), some (.ref (p + 2)), some (.ref (p + 3)), some (.ref (p + 4)), some (.ref (p + 5)), some (.int (nI e)), none, none, some (.int (nI 1)), none, none, none, none, none]) ⟨Or.inr rfl, Or.inr rfl, Or.inr rfl, Or.inr rfl, Or.inr rfl, Or.inr rfl, Or.inr rfl, Or.inr rfl, Or.inr rfl, Or.inl rfl, Or.inl rfl, Or.inr rfl, Or.inl rfl, Or.inl rfl, Or.inl rfl, Or.inl rfl, Or.inl rfl, trivial⟩ ?_
        refine K _ _ _ n hc1 (fun k => by rw [up_S]; exact hno k) (wa_wd wa) ?_ ?_ ?_ (Or.inl hn2)
        · rw [eB]
          exact hl.mv (fun a a1 a2 => fx1 a (by omega) (by omega))
        · rw [eB]
          exact gd
        · rw [eB]
          exact ((ht.mono (by omega)).eq rfl)
    · skip
      refine pw_icmp_ne 294 dL_law_287 (by decide) (fun _ => ?_) (fun hh => absurd (show atB (aB A) j1 (nI j6) from hh) at1)
      refine pw_iconst (v := nI 0) dL_law_294 (by decide) ?_
      refine pw_istore_15 dL_law_295 (by decide) ?_
      refine pw_aload_2 dL_law_297 ?_
      refine pw_bipush (v := nI 32) dL_law_298 (by decide) ?_
      refine pw_iload_12 dL_law_300 ?_
      refine pw_iaddN dL_law_302 ?_
      refine pw_ialdN dL_law_303 hs.a (by omega) (by decide) ?_
      refine pw_top ((hl.a4 (i := j1) (by omega) (by omega)).trans ((gd.s (i := j1) (by omega)).w).1) ?_
      refine pw_iconst (v := nI 4) dL_law_304 (by decide) ?_
      have hw4 := (gd.s (i := j1) (by omega)).w.2
      rcases Nat.lt_or_ge (nwF (bS (aB A) j1)) 4 with fu1 | fu1
      · skip
        refine pw_icmp_ne 312 dL_law_305 (by decide) (fun _ => ?_) (fun hh => absurd ((nI_eq (by omega) (by omega)).mp hh) (by omega))
        refine pw_iconst (v := nI 0) dL_law_312 (by decide) ?_
        refine pw_istore_16 dL_law_313 (by decide) ?_
        refine pw_iload_15 dL_law_315 ?_
        refine pw_if_eq 361 dL_law_317 (by decide) (fun _ => ?_) (fun hh => absurd (by decide) hh)
        refine pw_aload_1 dL_law_361 ?_
        refine pw_iload_12 dL_law_362 ?_
        refine pw_iload_13 dL_law_364 ?_
        refine pw_iload_14 dL_law_366 ?_
        refine pw_cV3i 7 dL_law_368 kL_89 vX7_word iX7_word ⟨by decide, by decide⟩ ⟨rfl, rfl⟩ (by decide) rfl (Nat.le_of_ble_eq_true rfl) hc.1.t (kf_word (hc.mv hno (fun a ha => hl.out (Or.inl (by omega)))) wa (fun μ1 x1 hc1 fx1 => ?_))
        refine pw_top ((wd_v (i := j1) (x := j6) (v := j7) gd.hn h8 (by omega) (by omega) (by omega)).1.trans (cif_n at1)) ?_
        refine pw_iload_15 dL_law_371 ?_
        refine pw_if_ne 381 dL_law_373 (by decide) (fun hh => absurd hh (by decide)) (fun _ => ?_)
        refine pw_bipush (v := -5) dL_law_376 (by decide) ?_
        refine pw_goto 398 dL_law_378 (by decide) ?_
        refine pw_icmp_ne 405 dL_law_398 (by decide) (fun hh => absurd rfl hh) (fun _ => ?_)
        refine pw_iconst (v := nI 1) dL_law_401 (by decide) ?_
        refine pw_goto 406 dL_law_402 (by decide) ?_
        refine pw_istore_11 dL_law_406 (by decide) ?_
        refine pw_goto 943 dL_law_408 (by decide) ?_
        have eB : aB (upA A (wdR (aB A) (nI j1) (nI j6) (nI j7)) (wdN (aB A) (nI j1) (nI j6) (nI j7))) = aB A := (up_B (fun h95 => wd_neg gd.wf h95)).trans ((wd_v (i := j1) (x := j6) (v := j7) gd.hn h8 (by omega) (by omega) (by omega)).2.trans (cif_n (fun h95 => at1 h95.1)))
        refine pw_fg (ls' := [some (.ref (cxS X).1), some (.ref o), some (.ref p), some (.ref (p + 1)), some (.ref (p + 2)), some (.ref (p + 3)), some (.ref (p + 4)), some (.ref (p + 5)), some (.int (nI e)), none, none, some (.int (nI 1)), none, none, none, none, none]) ⟨Or.inr rfl, Or.inr rfl, Or.inr rfl, Or.inr rfl, Or.inr rfl, Or.inr rfl, Or.inr rfl, Or.inr rfl, Or.inr rfl, Or.inl rfl, Or.inl rfl, Or.inr rfl, Or.inl rfl, Or.inl rfl, Or.inl rfl, Or.inl rfl, Or.inl rfl, trivial⟩ ?_
        refine K _ _ _ n hc1 (fun k => by rw [up_S]; exact hno k) (wa_wd wa) ?_ ?_ ?_ (Or.inl hn2)
        · rw [eB]
          exact hl.mv (fun a a1 a2 => fx1 a (by omega) (by omega))
        · rw [eB]
          exact gd
        · rw [eB]
          exact ((ht.mono (by omega)).eq rfl)
      · skip
        have fu2 : nwF (bS (aB A) j1) = 4 := by omega
        refine pw_icmp_ne 312 dL_law_305 (by decide) (fun hh => absurd (by rw [fu2]) hh) (fun _ => ?_)
        refine pw_iconst (v := nI 1) dL_law_308 (by decide) ?_
        refine pw_goto 313 dL_law_309 (by decide) ?_
        refine pw_istore_16 dL_law_313 (by decide) ?_
        refine pw_iload_15 dL_law_315 ?_
        refine pw_if_eq 361 dL_law_317 (by decide) (fun _ => ?_) (fun hh => absurd (by decide) hh)
        refine pw_aload_1 dL_law_361 ?_
        refine pw_iload_12 dL_law_362 ?_
        refine pw_iload_13 dL_law_364 ?_
        refine pw_iload_14 dL_law_366 ?_
        refine pw_cV3i 7 dL_law_368 kL_89 vX7_word iX7_word ⟨by decide, by decide⟩ ⟨rfl, rfl⟩ (by decide) rfl (Nat.le_of_ble_eq_true rfl) hc.1.t (kf_word (hc.mv hno (fun a ha => hl.out (Or.inl (by omega)))) wa (fun μ1 x1 hc1 fx1 => ?_))
        refine pw_top ((wd_v (i := j1) (x := j6) (v := j7) gd.hn h8 (by omega) (by omega) (by omega)).1.trans (cif_n at1)) ?_
        refine pw_iload_15 dL_law_371 ?_
        refine pw_if_ne 381 dL_law_373 (by decide) (fun hh => absurd hh (by decide)) (fun _ => ?_)
        refine pw_bipush (v := -5) dL_law_376 (by decide) ?_
        refine pw_goto 398 dL_law_378 (by decide) ?_
        refine pw_icmp_ne 405 dL_law_398 (by decide) (fun hh => absurd rfl hh) (fun _ => ?_)
        refine pw_iconst (v := nI 1) dL_law_401 (by decide) ?_
        refine pw_goto 406 dL_law_402 (by decide) ?_
        refine pw_istore_11 dL_law_406 (by decide) ?_
        refine pw_goto 943 dL_law_408 (by decide) ?_
        have eB : aB (upA A (wdR (aB A) (nI j1) (nI j6) (nI j7)) (wdN (aB A) (nI j1) (nI j6) (nI j7))) = aB A := (up_B (fun h95 => wd_neg gd.wf h95)).trans ((wd_v (i := j1) (x := j6) (v := j7) gd.hn h8 (by omega) (by omega) (by omega)).2.trans (cif_n (fun h95 => at1 h95.1)))
        refine pw_fg (ls' := [some (.ref (cxS X).1), some (.ref o), some (.ref p), some (.ref (p + 1)), some (.ref (p + 2)), some (.ref (p + 3)), some (.ref (p + 4)), some (.ref (p + 5)), some (.int (nI e)), none, none, some (.int (nI 1)), none, none, none, none, none]) ⟨Or.inr rfl, Or.inr rfl, Or.inr rfl, Or.inr rfl, Or.inr rfl, Or.inr rfl, Or.inr rfl, Or.inr rfl, Or.inr rfl, Or.inl rfl, Or.inl rfl, Or.inr rfl, Or.inl rfl, Or.inl rfl, Or.inl rfl, Or.inl rfl, Or.inl rfl, trivial⟩ ?_
        refine K _ _ _ n hc1 (fun k => by rw [up_S]; exact hno k) (wa_wd wa) ?_ ?_ ?_ (Or.inl hn2)
        · rw [eB]
          exact hl.mv (fun a a1 a2 => fx1 a (by omega) (by omega))
        · rw [eB]
          exact gd
        · rw [eB]
          exact ((ht.mono (by omega)).eq rfl)
set_option maxRecDepth 100000 in
set_option maxHeartbeats 4000000 in
theorem law_fg {X : Cx} {σ : Sp} {μ : Mm} {Q : Int32 → Sp → Mm → Prop} {b1 b2 : Nat} {o x9 p n e : Nat} {hx0 : Int32} {A : Aw} (hc : CX σ μ o x9 A) (hno : ∀ k, aS A k = none) (wa : WA A) (hs : ShL σ p) (hl : LU True μ p (aB A) μ) (gd : GDn n (aB A)) (ht : WT (60 * e) (aB A)) (hop : p = o + 565) (he : e < 60) (K : ∀ μ' x' A' n', CX σ μ' o x' A' → (∀ k, aS A' k = none) → WA A' → LU True μ' p (aB A') μ' → GDn n' (aB A') → WT (60 * (e + 1)) (aB A') → (2 ≤ n' ∨ e + 1 ≤ n') → PW X mL_law b1 b2 943 [some (.ref (cxS X).1), some (.ref o), some (.ref p), some (.ref (p + 1)), some (.ref (p + 2)), some (.ref (p + 3)), some (.ref (p + 4)), some (.ref (p + 5)), some (.int (nI e)), none, none, some (.int (nI 1)), none, none, none, none, none] [] σ μ' (LI Q)) (hn2 : 2 ≤ n) : PW X mL_law b1 b2 418 [some (.ref (cxS X).1), some (.ref o), some (.ref p), some (.ref (p + 1)), some (.ref (p + 2)), some (.ref (p + 3)), some (.ref (p + 4)), some (.ref (p + 5)), some (.int (nI e)), some (.int hx0), none, none, none, none, none, none, none] [] σ μ (LI Q) := by
  have h8 := gd.n8
  have w9 := gd.wf
  refine pw_iload_9 dL_law_418 ?_
  refine pw_iconst (v := nI 4) dL_law_420 (by decide) ?_
  refine pw_ishr dL_law_421 ?_
  refine pw_aload_7 dL_law_422 ?_
  refine pw_bipush (v := nI 6) dL_law_424 (by decide) ?_
  refine pw_ialdN dL_law_426 hs.t (by omega) (by decide) ?_
  refine pw_top ((hl.t (by omega)).trans gd.g6) ?_
  refine pw_cS2i dL_law_427 kL_59 vL_low sL_low ⟨by decide, by decide⟩ ⟨rfl, rfl⟩ (Nat.le_of_ble_eq_true rfl) (c_low (by omega) (by omega) (fun j1 j1b => ?_))
  refine pw_istore_12 dL_law_430 (by decide) ?_
  refine pw_aload_2 dL_law_432 ?_
  refine pw_bipush (v := nI 32) dL_law_433 (by decide) ?_
  refine pw_iload_12 dL_law_435 ?_
  refine pw_iaddN dL_law_437 ?_
  refine pw_ialdN dL_law_438 hs.a (by omega) (by decide) ?_
  refine pw_top ((hl.a4 (i := j1) (by omega) (by omega)).trans ((gd.s (i := j1) (by omega)).w).1) ?_
  have hw4 := (gd.s (i := j1) (by omega)).w.2
  rcases Nat.eq_zero_or_pos (nwF (bS (aB A) j1)) with nz1 | nz1
  · skip
    refine pw_if_ne 446 dL_law_439 (by decide) (fun hh => absurd (by rw [nz1]; rfl) hh) (fun _ => ?_)
    refine pw_iconst (v := nI 1) dL_law_442 (by decide) ?_
    refine pw_goto 447 dL_law_443 (by decide) ?_
    refine pw_istore_13 dL_law_447 (by decide) ?_
    refine pw_aload_4 dL_law_449 ?_
    refine pw_iload_12 dL_law_451 ?_
    refine pw_ialdN dL_law_453 hs.q (by omega) (by decide) ?_
    refine pw_sipush (v := nI 256) dL_law_454 (by decide) ?_
    refine pw_irem dL_law_457 (by decide) ?_
    refine pw_istore_14 dL_law_458 (by decide) ?_
    refine pw_iload_13 dL_law_460 ?_
    refine pw_if_ne 473 dL_law_462 (by decide) (fun _ => ?_) (fun hh => absurd hh (by decide))
    refine pw_aload_1 dL_law_473 ?_
    refine pw_iload_12 dL_law_474 ?_
    refine pw_cV1i 7 dL_law_476 kL_92 vX7_forget iX7_forget ⟨by decide, by decide⟩ ⟨rfl, rfl⟩ (by decide) rfl (Nat.le_of_ble_eq_true rfl) hc.1.t (kf_forget (hc.mv hno (fun a ha => hl.out (Or.inl (by omega)))) wa (fun μ1 x1 hc1 fx1 => ?_))
    refine pw_top ((fg_v (i := j1) gd.hn h8 (by omega)).1.trans (if_pos nz1)) ?_
    refine pw_iload_13 dL_law_479 ?_
    refine pw_if_eq 489 dL_law_481 (by decide) (fun hh => absurd hh (by decide)) (fun _ => ?_)
    refine pw_bipush (v := -5) dL_law_484 (by decide) ?_
    refine pw_goto 491 dL_law_486 (by decide) ?_
    refine pw_icmp_ne 498 dL_law_491 (by decide) (fun hh => absurd rfl hh) (fun _ => ?_)
    refine pw_iconst (v := nI 1) dL_law_494 (by decide) ?_
    refine pw_goto 499 dL_law_495 (by decide) ?_
    refine pw_istore_11 dL_law_499 (by decide) ?_
    refine pw_goto 943 dL_law_501 (by decide) ?_
    have eB : aB (upA A (fgR (aB A) (nI j1)) (fgN (aB A) (nI j1))) = aB A := (up_B (fun h95 => fg_neg gd.wf h95)).trans ((fg_v (i := j1) gd.hn h8 (by omega)).2.trans (cif_n (fun h95 => h95 nz1)))
    refine pw_fg (ls' := [some (.ref (cxS X).1), some (.ref o), some (.ref p), some (.ref (p + 1)), some (.ref (p + 2)), some (.ref (p + 3)), some (.ref (p + 4)), some (.ref (p + 5)), some (.int (nI e)), none, none, some (.int (nI 1)), none, none, none, none, none]) ⟨Or.inr rfl, Or.inr rfl, Or.inr rfl, Or.inr rfl, Or.inr rfl, Or.inr rfl, Or.inr rfl, Or.inr rfl, Or.inr rfl, Or.inl rfl, Or.inl rfl, Or.inr rfl, Or.inl rfl, Or.inl rfl, Or.inl rfl, Or.inl rfl, Or.inl rfl, trivial⟩ ?_
    refine K _ _ _ n hc1 (fun k => by rw [up_S]; exact hno k) (wa_fg wa) ?_ ?_ ?_ (Or.inl hn2)
    · rw [eB]
      exact hl.mv (fun a a1 a2 => fx1 a (by omega) (by omega))
    · rw [eB]
      exact gd
    · rw [eB]
      exact ((ht.mono (by omega)).eq rfl)
  · skip
    refine pw_if_ne 446 dL_law_439 (by decide) (fun _ => ?_) (fun hh => absurd hh (nI_ne0 nz1 (by omega)))
    obtain ⟨v, x, y, hv, hx6, hy, e5, e6, e7⟩ := gd.wd (i := j1) (by omega) nz1
    refine pw_iconst (v := nI 0) dL_law_446 (by decide) ?_
    refine pw_istore_13 dL_law_447 (by decide) ?_
    refine pw_aload_4 dL_law_449 ?_
    refine pw_iload_12 dL_law_451 ?_
    refine pw_ialdN dL_law_453 hs.q (by omega) (by decide) ?_
    refine pw_top (hl.word (i := j1) (by omega) nz1 e5 e6 e7) ?_
    refine pw_sipush (v := nI 256) dL_law_454 (by decide) ?_
    refine pw_irem dL_law_457 (by decide) ?_
    refine pw_top ((pk_rem (d := 256) (by omega) (by decide) (by decide)).trans (congrArg nI (show (v + 256 * x + 2048 * y) % 256 = v by omega))) ?_
    refine pw_istore_14 dL_law_458 (by decide) ?_
    refine pw_iload_13 dL_law_460 ?_
    refine pw_if_ne 473 dL_law_462 (by decide) (fun hh => absurd hh (by decide)) (fun _ => ?_)
    refine pw_aload_2 dL_law_465 ?_
    refine pw_aload_4 dL_law_466 ?_
    refine pw_iload_12 dL_law_468 ?_
    refine pw_cS3v dL_law_470 kL_16 vL_away sL_away ⟨by decide, by decide⟩ ⟨rfl, rfl⟩ (Nat.le_of_ble_eq_true rfl) (k_away (κ := True) (μ0 := μ) (B := aB A) (g := bS (aB A) j1) hs (hl.self j1) (by omega) (gd.s (i := j1) (by omega)).w.1 hw4 nz1 (fun ν hlg => ?_))
    refine pw_aload_1 dL_law_473 ?_
    refine pw_iload_12 dL_law_474 ?_
    refine pw_cV1i 7 dL_law_476 kL_92 vX7_forget iX7_forget ⟨by decide, by decide⟩ ⟨rfl, rfl⟩ (by decide) rfl (Nat.le_of_ble_eq_true rfl) hc.1.t (kf_forget (hc.mv hno (fun a ha => hlg.out (Or.inl (by omega)))) wa (fun μ1 x1 hc1 fx1 => ?_))
    refine pw_top ((fg_v (i := j1) gd.hn h8 (by omega)).1.trans ((if_neg (by omega)).trans e5)) ?_
    refine pw_iload_13 dL_law_479 ?_
    refine pw_if_eq 489 dL_law_481 (by decide) (fun _ => ?_) (fun hh => absurd (by decide) hh)
    refine pw_iload_14 dL_law_489 ?_
    refine pw_icmp_ne 498 dL_law_491 (by decide) (fun hh => absurd rfl hh) (fun _ => ?_)
    refine pw_iconst (v := nI 1) dL_law_494 (by decide) ?_
    refine pw_goto 499 dL_law_495 (by decide) ?_
    refine pw_istore_11 dL_law_499 (by decide) ?_
    refine pw_goto 943 dL_law_501 (by decide) ?_
    have eB : aB (upA A (fgR (aB A) (nI j1)) (fgN (aB A) (nI j1))) = lvB (aB A) j1 := (up_B (fun h95 => fg_neg gd.wf h95)).trans ((fg_v (i := j1) gd.hn h8 (by omega)).2.trans (cif_y (by omega)))
    refine pw_fg (ls' := [some (.ref (cxS X).1), some (.ref o), some (.ref p), some (.ref (p + 1)), some (.ref (p + 2)), some (.ref (p + 3)), some (.ref (p + 4)), some (.ref (p + 5)), some (.int (nI e)), none, none, some (.int (nI 1)), none, none, none, none, none]) ⟨Or.inr rfl, Or.inr rfl, Or.inr rfl, Or.inr rfl, Or.inr rfl, Or.inr rfl, Or.inr rfl, Or.inr rfl, Or.inr rfl, Or.inl rfl, Or.inl rfl, Or.inr rfl, Or.inl rfl, Or.inl rfl, Or.inl rfl, Or.inl rfl, Or.inl rfl, trivial⟩ ?_
    refine K _ _ _ n hc1 (fun k => by rw [up_S]; exact hno k) (wa_fg wa) ?_ ?_ ?_ (Or.inl hn2)
    · rw [eB]
      exact hlg.mv (fun a a1 a2 => fx1 a (by omega) (by omega))
    · rw [eB]
      exact gd.lv (by omega)
    · rw [eB]
      exact ((ht.mono (by omega)).eq rfl)
set_option maxRecDepth 100000 in
set_option maxHeartbeats 4000000 in
theorem law_sk {X : Cx} {σ : Sp} {μ : Mm} {Q : Int32 → Sp → Mm → Prop} {b1 b2 : Nat} {o x9 p n e : Nat} {hx0 : Int32} {A : Aw} (hc : CX σ μ o x9 A) (hno : ∀ k, aS A k = none) (wa : WA A) (hs : ShL σ p) (hl : LU True μ p (aB A) μ) (gd : GDn n (aB A)) (ht : WT (60 * e) (aB A)) (hop : p = o + 565) (he : e < 60) (K : ∀ μ' x' A' n', CX σ μ' o x' A' → (∀ k, aS A' k = none) → WA A' → LU True μ' p (aB A') μ' → GDn n' (aB A') → WT (60 * (e + 1)) (aB A') → (2 ≤ n' ∨ e + 1 ≤ n') → PW X mL_law b1 b2 943 [some (.ref (cxS X).1), some (.ref o), some (.ref p), some (.ref (p + 1)), some (.ref (p + 2)), some (.ref (p + 3)), some (.ref (p + 4)), some (.ref (p + 5)), some (.int (nI e)), none, none, some (.int (nI 1)), none, none, none, none, none] [] σ μ' (LI Q)) (hn2 : 2 ≤ n) : PW X mL_law b1 b2 511 [some (.ref (cxS X).1), some (.ref o), some (.ref p), some (.ref (p + 1)), some (.ref (p + 2)), some (.ref (p + 3)), some (.ref (p + 4)), some (.ref (p + 5)), some (.int (nI e)), some (.int hx0), none, none, none, none, none, none, none] [] σ μ (LI Q) := by
  have h8 := gd.n8
  have w9 := gd.wf
  refine pw_iload_9 dL_law_511 ?_
  refine pw_iconst (v := nI 4) dL_law_513 (by decide) ?_
  refine pw_ishr dL_law_514 ?_
  refine pw_bipush (v := nI 6) dL_law_515 (by decide) ?_
  refine pw_cS2i dL_law_517 kL_59 vL_low sL_low ⟨by decide, by decide⟩ ⟨rfl, rfl⟩ (Nat.le_of_ble_eq_true rfl) (c_low (by omega) (by omega) (fun j1 j1b => ?_))
  refine pw_istore_12 dL_law_520 (by decide) ?_
  refine pw_aload_6 dL_law_522 ?_
  refine pw_bipush (v := nI 6) dL_law_524 (by decide) ?_
  refine pw_iload_12 dL_law_526 ?_
  refine pw_iaddN dL_law_528 ?_
  refine pw_iconst (v := nI 1) dL_law_529 (by decide) ?_
  refine pw_aload_6 dL_law_530 ?_
  refine pw_bipush (v := nI 6) dL_law_532 (by decide) ?_
  refine pw_iload_12 dL_law_534 ?_
  refine pw_iaddN dL_law_536 ?_
  refine pw_ialdN dL_law_537 hs.w (by omega) (by decide) ?_
  refine pw_top (hl.rw j1 1 (by omega) (by omega) (by omega)) ?_
  refine pw_isub dL_law_538 ?_
  refine pw_iastN dL_law_539 hs.w (by omega) (by decide) ?_
  refine pw_gen (P := LU True μ p (setW (aB A) j1 1 ((nI 1) - (bW (aB A) j1 1)))) (hl.wW j1 1 (by omega) (by omega) (by omega)) (fun μ1 hl1 => ?_)
  refine pw_aload_1 dL_law_540 ?_
  refine pw_iload_12 dL_law_541 ?_
  refine pw_cV1i 7 dL_law_543 kL_95 vX7_stick iX7_stick ⟨by decide, by decide⟩ ⟨rfl, rfl⟩ (by decide) rfl (Nat.le_of_ble_eq_true rfl) hc.1.t (kf_stick (hc.mv hno (fun a ha => hl1.out (Or.inl (by omega)))) wa (fun μ1 x1 hc1 fx1 => ?_))
  refine pw_top (sk_v (x := j1) (by omega)).1 ?_
  refine pw_aload_6 dL_law_546 ?_
  refine pw_bipush (v := nI 6) dL_law_548 (by decide) ?_
  refine pw_iload_12 dL_law_550 ?_
  refine pw_iaddN dL_law_552 ?_
  refine pw_ialdN dL_law_553 hs.w (by omega) (by decide) ?_
  refine pw_top ((((hl1).mv (ν := μ1) (fun a a1 a2 => fx1 a (by omega) (by omega))).rw j1 1 (by omega) (by omega) (by omega)).trans (by rw [bW_setW_s, upd_s])) ?_
  refine pw_icmp_ne 561 dL_law_554 (by decide) (fun hh => absurd rfl hh) (fun _ => ?_)
  refine pw_iconst (v := nI 1) dL_law_557 (by decide) ?_
  refine pw_goto 562 dL_law_558 (by decide) ?_
  refine pw_istore_11 dL_law_562 (by decide) ?_
  refine pw_goto 943 dL_law_564 (by decide) ?_
  have eB : aB (upA A (skR (aB A) (nI j1)) (skN (aB A) (nI j1))) = setW (aB A) j1 1 (nI 1 - bW (aB A) j1 1) := (up_B (fun h95 => sk_neg gd.wf h95)).trans (sk_v (x := j1) (by omega)).2
  refine pw_fg (ls' := [some (.ref (cxS X).1), some (.ref o), some (.ref p), some (.ref (p + 1)), some (.ref (p + 2)), some (.ref (p + 3)), some (.ref (p + 4)), some (.ref (p + 5)), some (.int (nI e)), none, none, some (.int (nI 1)), none, none, none, none, none]) ⟨Or.inr rfl, Or.inr rfl, Or.inr rfl, Or.inr rfl, Or.inr rfl, Or.inr rfl, Or.inr rfl, Or.inr rfl, Or.inr rfl, Or.inl rfl, Or.inl rfl, Or.inr rfl, Or.inl rfl, Or.inl rfl, Or.inl rfl, Or.inl rfl, Or.inl rfl, trivial⟩ ?_
  refine K _ _ _ n hc1 (fun k => by rw [up_S]; exact hno k) (wa_sk wa) ?_ ?_ ?_ (Or.inl hn2)
  · rw [eB]
    exact hl1.mv (fun a a1 a2 => fx1 a (by omega) (by omega))
  · rw [eB]
    exact gd.sk (by omega)
  · rw [eB]
    exact ((ht.mono (by omega)).eq rfl)
set_option maxRecDepth 100000 in
set_option maxHeartbeats 4000000 in
theorem law_dz {X : Cx} {σ : Sp} {μ : Mm} {Q : Int32 → Sp → Mm → Prop} {b1 b2 : Nat} {o x9 p n e : Nat} {hx0 : Int32} {A : Aw} (hc : CX σ μ o x9 A) (hno : ∀ k, aS A k = none) (wa : WA A) (hs : ShL σ p) (hl : LU True μ p (aB A) μ) (gd : GDn n (aB A)) (ht : WT (60 * e) (aB A)) (hop : p = o + 565) (he : e < 60) (K : ∀ μ' x' A' n', CX σ μ' o x' A' → (∀ k, aS A' k = none) → WA A' → LU True μ' p (aB A') μ' → GDn n' (aB A') → WT (60 * (e + 1)) (aB A') → (2 ≤ n' ∨ e + 1 ≤ n') → PW X mL_law b1 b2 943 [some (.ref (cxS X).1), some (.ref o), some (.ref p), some (.ref (p + 1)), some (.ref (p + 2)), some (.ref (p + 3)), some (.ref (p + 4)), some (.ref (p + 5)), some (.int (nI e)), none, none, some (.int (nI 1)), none, none, none, none, none] [] σ μ' (LI Q)) (hn2 : 2 ≤ n) : PW X mL_law b1 b2 574 [some (.ref (cxS X).1), some (.ref o), some (.ref p), some (.ref (p + 1)), some (.ref (p + 2)), some (.ref (p + 3)), some (.ref (p + 4)), some (.ref (p + 5)), some (.int (nI e)), some (.int hx0), none, none, none, none, none, none, none] [] σ μ (LI Q) := by
  have h8 := gd.n8
  have w9 := gd.wf
  refine pw_iload_9 dL_law_574 ?_
  refine pw_iconst (v := nI 4) dL_law_576 (by decide) ?_
  refine pw_ishr dL_law_577 ?_
  refine pw_aload_7 dL_law_578 ?_
  refine pw_bipush (v := nI 6) dL_law_580 (by decide) ?_
  refine pw_ialdN dL_law_582 hs.t (by omega) (by decide) ?_
  refine pw_top ((hl.t (by omega)).trans gd.g6) ?_
  refine pw_cS2i dL_law_583 kL_59 vL_low sL_low ⟨by decide, by decide⟩ ⟨rfl, rfl⟩ (Nat.le_of_ble_eq_true rfl) (c_low (by omega) (by omega) (fun j1 j1b => ?_))
  refine pw_istore_12 dL_law_586 (by decide) ?_
  refine pw_aload_2 dL_law_588 ?_
  refine pw_bipush (v := nI 24) dL_law_589 (by decide) ?_
  refine pw_iload_12 dL_law_591 ?_
  refine pw_iaddN dL_law_593 ?_
  refine pw_iconst (v := nI 1) dL_law_594 (by decide) ?_
  refine pw_aload_2 dL_law_595 ?_
  refine pw_bipush (v := nI 24) dL_law_596 (by decide) ?_
  refine pw_iload_12 dL_law_598 ?_
  refine pw_iaddN dL_law_600 ?_
  refine pw_ialdN dL_law_601 hs.a (by omega) (by decide) ?_
  refine pw_top (hl.a3 (i := j1) (by omega) (by omega)) ?_
  refine pw_isub dL_law_602 ?_
  refine pw_iastN dL_law_603 hs.a (by omega) (by decide) ?_
  refine pw_gen (P := LU True μ p (setS (aB A) j1 (upd (bS (aB A) j1) 3 ((nI 1) - (bS (aB A) j1 3))))) ((hl.self j1).wA 3 3 (by omega) (by omega) (by omega) rfl (by omega) (aV_s (d := 3) (by omega))) (fun μ1 hl1 => ?_)
  have hlz : LU True μ p (dz1 (aB A) j1) μ1 := hl1
  have gdz := gd.d1 (i := j1) (by omega)
  have spz : spB (dz1 (aB A) j1) j1 ↔ spB (aB A) j1 := by unfold spB dz1; rw [bS_setS_s, upd_n _ _ (by omega)]
  have d3 : bS (dz1 (aB A) j1) j1 3 = nI 1 - bS (aB A) j1 3 := by unfold dz1; rw [bS_setS_s, upd_s]
  rcases (gd.s (i := j1) (by omega)).2.1.2 with z3 | z3
  · skip
    refine pw_aload_2 dL_law_604 ?_
    refine pw_bipush (v := nI 24) dL_law_605 (by decide) ?_
    refine pw_iload_12 dL_law_607 ?_
    refine pw_iaddN dL_law_609 ?_
    refine pw_ialdN dL_law_610 hs.a (by omega) (by decide) ?_
    refine pw_top (((hlz.a3 (i := j1) (by omega) (by omega)).trans d3).trans (show _ = nI 1 by rw [z3]; rfl)) ?_
    refine pw_iconst (v := nI 1) dL_law_611 (by decide) ?_
    refine pw_icmp_ne 638 dL_law_612 (by decide) (fun hh => absurd hh (by decide)) (fun _ => ?_)
    refine pw_aload_2 dL_law_615 ?_
    refine pw_bipush (v := nI 40) dL_law_616 (by decide) ?_
    refine pw_iload_12 dL_law_618 ?_
    refine pw_iaddN dL_law_620 ?_
    refine pw_ialdN dL_law_621 hs.a (by omega) (by decide) ?_
    refine pw_top (hlz.a5 (i := j1) (by omega) (by omega)) ?_
    rcases Classical.em (spB (dz1 (aB A) j1) j1) with sp2 | sp2
    · skip
      obtain ⟨sp20, kk3, kk310, kk3e, kk3v⟩ := gdz.sp (by omega) sp2
      refine pw_top kk3v ?_
      refine pw_if_lt 638 dL_law_622 (by decide) (fun hh => absurd hh (nI_pos (by omega))) (fun _ => ?_)
      refine pw_aload_2 dL_law_625 ?_
      refine pw_aload_3 dL_law_626 ?_
      refine pw_aload_4 dL_law_627 ?_
      refine pw_aload_6 dL_law_629 ?_
      refine pw_aload_7 dL_law_631 ?_
      refine pw_iload_12 dL_law_633 ?_
      refine pw_cS6v dL_law_635 kL_24 vL_fails sL_fails ⟨by decide, by decide⟩ ⟨rfl, rfl⟩ (Nat.le_of_ble_eq_true rfl) (k_fails hs hlz gdz.wf gdz.wl (by rw [gdz.hn]; omega) sp20 (fun ν9 hlf => ?_))
      refine pw_aload_1 dL_law_638 ?_
      refine pw_iload_12 dL_law_639 ?_
      refine pw_cV1i 7 dL_law_641 kL_98 vX7_doze iX7_doze ⟨by decide, by decide⟩ ⟨rfl, rfl⟩ (by decide) rfl (Nat.le_of_ble_eq_true rfl) hc.1.t (kf_doze (hc.mv hno (fun a ha => hlf.out (Or.inl (by omega)))) wa (fun μ1 x1 hc1 fx1 => ?_))
      refine pw_top (dz_v (i := j1) gd.hn h8 (by omega)).1 ?_
      refine pw_aload_2 dL_law_644 ?_
      refine pw_bipush (v := nI 24) dL_law_645 (by decide) ?_
      refine pw_iload_12 dL_law_647 ?_
      refine pw_iaddN dL_law_649 ?_
      refine pw_ialdN dL_law_650 hs.a (by omega) (by decide) ?_
      refine pw_top ((((hlf).mv (ν := μ1) (fun a a1 a2 => fx1 a (by omega) (by omega))).a3 (i := j1) (by omega) (by omega)).trans (((Fr_gu (B := dz1 (aB A) j1) (i := j1)).2.2 j1).2.2.trans d3)) ?_
      refine pw_icmp_ne 658 dL_law_651 (by decide) (fun hh => absurd rfl hh) (fun _ => ?_)
      refine pw_iconst (v := nI 1) dL_law_654 (by decide) ?_
      refine pw_goto 659 dL_law_655 (by decide) ?_
      refine pw_istore_11 dL_law_659 (by decide) ?_
      refine pw_goto 943 dL_law_661 (by decide) ?_
      have eB : aB (upA A (dzR (aB A) (nI j1)) (dzN (aB A) (nI j1))) = guB (dz1 (aB A) j1) j1 := (up_B (fun h95 => dz_neg gd.wf h95)).trans ((dz_v (i := j1) gd.hn h8 (by omega)).2.trans (cif_y ⟨z3, spz.mp sp2⟩))
      refine pw_fg (ls' := [some (.ref (cxS X).1), some (.ref o), some (.ref p), some (.ref (p + 1)), some (.ref (p + 2)), some (.ref (p + 3)), some (.ref (p + 4)), some (.ref (p + 5)), some (.int (nI e)), none, none, some (.int (nI 1)), none, none, none, none, none]) ⟨Or.inr rfl, Or.inr rfl, Or.inr rfl, Or.inr rfl, Or.inr rfl, Or.inr rfl, Or.inr rfl, Or.inr rfl, Or.inr rfl, Or.inl rfl, Or.inl rfl, Or.inr rfl, Or.inl rfl, Or.inl rfl, Or.inl rfl, Or.inl rfl, Or.inl rfl, trivial⟩ ?_
      refine K _ _ _ n hc1 (fun k => by rw [up_S]; exact hno k) (wa_dz wa) ?_ ?_ ?_ (Or.inl hn2)
      · rw [eB]
        exact hlf.mv (fun a a1 a2 => fx1 a (by omega) (by omega))
      · rw [eB]
        exact gdz.gu (by omega)
      · rw [eB]
        exact ((ht.mono (by omega)).eq (congrFun Fr_gu.1 5))
    · skip
      refine pw_top (spV_no sp2) ?_
      refine pw_if_lt 638 dL_law_622 (by decide) (fun _ => ?_) (fun hh => absurd m1_lt hh)
      refine pw_aload_1 dL_law_638 ?_
      refine pw_iload_12 dL_law_639 ?_
      refine pw_cV1i 7 dL_law_641 kL_98 vX7_doze iX7_doze ⟨by decide, by decide⟩ ⟨rfl, rfl⟩ (by decide) rfl (Nat.le_of_ble_eq_true rfl) hc.1.t (kf_doze (hc.mv hno (fun a ha => hlz.out (Or.inl (by omega)))) wa (fun μ1 x1 hc1 fx1 => ?_))
      refine pw_top (dz_v (i := j1) gd.hn h8 (by omega)).1 ?_
      refine pw_aload_2 dL_law_644 ?_
      refine pw_bipush (v := nI 24) dL_law_645 (by decide) ?_
      refine pw_iload_12 dL_law_647 ?_
      refine pw_iaddN dL_law_649 ?_
      refine pw_ialdN dL_law_650 hs.a (by omega) (by decide) ?_
      refine pw_top ((((hlz).mv (ν := μ1) (fun a a1 a2 => fx1 a (by omega) (by omega))).a3 (i := j1) (by omega) (by omega)).trans (d3)) ?_
      refine pw_icmp_ne 658 dL_law_651 (by decide) (fun hh => absurd rfl hh) (fun _ => ?_)
      refine pw_iconst (v := nI 1) dL_law_654 (by decide) ?_
      refine pw_goto 659 dL_law_655 (by decide) ?_
      refine pw_istore_11 dL_law_659 (by decide) ?_
      refine pw_goto 943 dL_law_661 (by decide) ?_
      have eB : aB (upA A (dzR (aB A) (nI j1)) (dzN (aB A) (nI j1))) = dz1 (aB A) j1 := (up_B (fun h95 => dz_neg gd.wf h95)).trans ((dz_v (i := j1) gd.hn h8 (by omega)).2.trans (cif_n (fun h95 => sp2 (spz.mpr h95.2))))
      refine pw_fg (ls' := [some (.ref (cxS X).1), some (.ref o), some (.ref p), some (.ref (p + 1)), some (.ref (p + 2)), some (.ref (p + 3)), some (.ref (p + 4)), some (.ref (p + 5)), some (.int (nI e)), none, none, some (.int (nI 1)), none, none, none, none, none]) ⟨Or.inr rfl, Or.inr rfl, Or.inr rfl, Or.inr rfl, Or.inr rfl, Or.inr rfl, Or.inr rfl, Or.inr rfl, Or.inr rfl, Or.inl rfl, Or.inl rfl, Or.inr rfl, Or.inl rfl, Or.inl rfl, Or.inl rfl, Or.inl rfl, Or.inl rfl, trivial⟩ ?_
      refine K _ _ _ n hc1 (fun k => by rw [up_S]; exact hno k) (wa_dz wa) ?_ ?_ ?_ (Or.inl hn2)
      · rw [eB]
        exact hlz.mv (fun a a1 a2 => fx1 a (by omega) (by omega))
      · rw [eB]
        exact gdz
      · rw [eB]
        exact ((ht.mono (by omega)).eq rfl)
  · skip
    refine pw_aload_2 dL_law_604 ?_
    refine pw_bipush (v := nI 24) dL_law_605 (by decide) ?_
    refine pw_iload_12 dL_law_607 ?_
    refine pw_iaddN dL_law_609 ?_
    refine pw_ialdN dL_law_610 hs.a (by omega) (by decide) ?_
    refine pw_top (((hlz.a3 (i := j1) (by omega) (by omega)).trans d3).trans (show _ = nI 0 by rw [z3]; rfl)) ?_
    refine pw_iconst (v := nI 1) dL_law_611 (by decide) ?_
    refine pw_icmp_ne 638 dL_law_612 (by decide) (fun _ => ?_) (fun hh => absurd hh (by decide))
    refine pw_aload_1 dL_law_638 ?_
    refine pw_iload_12 dL_law_639 ?_
    refine pw_cV1i 7 dL_law_641 kL_98 vX7_doze iX7_doze ⟨by decide, by decide⟩ ⟨rfl, rfl⟩ (by decide) rfl (Nat.le_of_ble_eq_true rfl) hc.1.t (kf_doze (hc.mv hno (fun a ha => hlz.out (Or.inl (by omega)))) wa (fun μ1 x1 hc1 fx1 => ?_))
    refine pw_top (dz_v (i := j1) gd.hn h8 (by omega)).1 ?_
    refine pw_aload_2 dL_law_644 ?_
    refine pw_bipush (v := nI 24) dL_law_645 (by decide) ?_
    refine pw_iload_12 dL_law_647 ?_
    refine pw_iaddN dL_law_649 ?_
    refine pw_ialdN dL_law_650 hs.a (by omega) (by decide) ?_
    refine pw_top ((((hlz).mv (ν := μ1) (fun a a1 a2 => fx1 a (by omega) (by omega))).a3 (i := j1) (by omega) (by omega)).trans (d3)) ?_
    refine pw_icmp_ne 658 dL_law_651 (by decide) (fun hh => absurd rfl hh) (fun _ => ?_)
    refine pw_iconst (v := nI 1) dL_law_654 (by decide) ?_
    refine pw_goto 659 dL_law_655 (by decide) ?_
    refine pw_istore_11 dL_law_659 (by decide) ?_
    refine pw_goto 943 dL_law_661 (by decide) ?_
    have eB : aB (upA A (dzR (aB A) (nI j1)) (dzN (aB A) (nI j1))) = dz1 (aB A) j1 := (up_B (fun h95 => dz_neg gd.wf h95)).trans ((dz_v (i := j1) gd.hn h8 (by omega)).2.trans (cif_n (fun h95 => absurd (z3.symm.trans h95.1) (by decide))))
    refine pw_fg (ls' := [some (.ref (cxS X).1), some (.ref o), some (.ref p), some (.ref (p + 1)), some (.ref (p + 2)), some (.ref (p + 3)), some (.ref (p + 4)), some (.ref (p + 5)), some (.int (nI e)), none, none, some (.int (nI 1)), none, none, none, none, none]) ⟨Or.inr rfl, Or.inr rfl, Or.inr rfl, Or.inr rfl, Or.inr rfl, Or.inr rfl, Or.inr rfl, Or.inr rfl, Or.inr rfl, Or.inl rfl, Or.inl rfl, Or.inr rfl, Or.inl rfl, Or.inl rfl, Or.inl rfl, Or.inl rfl, Or.inl rfl, trivial⟩ ?_
    refine K _ _ _ n hc1 (fun k => by rw [up_S]; exact hno k) (wa_dz wa) ?_ ?_ ?_ (Or.inl hn2)
    · rw [eB]
      exact hlz.mv (fun a a1 a2 => fx1 a (by omega) (by omega))
    · rw [eB]
      exact gdz
    · rw [eB]
      exact ((ht.mono (by omega)).eq rfl)
