/-! The law: its loop, its body -/
theorem lt_toInt {w : Nat} (h : 25 ≤ w) (h2 : w < 32) : (24 : Int) < (nI w).toInt := by
  have g : ∀ w, w < 32 → 25 ≤ w → (24 : Int) < (nI w).toInt := by decide
  exact g w h2 h
def QL : Int32 → Sp → Mm → Prop := fun v _ _ => v = nI 1
set_option maxRecDepth 100000 in
set_option maxHeartbeats 4000000 in
theorem law_loop {X : Cx} {o : Nat} (hL : (cxS X).2.1 ≤ 2048) : ∀ n i σ μ x A, (cxS X).2.1 ≤ i + 4 * n + 3 → i ≤ (cxS X).2.1 → CX σ μ o x A → MX μ (o + 565) A → ShM σ (o + 565) → WA A → o + 574 ≤ cxB X + nn σ → PW X mL_law (62 * n) (431 * n) 18 [some (.ref (cxS X).1), some (.ref o), some (.ref (o + 565)), some (.int (nI i))] [] σ μ (LI QL) := by
  intro n
  have stop : ∀ i σ μ b1 b2, (cxS X).2.1 ≤ i + 3 → i ≤ (cxS X).2.1 → PW X mL_law b1 b2 18 [some (.ref (cxS X).1), some (.ref o), some (.ref (o + 565)), some (.int (nI i))] [] σ μ (LI QL) := by
    intro i σ μ b1 b2 h1 h2
    have hgt : nI (cxS X).2.1 - nI 4 < nI i := by
      rcases Nat.lt_or_ge (cxS X).2.1 4 with g | g
      · exact low4 _ (by omega) _ (by omega)
      · rw [pk_sub g, nI_ltI (by omega) (by omega)]
        omega
    refine pw_iload_3 dL_law_18 ?_
    refine pw_aload_0 dL_law_19 ?_
    refine pw_slen dL_law_20 ?_
    refine pw_iconst (v := nI 4) dL_law_21 (by decide) ?_
    refine pw_isub dL_law_22 ?_
    refine pw_icmp_gt 809 dL_law_23 (by decide) (fun _ => ?_) (fun hh => absurd hgt hh)
    refine pw_iconst (v := nI 1) dL_law_809 (by decide) ?_
    refine pw_zreturn dL_law_810 rfl (by decide) ?_
    rfl
  induction n with
  | zero =>
    intro i σ μ x A h1 h2 hc hmx hm wa hN
    exact stop i σ μ _ _ (by omega) h2
  | succ n ih =>
    intro i σ μ x A h1 h2 hc hmx hm wa hN
    rcases Nat.lt_or_ge (i + 3) (cxS X).2.1 with g | g
    · skip
      refine pw_iload_3 dL_law_18 ?_
      refine pw_aload_0 dL_law_19 ?_
      refine pw_slen dL_law_20 ?_
      refine pw_iconst (v := nI 4) dL_law_21 (by decide) ?_
      refine pw_isubN dL_law_22 (by omega) ?_
      refine pw_icmp_gt 809 dL_law_23 (by decide) (fun hh => absurd hh (by rw [nI_ltI (by omega) (by omega)]; omega)) (fun _ => ?_)
      refine pw_aload_0 dL_law_26 ?_
      refine pw_iload_3 dL_law_27 ?_
      refine pw_sldN dL_law_28 (by omega) hL ?_
      refine pw_bipush (v := nI 31) dL_law_29 (by decide) ?_
      refine pw_iand dL_law_31 ?_
      obtain ⟨w9, hw9, ew9⟩ := and31 ((cxS X).2.2 i)
      refine pw_top ew9 ?_
      rcases (by omega : w9 = 0 ∨ w9 = 1 ∨ w9 = 2 ∨ w9 = 3 ∨ w9 = 4 ∨ w9 = 5 ∨ w9 = 6 ∨ w9 = 7 ∨ w9 = 8 ∨ w9 = 9 ∨ w9 = 10 ∨ w9 = 11 ∨ w9 = 12 ∨ w9 = 13 ∨ w9 = 14 ∨ w9 = 15 ∨ w9 = 16 ∨ w9 = 17 ∨ w9 = 18 ∨ w9 = 19 ∨ w9 = 20 ∨ w9 = 21 ∨ w9 = 22 ∨ w9 = 23 ∨ w9 = 24 ∨ 25 ≤ w9) with e9 | e9 | e9 | e9 | e9 | e9 | e9 | e9 | e9 | e9 | e9 | e9 | e9 | e9 | e9 | e9 | e9 | e9 | e9 | e9 | e9 | e9 | e9 | e9 | e9 | e9
      · skip
        subst e9
        refine pw_tabIn (off := 116) 148 dL_law_32 (by decide) (by decide) (by decide) (by decide) ?_
        refine pw_aload_1 dL_law_148 ?_
        refine pw_aload_0 dL_law_149 ?_
        refine pw_iload_3 dL_law_150 ?_
        refine pw_iconst (v := nI 1) dL_law_151 (by decide) ?_
        refine pw_iaddN dL_law_152 ?_
        refine pw_sldN dL_law_153 (by omega) hL ?_
        refine pw_aload_0 dL_law_154 ?_
        refine pw_iload_3 dL_law_155 ?_
        refine pw_iconst (v := nI 2) dL_law_156 (by decide) ?_
        refine pw_iaddN dL_law_157 ?_
        refine pw_sldN dL_law_158 (by omega) hL ?_
        refine pw_cV2i 7 dL_law_159 kL_13 vX7_set iX7_set ⟨by decide, by decide⟩ ⟨rfl, rfl⟩ (by decide) rfl (Nat.le_of_ble_eq_true rfl) hc.1.t (kf_set hc wa (fun μ1 x1 hc1 fx1 => ?_))
        have hx1 := hmx.fx fx1
        refine pw_aload_2 dL_law_162 ?_
        refine pw_aload_0 dL_law_163 ?_
        refine pw_iload_3 dL_law_164 ?_
        refine pw_iconst (v := nI 1) dL_law_165 (by decide) ?_
        refine pw_iaddN dL_law_166 ?_
        refine pw_sldN dL_law_167 (by omega) hL ?_
        refine pw_aload_0 dL_law_168 ?_
        refine pw_iload_3 dL_law_169 ?_
        refine pw_iconst (v := nI 2) dL_law_170 (by decide) ?_
        refine pw_iaddN dL_law_171 ?_
        refine pw_sldN dL_law_172 (by omega) hL ?_
        refine pw_cV2i 8 dL_law_173 kL_17 vX8_set iX8_set ⟨by decide, by decide⟩ ⟨rfl, rfl⟩ (by decide) rfl (Nat.le_of_ble_eq_true rfl) hm.t (ms_set hm hx1 wa (fun μ2 fm2 hx2 => ?_))
        have hc2 := hc1.fm fm2
        refine pw_icmp_eq 803 dL_law_176 (by decide) (fun _ => ?_) (fun hh => absurd rfl hh)
        refine pw_iinc_3 (y := nI 4) dL_law_803 (by decide) (by decide) ?_
        rw [nI_add]
        refine pw_goto 18 dL_law_806 (by decide) ?_
        exact pw_bud (by omega) (by omega) (ih _ σ μ2 x1 _ (by omega) (by omega) hc2 hx2 hm (wa_se wa) hN)
      · skip
        subst e9
        refine pw_tabIn (off := 149) 181 dL_law_32 (by decide) (by decide) (by decide) (by decide) ?_
        refine pw_aload_1 dL_law_181 ?_
        refine pw_aload_0 dL_law_182 ?_
        refine pw_iload_3 dL_law_183 ?_
        refine pw_iconst (v := nI 1) dL_law_184 (by decide) ?_
        refine pw_iaddN dL_law_185 ?_
        refine pw_sldN dL_law_186 (by omega) hL ?_
        refine pw_cV1i 7 dL_law_187 kL_18 vX7_station iX7_station ⟨by decide, by decide⟩ ⟨rfl, rfl⟩ (by decide) rfl (Nat.le_of_ble_eq_true rfl) hc.1.t (kf_station hc wa (fun μ1 x1 hc1 fx1 => ?_))
        have hx1 := hmx.fx fx1
        refine pw_aload_2 dL_law_190 ?_
        refine pw_aload_0 dL_law_191 ?_
        refine pw_iload_3 dL_law_192 ?_
        refine pw_iconst (v := nI 1) dL_law_193 (by decide) ?_
        refine pw_iaddN dL_law_194 ?_
        refine pw_sldN dL_law_195 (by omega) hL ?_
        refine pw_cV1i 8 dL_law_196 kL_22 vX8_station iX8_station ⟨by decide, by decide⟩ ⟨rfl, rfl⟩ (by decide) rfl (Nat.le_of_ble_eq_true rfl) hm.t (ms_station hm hx1 wa (fun μ2 fm2 hx2 => ?_))
        have hc2 := hc1.fm fm2
        refine pw_icmp_eq 803 dL_law_199 (by decide) (fun _ => ?_) (fun hh => absurd rfl hh)
        refine pw_iinc_3 (y := nI 4) dL_law_803 (by decide) (by decide) ?_
        rw [nI_add]
        refine pw_goto 18 dL_law_806 (by decide) ?_
        exact pw_bud (by omega) (by omega) (ih _ σ μ2 x1 _ (by omega) (by omega) hc2 hx2 hm (wa_cm wa) hN)
      · skip
        subst e9
        refine pw_tabIn (off := 172) 204 dL_law_32 (by decide) (by decide) (by decide) (by decide) ?_
        refine pw_aload_1 dL_law_204 ?_
        refine pw_aload_0 dL_law_205 ?_
        refine pw_iload_3 dL_law_206 ?_
        refine pw_iconst (v := nI 1) dL_law_207 (by decide) ?_
        refine pw_iaddN dL_law_208 ?_
        refine pw_sldN dL_law_209 (by omega) hL ?_
        refine pw_aload_0 dL_law_210 ?_
        refine pw_iload_3 dL_law_211 ?_
        refine pw_iconst (v := nI 2) dL_law_212 (by decide) ?_
        refine pw_iaddN dL_law_213 ?_
        refine pw_sldN dL_law_214 (by omega) hL ?_
        refine pw_aload_0 dL_law_215 ?_
        refine pw_iload_3 dL_law_216 ?_
        refine pw_iconst (v := nI 3) dL_law_217 (by decide) ?_
        refine pw_iaddN dL_law_218 ?_
        refine pw_sldN dL_law_219 (by omega) hL ?_
        refine pw_cV3i 7 dL_law_220 kL_23 vX7_word iX7_word ⟨by decide, by decide⟩ ⟨rfl, rfl⟩ (by decide) rfl (Nat.le_of_ble_eq_true rfl) hc.1.t (kf_word hc wa (fun μ1 x1 hc1 fx1 => ?_))
        have hx1 := hmx.fx fx1
        refine pw_aload_2 dL_law_223 ?_
        refine pw_aload_0 dL_law_224 ?_
        refine pw_iload_3 dL_law_225 ?_
        refine pw_iconst (v := nI 1) dL_law_226 (by decide) ?_
        refine pw_iaddN dL_law_227 ?_
        refine pw_sldN dL_law_228 (by omega) hL ?_
        refine pw_aload_0 dL_law_229 ?_
        refine pw_iload_3 dL_law_230 ?_
        refine pw_iconst (v := nI 2) dL_law_231 (by decide) ?_
        refine pw_iaddN dL_law_232 ?_
        refine pw_sldN dL_law_233 (by omega) hL ?_
        refine pw_aload_0 dL_law_234 ?_
        refine pw_iload_3 dL_law_235 ?_
        refine pw_iconst (v := nI 3) dL_law_236 (by decide) ?_
        refine pw_iaddN dL_law_237 ?_
        refine pw_sldN dL_law_238 (by omega) hL ?_
        refine pw_cV3i 8 dL_law_239 kL_27 vX8_word iX8_word ⟨by decide, by decide⟩ ⟨rfl, rfl⟩ (by decide) rfl (Nat.le_of_ble_eq_true rfl) hm.t (ms_word hm hx1 wa (fun μ2 fm2 hx2 => ?_))
        have hc2 := hc1.fm fm2
        refine pw_icmp_eq 803 dL_law_242 (by decide) (fun _ => ?_) (fun hh => absurd rfl hh)
        refine pw_iinc_3 (y := nI 4) dL_law_803 (by decide) (by decide) ?_
        rw [nI_add]
        refine pw_goto 18 dL_law_806 (by decide) ?_
        exact pw_bud (by omega) (by omega) (ih _ σ μ2 x1 _ (by omega) (by omega) hc2 hx2 hm (wa_wd wa) hN)
      · skip
        subst e9
        refine pw_tabIn (off := 215) 247 dL_law_32 (by decide) (by decide) (by decide) (by decide) ?_
        refine pw_aload_1 dL_law_247 ?_
        refine pw_aload_0 dL_law_248 ?_
        refine pw_iload_3 dL_law_249 ?_
        refine pw_iconst (v := nI 1) dL_law_250 (by decide) ?_
        refine pw_iaddN dL_law_251 ?_
        refine pw_sldN dL_law_252 (by omega) hL ?_
        refine pw_cV1i 7 dL_law_253 kL_28 vX7_forget iX7_forget ⟨by decide, by decide⟩ ⟨rfl, rfl⟩ (by decide) rfl (Nat.le_of_ble_eq_true rfl) hc.1.t (kf_forget hc wa (fun μ1 x1 hc1 fx1 => ?_))
        have hx1 := hmx.fx fx1
        refine pw_aload_2 dL_law_256 ?_
        refine pw_aload_0 dL_law_257 ?_
        refine pw_iload_3 dL_law_258 ?_
        refine pw_iconst (v := nI 1) dL_law_259 (by decide) ?_
        refine pw_iaddN dL_law_260 ?_
        refine pw_sldN dL_law_261 (by omega) hL ?_
        refine pw_cV1i 8 dL_law_262 kL_31 vX8_forget iX8_forget ⟨by decide, by decide⟩ ⟨rfl, rfl⟩ (by decide) rfl (Nat.le_of_ble_eq_true rfl) hm.t (ms_forget hm hx1 wa (fun μ2 fm2 hx2 => ?_))
        have hc2 := hc1.fm fm2
        refine pw_icmp_eq 803 dL_law_265 (by decide) (fun _ => ?_) (fun hh => absurd rfl hh)
        refine pw_iinc_3 (y := nI 4) dL_law_803 (by decide) (by decide) ?_
        rw [nI_add]
        refine pw_goto 18 dL_law_806 (by decide) ?_
        exact pw_bud (by omega) (by omega) (ih _ σ μ2 x1 _ (by omega) (by omega) hc2 hx2 hm (wa_fg wa) hN)
      · skip
        subst e9
        refine pw_tabIn (off := 238) 270 dL_law_32 (by decide) (by decide) (by decide) (by decide) ?_
        refine pw_aload_1 dL_law_270 ?_
        refine pw_aload_0 dL_law_271 ?_
        refine pw_iload_3 dL_law_272 ?_
        refine pw_iconst (v := nI 1) dL_law_273 (by decide) ?_
        refine pw_iaddN dL_law_274 ?_
        refine pw_sldN dL_law_275 (by omega) hL ?_
        refine pw_cV1i 7 dL_law_276 kL_32 vX7_stick iX7_stick ⟨by decide, by decide⟩ ⟨rfl, rfl⟩ (by decide) rfl (Nat.le_of_ble_eq_true rfl) hc.1.t (kf_stick hc wa (fun μ1 x1 hc1 fx1 => ?_))
        have hx1 := hmx.fx fx1
        refine pw_aload_2 dL_law_279 ?_
        refine pw_aload_0 dL_law_280 ?_
        refine pw_iload_3 dL_law_281 ?_
        refine pw_iconst (v := nI 1) dL_law_282 (by decide) ?_
        refine pw_iaddN dL_law_283 ?_
        refine pw_sldN dL_law_284 (by omega) hL ?_
        refine pw_cV1i 8 dL_law_285 kL_35 vX8_stick iX8_stick ⟨by decide, by decide⟩ ⟨rfl, rfl⟩ (by decide) rfl (Nat.le_of_ble_eq_true rfl) hm.t (ms_stick hm hx1 wa (fun μ2 fm2 hx2 => ?_))
        have hc2 := hc1.fm fm2
        refine pw_icmp_eq 803 dL_law_288 (by decide) (fun _ => ?_) (fun hh => absurd rfl hh)
        refine pw_iinc_3 (y := nI 4) dL_law_803 (by decide) (by decide) ?_
        rw [nI_add]
        refine pw_goto 18 dL_law_806 (by decide) ?_
        exact pw_bud (by omega) (by omega) (ih _ σ μ2 x1 _ (by omega) (by omega) hc2 hx2 hm (wa_sk wa) hN)
      · skip
        subst e9
        refine pw_tabIn (off := 261) 293 dL_law_32 (by decide) (by decide) (by decide) (by decide) ?_
        refine pw_aload_1 dL_law_293 ?_
        refine pw_aload_0 dL_law_294 ?_
        refine pw_iload_3 dL_law_295 ?_
        refine pw_iconst (v := nI 1) dL_law_296 (by decide) ?_
        refine pw_iaddN dL_law_297 ?_
        refine pw_sldN dL_law_298 (by omega) hL ?_
        refine pw_cV1i 7 dL_law_299 kL_36 vX7_doze iX7_doze ⟨by decide, by decide⟩ ⟨rfl, rfl⟩ (by decide) rfl (Nat.le_of_ble_eq_true rfl) hc.1.t (kf_doze hc wa (fun μ1 x1 hc1 fx1 => ?_))
        have hx1 := hmx.fx fx1
        refine pw_aload_2 dL_law_302 ?_
        refine pw_aload_0 dL_law_303 ?_
        refine pw_iload_3 dL_law_304 ?_
        refine pw_iconst (v := nI 1) dL_law_305 (by decide) ?_
        refine pw_iaddN dL_law_306 ?_
        refine pw_sldN dL_law_307 (by omega) hL ?_
        refine pw_cV1i 8 dL_law_308 kL_39 vX8_doze iX8_doze ⟨by decide, by decide⟩ ⟨rfl, rfl⟩ (by decide) rfl (Nat.le_of_ble_eq_true rfl) hm.t (ms_doze hm hx1 wa (fun μ2 fm2 hx2 => ?_))
        have hc2 := hc1.fm fm2
        refine pw_icmp_eq 803 dL_law_311 (by decide) (fun _ => ?_) (fun hh => absurd rfl hh)
        refine pw_iinc_3 (y := nI 4) dL_law_803 (by decide) (by decide) ?_
        rw [nI_add]
        refine pw_goto 18 dL_law_806 (by decide) ?_
        exact pw_bud (by omega) (by omega) (ih _ σ μ2 x1 _ (by omega) (by omega) hc2 hx2 hm (wa_dz wa) hN)
      · skip
        subst e9
        refine pw_tabIn (off := 284) 316 dL_law_32 (by decide) (by decide) (by decide) (by decide) ?_
        refine pw_aload_1 dL_law_316 ?_
        refine pw_aload_0 dL_law_317 ?_
        refine pw_iload_3 dL_law_318 ?_
        refine pw_iconst (v := nI 1) dL_law_319 (by decide) ?_
        refine pw_iaddN dL_law_320 ?_
        refine pw_sldN dL_law_321 (by omega) hL ?_
        refine pw_cV1i 7 dL_law_322 kL_40 vX7_pass iX7_pass ⟨by decide, by decide⟩ ⟨rfl, rfl⟩ (by decide) rfl (Nat.le_of_ble_eq_true rfl) hc.1.t (kf_pass hc wa (fun μ1 x1 hc1 fx1 => ?_))
        have hx1 := hmx.fx fx1
        refine pw_aload_2 dL_law_325 ?_
        refine pw_aload_0 dL_law_326 ?_
        refine pw_iload_3 dL_law_327 ?_
        refine pw_iconst (v := nI 1) dL_law_328 (by decide) ?_
        refine pw_iaddN dL_law_329 ?_
        refine pw_sldN dL_law_330 (by omega) hL ?_
        refine pw_cV1i 8 dL_law_331 kL_43 vX8_pass iX8_pass ⟨by decide, by decide⟩ ⟨rfl, rfl⟩ (by decide) rfl (Nat.le_of_ble_eq_true rfl) hm.t (ms_pass hm hx1 wa (fun μ2 fm2 hx2 => ?_))
        have hc2 := hc1.fm fm2
        refine pw_icmp_eq 803 dL_law_334 (by decide) (fun _ => ?_) (fun hh => absurd rfl hh)
        refine pw_iinc_3 (y := nI 4) dL_law_803 (by decide) (by decide) ?_
        rw [nI_add]
        refine pw_goto 18 dL_law_806 (by decide) ?_
        exact pw_bud (by omega) (by omega) (ih _ σ μ2 x1 _ (by omega) (by omega) hc2 hx2 hm (wa_ps wa) hN)
      · skip
        subst e9
        refine pw_tabIn (off := 307) 339 dL_law_32 (by decide) (by decide) (by decide) (by decide) ?_
        refine pw_aload_1 dL_law_339 ?_
        refine pw_aload_0 dL_law_340 ?_
        refine pw_iload_3 dL_law_341 ?_
        refine pw_iconst (v := nI 1) dL_law_342 (by decide) ?_
        refine pw_iaddN dL_law_343 ?_
        refine pw_sldN dL_law_344 (by omega) hL ?_
        refine pw_aload_0 dL_law_345 ?_
        refine pw_iload_3 dL_law_346 ?_
        refine pw_iconst (v := nI 2) dL_law_347 (by decide) ?_
        refine pw_iaddN dL_law_348 ?_
        refine pw_sldN dL_law_349 (by omega) hL ?_
        refine pw_cV2i 7 dL_law_350 kL_44 vX7_ofWire iX7_ofWire ⟨by decide, by decide⟩ ⟨rfl, rfl⟩ (by decide) rfl (Nat.le_of_ble_eq_true rfl) hc.1.t (kf_ofWire hc wa ?_)
        refine pw_aload_2 dL_law_353 ?_
        refine pw_aload_0 dL_law_354 ?_
        refine pw_iload_3 dL_law_355 ?_
        refine pw_iconst (v := nI 1) dL_law_356 (by decide) ?_
        refine pw_iaddN dL_law_357 ?_
        refine pw_sldN dL_law_358 (by omega) hL ?_
        refine pw_aload_0 dL_law_359 ?_
        refine pw_iload_3 dL_law_360 ?_
        refine pw_iconst (v := nI 2) dL_law_361 (by decide) ?_
        refine pw_iaddN dL_law_362 ?_
        refine pw_sldN dL_law_363 (by omega) hL ?_
        refine pw_cV2i 8 dL_law_364 kL_47 vX8_ofWire iX8_ofWire ⟨by decide, by decide⟩ ⟨rfl, rfl⟩ (by decide) rfl (Nat.le_of_ble_eq_true rfl) hm.t (ms_ofWire hm hmx wa ?_)
        refine pw_icmp_eq 803 dL_law_367 (by decide) (fun _ => ?_) (fun hh => absurd rfl hh)
        refine pw_iinc_3 (y := nI 4) dL_law_803 (by decide) (by decide) ?_
        rw [nI_add]
        refine pw_goto 18 dL_law_806 (by decide) ?_
        exact pw_bud (by omega) (by omega) (ih _ σ μ x A (by omega) (by omega) hc hmx hm wa hN)
      · skip
        subst e9
        refine pw_tabIn (off := 340) 372 dL_law_32 (by decide) (by decide) (by decide) (by decide) ?_
        refine pw_aload_1 dL_law_372 ?_
        refine pw_aload_0 dL_law_373 ?_
        refine pw_iload_3 dL_law_374 ?_
        refine pw_iconst (v := nI 1) dL_law_375 (by decide) ?_
        refine pw_iaddN dL_law_376 ?_
        refine pw_sldN dL_law_377 (by omega) hL ?_
        refine pw_aload_0 dL_law_378 ?_
        refine pw_iload_3 dL_law_379 ?_
        refine pw_iconst (v := nI 2) dL_law_380 (by decide) ?_
        refine pw_iaddN dL_law_381 ?_
        refine pw_sldN dL_law_382 (by omega) hL ?_
        refine pw_cV2i 7 dL_law_383 kL_48 vX7_of iX7_of ⟨by decide, by decide⟩ ⟨rfl, rfl⟩ (by decide) rfl (Nat.le_of_ble_eq_true rfl) hc.1.t (kf_of hc wa ?_)
        refine pw_aload_2 dL_law_386 ?_
        refine pw_aload_0 dL_law_387 ?_
        refine pw_iload_3 dL_law_388 ?_
        refine pw_iconst (v := nI 1) dL_law_389 (by decide) ?_
        refine pw_iaddN dL_law_390 ?_
        refine pw_sldN dL_law_391 (by omega) hL ?_
        refine pw_aload_0 dL_law_392 ?_
        refine pw_iload_3 dL_law_393 ?_
        refine pw_iconst (v := nI 2) dL_law_394 (by decide) ?_
        refine pw_iaddN dL_law_395 ?_
        refine pw_sldN dL_law_396 (by omega) hL ?_
        refine pw_cV2i 8 dL_law_397 kL_51 vX8_of iX8_of ⟨by decide, by decide⟩ ⟨rfl, rfl⟩ (by decide) rfl (Nat.le_of_ble_eq_true rfl) hm.t (ms_of hm hmx wa ?_)
        refine pw_icmp_eq 803 dL_law_400 (by decide) (fun _ => ?_) (fun hh => absurd rfl hh)
        refine pw_iinc_3 (y := nI 4) dL_law_803 (by decide) (by decide) ?_
        rw [nI_add]
        refine pw_goto 18 dL_law_806 (by decide) ?_
        exact pw_bud (by omega) (by omega) (ih _ σ μ x A (by omega) (by omega) hc hmx hm wa hN)
      · skip
        subst e9
        refine pw_tabIn (off := 373) 405 dL_law_32 (by decide) (by decide) (by decide) (by decide) ?_
        refine pw_aload_1 dL_law_405 ?_
        refine pw_aload_0 dL_law_406 ?_
        refine pw_iload_3 dL_law_407 ?_
        refine pw_iconst (v := nI 1) dL_law_408 (by decide) ?_
        refine pw_iaddN dL_law_409 ?_
        refine pw_sldN dL_law_410 (by omega) hL ?_
        refine pw_aload_0 dL_law_411 ?_
        refine pw_iload_3 dL_law_412 ?_
        refine pw_iconst (v := nI 2) dL_law_413 (by decide) ?_
        refine pw_iaddN dL_law_414 ?_
        refine pw_sldN dL_law_415 (by omega) hL ?_
        refine pw_aload_0 dL_law_416 ?_
        refine pw_iload_3 dL_law_417 ?_
        refine pw_iconst (v := nI 3) dL_law_418 (by decide) ?_
        refine pw_iaddN dL_law_419 ?_
        refine pw_sldN dL_law_420 (by omega) hL ?_
        refine pw_cV3i 7 dL_law_421 kL_52 vX7_row iX7_row ⟨by decide, by decide⟩ ⟨rfl, rfl⟩ (by decide) rfl (Nat.le_of_ble_eq_true rfl) hc.1.t (kf_row hc wa ?_)
        refine pw_aload_2 dL_law_424 ?_
        refine pw_aload_0 dL_law_425 ?_
        refine pw_iload_3 dL_law_426 ?_
        refine pw_iconst (v := nI 1) dL_law_427 (by decide) ?_
        refine pw_iaddN dL_law_428 ?_
        refine pw_sldN dL_law_429 (by omega) hL ?_
        refine pw_aload_0 dL_law_430 ?_
        refine pw_iload_3 dL_law_431 ?_
        refine pw_iconst (v := nI 2) dL_law_432 (by decide) ?_
        refine pw_iaddN dL_law_433 ?_
        refine pw_sldN dL_law_434 (by omega) hL ?_
        refine pw_aload_0 dL_law_435 ?_
        refine pw_iload_3 dL_law_436 ?_
        refine pw_iconst (v := nI 3) dL_law_437 (by decide) ?_
        refine pw_iaddN dL_law_438 ?_
        refine pw_sldN dL_law_439 (by omega) hL ?_
        refine pw_cV3i 8 dL_law_440 kL_55 vX8_row iX8_row ⟨by decide, by decide⟩ ⟨rfl, rfl⟩ (by decide) rfl (Nat.le_of_ble_eq_true rfl) hm.t (ms_row hm hmx wa ?_)
        refine pw_icmp_eq 803 dL_law_443 (by decide) (fun _ => ?_) (fun hh => absurd rfl hh)
        refine pw_iinc_3 (y := nI 4) dL_law_803 (by decide) (by decide) ?_
        rw [nI_add]
        refine pw_goto 18 dL_law_806 (by decide) ?_
        exact pw_bud (by omega) (by omega) (ih _ σ μ x A (by omega) (by omega) hc hmx hm wa hN)
      · skip
        subst e9
        refine pw_tabIn (off := 416) 448 dL_law_32 (by decide) (by decide) (by decide) (by decide) ?_
        refine pw_aload_1 dL_law_448 ?_
        refine pw_aload_0 dL_law_449 ?_
        refine pw_iload_3 dL_law_450 ?_
        refine pw_iconst (v := nI 1) dL_law_451 (by decide) ?_
        refine pw_iaddN dL_law_452 ?_
        refine pw_sldN dL_law_453 (by omega) hL ?_
        refine pw_aload_0 dL_law_454 ?_
        refine pw_iload_3 dL_law_455 ?_
        refine pw_iconst (v := nI 2) dL_law_456 (by decide) ?_
        refine pw_iaddN dL_law_457 ?_
        refine pw_sldN dL_law_458 (by omega) hL ?_
        refine pw_aload_0 dL_law_459 ?_
        refine pw_iload_3 dL_law_460 ?_
        refine pw_iconst (v := nI 3) dL_law_461 (by decide) ?_
        refine pw_iaddN dL_law_462 ?_
        refine pw_sldN dL_law_463 (by omega) hL ?_
        refine pw_cV3i 7 dL_law_464 kL_56 vX7_heard iX7_heard ⟨by decide, by decide⟩ ⟨rfl, rfl⟩ (by decide) rfl (Nat.le_of_ble_eq_true rfl) hc.1.t (kf_heard hc wa ?_)
        refine pw_aload_2 dL_law_467 ?_
        refine pw_aload_0 dL_law_468 ?_
        refine pw_iload_3 dL_law_469 ?_
        refine pw_iconst (v := nI 1) dL_law_470 (by decide) ?_
        refine pw_iaddN dL_law_471 ?_
        refine pw_sldN dL_law_472 (by omega) hL ?_
        refine pw_aload_0 dL_law_473 ?_
        refine pw_iload_3 dL_law_474 ?_
        refine pw_iconst (v := nI 2) dL_law_475 (by decide) ?_
        refine pw_iaddN dL_law_476 ?_
        refine pw_sldN dL_law_477 (by omega) hL ?_
        refine pw_aload_0 dL_law_478 ?_
        refine pw_iload_3 dL_law_479 ?_
        refine pw_iconst (v := nI 3) dL_law_480 (by decide) ?_
        refine pw_iaddN dL_law_481 ?_
        refine pw_sldN dL_law_482 (by omega) hL ?_
        refine pw_cV3i 8 dL_law_483 kL_59 vX8_heard iX8_heard ⟨by decide, by decide⟩ ⟨rfl, rfl⟩ (by decide) rfl (Nat.le_of_ble_eq_true rfl) hm.t (ms_heard hm hmx wa ?_)
        refine pw_icmp_eq 803 dL_law_486 (by decide) (fun _ => ?_) (fun hh => absurd rfl hh)
        refine pw_iinc_3 (y := nI 4) dL_law_803 (by decide) (by decide) ?_
        rw [nI_add]
        refine pw_goto 18 dL_law_806 (by decide) ?_
        exact pw_bud (by omega) (by omega) (ih _ σ μ x A (by omega) (by omega) hc hmx hm wa hN)
      · skip
        subst e9
        refine pw_tabIn (off := 459) 491 dL_law_32 (by decide) (by decide) (by decide) (by decide) ?_
        refine pw_aload_1 dL_law_491 ?_
        refine pw_aload_0 dL_law_492 ?_
        refine pw_iload_3 dL_law_493 ?_
        refine pw_iconst (v := nI 1) dL_law_494 (by decide) ?_
        refine pw_iaddN dL_law_495 ?_
        refine pw_sldN dL_law_496 (by omega) hL ?_
        refine pw_cV1i 7 dL_law_497 kL_60 vX7_count iX7_count ⟨by decide, by decide⟩ ⟨rfl, rfl⟩ (by decide) rfl (Nat.le_of_ble_eq_true rfl) hc.1.t (kf_count hc wa ?_)
        refine pw_aload_2 dL_law_500 ?_
        refine pw_aload_0 dL_law_501 ?_
        refine pw_iload_3 dL_law_502 ?_
        refine pw_iconst (v := nI 1) dL_law_503 (by decide) ?_
        refine pw_iaddN dL_law_504 ?_
        refine pw_sldN dL_law_505 (by omega) hL ?_
        refine pw_cV1i 8 dL_law_506 kL_63 vX8_count iX8_count ⟨by decide, by decide⟩ ⟨rfl, rfl⟩ (by decide) rfl (Nat.le_of_ble_eq_true rfl) hm.t (ms_count hm hmx wa ?_)
        refine pw_icmp_eq 803 dL_law_509 (by decide) (fun _ => ?_) (fun hh => absurd rfl hh)
        refine pw_iinc_3 (y := nI 4) dL_law_803 (by decide) (by decide) ?_
        rw [nI_add]
        refine pw_goto 18 dL_law_806 (by decide) ?_
        exact pw_bud (by omega) (by omega) (ih _ σ μ x A (by omega) (by omega) hc hmx hm wa hN)
      · skip
        subst e9
        refine pw_tabIn (off := 482) 514 dL_law_32 (by decide) (by decide) (by decide) (by decide) ?_
        refine pw_aload_1 dL_law_514 ?_
        refine pw_aload_0 dL_law_515 ?_
        refine pw_iload_3 dL_law_516 ?_
        refine pw_iconst (v := nI 1) dL_law_517 (by decide) ?_
        refine pw_iaddN dL_law_518 ?_
        refine pw_sldN dL_law_519 (by omega) hL ?_
        refine pw_cV1i 7 dL_law_520 kL_64 vX7_why iX7_why ⟨by decide, by decide⟩ ⟨rfl, rfl⟩ (by decide) rfl (Nat.le_of_ble_eq_true rfl) hc.1.t (kf_why hc wa ?_)
        refine pw_aload_2 dL_law_523 ?_
        refine pw_aload_0 dL_law_524 ?_
        refine pw_iload_3 dL_law_525 ?_
        refine pw_iconst (v := nI 1) dL_law_526 (by decide) ?_
        refine pw_iaddN dL_law_527 ?_
        refine pw_sldN dL_law_528 (by omega) hL ?_
        refine pw_cV1i 8 dL_law_529 kL_67 vX8_why iX8_why ⟨by decide, by decide⟩ ⟨rfl, rfl⟩ (by decide) rfl (Nat.le_of_ble_eq_true rfl) hm.t (ms_why hm hmx wa ?_)
        refine pw_icmp_eq 803 dL_law_532 (by decide) (fun _ => ?_) (fun hh => absurd rfl hh)
        refine pw_iinc_3 (y := nI 4) dL_law_803 (by decide) (by decide) ?_
        rw [nI_add]
        refine pw_goto 18 dL_law_806 (by decide) ?_
        exact pw_bud (by omega) (by omega) (ih _ σ μ x A (by omega) (by omega) hc hmx hm wa hN)
      · skip
        subst e9
        refine pw_tabIn (off := 505) 537 dL_law_32 (by decide) (by decide) (by decide) (by decide) ?_
        refine pw_aload_1 dL_law_537 ?_
        refine pw_aload_0 dL_law_538 ?_
        refine pw_iload_3 dL_law_539 ?_
        refine pw_iconst (v := nI 1) dL_law_540 (by decide) ?_
        refine pw_iaddN dL_law_541 ?_
        refine pw_sldN dL_law_542 (by omega) hL ?_
        refine pw_aload_0 dL_law_543 ?_
        refine pw_iload_3 dL_law_544 ?_
        refine pw_iconst (v := nI 2) dL_law_545 (by decide) ?_
        refine pw_iaddN dL_law_546 ?_
        refine pw_sldN dL_law_547 (by omega) hL ?_
        refine pw_cV2i 7 dL_law_548 kL_68 vX7_endsIn iX7_endsIn ⟨by decide, by decide⟩ ⟨rfl, rfl⟩ (by decide) rfl (Nat.le_of_ble_eq_true rfl) hc.1.t (kf_endsIn hc wa (fun μ1 hc1 fx1 => ?_))
        have hx1 := hmx.fx fx1
        refine pw_aload_2 dL_law_551 ?_
        refine pw_aload_0 dL_law_552 ?_
        refine pw_iload_3 dL_law_553 ?_
        refine pw_iconst (v := nI 1) dL_law_554 (by decide) ?_
        refine pw_iaddN dL_law_555 ?_
        refine pw_sldN dL_law_556 (by omega) hL ?_
        refine pw_aload_0 dL_law_557 ?_
        refine pw_iload_3 dL_law_558 ?_
        refine pw_iconst (v := nI 2) dL_law_559 (by decide) ?_
        refine pw_iaddN dL_law_560 ?_
        refine pw_sldN dL_law_561 (by omega) hL ?_
        refine pw_cV2i 8 dL_law_562 kL_71 vX8_endsIn iX8_endsIn ⟨by decide, by decide⟩ ⟨rfl, rfl⟩ (by decide) rfl (Nat.le_of_ble_eq_true rfl) hm.t (ms_endsIn hm hx1 wa (fun μ2 fm2 hx2 => ?_))
        have hc2 := hc1.fm fm2
        refine pw_icmp_eq 803 dL_law_565 (by decide) (fun _ => ?_) (fun hh => absurd rfl hh)
        refine pw_iinc_3 (y := nI 4) dL_law_803 (by decide) (by decide) ?_
        rw [nI_add]
        refine pw_goto 18 dL_law_806 (by decide) ?_
        exact pw_bud (by omega) (by omega) (ih _ σ μ2 x _ (by omega) (by omega) hc2 hx2 hm wa hN)
      · skip
        subst e9
        refine pw_tabIn (off := 538) 570 dL_law_32 (by decide) (by decide) (by decide) (by decide) ?_
        refine pw_aload_1 dL_law_570 ?_
        refine pw_cV0i 7 dL_law_571 kL_72 vX7_quietIn iX7_quietIn ⟨by decide, by decide⟩ ⟨rfl, rfl⟩ (by decide) rfl (Nat.le_of_ble_eq_true rfl) hc.1.t (kf_quietIn hc wa (fun μ1 hc1 fx1 => ?_))
        have hx1 := hmx.fx fx1
        refine pw_aload_2 dL_law_574 ?_
        refine pw_cV0i 8 dL_law_575 kL_76 vX8_quietIn iX8_quietIn ⟨by decide, by decide⟩ ⟨rfl, rfl⟩ (by decide) rfl (Nat.le_of_ble_eq_true rfl) hm.t (ms_quietIn hm hx1 wa (fun μ2 fm2 hx2 => ?_))
        have hc2 := hc1.fm fm2
        refine pw_icmp_eq 803 dL_law_578 (by decide) (fun _ => ?_) (fun hh => absurd rfl hh)
        refine pw_iinc_3 (y := nI 4) dL_law_803 (by decide) (by decide) ?_
        rw [nI_add]
        refine pw_goto 18 dL_law_806 (by decide) ?_
        exact pw_bud (by omega) (by omega) (ih _ σ μ2 x _ (by omega) (by omega) hc2 hx2 hm wa hN)
      · skip
        subst e9
        refine pw_tabIn (off := 551) 583 dL_law_32 (by decide) (by decide) (by decide) (by decide) ?_
        refine pw_aload_1 dL_law_583 ?_
        refine pw_aload_0 dL_law_584 ?_
        refine pw_iload_3 dL_law_585 ?_
        refine pw_iconst (v := nI 1) dL_law_586 (by decide) ?_
        refine pw_iaddN dL_law_587 ?_
        refine pw_sldN dL_law_588 (by omega) hL ?_
        refine pw_aload_0 dL_law_589 ?_
        refine pw_iload_3 dL_law_590 ?_
        refine pw_iconst (v := nI 2) dL_law_591 (by decide) ?_
        refine pw_iaddN dL_law_592 ?_
        refine pw_sldN dL_law_593 (by omega) hL ?_
        refine pw_cV2i 7 dL_law_594 kL_77 vX7_bestRest iX7_bestRest ⟨by decide, by decide⟩ ⟨rfl, rfl⟩ (by decide) rfl (Nat.le_of_ble_eq_true rfl) hc.1.t (kf_bestRest hc wa (fun μ1 hc1 fx1 => ?_))
        have hx1 := hmx.fx fx1
        refine pw_aload_2 dL_law_597 ?_
        refine pw_aload_0 dL_law_598 ?_
        refine pw_iload_3 dL_law_599 ?_
        refine pw_iconst (v := nI 1) dL_law_600 (by decide) ?_
        refine pw_iaddN dL_law_601 ?_
        refine pw_sldN dL_law_602 (by omega) hL ?_
        refine pw_aload_0 dL_law_603 ?_
        refine pw_iload_3 dL_law_604 ?_
        refine pw_iconst (v := nI 2) dL_law_605 (by decide) ?_
        refine pw_iaddN dL_law_606 ?_
        refine pw_sldN dL_law_607 (by omega) hL ?_
        refine pw_cV2i 8 dL_law_608 kL_80 vX8_bestRest iX8_bestRest ⟨by decide, by decide⟩ ⟨rfl, rfl⟩ (by decide) rfl (Nat.le_of_ble_eq_true rfl) hm.t (ms_bestRest hm hx1 wa (fun μ2 fm2 hx2 => ?_))
        have hc2 := hc1.fm fm2
        refine pw_icmp_eq 803 dL_law_611 (by decide) (fun _ => ?_) (fun hh => absurd rfl hh)
        refine pw_iinc_3 (y := nI 4) dL_law_803 (by decide) (by decide) ?_
        rw [nI_add]
        refine pw_goto 18 dL_law_806 (by decide) ?_
        exact pw_bud (by omega) (by omega) (ih _ σ μ2 x _ (by omega) (by omega) hc2 hx2 hm wa hN)
      · skip
        subst e9
        refine pw_tabIn (off := 584) 616 dL_law_32 (by decide) (by decide) (by decide) (by decide) ?_
        refine pw_aload_1 dL_law_616 ?_
        refine pw_cV0i 7 dL_law_617 kL_81 vX7_busiest iX7_busiest ⟨by decide, by decide⟩ ⟨rfl, rfl⟩ (by decide) rfl (Nat.le_of_ble_eq_true rfl) hc.1.t (kf_busiest hc wa ?_)
        refine pw_aload_2 dL_law_620 ?_
        refine pw_cV0i 8 dL_law_621 kL_84 vX8_busiest iX8_busiest ⟨by decide, by decide⟩ ⟨rfl, rfl⟩ (by decide) rfl (Nat.le_of_ble_eq_true rfl) hm.t (ms_busiest hm hmx wa ?_)
        refine pw_icmp_eq 803 dL_law_624 (by decide) (fun _ => ?_) (fun hh => absurd rfl hh)
        refine pw_iinc_3 (y := nI 4) dL_law_803 (by decide) (by decide) ?_
        rw [nI_add]
        refine pw_goto 18 dL_law_806 (by decide) ?_
        exact pw_bud (by omega) (by omega) (ih _ σ μ x A (by omega) (by omega) hc hmx hm wa hN)
      · skip
        subst e9
        refine pw_tabIn (off := 597) 629 dL_law_32 (by decide) (by decide) (by decide) (by decide) ?_
        refine pw_aload_1 dL_law_629 ?_
        refine pw_aload_0 dL_law_630 ?_
        refine pw_iload_3 dL_law_631 ?_
        refine pw_iconst (v := nI 1) dL_law_632 (by decide) ?_
        refine pw_iaddN dL_law_633 ?_
        refine pw_sldN dL_law_634 (by omega) hL ?_
        refine pw_cV1i 7 dL_law_635 kL_85 vX7_sleepsIn iX7_sleepsIn ⟨by decide, by decide⟩ ⟨rfl, rfl⟩ (by decide) rfl (Nat.le_of_ble_eq_true rfl) hc.1.t (kf_sleepsIn hc wa (fun μ1 hc1 fx1 => ?_))
        have hx1 := hmx.fx fx1
        refine pw_aload_2 dL_law_638 ?_
        refine pw_aload_0 dL_law_639 ?_
        refine pw_iload_3 dL_law_640 ?_
        refine pw_iconst (v := nI 1) dL_law_641 (by decide) ?_
        refine pw_iaddN dL_law_642 ?_
        refine pw_sldN dL_law_643 (by omega) hL ?_
        refine pw_cV1i 8 dL_law_644 kL_88 vX8_sleepsIn iX8_sleepsIn ⟨by decide, by decide⟩ ⟨rfl, rfl⟩ (by decide) rfl (Nat.le_of_ble_eq_true rfl) hm.t (ms_sleepsIn hm hx1 wa (fun μ2 fm2 hx2 => ?_))
        have hc2 := hc1.fm fm2
        refine pw_icmp_eq 803 dL_law_647 (by decide) (fun _ => ?_) (fun hh => absurd rfl hh)
        refine pw_iinc_3 (y := nI 4) dL_law_803 (by decide) (by decide) ?_
        rw [nI_add]
        refine pw_goto 18 dL_law_806 (by decide) ?_
        exact pw_bud (by omega) (by omega) (ih _ σ μ2 x _ (by omega) (by omega) hc2 hx2 hm wa hN)
      · skip
        subst e9
        refine pw_tabIn (off := 620) 652 dL_law_32 (by decide) (by decide) (by decide) (by decide) ?_
        refine pw_aload_1 dL_law_652 ?_
        refine pw_aload_0 dL_law_653 ?_
        refine pw_iload_3 dL_law_654 ?_
        refine pw_iconst (v := nI 1) dL_law_655 (by decide) ?_
        refine pw_iaddN dL_law_656 ?_
        refine pw_sldN dL_law_657 (by omega) hL ?_
        refine pw_i2l dL_law_658 ?_
        refine pw_bipush (v := nI 32) dL_law_659 (by decide) ?_
        refine pw_lshl dL_law_661 ?_
        refine pw_aload_0 dL_law_662 ?_
        refine pw_iload_3 dL_law_663 ?_
        refine pw_iconst (v := nI 2) dL_law_664 (by decide) ?_
        refine pw_iaddN dL_law_665 ?_
        refine pw_sldN dL_law_666 (by omega) hL ?_
        refine pw_i2l dL_law_667 ?_
        refine pw_ldc2 dL_law_668 qL_89 ?_
        refine pw_land dL_law_671 ?_
        refine pw_lor dL_law_672 ?_
        refine pw_cV1i 7 dL_law_673 kL_91 vX7_put iX7_put ⟨by decide, by decide⟩ ⟨rfl, rfl⟩ (by decide) rfl (Nat.le_of_ble_eq_true rfl) hc.1.t (kf_put hc (fun μ1 hc1 fx1 => ?_))
        have hx1 := hmx.fx fx1
        refine pw_aload_2 dL_law_676 ?_
        refine pw_aload_0 dL_law_677 ?_
        refine pw_iload_3 dL_law_678 ?_
        refine pw_iconst (v := nI 1) dL_law_679 (by decide) ?_
        refine pw_iaddN dL_law_680 ?_
        refine pw_sldN dL_law_681 (by omega) hL ?_
        refine pw_i2l dL_law_682 ?_
        refine pw_bipush (v := nI 32) dL_law_683 (by decide) ?_
        refine pw_lshl dL_law_685 ?_
        refine pw_aload_0 dL_law_686 ?_
        refine pw_iload_3 dL_law_687 ?_
        refine pw_iconst (v := nI 2) dL_law_688 (by decide) ?_
        refine pw_iaddN dL_law_689 ?_
        refine pw_sldN dL_law_690 (by omega) hL ?_
        refine pw_i2l dL_law_691 ?_
        refine pw_ldc2 dL_law_692 qL_89 ?_
        refine pw_land dL_law_695 ?_
        refine pw_lor dL_law_696 ?_
        refine pw_cV1i 8 dL_law_697 kL_95 vX8_put iX8_put ⟨by decide, by decide⟩ ⟨rfl, rfl⟩ (by decide) rfl (Nat.le_of_ble_eq_true rfl) hm.t (ms_put hm hx1 (fun μ2 fm2 hx2 => ?_))
        have hc2 := hc1.fm fm2
        refine pw_icmp_eq 803 dL_law_700 (by decide) (fun _ => ?_) (fun hh => absurd rfl hh)
        refine pw_iinc_3 (y := nI 4) dL_law_803 (by decide) (by decide) ?_
        rw [nI_add]
        refine pw_goto 18 dL_law_806 (by decide) ?_
        exact pw_bud (by omega) (by omega) (ih _ σ μ2 x _ (by omega) (by omega) hc2 hx2 hm (wa_pt wa) hN)
      · skip
        subst e9
        refine pw_tabIn (off := 673) 705 dL_law_32 (by decide) (by decide) (by decide) (by decide) ?_
        refine pw_aload_1 dL_law_705 ?_
        refine pw_cV0i 7 dL_law_706 kL_96 vX7_wipe iX7_wipe ⟨by decide, by decide⟩ ⟨rfl, rfl⟩ (by decide) rfl (Nat.le_of_ble_eq_true rfl) hc.1.t (kf_wipe hc (fun μ1 hc1 fx1 => ?_))
        have hx1 := hmx.fx fx1
        refine pw_aload_2 dL_law_709 ?_
        refine pw_cV0i 8 dL_law_710 kL_99 vX8_wipe iX8_wipe ⟨by decide, by decide⟩ ⟨rfl, rfl⟩ (by decide) rfl (Nat.le_of_ble_eq_true rfl) hm.t (ms_wipe hm hx1 (fun μ2 fm2 hx2 => ?_))
        have hc2 := hc1.fm fm2
        refine pw_icmp_eq 803 dL_law_713 (by decide) (fun _ => ?_) (fun hh => absurd rfl hh)
        refine pw_iinc_3 (y := nI 4) dL_law_803 (by decide) (by decide) ?_
        rw [nI_add]
        refine pw_goto 18 dL_law_806 (by decide) ?_
        exact pw_bud (by omega) (by omega) (ih _ σ μ2 x _ (by omega) (by omega) hc2 hx2 hm (wa_pd wa) hN)
      · skip
        subst e9
        refine pw_tabIn (off := 686) 718 dL_law_32 (by decide) (by decide) (by decide) (by decide) ?_
        refine pw_aload_1 dL_law_718 ?_
        refine pw_cV0i 7 dL_law_719 kL_100 vX7_fault iX7_fault ⟨by decide, by decide⟩ ⟨rfl, rfl⟩ (by decide) rfl (Nat.le_of_ble_eq_true rfl) hc.1.t (kf_fault hc wa (fun μ1 hc1 fx1 => ?_))
        have hx1 := hmx.fx fx1
        refine pw_aload_2 dL_law_722 ?_
        refine pw_cV0i 8 dL_law_723 kL_103 vX8_fault iX8_fault ⟨by decide, by decide⟩ ⟨rfl, rfl⟩ (by decide) rfl (Nat.le_of_ble_eq_true rfl) hm.t (ms_fault hm hx1 (fun μ2 fm2 hx2 => ?_))
        have hc2 := hc1.fm fm2
        refine pw_icmp_eq 803 dL_law_726 (by decide) (fun _ => ?_) (fun hh => absurd rfl hh)
        refine pw_iinc_3 (y := nI 4) dL_law_803 (by decide) (by decide) ?_
        rw [nI_add]
        refine pw_goto 18 dL_law_806 (by decide) ?_
        exact pw_bud (by omega) (by omega) (ih _ σ μ2 x _ (by omega) (by omega) hc2 hx2 hm wa hN)
      · skip
        subst e9
        refine pw_tabIn (off := 699) 731 dL_law_32 (by decide) (by decide) (by decide) (by decide) ?_
        refine pw_aload_1 dL_law_731 ?_
        refine pw_cV0i 7 dL_law_732 kL_104 vX7_carryOut iX7_carryOut ⟨by decide, by decide⟩ ⟨rfl, rfl⟩ (by decide) rfl (Nat.le_of_ble_eq_true rfl) hc.1.t (kf_carryOut hc wa (fun μ1 x1 hc1 fx1 => ?_))
        have hx1 := hmx.fx fx1
        refine pw_aload_2 dL_law_735 ?_
        refine pw_cV0i 8 dL_law_736 kL_107 vX8_carryOut iX8_carryOut ⟨by decide, by decide⟩ ⟨rfl, rfl⟩ (by decide) rfl (Nat.le_of_ble_eq_true rfl) hm.t (ms_carryOut hm hx1 wa (fun μ2 fm2 hx2 => ?_))
        have hc2 := hc1.fm fm2
        refine pw_icmp_eq 803 dL_law_739 (by decide) (fun _ => ?_) (fun hh => absurd rfl hh)
        refine pw_iinc_3 (y := nI 4) dL_law_803 (by decide) (by decide) ?_
        rw [nI_add]
        refine pw_goto 18 dL_law_806 (by decide) ?_
        exact pw_bud (by omega) (by omega) (ih _ σ μ2 x1 _ (by omega) (by omega) hc2 hx2 hm (wa_co wa) hN)
      · skip
        subst e9
        refine pw_tabIn (off := 712) 744 dL_law_32 (by decide) (by decide) (by decide) (by decide) ?_
        refine pw_aload_1 dL_law_744 ?_
        refine pw_cV0i 7 dL_law_745 kL_108 vX7_undo iX7_undo ⟨by decide, by decide⟩ ⟨rfl, rfl⟩ (by decide) rfl (Nat.le_of_ble_eq_true rfl) hc.1.t (kf_undo hc wa (fun μ1 x1 hc1 fx1 => ?_))
        have hx1 := hmx.fx fx1
        refine pw_aload_2 dL_law_748 ?_
        refine pw_cV0i 8 dL_law_749 kL_111 vX8_undo iX8_undo ⟨by decide, by decide⟩ ⟨rfl, rfl⟩ (by decide) rfl (Nat.le_of_ble_eq_true rfl) hm.t (ms_undo hm hx1 wa (fun μ2 fm2 hx2 => ?_))
        have hc2 := hc1.fm fm2
        refine pw_icmp_eq 803 dL_law_752 (by decide) (fun _ => ?_) (fun hh => absurd rfl hh)
        refine pw_iinc_3 (y := nI 4) dL_law_803 (by decide) (by decide) ?_
        rw [nI_add]
        refine pw_goto 18 dL_law_806 (by decide) ?_
        exact pw_bud (by omega) (by omega) (ih _ σ μ2 x1 _ (by omega) (by omega) hc2 hx2 hm (wa_un wa) hN)
      · skip
        subst e9
        refine pw_tabIn (off := 725) 757 dL_law_32 (by decide) (by decide) (by decide) (by decide) ?_
        refine pw_aload_1 dL_law_757 ?_
        refine pw_aload_0 dL_law_758 ?_
        refine pw_iload_3 dL_law_759 ?_
        refine pw_iconst (v := nI 1) dL_law_760 (by decide) ?_
        refine pw_iaddN dL_law_761 ?_
        refine pw_sldN dL_law_762 (by omega) hL ?_
        refine pw_cV1s 7 dL_law_763 kL_112 vX7_save iX7_save ⟨by decide, by decide⟩ (b1' := 62 * n) (b2' := 431 * n) (show 62 * n + 62 ≤ 62 * (n + 1) by omega) (show 431 * n + 431 ≤ 431 * (n + 1) by omega) (by decide) rfl (Nat.le_of_ble_eq_true rfl) hc.1.t (kf_save hc wa hN (fun σ1 μ1 hc1 fx1 se1 le1 => ?_))
        have hx1 := hmx.fx fx1
        have hm1 : ShM σ1 (o + 565) := hm.cg (fun c h1 h2 => se1 c (by omega) (by omega))
        refine pw_aload_2 dL_law_766 ?_
        refine pw_aload_0 dL_law_767 ?_
        refine pw_iload_3 dL_law_768 ?_
        refine pw_iconst (v := nI 1) dL_law_769 (by decide) ?_
        refine pw_iaddN dL_law_770 ?_
        refine pw_sldN dL_law_771 (by omega) hL ?_
        refine pw_cV1i 8 dL_law_772 kL_115 vX8_save iX8_save ⟨by decide, by decide⟩ ⟨rfl, rfl⟩ (by decide) rfl (Nat.le_of_ble_eq_true rfl) hm1.t (ms_save hm1 hx1 wa (fun μ2 fm2 hx2 => ?_))
        have hc2 := hc1.fm fm2
        refine pw_icmp_eq 803 dL_law_775 (by decide) (fun _ => ?_) (fun hh => absurd rfl hh)
        refine pw_iinc_3 (y := nI 4) dL_law_803 (by decide) (by decide) ?_
        rw [nI_add]
        refine pw_goto 18 dL_law_806 (by decide) ?_
        exact ih _ σ1 μ2 x _ (by omega) (by omega) hc2 hx2 hm1 (wa_sv wa) (Nat.le_trans hN le1)
      · skip
        subst e9
        refine pw_tabIn (off := 748) 780 dL_law_32 (by decide) (by decide) (by decide) (by decide) ?_
        refine pw_aload_1 dL_law_780 ?_
        refine pw_aload_0 dL_law_781 ?_
        refine pw_iload_3 dL_law_782 ?_
        refine pw_iconst (v := nI 1) dL_law_783 (by decide) ?_
        refine pw_iaddN dL_law_784 ?_
        refine pw_sldN dL_law_785 (by omega) hL ?_
        refine pw_cV1i 7 dL_law_786 kL_116 vX7_restore iX7_restore ⟨by decide, by decide⟩ ⟨rfl, rfl⟩ (by decide) rfl (Nat.le_of_ble_eq_true rfl) hc.1.t (kf_restore hc wa (fun μ1 x1 hc1 fx1 => ?_))
        have hx1 := hmx.fx fx1
        refine pw_aload_2 dL_law_789 ?_
        refine pw_aload_0 dL_law_790 ?_
        refine pw_iload_3 dL_law_791 ?_
        refine pw_iconst (v := nI 1) dL_law_792 (by decide) ?_
        refine pw_iaddN dL_law_793 ?_
        refine pw_sldN dL_law_794 (by omega) hL ?_
        refine pw_cV1i 8 dL_law_795 kL_119 vX8_restore iX8_restore ⟨by decide, by decide⟩ ⟨rfl, rfl⟩ (by decide) rfl (Nat.le_of_ble_eq_true rfl) hm.t (ms_restore hm hx1 wa (fun μ2 fm2 hx2 => ?_))
        have hc2 := hc1.fm fm2
        refine pw_icmp_eq 803 dL_law_798 (by decide) (fun _ => ?_) (fun hh => absurd rfl hh)
        refine pw_iinc_3 (y := nI 4) dL_law_803 (by decide) (by decide) ?_
        rw [nI_add]
        refine pw_goto 18 dL_law_806 (by decide) ?_
        exact pw_bud (by omega) (by omega) (ih _ σ μ2 x1 _ (by omega) (by omega) hc2 hx2 hm (wa_rs wa) hN)
      · skip
        refine pw_tabOut 803 dL_law_32 (Or.inr (lt_toInt (by omega) (by omega))) (by decide) ?_
        refine pw_iinc_3 (y := nI 4) dL_law_803 (by decide) (by decide) ?_
        rw [nI_add]
        refine pw_goto 18 dL_law_806 (by decide) ?_
        exact pw_bud (by omega) (by omega) (ih _ σ μ x A (by omega) (by omega) hc hmx hm wa hN)
    · exact stop i σ μ _ _ (by omega) h2
