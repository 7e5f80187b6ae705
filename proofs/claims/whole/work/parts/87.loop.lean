theorem law_le {i L : Nat} (hi : i < 2 ^ 20) (hL : L ≤ 384) : nI i ≤ nI L - 6 ↔ i + 6 ≤ L := by
  by_cases h : 6 ≤ L
  · rw [show nI L - 6 = nI (L - 6) from pk_sub (b := 6) h, nI_leI (by omega) (by omega)]
    omega
  · have h0 : (0 : Int32) ≤ nI i := nI_pos' (by omega)
    have hn : nI L - 6 < 0 := by
      rcases (show L = 0 ∨ L = 1 ∨ L = 2 ∨ L = 3 ∨ L = 4 ∨ L = 5 by omega) with rfl | rfl | rfl | rfl | rfl | rfl <;> decide
    constructor
    · intro h9; exact absurd (Int32.le_trans h0 h9) (Int32.not_le.mpr hn)
    · intro h9; omega
set_option maxHeartbeats 4000000 in
theorem law_floor {G : fGm} {b L i : Nat} {xs : Nat → Int32} {σ : fSt} {τ : fLt} {ρ : fSt} (hL9 : L < 2 ^ 31) (hi : i + 6 ≤ L) (hC : CR σ ρ) (hR : RR σ ρ) (J : ∀ {σ' : fSt} {τ' : fLt} {ρ' : fSt}, CR σ' ρ' → RR σ' ρ' → LW G b L xs σ' τ' 1335 [(3, .int (nI i)), (0, .ref 1030), (1, .ref 0), (2, .ref 87)] []) : LW G b L xs σ τ 200 [(3, .int (nI i)), (0, .ref 1030), (1, .ref 0), (2, .ref 87)] [] := by
  refine l_aload_n dL_law_200 rfl ?_
  refine l_aload_n dL_law_201 rfl ?_
  refine l_iload_n dL_law_202 rfl ?_
  refine l_iconst (v := 1) dL_law_203 (by decide) ?_
  refine l_iadd dL_law_204 ?_
  rw [show nI i + 1 = nI (i + 1) from nI_add i 1]
  refine l_sld (j := i + 1) rfl (by omega) hL9 dL_law_205 ?_
  refine l_aload_n dL_law_206 rfl ?_
  refine l_iload_n dL_law_207 rfl ?_
  refine l_iconst (v := 2) dL_law_208 (by decide) ?_
  refine l_iadd dL_law_209 ?_
  rw [show nI i + 2 = nI (i + 2) from nI_add i 2]
  refine l_sld (j := i + 2) rfl (by omega) hL9 dL_law_210 ?_
  refine l_aload_n dL_law_211 rfl ?_
  refine l_iload_n dL_law_212 rfl ?_
  refine l_iconst (v := 3) dL_law_213 (by decide) ?_
  refine l_iadd dL_law_214 ?_
  rw [show nI i + 3 = nI (i + 3) from nI_add i 3]
  refine l_sld (j := i + 3) rfl (by omega) hL9 dL_law_215 ?_
  refine l_callV (I' := iX9_floor) lk_L_13 c_X9_floor dL_law_216 (m_X9_floor hC) rfl rfl (by decide) (ae_0 _ _) rfl (by decide) (by decide) (Nat.le_of_ble_eq_true rfl) (fun v1 σ1 τ1 h1 => ?_)
  obtain ⟨rfl, rfl, hC1, hF1⟩ := h1
  have hR1 := RR_fr hR hF1
  refine l_aload_n dL_law_219 rfl ?_
  refine l_aload_n dL_law_220 rfl ?_
  refine l_iload_n dL_law_221 rfl ?_
  refine l_iconst (v := 1) dL_law_222 (by decide) ?_
  refine l_iadd dL_law_223 ?_
  rw [show nI i + 1 = nI (i + 1) from nI_add i 1]
  refine l_sld (j := i + 1) rfl (by omega) hL9 dL_law_224 ?_
  refine l_aload_n dL_law_225 rfl ?_
  refine l_iload_n dL_law_226 rfl ?_
  refine l_iconst (v := 2) dL_law_227 (by decide) ?_
  refine l_iadd dL_law_228 ?_
  rw [show nI i + 2 = nI (i + 2) from nI_add i 2]
  refine l_sld (j := i + 2) rfl (by omega) hL9 dL_law_229 ?_
  refine l_aload_n dL_law_230 rfl ?_
  refine l_iload_n dL_law_231 rfl ?_
  refine l_iconst (v := 3) dL_law_232 (by decide) ?_
  refine l_iadd dL_law_233 ?_
  rw [show nI i + 3 = nI (i + 3) from nI_add i 3]
  refine l_sld (j := i + 3) rfl (by omega) hL9 dL_law_234 ?_
  refine l_callV (I' := iX10_floor) lk_L_17 c_X10_floor dL_law_235 (m_X10_floor hR1) rfl rfl (by decide) (ae_87 _ _) rfl (by decide) (by decide) (Nat.le_of_ble_eq_true rfl) (fun v2 σ2 τ2 h2 => ?_)
  obtain ⟨rfl, rfl, hR2, hF2⟩ := h2
  have hC2 := CR_fr hC1 hF2
  refine l_icmp_eq (tgt := 1335) dL_law_238 (by decide) rfl ?_
  exact J hC2 hR2
set_option maxHeartbeats 4000000 in
theorem law_hold {G : fGm} {b L i : Nat} {xs : Nat → Int32} {σ : fSt} {τ : fLt} {ρ : fSt} (hL9 : L < 2 ^ 31) (hi : i + 6 ≤ L) (hC : CR σ ρ) (hR : RR σ ρ) (J : ∀ {σ' : fSt} {τ' : fLt} {ρ' : fSt}, CR σ' ρ' → RR σ' ρ' → LW G b L xs σ' τ' 1335 [(3, .int (nI i)), (0, .ref 1030), (1, .ref 0), (2, .ref 87)] []) : LW G b L xs σ τ 243 [(3, .int (nI i)), (0, .ref 1030), (1, .ref 0), (2, .ref 87)] [] := by
  refine l_aload_n dL_law_243 rfl ?_
  refine l_aload_n dL_law_244 rfl ?_
  refine l_iload_n dL_law_245 rfl ?_
  refine l_iconst (v := 1) dL_law_246 (by decide) ?_
  refine l_iadd dL_law_247 ?_
  rw [show nI i + 1 = nI (i + 1) from nI_add i 1]
  refine l_sld (j := i + 1) rfl (by omega) hL9 dL_law_248 ?_
  refine l_aload_n dL_law_249 rfl ?_
  refine l_iload_n dL_law_250 rfl ?_
  refine l_iconst (v := 2) dL_law_251 (by decide) ?_
  refine l_iadd dL_law_252 ?_
  rw [show nI i + 2 = nI (i + 2) from nI_add i 2]
  refine l_sld (j := i + 2) rfl (by omega) hL9 dL_law_253 ?_
  refine l_callV (I' := iX9_hold) lk_L_18 c_X9_hold dL_law_254 (m_X9_hold hC) rfl rfl (by decide) (ae_0 _ _) rfl (by decide) (by decide) (Nat.le_of_ble_eq_true rfl) (fun v1 σ1 τ1 h1 => ?_)
  obtain ⟨rfl, rfl, hC1, hF1⟩ := h1
  have hR1 := RR_fr hR hF1
  refine l_aload_n dL_law_257 rfl ?_
  refine l_aload_n dL_law_258 rfl ?_
  refine l_iload_n dL_law_259 rfl ?_
  refine l_iconst (v := 1) dL_law_260 (by decide) ?_
  refine l_iadd dL_law_261 ?_
  rw [show nI i + 1 = nI (i + 1) from nI_add i 1]
  refine l_sld (j := i + 1) rfl (by omega) hL9 dL_law_262 ?_
  refine l_aload_n dL_law_263 rfl ?_
  refine l_iload_n dL_law_264 rfl ?_
  refine l_iconst (v := 2) dL_law_265 (by decide) ?_
  refine l_iadd dL_law_266 ?_
  rw [show nI i + 2 = nI (i + 2) from nI_add i 2]
  refine l_sld (j := i + 2) rfl (by omega) hL9 dL_law_267 ?_
  refine l_callV (I' := iX10_hold) lk_L_22 c_X10_hold dL_law_268 (m_X10_hold hR1) rfl rfl (by decide) (ae_87 _ _) rfl (by decide) (by decide) (Nat.le_of_ble_eq_true rfl) (fun v2 σ2 τ2 h2 => ?_)
  obtain ⟨rfl, rfl, hR2, hF2⟩ := h2
  have hC2 := CR_fr hC1 hF2
  refine l_icmp_eq (tgt := 1335) dL_law_271 (by decide) rfl ?_
  exact J hC2 hR2
set_option maxHeartbeats 4000000 in
theorem law_holdIs {G : fGm} {b L i : Nat} {xs : Nat → Int32} {σ : fSt} {τ : fLt} {ρ : fSt} (hL9 : L < 2 ^ 31) (hi : i + 6 ≤ L) (hC : CR σ ρ) (hR : RR σ ρ) (J : ∀ {σ' : fSt} {τ' : fLt} {ρ' : fSt}, CR σ' ρ' → RR σ' ρ' → LW G b L xs σ' τ' 1335 [(3, .int (nI i)), (0, .ref 1030), (1, .ref 0), (2, .ref 87)] []) : LW G b L xs σ τ 276 [(3, .int (nI i)), (0, .ref 1030), (1, .ref 0), (2, .ref 87)] [] := by
  refine l_aload_n dL_law_276 rfl ?_
  refine l_aload_n dL_law_277 rfl ?_
  refine l_iload_n dL_law_278 rfl ?_
  refine l_iconst (v := 1) dL_law_279 (by decide) ?_
  refine l_iadd dL_law_280 ?_
  rw [show nI i + 1 = nI (i + 1) from nI_add i 1]
  refine l_sld (j := i + 1) rfl (by omega) hL9 dL_law_281 ?_
  refine l_aload_n dL_law_282 rfl ?_
  refine l_iload_n dL_law_283 rfl ?_
  refine l_iconst (v := 2) dL_law_284 (by decide) ?_
  refine l_iadd dL_law_285 ?_
  rw [show nI i + 2 = nI (i + 2) from nI_add i 2]
  refine l_sld (j := i + 2) rfl (by omega) hL9 dL_law_286 ?_
  refine l_callV (I' := iX9_holdIs) lk_L_23 c_X9_holdIs dL_law_287 (m_X9_holdIs hC) rfl rfl (by decide) (ae_0 _ _) rfl (by decide) (by decide) (Nat.le_of_ble_eq_true rfl) (fun v1 σ1 τ1 h1 => ?_)
  obtain ⟨rfl, rfl, hC1, hF1⟩ := h1
  have hR1 := RR_fr hR hF1
  refine l_aload_n dL_law_290 rfl ?_
  refine l_aload_n dL_law_291 rfl ?_
  refine l_iload_n dL_law_292 rfl ?_
  refine l_iconst (v := 1) dL_law_293 (by decide) ?_
  refine l_iadd dL_law_294 ?_
  rw [show nI i + 1 = nI (i + 1) from nI_add i 1]
  refine l_sld (j := i + 1) rfl (by omega) hL9 dL_law_295 ?_
  refine l_aload_n dL_law_296 rfl ?_
  refine l_iload_n dL_law_297 rfl ?_
  refine l_iconst (v := 2) dL_law_298 (by decide) ?_
  refine l_iadd dL_law_299 ?_
  rw [show nI i + 2 = nI (i + 2) from nI_add i 2]
  refine l_sld (j := i + 2) rfl (by omega) hL9 dL_law_300 ?_
  refine l_callV (I' := iX10_holdIs) lk_L_26 c_X10_holdIs dL_law_301 (m_X10_holdIs hR1) rfl rfl (by decide) (ae_87 _ _) rfl (by decide) (by decide) (Nat.le_of_ble_eq_true rfl) (fun v2 σ2 τ2 h2 => ?_)
  obtain ⟨rfl, rfl, hR2, hF2⟩ := h2
  have hC2 := CR_fr hC1 hF2
  refine l_icmp_eq (tgt := 1335) dL_law_304 (by decide) rfl ?_
  exact J hC2 hR2
set_option maxHeartbeats 4000000 in
theorem law_setHold {G : fGm} {b L i : Nat} {xs : Nat → Int32} {σ : fSt} {τ : fLt} {ρ : fSt} (hL9 : L < 2 ^ 31) (hi : i + 6 ≤ L) (hC : CR σ ρ) (hR : RR σ ρ) (J : ∀ {σ' : fSt} {τ' : fLt} {ρ' : fSt}, CR σ' ρ' → RR σ' ρ' → LW G b L xs σ' τ' 1335 [(3, .int (nI i)), (0, .ref 1030), (1, .ref 0), (2, .ref 87)] []) : LW G b L xs σ τ 309 [(3, .int (nI i)), (0, .ref 1030), (1, .ref 0), (2, .ref 87)] [] := by
  refine l_aload_n dL_law_309 rfl ?_
  refine l_aload_n dL_law_310 rfl ?_
  refine l_iload_n dL_law_311 rfl ?_
  refine l_iconst (v := 1) dL_law_312 (by decide) ?_
  refine l_iadd dL_law_313 ?_
  rw [show nI i + 1 = nI (i + 1) from nI_add i 1]
  refine l_sld (j := i + 1) rfl (by omega) hL9 dL_law_314 ?_
  refine l_aload_n dL_law_315 rfl ?_
  refine l_iload_n dL_law_316 rfl ?_
  refine l_iconst (v := 2) dL_law_317 (by decide) ?_
  refine l_iadd dL_law_318 ?_
  rw [show nI i + 2 = nI (i + 2) from nI_add i 2]
  refine l_sld (j := i + 2) rfl (by omega) hL9 dL_law_319 ?_
  refine l_aload_n dL_law_320 rfl ?_
  refine l_iload_n dL_law_321 rfl ?_
  refine l_iconst (v := 3) dL_law_322 (by decide) ?_
  refine l_iadd dL_law_323 ?_
  rw [show nI i + 3 = nI (i + 3) from nI_add i 3]
  refine l_sld (j := i + 3) rfl (by omega) hL9 dL_law_324 ?_
  refine l_callV (I' := iX9_setHold) lk_L_27 c_X9_setHold dL_law_325 (m_X9_setHold hC) rfl rfl (by decide) (ae_0 _ _) rfl (by decide) (by decide) (Nat.le_of_ble_eq_true rfl) (fun v1 σ1 τ1 h1 => ?_)
  obtain ⟨rfl, rfl, hC1, hF1⟩ := h1
  have hR1 := RR_fr hR hF1
  refine l_aload_n dL_law_328 rfl ?_
  refine l_aload_n dL_law_329 rfl ?_
  refine l_iload_n dL_law_330 rfl ?_
  refine l_iconst (v := 1) dL_law_331 (by decide) ?_
  refine l_iadd dL_law_332 ?_
  rw [show nI i + 1 = nI (i + 1) from nI_add i 1]
  refine l_sld (j := i + 1) rfl (by omega) hL9 dL_law_333 ?_
  refine l_aload_n dL_law_334 rfl ?_
  refine l_iload_n dL_law_335 rfl ?_
  refine l_iconst (v := 2) dL_law_336 (by decide) ?_
  refine l_iadd dL_law_337 ?_
  rw [show nI i + 2 = nI (i + 2) from nI_add i 2]
  refine l_sld (j := i + 2) rfl (by omega) hL9 dL_law_338 ?_
  refine l_aload_n dL_law_339 rfl ?_
  refine l_iload_n dL_law_340 rfl ?_
  refine l_iconst (v := 3) dL_law_341 (by decide) ?_
  refine l_iadd dL_law_342 ?_
  rw [show nI i + 3 = nI (i + 3) from nI_add i 3]
  refine l_sld (j := i + 3) rfl (by omega) hL9 dL_law_343 ?_
  refine l_callV (I' := iX10_setHold) lk_L_30 c_X10_setHold dL_law_344 (m_X10_setHold hR1) rfl rfl (by decide) (ae_87 _ _) rfl (by decide) (by decide) (Nat.le_of_ble_eq_true rfl) (fun v2 σ2 τ2 h2 => ?_)
  obtain ⟨rfl, rfl, hR2, hF2⟩ := h2
  have hC2 := CR_fr hC1 hF2
  refine l_icmp_eq (tgt := 1335) dL_law_347 (by decide) rfl ?_
  exact J hC2 hR2
set_option maxHeartbeats 4000000 in
theorem law_set {G : fGm} {b L i : Nat} {xs : Nat → Int32} {σ : fSt} {τ : fLt} {ρ : fSt} (hL9 : L < 2 ^ 31) (hi : i + 6 ≤ L) (hC : CR σ ρ) (hR : RR σ ρ) (J : ∀ {σ' : fSt} {τ' : fLt} {ρ' : fSt}, CR σ' ρ' → RR σ' ρ' → LW G b L xs σ' τ' 1335 [(3, .int (nI i)), (0, .ref 1030), (1, .ref 0), (2, .ref 87)] []) : LW G b L xs σ τ 352 [(3, .int (nI i)), (0, .ref 1030), (1, .ref 0), (2, .ref 87)] [] := by
  refine l_aload_n dL_law_352 rfl ?_
  refine l_aload_n dL_law_353 rfl ?_
  refine l_iload_n dL_law_354 rfl ?_
  refine l_iconst (v := 1) dL_law_355 (by decide) ?_
  refine l_iadd dL_law_356 ?_
  rw [show nI i + 1 = nI (i + 1) from nI_add i 1]
  refine l_sld (j := i + 1) rfl (by omega) hL9 dL_law_357 ?_
  refine l_aload_n dL_law_358 rfl ?_
  refine l_iload_n dL_law_359 rfl ?_
  refine l_iconst (v := 2) dL_law_360 (by decide) ?_
  refine l_iadd dL_law_361 ?_
  rw [show nI i + 2 = nI (i + 2) from nI_add i 2]
  refine l_sld (j := i + 2) rfl (by omega) hL9 dL_law_362 ?_
  refine l_callV (I' := iX9_set) lk_L_31 c_X9_set dL_law_363 (m_X9_set hC) rfl rfl (by decide) (ae_0 _ _) rfl (by decide) (by decide) (Nat.le_of_ble_eq_true rfl) (fun v1 σ1 τ1 h1 => ?_)
  obtain ⟨rfl, rfl, hC1, hF1⟩ := h1
  have hR1 := RR_fr hR hF1
  refine l_aload_n dL_law_366 rfl ?_
  refine l_aload_n dL_law_367 rfl ?_
  refine l_iload_n dL_law_368 rfl ?_
  refine l_iconst (v := 1) dL_law_369 (by decide) ?_
  refine l_iadd dL_law_370 ?_
  rw [show nI i + 1 = nI (i + 1) from nI_add i 1]
  refine l_sld (j := i + 1) rfl (by omega) hL9 dL_law_371 ?_
  refine l_aload_n dL_law_372 rfl ?_
  refine l_iload_n dL_law_373 rfl ?_
  refine l_iconst (v := 2) dL_law_374 (by decide) ?_
  refine l_iadd dL_law_375 ?_
  rw [show nI i + 2 = nI (i + 2) from nI_add i 2]
  refine l_sld (j := i + 2) rfl (by omega) hL9 dL_law_376 ?_
  refine l_callV (I' := iX10_set) lk_L_34 c_X10_set dL_law_377 (m_X10_set hR1) rfl rfl (by decide) (ae_87 _ _) rfl (by decide) (by decide) (Nat.le_of_ble_eq_true rfl) (fun v2 σ2 τ2 h2 => ?_)
  obtain ⟨rfl, rfl, hR2, hF2⟩ := h2
  have hC2 := CR_fr hC1 hF2
  refine l_icmp_eq (tgt := 1335) dL_law_380 (by decide) rfl ?_
  exact J hC2 hR2
set_option maxHeartbeats 4000000 in
theorem law_is {G : fGm} {b L i : Nat} {xs : Nat → Int32} {σ : fSt} {τ : fLt} {ρ : fSt} (hL9 : L < 2 ^ 31) (hi : i + 6 ≤ L) (hC : CR σ ρ) (hR : RR σ ρ) (J : ∀ {σ' : fSt} {τ' : fLt} {ρ' : fSt}, CR σ' ρ' → RR σ' ρ' → LW G b L xs σ' τ' 1335 [(3, .int (nI i)), (0, .ref 1030), (1, .ref 0), (2, .ref 87)] []) : LW G b L xs σ τ 385 [(3, .int (nI i)), (0, .ref 1030), (1, .ref 0), (2, .ref 87)] [] := by
  refine l_aload_n dL_law_385 rfl ?_
  refine l_aload_n dL_law_386 rfl ?_
  refine l_iload_n dL_law_387 rfl ?_
  refine l_iconst (v := 1) dL_law_388 (by decide) ?_
  refine l_iadd dL_law_389 ?_
  rw [show nI i + 1 = nI (i + 1) from nI_add i 1]
  refine l_sld (j := i + 1) rfl (by omega) hL9 dL_law_390 ?_
  refine l_callV (I' := iX9_is) lk_L_35 c_X9_is dL_law_391 (m_X9_is hC) rfl rfl (by decide) (ae_0 _ _) rfl (by decide) (by decide) (Nat.le_of_ble_eq_true rfl) (fun v1 σ1 τ1 h1 => ?_)
  obtain ⟨rfl, rfl, hC1, hF1⟩ := h1
  have hR1 := RR_fr hR hF1
  refine l_aload_n dL_law_394 rfl ?_
  refine l_aload_n dL_law_395 rfl ?_
  refine l_iload_n dL_law_396 rfl ?_
  refine l_iconst (v := 1) dL_law_397 (by decide) ?_
  refine l_iadd dL_law_398 ?_
  rw [show nI i + 1 = nI (i + 1) from nI_add i 1]
  refine l_sld (j := i + 1) rfl (by omega) hL9 dL_law_399 ?_
  refine l_callV (I' := iX10_is) lk_L_39 c_X10_is dL_law_400 (m_X10_is hR1) rfl rfl (by decide) (ae_87 _ _) rfl (by decide) (by decide) (Nat.le_of_ble_eq_true rfl) (fun v2 σ2 τ2 h2 => ?_)
  obtain ⟨rfl, rfl, hR2, hF2⟩ := h2
  have hC2 := CR_fr hC1 hF2
  refine l_icmp_eq (tgt := 1335) dL_law_403 (by decide) rfl ?_
  exact J hC2 hR2
set_option maxHeartbeats 4000000 in
theorem law_nearest {G : fGm} {b L i : Nat} {xs : Nat → Int32} {σ : fSt} {τ : fLt} {ρ : fSt} (hL9 : L < 2 ^ 31) (hi : i + 6 ≤ L) (hC : CR σ ρ) (hR : RR σ ρ) (J : ∀ {σ' : fSt} {τ' : fLt} {ρ' : fSt}, CR σ' ρ' → RR σ' ρ' → LW G b L xs σ' τ' 1335 [(3, .int (nI i)), (0, .ref 1030), (1, .ref 0), (2, .ref 87)] []) : LW G b L xs σ τ 408 [(3, .int (nI i)), (0, .ref 1030), (1, .ref 0), (2, .ref 87)] [] := by
  refine l_aload_n dL_law_408 rfl ?_
  refine l_callV (I' := iX9_nearest) lk_L_40 c_X9_nearest dL_law_409 (m_X9_nearest hC) rfl rfl (by decide) (ae_0 _ _) rfl (by decide) (by decide) (Nat.le_of_ble_eq_true rfl) (fun v1 σ1 τ1 h1 => ?_)
  obtain ⟨rfl, rfl, hC1, hF1⟩ := h1
  have hR1 := RR_fr hR hF1
  refine l_aload_n dL_law_412 rfl ?_
  refine l_callV (I' := iX10_nearest) lk_L_44 c_X10_nearest dL_law_413 (m_X10_nearest hR1) rfl rfl (by decide) (ae_87 _ _) rfl (by decide) (by decide) (Nat.le_of_ble_eq_true rfl) (fun v2 σ2 τ2 h2 => ?_)
  obtain ⟨rfl, rfl, hR2, hF2⟩ := h2
  have hC2 := CR_fr hC1 hF2
  refine l_icmp_eq (tgt := 1335) dL_law_416 (by decide) rfl ?_
  exact J hC2 hR2
set_option maxHeartbeats 4000000 in
theorem law_going {G : fGm} {b L i : Nat} {xs : Nat → Int32} {σ : fSt} {τ : fLt} {ρ : fSt} (hL9 : L < 2 ^ 31) (hi : i + 6 ≤ L) (hC : CR σ ρ) (hR : RR σ ρ) (J : ∀ {σ' : fSt} {τ' : fLt} {ρ' : fSt}, CR σ' ρ' → RR σ' ρ' → LW G b L xs σ' τ' 1335 [(3, .int (nI i)), (0, .ref 1030), (1, .ref 0), (2, .ref 87)] []) : LW G b L xs σ τ 421 [(3, .int (nI i)), (0, .ref 1030), (1, .ref 0), (2, .ref 87)] [] := by
  refine l_aload_n dL_law_421 rfl ?_
  refine l_aload_n dL_law_422 rfl ?_
  refine l_iload_n dL_law_423 rfl ?_
  refine l_iconst (v := 1) dL_law_424 (by decide) ?_
  refine l_iadd dL_law_425 ?_
  rw [show nI i + 1 = nI (i + 1) from nI_add i 1]
  refine l_sld (j := i + 1) rfl (by omega) hL9 dL_law_426 ?_
  refine l_aload_n dL_law_427 rfl ?_
  refine l_iload_n dL_law_428 rfl ?_
  refine l_iconst (v := 2) dL_law_429 (by decide) ?_
  refine l_iadd dL_law_430 ?_
  rw [show nI i + 2 = nI (i + 2) from nI_add i 2]
  refine l_sld (j := i + 2) rfl (by omega) hL9 dL_law_431 ?_
  refine l_callV (I' := iX9_going) lk_L_45 c_X9_going dL_law_432 (m_X9_going hC) rfl rfl (by decide) (ae_0 _ _) rfl (by decide) (by decide) (Nat.le_of_ble_eq_true rfl) (fun v1 σ1 τ1 h1 => ?_)
  obtain ⟨rfl, rfl, hC1, hF1⟩ := h1
  have hR1 := RR_fr hR hF1
  refine l_aload_n dL_law_435 rfl ?_
  refine l_aload_n dL_law_436 rfl ?_
  refine l_iload_n dL_law_437 rfl ?_
  refine l_iconst (v := 1) dL_law_438 (by decide) ?_
  refine l_iadd dL_law_439 ?_
  rw [show nI i + 1 = nI (i + 1) from nI_add i 1]
  refine l_sld (j := i + 1) rfl (by omega) hL9 dL_law_440 ?_
  refine l_aload_n dL_law_441 rfl ?_
  refine l_iload_n dL_law_442 rfl ?_
  refine l_iconst (v := 2) dL_law_443 (by decide) ?_
  refine l_iadd dL_law_444 ?_
  rw [show nI i + 2 = nI (i + 2) from nI_add i 2]
  refine l_sld (j := i + 2) rfl (by omega) hL9 dL_law_445 ?_
  refine l_callV (I' := iX10_going) lk_L_48 c_X10_going dL_law_446 (m_X10_going hR1) rfl rfl (by decide) (ae_87 _ _) rfl (by decide) (by decide) (Nat.le_of_ble_eq_true rfl) (fun v2 σ2 τ2 h2 => ?_)
  obtain ⟨rfl, rfl, hR2, hF2⟩ := h2
  have hC2 := CR_fr hC1 hF2
  refine l_icmp_eq (tgt := 1335) dL_law_449 (by decide) rfl ?_
  exact J hC2 hR2
set_option maxHeartbeats 4000000 in
theorem law_goingIs {G : fGm} {b L i : Nat} {xs : Nat → Int32} {σ : fSt} {τ : fLt} {ρ : fSt} (hL9 : L < 2 ^ 31) (hi : i + 6 ≤ L) (hC : CR σ ρ) (hR : RR σ ρ) (J : ∀ {σ' : fSt} {τ' : fLt} {ρ' : fSt}, CR σ' ρ' → RR σ' ρ' → LW G b L xs σ' τ' 1335 [(3, .int (nI i)), (0, .ref 1030), (1, .ref 0), (2, .ref 87)] []) : LW G b L xs σ τ 454 [(3, .int (nI i)), (0, .ref 1030), (1, .ref 0), (2, .ref 87)] [] := by
  refine l_aload_n dL_law_454 rfl ?_
  refine l_aload_n dL_law_455 rfl ?_
  refine l_iload_n dL_law_456 rfl ?_
  refine l_iconst (v := 1) dL_law_457 (by decide) ?_
  refine l_iadd dL_law_458 ?_
  rw [show nI i + 1 = nI (i + 1) from nI_add i 1]
  refine l_sld (j := i + 1) rfl (by omega) hL9 dL_law_459 ?_
  refine l_aload_n dL_law_460 rfl ?_
  refine l_iload_n dL_law_461 rfl ?_
  refine l_iconst (v := 2) dL_law_462 (by decide) ?_
  refine l_iadd dL_law_463 ?_
  rw [show nI i + 2 = nI (i + 2) from nI_add i 2]
  refine l_sld (j := i + 2) rfl (by omega) hL9 dL_law_464 ?_
  refine l_callV (I' := iX9_goingIs) lk_L_49 c_X9_goingIs dL_law_465 (m_X9_goingIs hC) rfl rfl (by decide) (ae_0 _ _) rfl (by decide) (by decide) (Nat.le_of_ble_eq_true rfl) (fun v1 σ1 τ1 h1 => ?_)
  obtain ⟨rfl, rfl, hC1, hF1⟩ := h1
  have hR1 := RR_fr hR hF1
  refine l_aload_n dL_law_468 rfl ?_
  refine l_aload_n dL_law_469 rfl ?_
  refine l_iload_n dL_law_470 rfl ?_
  refine l_iconst (v := 1) dL_law_471 (by decide) ?_
  refine l_iadd dL_law_472 ?_
  rw [show nI i + 1 = nI (i + 1) from nI_add i 1]
  refine l_sld (j := i + 1) rfl (by omega) hL9 dL_law_473 ?_
  refine l_aload_n dL_law_474 rfl ?_
  refine l_iload_n dL_law_475 rfl ?_
  refine l_iconst (v := 2) dL_law_476 (by decide) ?_
  refine l_iadd dL_law_477 ?_
  rw [show nI i + 2 = nI (i + 2) from nI_add i 2]
  refine l_sld (j := i + 2) rfl (by omega) hL9 dL_law_478 ?_
  refine l_callV (I' := iX10_goingIs) lk_L_52 c_X10_goingIs dL_law_479 (m_X10_goingIs hR1) rfl rfl (by decide) (ae_87 _ _) rfl (by decide) (by decide) (Nat.le_of_ble_eq_true rfl) (fun v2 σ2 τ2 h2 => ?_)
  obtain ⟨rfl, rfl, hR2, hF2⟩ := h2
  have hC2 := CR_fr hC1 hF2
  refine l_icmp_eq (tgt := 1335) dL_law_482 (by decide) rfl ?_
  exact J hC2 hR2
set_option maxHeartbeats 4000000 in
theorem law_as {G : fGm} {b L i : Nat} {xs : Nat → Int32} {σ : fSt} {τ : fLt} {ρ : fSt} (hL9 : L < 2 ^ 31) (hi : i + 6 ≤ L) (hC : CR σ ρ) (hR : RR σ ρ) (J : ∀ {σ' : fSt} {τ' : fLt} {ρ' : fSt}, CR σ' ρ' → RR σ' ρ' → LW G b L xs σ' τ' 1335 [(3, .int (nI i)), (0, .ref 1030), (1, .ref 0), (2, .ref 87)] []) : LW G b L xs σ τ 487 [(3, .int (nI i)), (0, .ref 1030), (1, .ref 0), (2, .ref 87)] [] := by
  refine l_aload_n dL_law_487 rfl ?_
  refine l_aload_n dL_law_488 rfl ?_
  refine l_iload_n dL_law_489 rfl ?_
  refine l_iconst (v := 1) dL_law_490 (by decide) ?_
  refine l_iadd dL_law_491 ?_
  rw [show nI i + 1 = nI (i + 1) from nI_add i 1]
  refine l_sld (j := i + 1) rfl (by omega) hL9 dL_law_492 ?_
  refine l_aload_n dL_law_493 rfl ?_
  refine l_iload_n dL_law_494 rfl ?_
  refine l_iconst (v := 2) dL_law_495 (by decide) ?_
  refine l_iadd dL_law_496 ?_
  rw [show nI i + 2 = nI (i + 2) from nI_add i 2]
  refine l_sld (j := i + 2) rfl (by omega) hL9 dL_law_497 ?_
  refine l_callV (I' := iX9_as) lk_L_53 c_X9_as dL_law_498 (m_X9_as hC) rfl rfl (by decide) (ae_0 _ _) rfl (by decide) (by decide) (Nat.le_of_ble_eq_true rfl) (fun v1 σ1 τ1 h1 => ?_)
  obtain ⟨rfl, rfl, hC1, hF1⟩ := h1
  have hR1 := RR_fr hR hF1
  refine l_aload_n dL_law_501 rfl ?_
  refine l_aload_n dL_law_502 rfl ?_
  refine l_iload_n dL_law_503 rfl ?_
  refine l_iconst (v := 1) dL_law_504 (by decide) ?_
  refine l_iadd dL_law_505 ?_
  rw [show nI i + 1 = nI (i + 1) from nI_add i 1]
  refine l_sld (j := i + 1) rfl (by omega) hL9 dL_law_506 ?_
  refine l_aload_n dL_law_507 rfl ?_
  refine l_iload_n dL_law_508 rfl ?_
  refine l_iconst (v := 2) dL_law_509 (by decide) ?_
  refine l_iadd dL_law_510 ?_
  rw [show nI i + 2 = nI (i + 2) from nI_add i 2]
  refine l_sld (j := i + 2) rfl (by omega) hL9 dL_law_511 ?_
  refine l_callV (I' := iX10_as) lk_L_56 c_X10_as dL_law_512 (m_X10_as hR1) rfl rfl (by decide) (ae_87 _ _) rfl (by decide) (by decide) (Nat.le_of_ble_eq_true rfl) (fun v2 σ2 τ2 h2 => ?_)
  obtain ⟨rfl, rfl, hR2, hF2⟩ := h2
  have hC2 := CR_fr hC1 hF2
  refine l_icmp_eq (tgt := 1335) dL_law_515 (by decide) rfl ?_
  exact J hC2 hR2
set_option maxHeartbeats 4000000 in
theorem law_setGoing {G : fGm} {b L i : Nat} {xs : Nat → Int32} {σ : fSt} {τ : fLt} {ρ : fSt} (hL9 : L < 2 ^ 31) (hi : i + 6 ≤ L) (hC : CR σ ρ) (hR : RR σ ρ) (J : ∀ {σ' : fSt} {τ' : fLt} {ρ' : fSt}, CR σ' ρ' → RR σ' ρ' → LW G b L xs σ' τ' 1335 [(3, .int (nI i)), (0, .ref 1030), (1, .ref 0), (2, .ref 87)] []) : LW G b L xs σ τ 520 [(3, .int (nI i)), (0, .ref 1030), (1, .ref 0), (2, .ref 87)] [] := by
  refine l_aload_n dL_law_520 rfl ?_
  refine l_aload_n dL_law_521 rfl ?_
  refine l_iload_n dL_law_522 rfl ?_
  refine l_iconst (v := 1) dL_law_523 (by decide) ?_
  refine l_iadd dL_law_524 ?_
  rw [show nI i + 1 = nI (i + 1) from nI_add i 1]
  refine l_sld (j := i + 1) rfl (by omega) hL9 dL_law_525 ?_
  refine l_aload_n dL_law_526 rfl ?_
  refine l_iload_n dL_law_527 rfl ?_
  refine l_iconst (v := 2) dL_law_528 (by decide) ?_
  refine l_iadd dL_law_529 ?_
  rw [show nI i + 2 = nI (i + 2) from nI_add i 2]
  refine l_sld (j := i + 2) rfl (by omega) hL9 dL_law_530 ?_
  refine l_aload_n dL_law_531 rfl ?_
  refine l_iload_n dL_law_532 rfl ?_
  refine l_iconst (v := 3) dL_law_533 (by decide) ?_
  refine l_iadd dL_law_534 ?_
  rw [show nI i + 3 = nI (i + 3) from nI_add i 3]
  refine l_sld (j := i + 3) rfl (by omega) hL9 dL_law_535 ?_
  refine l_callV (I' := iX9_setGoing) lk_L_57 c_X9_setGoing dL_law_536 (m_X9_setGoing hC) rfl rfl (by decide) (ae_0 _ _) rfl (by decide) (by decide) (Nat.le_of_ble_eq_true rfl) (fun v1 σ1 τ1 h1 => ?_)
  obtain ⟨rfl, rfl, hC1, hF1⟩ := h1
  have hR1 := RR_fr hR hF1
  refine l_aload_n dL_law_539 rfl ?_
  refine l_aload_n dL_law_540 rfl ?_
  refine l_iload_n dL_law_541 rfl ?_
  refine l_iconst (v := 1) dL_law_542 (by decide) ?_
  refine l_iadd dL_law_543 ?_
  rw [show nI i + 1 = nI (i + 1) from nI_add i 1]
  refine l_sld (j := i + 1) rfl (by omega) hL9 dL_law_544 ?_
  refine l_aload_n dL_law_545 rfl ?_
  refine l_iload_n dL_law_546 rfl ?_
  refine l_iconst (v := 2) dL_law_547 (by decide) ?_
  refine l_iadd dL_law_548 ?_
  rw [show nI i + 2 = nI (i + 2) from nI_add i 2]
  refine l_sld (j := i + 2) rfl (by omega) hL9 dL_law_549 ?_
  refine l_aload_n dL_law_550 rfl ?_
  refine l_iload_n dL_law_551 rfl ?_
  refine l_iconst (v := 3) dL_law_552 (by decide) ?_
  refine l_iadd dL_law_553 ?_
  rw [show nI i + 3 = nI (i + 3) from nI_add i 3]
  refine l_sld (j := i + 3) rfl (by omega) hL9 dL_law_554 ?_
  refine l_callV (I' := iX10_setGoing) lk_L_60 c_X10_setGoing dL_law_555 (m_X10_setGoing hR1) rfl rfl (by decide) (ae_87 _ _) rfl (by decide) (by decide) (Nat.le_of_ble_eq_true rfl) (fun v2 σ2 τ2 h2 => ?_)
  obtain ⟨rfl, rfl, hR2, hF2⟩ := h2
  have hC2 := CR_fr hC1 hF2
  refine l_icmp_eq (tgt := 1335) dL_law_558 (by decide) rfl ?_
  exact J hC2 hR2
set_option maxHeartbeats 4000000 in
theorem law_feed {G : fGm} {b L i : Nat} {xs : Nat → Int32} {σ : fSt} {τ : fLt} {ρ : fSt} (hL9 : L < 2 ^ 31) (hi : i + 6 ≤ L) (hC : CR σ ρ) (hR : RR σ ρ) (J : ∀ {σ' : fSt} {τ' : fLt} {ρ' : fSt}, CR σ' ρ' → RR σ' ρ' → LW G b L xs σ' τ' 1335 [(3, .int (nI i)), (0, .ref 1030), (1, .ref 0), (2, .ref 87)] []) : LW G b L xs σ τ 563 [(3, .int (nI i)), (0, .ref 1030), (1, .ref 0), (2, .ref 87)] [] := by
  refine l_aload_n dL_law_563 rfl ?_
  refine l_aload_n dL_law_564 rfl ?_
  refine l_iload_n dL_law_565 rfl ?_
  refine l_iconst (v := 1) dL_law_566 (by decide) ?_
  refine l_iadd dL_law_567 ?_
  rw [show nI i + 1 = nI (i + 1) from nI_add i 1]
  refine l_sld (j := i + 1) rfl (by omega) hL9 dL_law_568 ?_
  refine l_i2l dL_law_569 ?_
  refine l_bipush (v := 32) dL_law_570 (by decide) ?_
  refine l_lshl dL_law_572 ?_
  refine l_aload_n dL_law_573 rfl ?_
  refine l_iload_n dL_law_574 rfl ?_
  refine l_iconst (v := 2) dL_law_575 (by decide) ?_
  refine l_iadd dL_law_576 ?_
  rw [show nI i + 2 = nI (i + 2) from nI_add i 2]
  refine l_sld (j := i + 2) rfl (by omega) hL9 dL_law_577 ?_
  refine l_i2l dL_law_578 ?_
  refine l_ldc2 k_L_61 dL_law_579 ?_
  refine l_land dL_law_582 ?_
  refine l_lor dL_law_583 ?_
  refine l_aload_n dL_law_584 rfl ?_
  refine l_iload_n dL_law_585 rfl ?_
  refine l_iconst (v := 3) dL_law_586 (by decide) ?_
  refine l_iadd dL_law_587 ?_
  rw [show nI i + 3 = nI (i + 3) from nI_add i 3]
  refine l_sld (j := i + 3) rfl (by omega) hL9 dL_law_588 ?_
  refine l_callV (I' := iX9_feed) lk_L_63 c_X9_feed dL_law_589 (m_X9_feed hC) rfl rfl (by decide) (ae_0 _ _) rfl (by decide) (by decide) (Nat.le_of_ble_eq_true rfl) (fun v1 σ1 τ1 h1 => ?_)
  obtain ⟨rfl, rfl, hC1, hF1⟩ := h1
  have hR1 := RR_fr hR hF1
  refine l_aload_n dL_law_592 rfl ?_
  refine l_aload_n dL_law_593 rfl ?_
  refine l_iload_n dL_law_594 rfl ?_
  refine l_iconst (v := 1) dL_law_595 (by decide) ?_
  refine l_iadd dL_law_596 ?_
  rw [show nI i + 1 = nI (i + 1) from nI_add i 1]
  refine l_sld (j := i + 1) rfl (by omega) hL9 dL_law_597 ?_
  refine l_i2l dL_law_598 ?_
  refine l_bipush (v := 32) dL_law_599 (by decide) ?_
  refine l_lshl dL_law_601 ?_
  refine l_aload_n dL_law_602 rfl ?_
  refine l_iload_n dL_law_603 rfl ?_
  refine l_iconst (v := 2) dL_law_604 (by decide) ?_
  refine l_iadd dL_law_605 ?_
  rw [show nI i + 2 = nI (i + 2) from nI_add i 2]
  refine l_sld (j := i + 2) rfl (by omega) hL9 dL_law_606 ?_
  refine l_i2l dL_law_607 ?_
  refine l_ldc2 k_L_61 dL_law_608 ?_
  refine l_land dL_law_611 ?_
  refine l_lor dL_law_612 ?_
  refine l_aload_n dL_law_613 rfl ?_
  refine l_iload_n dL_law_614 rfl ?_
  refine l_iconst (v := 3) dL_law_615 (by decide) ?_
  refine l_iadd dL_law_616 ?_
  rw [show nI i + 3 = nI (i + 3) from nI_add i 3]
  refine l_sld (j := i + 3) rfl (by omega) hL9 dL_law_617 ?_
  refine l_callV (I' := iX10_feed) lk_L_67 c_X10_feed dL_law_618 (m_X10_feed hR1) rfl rfl (by decide) (ae_87 _ _) rfl (by decide) (by decide) (Nat.le_of_ble_eq_true rfl) (fun v2 σ2 τ2 h2 => ?_)
  obtain ⟨rfl, rfl, hR2, hF2⟩ := h2
  have hC2 := CR_fr hC1 hF2
  refine l_icmp_eq (tgt := 1335) dL_law_621 (by decide) rfl ?_
  exact J hC2 hR2
set_option maxHeartbeats 4000000 in
theorem law_text {G : fGm} {b L i : Nat} {xs : Nat → Int32} {σ : fSt} {τ : fLt} {ρ : fSt} (hL9 : L < 2 ^ 31) (hi : i + 6 ≤ L) (hC : CR σ ρ) (hR : RR σ ρ) (J : ∀ {σ' : fSt} {τ' : fLt} {ρ' : fSt}, CR σ' ρ' → RR σ' ρ' → LW G b L xs σ' τ' 1335 [(3, .int (nI i)), (0, .ref 1030), (1, .ref 0), (2, .ref 87)] []) : LW G b L xs σ τ 626 [(3, .int (nI i)), (0, .ref 1030), (1, .ref 0), (2, .ref 87)] [] := by
  refine l_aload_n dL_law_626 rfl ?_
  refine l_aload_n dL_law_627 rfl ?_
  refine l_iload_n dL_law_628 rfl ?_
  refine l_iconst (v := 1) dL_law_629 (by decide) ?_
  refine l_iadd dL_law_630 ?_
  rw [show nI i + 1 = nI (i + 1) from nI_add i 1]
  refine l_sld (j := i + 1) rfl (by omega) hL9 dL_law_631 ?_
  refine l_callV (I' := iX9_text) lk_L_68 c_X9_text dL_law_632 (m_X9_text hC) rfl rfl (by decide) (ae_0 _ _) rfl (by decide) (by decide) (Nat.le_of_ble_eq_true rfl) (fun v1 σ1 τ1 h1 => ?_)
  obtain ⟨rfl, rfl, hC1, hF1⟩ := h1
  have hR1 := RR_fr hR hF1
  refine l_aload_n dL_law_635 rfl ?_
  refine l_aload_n dL_law_636 rfl ?_
  refine l_iload_n dL_law_637 rfl ?_
  refine l_iconst (v := 1) dL_law_638 (by decide) ?_
  refine l_iadd dL_law_639 ?_
  rw [show nI i + 1 = nI (i + 1) from nI_add i 1]
  refine l_sld (j := i + 1) rfl (by omega) hL9 dL_law_640 ?_
  refine l_callV (I' := iX10_text) lk_L_71 c_X10_text dL_law_641 (m_X10_text hR1) rfl rfl (by decide) (ae_87 _ _) rfl (by decide) (by decide) (Nat.le_of_ble_eq_true rfl) (fun v2 σ2 τ2 h2 => ?_)
  obtain ⟨rfl, rfl, hR2, hF2⟩ := h2
  have hC2 := CR_fr hC1 hF2
  refine l_icmp_eq (tgt := 1335) dL_law_644 (by decide) rfl ?_
  exact J hC2 hR2
set_option maxHeartbeats 4000000 in
theorem law_untell {G : fGm} {b L i : Nat} {xs : Nat → Int32} {σ : fSt} {τ : fLt} {ρ : fSt} (hL9 : L < 2 ^ 31) (hi : i + 6 ≤ L) (hC : CR σ ρ) (hR : RR σ ρ) (J : ∀ {σ' : fSt} {τ' : fLt} {ρ' : fSt}, CR σ' ρ' → RR σ' ρ' → LW G b L xs σ' τ' 1335 [(3, .int (nI i)), (0, .ref 1030), (1, .ref 0), (2, .ref 87)] []) : LW G b L xs σ τ 649 [(3, .int (nI i)), (0, .ref 1030), (1, .ref 0), (2, .ref 87)] [] := by
  refine l_aload_n dL_law_649 rfl ?_
  refine l_aload_n dL_law_650 rfl ?_
  refine l_iload_n dL_law_651 rfl ?_
  refine l_iconst (v := 1) dL_law_652 (by decide) ?_
  refine l_iadd dL_law_653 ?_
  rw [show nI i + 1 = nI (i + 1) from nI_add i 1]
  refine l_sld (j := i + 1) rfl (by omega) hL9 dL_law_654 ?_
  refine l_callV (I' := iX9_untell) lk_L_72 c_X9_untell dL_law_655 (m_X9_untell hC) rfl rfl (by decide) (ae_0 _ _) rfl (by decide) (by decide) (Nat.le_of_ble_eq_true rfl) (fun v1 σ1 τ1 h1 => ?_)
  obtain ⟨rfl, rfl, hC1, hF1⟩ := h1
  have hR1 := RR_fr hR hF1
  refine l_aload_n dL_law_658 rfl ?_
  refine l_aload_n dL_law_659 rfl ?_
  refine l_iload_n dL_law_660 rfl ?_
  refine l_iconst (v := 1) dL_law_661 (by decide) ?_
  refine l_iadd dL_law_662 ?_
  rw [show nI i + 1 = nI (i + 1) from nI_add i 1]
  refine l_sld (j := i + 1) rfl (by omega) hL9 dL_law_663 ?_
  refine l_callV (I' := iX10_untell) lk_L_75 c_X10_untell dL_law_664 (m_X10_untell hR1) rfl rfl (by decide) (ae_87 _ _) rfl (by decide) (by decide) (Nat.le_of_ble_eq_true rfl) (fun v2 σ2 τ2 h2 => ?_)
  obtain ⟨rfl, rfl, hR2, hF2⟩ := h2
  have hC2 := CR_fr hC1 hF2
  refine l_icmp_eq (tgt := 1335) dL_law_667 (by decide) rfl ?_
  exact J hC2 hR2
set_option maxHeartbeats 4000000 in
theorem law_tenths {G : fGm} {b L i : Nat} {xs : Nat → Int32} {σ : fSt} {τ : fLt} {ρ : fSt} (hL9 : L < 2 ^ 31) (hi : i + 6 ≤ L) (hC : CR σ ρ) (hR : RR σ ρ) (J : ∀ {σ' : fSt} {τ' : fLt} {ρ' : fSt}, CR σ' ρ' → RR σ' ρ' → LW G b L xs σ' τ' 1335 [(3, .int (nI i)), (0, .ref 1030), (1, .ref 0), (2, .ref 87)] []) : LW G b L xs σ τ 672 [(3, .int (nI i)), (0, .ref 1030), (1, .ref 0), (2, .ref 87)] [] := by
  refine l_aload_n dL_law_672 rfl ?_
  refine l_aload_n dL_law_673 rfl ?_
  refine l_iload_n dL_law_674 rfl ?_
  refine l_iconst (v := 1) dL_law_675 (by decide) ?_
  refine l_iadd dL_law_676 ?_
  rw [show nI i + 1 = nI (i + 1) from nI_add i 1]
  refine l_sld (j := i + 1) rfl (by omega) hL9 dL_law_677 ?_
  refine l_callV (I' := iX9_tenths) lk_L_76 c_X9_tenths dL_law_678 (m_X9_tenths hC) rfl rfl (by decide) (ae_0 _ _) rfl (by decide) (by decide) (Nat.le_of_ble_eq_true rfl) (fun v1 σ1 τ1 h1 => ?_)
  obtain ⟨rfl, rfl, hC1, hF1⟩ := h1
  have hR1 := RR_fr hR hF1
  refine l_aload_n dL_law_681 rfl ?_
  refine l_aload_n dL_law_682 rfl ?_
  refine l_iload_n dL_law_683 rfl ?_
  refine l_iconst (v := 1) dL_law_684 (by decide) ?_
  refine l_iadd dL_law_685 ?_
  rw [show nI i + 1 = nI (i + 1) from nI_add i 1]
  refine l_sld (j := i + 1) rfl (by omega) hL9 dL_law_686 ?_
  refine l_callV (I' := iX10_tenths) lk_L_79 c_X10_tenths dL_law_687 (m_X10_tenths hR1) rfl rfl (by decide) (ae_87 _ _) rfl (by decide) (by decide) (Nat.le_of_ble_eq_true rfl) (fun v2 σ2 τ2 h2 => ?_)
  obtain ⟨rfl, rfl, hR2, hF2⟩ := h2
  have hC2 := CR_fr hC1 hF2
  refine l_icmp_eq (tgt := 1335) dL_law_690 (by decide) rfl ?_
  exact J hC2 hR2
set_option maxHeartbeats 4000000 in
theorem law_days {G : fGm} {b L i : Nat} {xs : Nat → Int32} {σ : fSt} {τ : fLt} {ρ : fSt} (hL9 : L < 2 ^ 31) (hi : i + 6 ≤ L) (hC : CR σ ρ) (hR : RR σ ρ) (J : ∀ {σ' : fSt} {τ' : fLt} {ρ' : fSt}, CR σ' ρ' → RR σ' ρ' → LW G b L xs σ' τ' 1335 [(3, .int (nI i)), (0, .ref 1030), (1, .ref 0), (2, .ref 87)] []) : LW G b L xs σ τ 695 [(3, .int (nI i)), (0, .ref 1030), (1, .ref 0), (2, .ref 87)] [] := by
  refine l_aload_n dL_law_695 rfl ?_
  refine l_aload_n dL_law_696 rfl ?_
  refine l_iload_n dL_law_697 rfl ?_
  refine l_iconst (v := 1) dL_law_698 (by decide) ?_
  refine l_iadd dL_law_699 ?_
  rw [show nI i + 1 = nI (i + 1) from nI_add i 1]
  refine l_sld (j := i + 1) rfl (by omega) hL9 dL_law_700 ?_
  refine l_callV (I' := iX9_days) lk_L_80 c_X9_days dL_law_701 (m_X9_days hC) rfl rfl (by decide) (ae_0 _ _) rfl (by decide) (by decide) (Nat.le_of_ble_eq_true rfl) (fun v1 σ1 τ1 h1 => ?_)
  obtain ⟨rfl, rfl, hC1, hF1⟩ := h1
  have hR1 := RR_fr hR hF1
  refine l_aload_n dL_law_704 rfl ?_
  refine l_aload_n dL_law_705 rfl ?_
  refine l_iload_n dL_law_706 rfl ?_
  refine l_iconst (v := 1) dL_law_707 (by decide) ?_
  refine l_iadd dL_law_708 ?_
  rw [show nI i + 1 = nI (i + 1) from nI_add i 1]
  refine l_sld (j := i + 1) rfl (by omega) hL9 dL_law_709 ?_
  refine l_callV (I' := iX10_days) lk_L_83 c_X10_days dL_law_710 (m_X10_days hR1) rfl rfl (by decide) (ae_87 _ _) rfl (by decide) (by decide) (Nat.le_of_ble_eq_true rfl) (fun v2 σ2 τ2 h2 => ?_)
  obtain ⟨rfl, rfl, hR2, hF2⟩ := h2
  have hC2 := CR_fr hC1 hF2
  refine l_icmp_eq (tgt := 1335) dL_law_713 (by decide) rfl ?_
  exact J hC2 hR2
set_option maxHeartbeats 4000000 in
theorem law_seed {G : fGm} {b L i : Nat} {xs : Nat → Int32} {σ : fSt} {τ : fLt} {ρ : fSt} (hL9 : L < 2 ^ 31) (hi : i + 6 ≤ L) (hC : CR σ ρ) (hR : RR σ ρ) (J : ∀ {σ' : fSt} {τ' : fLt} {ρ' : fSt}, CR σ' ρ' → RR σ' ρ' → LW G b L xs σ' τ' 1335 [(3, .int (nI i)), (0, .ref 1030), (1, .ref 0), (2, .ref 87)] []) : LW G b L xs σ τ 718 [(3, .int (nI i)), (0, .ref 1030), (1, .ref 0), (2, .ref 87)] [] := by
  refine l_aload_n dL_law_718 rfl ?_
  refine l_aload_n dL_law_719 rfl ?_
  refine l_iload_n dL_law_720 rfl ?_
  refine l_iconst (v := 1) dL_law_721 (by decide) ?_
  refine l_iadd dL_law_722 ?_
  rw [show nI i + 1 = nI (i + 1) from nI_add i 1]
  refine l_sld (j := i + 1) rfl (by omega) hL9 dL_law_723 ?_
  refine l_callV (I' := iX9_seed) lk_L_84 c_X9_seed dL_law_724 (m_X9_seed hC) rfl rfl (by decide) (ae_0 _ _) rfl (by decide) (by decide) (Nat.le_of_ble_eq_true rfl) (fun v1 σ1 τ1 h1 => ?_)
  obtain ⟨rfl, rfl, hC1, hF1⟩ := h1
  have hR1 := RR_fr hR hF1
  refine l_aload_n dL_law_727 rfl ?_
  refine l_aload_n dL_law_728 rfl ?_
  refine l_iload_n dL_law_729 rfl ?_
  refine l_iconst (v := 1) dL_law_730 (by decide) ?_
  refine l_iadd dL_law_731 ?_
  rw [show nI i + 1 = nI (i + 1) from nI_add i 1]
  refine l_sld (j := i + 1) rfl (by omega) hL9 dL_law_732 ?_
  refine l_callV (I' := iX10_seed) lk_L_87 c_X10_seed dL_law_733 (m_X10_seed hR1) rfl rfl (by decide) (ae_87 _ _) rfl (by decide) (by decide) (Nat.le_of_ble_eq_true rfl) (fun v2 σ2 τ2 h2 => ?_)
  obtain ⟨rfl, rfl, hR2, hF2⟩ := h2
  have hC2 := CR_fr hC1 hF2
  refine l_icmp_eq (tgt := 1335) dL_law_736 (by decide) rfl ?_
  exact J hC2 hR2
set_option maxHeartbeats 4000000 in
theorem law_then {G : fGm} {b L i : Nat} {xs : Nat → Int32} {σ : fSt} {τ : fLt} {ρ : fSt} (hL9 : L < 2 ^ 31) (hi : i + 6 ≤ L) (hC : CR σ ρ) (hR : RR σ ρ) (J : ∀ {σ' : fSt} {τ' : fLt} {ρ' : fSt}, CR σ' ρ' → RR σ' ρ' → LW G b L xs σ' τ' 1335 [(3, .int (nI i)), (0, .ref 1030), (1, .ref 0), (2, .ref 87)] []) : LW G b L xs σ τ 741 [(3, .int (nI i)), (0, .ref 1030), (1, .ref 0), (2, .ref 87)] [] := by
  refine l_aload_n dL_law_741 rfl ?_
  refine l_aload_n dL_law_742 rfl ?_
  refine l_iload_n dL_law_743 rfl ?_
  refine l_iconst (v := 1) dL_law_744 (by decide) ?_
  refine l_iadd dL_law_745 ?_
  rw [show nI i + 1 = nI (i + 1) from nI_add i 1]
  refine l_sld (j := i + 1) rfl (by omega) hL9 dL_law_746 ?_
  refine l_aload_n dL_law_747 rfl ?_
  refine l_iload_n dL_law_748 rfl ?_
  refine l_iconst (v := 2) dL_law_749 (by decide) ?_
  refine l_iadd dL_law_750 ?_
  rw [show nI i + 2 = nI (i + 2) from nI_add i 2]
  refine l_sld (j := i + 2) rfl (by omega) hL9 dL_law_751 ?_
  refine l_callV (I' := iX9_then) lk_L_88 c_X9_then dL_law_752 (m_X9_then hC) rfl rfl (by decide) (ae_0 _ _) rfl (by decide) (by decide) (Nat.le_of_ble_eq_true rfl) (fun v1 σ1 τ1 h1 => ?_)
  obtain ⟨rfl, rfl, hC1, hF1⟩ := h1
  have hR1 := RR_fr hR hF1
  refine l_aload_n dL_law_755 rfl ?_
  refine l_aload_n dL_law_756 rfl ?_
  refine l_iload_n dL_law_757 rfl ?_
  refine l_iconst (v := 1) dL_law_758 (by decide) ?_
  refine l_iadd dL_law_759 ?_
  rw [show nI i + 1 = nI (i + 1) from nI_add i 1]
  refine l_sld (j := i + 1) rfl (by omega) hL9 dL_law_760 ?_
  refine l_aload_n dL_law_761 rfl ?_
  refine l_iload_n dL_law_762 rfl ?_
  refine l_iconst (v := 2) dL_law_763 (by decide) ?_
  refine l_iadd dL_law_764 ?_
  rw [show nI i + 2 = nI (i + 2) from nI_add i 2]
  refine l_sld (j := i + 2) rfl (by omega) hL9 dL_law_765 ?_
  refine l_callV (I' := iX10_then) lk_L_91 c_X10_then dL_law_766 (m_X10_then hR1) rfl rfl (by decide) (ae_87 _ _) rfl (by decide) (by decide) (Nat.le_of_ble_eq_true rfl) (fun v2 σ2 τ2 h2 => ?_)
  obtain ⟨rfl, rfl, hR2, hF2⟩ := h2
  have hC2 := CR_fr hC1 hF2
  refine l_icmp_eq (tgt := 1335) dL_law_769 (by decide) rfl ?_
  exact J hC2 hR2
set_option maxHeartbeats 4000000 in
theorem law_ways {G : fGm} {b L i : Nat} {xs : Nat → Int32} {σ : fSt} {τ : fLt} {ρ : fSt} (hL9 : L < 2 ^ 31) (hi : i + 6 ≤ L) (hC : CR σ ρ) (hR : RR σ ρ) (J : ∀ {σ' : fSt} {τ' : fLt} {ρ' : fSt}, CR σ' ρ' → RR σ' ρ' → LW G b L xs σ' τ' 1335 [(3, .int (nI i)), (0, .ref 1030), (1, .ref 0), (2, .ref 87)] []) : LW G b L xs σ τ 774 [(3, .int (nI i)), (0, .ref 1030), (1, .ref 0), (2, .ref 87)] [] := by
  refine l_aload_n dL_law_774 rfl ?_
  refine l_aload_n dL_law_775 rfl ?_
  refine l_iload_n dL_law_776 rfl ?_
  refine l_iconst (v := 1) dL_law_777 (by decide) ?_
  refine l_iadd dL_law_778 ?_
  rw [show nI i + 1 = nI (i + 1) from nI_add i 1]
  refine l_sld (j := i + 1) rfl (by omega) hL9 dL_law_779 ?_
  refine l_aload_n dL_law_780 rfl ?_
  refine l_iload_n dL_law_781 rfl ?_
  refine l_iconst (v := 2) dL_law_782 (by decide) ?_
  refine l_iadd dL_law_783 ?_
  rw [show nI i + 2 = nI (i + 2) from nI_add i 2]
  refine l_sld (j := i + 2) rfl (by omega) hL9 dL_law_784 ?_
  refine l_callV (I' := iX9_ways) lk_L_92 c_X9_ways dL_law_785 (m_X9_ways hC) rfl rfl (by decide) (ae_0 _ _) rfl (by decide) (by decide) (Nat.le_of_ble_eq_true rfl) (fun v1 σ1 τ1 h1 => ?_)
  obtain ⟨rfl, hC1, hF1⟩ := h1
  have hR1 := RR_fr hR hF1
  refine l_aload_n dL_law_788 rfl ?_
  refine l_aload_n dL_law_789 rfl ?_
  refine l_iload_n dL_law_790 rfl ?_
  refine l_iconst (v := 1) dL_law_791 (by decide) ?_
  refine l_iadd dL_law_792 ?_
  rw [show nI i + 1 = nI (i + 1) from nI_add i 1]
  refine l_sld (j := i + 1) rfl (by omega) hL9 dL_law_793 ?_
  refine l_aload_n dL_law_794 rfl ?_
  refine l_iload_n dL_law_795 rfl ?_
  refine l_iconst (v := 2) dL_law_796 (by decide) ?_
  refine l_iadd dL_law_797 ?_
  rw [show nI i + 2 = nI (i + 2) from nI_add i 2]
  refine l_sld (j := i + 2) rfl (by omega) hL9 dL_law_798 ?_
  refine l_callV (I' := iX10_ways) lk_L_96 c_X10_ways dL_law_799 (m_X10_ways hR1) rfl rfl (by decide) (ae_87 _ _) rfl (by decide) (by decide) (Nat.le_of_ble_eq_true rfl) (fun v2 σ2 τ2 h2 => ?_)
  obtain ⟨rfl, hR2, hF2⟩ := h2
  have hC2 := CR_fr hC1 hF2
  refine l_lcmp dL_law_802 ?_
  refine l_if_eq (tgt := 1335) dL_law_803 (by decide) (cmp_z.mpr rfl) ?_
  exact J hC2 hR2
set_option maxHeartbeats 4000000 in
theorem law_way {G : fGm} {b L i : Nat} {xs : Nat → Int32} {σ : fSt} {τ : fLt} {ρ : fSt} (hL9 : L < 2 ^ 31) (hi : i + 6 ≤ L) (hC : CR σ ρ) (hR : RR σ ρ) (J : ∀ {σ' : fSt} {τ' : fLt} {ρ' : fSt}, CR σ' ρ' → RR σ' ρ' → LW G b L xs σ' τ' 1335 [(3, .int (nI i)), (0, .ref 1030), (1, .ref 0), (2, .ref 87)] []) : LW G b L xs σ τ 808 [(3, .int (nI i)), (0, .ref 1030), (1, .ref 0), (2, .ref 87)] [] := by
  refine l_aload_n dL_law_808 rfl ?_
  refine l_aload_n dL_law_809 rfl ?_
  refine l_iload_n dL_law_810 rfl ?_
  refine l_iconst (v := 1) dL_law_811 (by decide) ?_
  refine l_iadd dL_law_812 ?_
  rw [show nI i + 1 = nI (i + 1) from nI_add i 1]
  refine l_sld (j := i + 1) rfl (by omega) hL9 dL_law_813 ?_
  refine l_aload_n dL_law_814 rfl ?_
  refine l_iload_n dL_law_815 rfl ?_
  refine l_iconst (v := 2) dL_law_816 (by decide) ?_
  refine l_iadd dL_law_817 ?_
  rw [show nI i + 2 = nI (i + 2) from nI_add i 2]
  refine l_sld (j := i + 2) rfl (by omega) hL9 dL_law_818 ?_
  refine l_callV (I' := iX9_way) lk_L_97 c_X9_way dL_law_819 (m_X9_way hC) rfl rfl (by decide) (ae_0 _ _) rfl (by decide) (by decide) (Nat.le_of_ble_eq_true rfl) (fun v1 σ1 τ1 h1 => ?_)
  obtain ⟨rfl, rfl, hC1, hF1⟩ := h1
  have hR1 := RR_fr hR hF1
  refine l_aload_n dL_law_822 rfl ?_
  refine l_aload_n dL_law_823 rfl ?_
  refine l_iload_n dL_law_824 rfl ?_
  refine l_iconst (v := 1) dL_law_825 (by decide) ?_
  refine l_iadd dL_law_826 ?_
  rw [show nI i + 1 = nI (i + 1) from nI_add i 1]
  refine l_sld (j := i + 1) rfl (by omega) hL9 dL_law_827 ?_
  refine l_aload_n dL_law_828 rfl ?_
  refine l_iload_n dL_law_829 rfl ?_
  refine l_iconst (v := 2) dL_law_830 (by decide) ?_
  refine l_iadd dL_law_831 ?_
  rw [show nI i + 2 = nI (i + 2) from nI_add i 2]
  refine l_sld (j := i + 2) rfl (by omega) hL9 dL_law_832 ?_
  refine l_callV (I' := iX10_way) lk_L_100 c_X10_way dL_law_833 (m_X10_way hR1) rfl rfl (by decide) (ae_87 _ _) rfl (by decide) (by decide) (Nat.le_of_ble_eq_true rfl) (fun v2 σ2 τ2 h2 => ?_)
  obtain ⟨rfl, rfl, hR2, hF2⟩ := h2
  have hC2 := CR_fr hC1 hF2
  refine l_icmp_eq (tgt := 1335) dL_law_836 (by decide) rfl ?_
  exact J hC2 hR2
set_option maxHeartbeats 4000000 in
theorem law_gaps {G : fGm} {b L i : Nat} {xs : Nat → Int32} {σ : fSt} {τ : fLt} {ρ : fSt} (hL9 : L < 2 ^ 31) (hi : i + 6 ≤ L) (hC : CR σ ρ) (hR : RR σ ρ) (J : ∀ {σ' : fSt} {τ' : fLt} {ρ' : fSt}, CR σ' ρ' → RR σ' ρ' → LW G b L xs σ' τ' 1335 [(3, .int (nI i)), (0, .ref 1030), (1, .ref 0), (2, .ref 87)] []) : LW G b L xs σ τ 841 [(3, .int (nI i)), (0, .ref 1030), (1, .ref 0), (2, .ref 87)] [] := by
  refine l_aload_n dL_law_841 rfl ?_
  refine l_aload_n dL_law_842 rfl ?_
  refine l_iload_n dL_law_843 rfl ?_
  refine l_iconst (v := 1) dL_law_844 (by decide) ?_
  refine l_iadd dL_law_845 ?_
  rw [show nI i + 1 = nI (i + 1) from nI_add i 1]
  refine l_sld (j := i + 1) rfl (by omega) hL9 dL_law_846 ?_
  refine l_callV (I' := iX9_gaps) lk_L_101 c_X9_gaps dL_law_847 (m_X9_gaps hC) rfl rfl (by decide) (ae_0 _ _) rfl (by decide) (by decide) (Nat.le_of_ble_eq_true rfl) (fun v1 σ1 τ1 h1 => ?_)
  obtain ⟨rfl, rfl, hC1, hF1⟩ := h1
  have hR1 := RR_fr hR hF1
  refine l_aload_n dL_law_850 rfl ?_
  refine l_aload_n dL_law_851 rfl ?_
  refine l_iload_n dL_law_852 rfl ?_
  refine l_iconst (v := 1) dL_law_853 (by decide) ?_
  refine l_iadd dL_law_854 ?_
  rw [show nI i + 1 = nI (i + 1) from nI_add i 1]
  refine l_sld (j := i + 1) rfl (by omega) hL9 dL_law_855 ?_
  refine l_callV (I' := iX10_gaps) lk_L_104 c_X10_gaps dL_law_856 (m_X10_gaps hR1) rfl rfl (by decide) (ae_87 _ _) rfl (by decide) (by decide) (Nat.le_of_ble_eq_true rfl) (fun v2 σ2 τ2 h2 => ?_)
  obtain ⟨rfl, rfl, hR2, hF2⟩ := h2
  have hC2 := CR_fr hC1 hF2
  refine l_icmp_eq (tgt := 1335) dL_law_859 (by decide) rfl ?_
  exact J hC2 hR2
set_option maxHeartbeats 4000000 in
theorem law_pad {G : fGm} {b L i : Nat} {xs : Nat → Int32} {σ : fSt} {τ : fLt} {ρ : fSt} (hL9 : L < 2 ^ 31) (hi : i + 6 ≤ L) (hC : CR σ ρ) (hR : RR σ ρ) (J : ∀ {σ' : fSt} {τ' : fLt} {ρ' : fSt}, CR σ' ρ' → RR σ' ρ' → LW G b L xs σ' τ' 1335 [(3, .int (nI i)), (0, .ref 1030), (1, .ref 0), (2, .ref 87)] []) : LW G b L xs σ τ 864 [(3, .int (nI i)), (0, .ref 1030), (1, .ref 0), (2, .ref 87)] [] := by
  refine l_aload_n dL_law_864 rfl ?_
  refine l_aload_n dL_law_865 rfl ?_
  refine l_iload_n dL_law_866 rfl ?_
  refine l_iconst (v := 1) dL_law_867 (by decide) ?_
  refine l_iadd dL_law_868 ?_
  rw [show nI i + 1 = nI (i + 1) from nI_add i 1]
  refine l_sld (j := i + 1) rfl (by omega) hL9 dL_law_869 ?_
  refine l_callV (I' := iX9_pad) lk_L_105 c_X9_pad dL_law_870 (m_X9_pad hC) rfl rfl (by decide) (ae_0 _ _) rfl (by decide) (by decide) (Nat.le_of_ble_eq_true rfl) (fun v1 σ1 τ1 h1 => ?_)
  obtain ⟨rfl, rfl, hC1, hF1⟩ := h1
  have hR1 := RR_fr hR hF1
  refine l_aload_n dL_law_873 rfl ?_
  refine l_aload_n dL_law_874 rfl ?_
  refine l_iload_n dL_law_875 rfl ?_
  refine l_iconst (v := 1) dL_law_876 (by decide) ?_
  refine l_iadd dL_law_877 ?_
  rw [show nI i + 1 = nI (i + 1) from nI_add i 1]
  refine l_sld (j := i + 1) rfl (by omega) hL9 dL_law_878 ?_
  refine l_callV (I' := iX10_pad) lk_L_108 c_X10_pad dL_law_879 (m_X10_pad hR1) rfl rfl (by decide) (ae_87 _ _) rfl (by decide) (by decide) (Nat.le_of_ble_eq_true rfl) (fun v2 σ2 τ2 h2 => ?_)
  obtain ⟨rfl, rfl, hR2, hF2⟩ := h2
  have hC2 := CR_fr hC1 hF2
  refine l_icmp_eq (tgt := 1335) dL_law_882 (by decide) rfl ?_
  exact J hC2 hR2
set_option maxHeartbeats 4000000 in
theorem law_stand {G : fGm} {b L i : Nat} {xs : Nat → Int32} {σ : fSt} {τ : fLt} {ρ : fSt} (hL9 : L < 2 ^ 31) (hi : i + 6 ≤ L) (hC : CR σ ρ) (hR : RR σ ρ) (J : ∀ {σ' : fSt} {τ' : fLt} {ρ' : fSt}, CR σ' ρ' → RR σ' ρ' → LW G b L xs σ' τ' 1335 [(3, .int (nI i)), (0, .ref 1030), (1, .ref 0), (2, .ref 87)] []) : LW G b L xs σ τ 887 [(3, .int (nI i)), (0, .ref 1030), (1, .ref 0), (2, .ref 87)] [] := by
  refine l_aload_n dL_law_887 rfl ?_
  refine l_aload_n dL_law_888 rfl ?_
  refine l_iload_n dL_law_889 rfl ?_
  refine l_iconst (v := 1) dL_law_890 (by decide) ?_
  refine l_iadd dL_law_891 ?_
  rw [show nI i + 1 = nI (i + 1) from nI_add i 1]
  refine l_sld (j := i + 1) rfl (by omega) hL9 dL_law_892 ?_
  refine l_aload_n dL_law_893 rfl ?_
  refine l_iload_n dL_law_894 rfl ?_
  refine l_iconst (v := 2) dL_law_895 (by decide) ?_
  refine l_iadd dL_law_896 ?_
  rw [show nI i + 2 = nI (i + 2) from nI_add i 2]
  refine l_sld (j := i + 2) rfl (by omega) hL9 dL_law_897 ?_
  refine l_callV (I' := iX9_stand) lk_L_109 c_X9_stand dL_law_898 (m_X9_stand hC) rfl rfl (by decide) (ae_0 _ _) rfl (by decide) (by decide) (Nat.le_of_ble_eq_true rfl) (fun v1 σ1 τ1 h1 => ?_)
  obtain ⟨rfl, rfl, hC1, hF1⟩ := h1
  have hR1 := RR_fr hR hF1
  refine l_aload_n dL_law_901 rfl ?_
  refine l_aload_n dL_law_902 rfl ?_
  refine l_iload_n dL_law_903 rfl ?_
  refine l_iconst (v := 1) dL_law_904 (by decide) ?_
  refine l_iadd dL_law_905 ?_
  rw [show nI i + 1 = nI (i + 1) from nI_add i 1]
  refine l_sld (j := i + 1) rfl (by omega) hL9 dL_law_906 ?_
  refine l_aload_n dL_law_907 rfl ?_
  refine l_iload_n dL_law_908 rfl ?_
  refine l_iconst (v := 2) dL_law_909 (by decide) ?_
  refine l_iadd dL_law_910 ?_
  rw [show nI i + 2 = nI (i + 2) from nI_add i 2]
  refine l_sld (j := i + 2) rfl (by omega) hL9 dL_law_911 ?_
  refine l_callV (I' := iX10_stand) lk_L_112 c_X10_stand dL_law_912 (m_X10_stand hR1) rfl rfl (by decide) (ae_87 _ _) rfl (by decide) (by decide) (Nat.le_of_ble_eq_true rfl) (fun v2 σ2 τ2 h2 => ?_)
  obtain ⟨rfl, rfl, hR2, hF2⟩ := h2
  have hC2 := CR_fr hC1 hF2
  refine l_icmp_eq (tgt := 1335) dL_law_915 (by decide) rfl ?_
  exact J hC2 hR2
set_option maxHeartbeats 4000000 in
theorem law_go {G : fGm} {b L i : Nat} {xs : Nat → Int32} {σ : fSt} {τ : fLt} {ρ : fSt} (hL9 : L < 2 ^ 31) (hi : i + 6 ≤ L) (hC : CR σ ρ) (hR : RR σ ρ) (J : ∀ {σ' : fSt} {τ' : fLt} {ρ' : fSt}, CR σ' ρ' → RR σ' ρ' → LW G b L xs σ' τ' 1335 [(3, .int (nI i)), (0, .ref 1030), (1, .ref 0), (2, .ref 87)] []) : LW G b L xs σ τ 920 [(3, .int (nI i)), (0, .ref 1030), (1, .ref 0), (2, .ref 87)] [] := by
  refine l_aload_n dL_law_920 rfl ?_
  refine l_aload_n dL_law_921 rfl ?_
  refine l_iload_n dL_law_922 rfl ?_
  refine l_iconst (v := 1) dL_law_923 (by decide) ?_
  refine l_iadd dL_law_924 ?_
  rw [show nI i + 1 = nI (i + 1) from nI_add i 1]
  refine l_sld (j := i + 1) rfl (by omega) hL9 dL_law_925 ?_
  refine l_callV (I' := iX9_go) lk_L_113 c_X9_go dL_law_926 (m_X9_go hC) rfl rfl (by decide) (ae_0 _ _) rfl (by decide) (by decide) (Nat.le_of_ble_eq_true rfl) (fun v1 σ1 τ1 h1 => ?_)
  obtain ⟨rfl, rfl, hC1, hF1⟩ := h1
  have hR1 := RR_fr hR hF1
  refine l_aload_n dL_law_929 rfl ?_
  refine l_aload_n dL_law_930 rfl ?_
  refine l_iload_n dL_law_931 rfl ?_
  refine l_iconst (v := 1) dL_law_932 (by decide) ?_
  refine l_iadd dL_law_933 ?_
  rw [show nI i + 1 = nI (i + 1) from nI_add i 1]
  refine l_sld (j := i + 1) rfl (by omega) hL9 dL_law_934 ?_
  refine l_callV (I' := iX10_go) lk_L_116 c_X10_go dL_law_935 (m_X10_go hR1) rfl rfl (by decide) (ae_87 _ _) rfl (by decide) (by decide) (Nat.le_of_ble_eq_true rfl) (fun v2 σ2 τ2 h2 => ?_)
  obtain ⟨rfl, rfl, hR2, hF2⟩ := h2
  have hC2 := CR_fr hC1 hF2
  refine l_icmp_eq (tgt := 1335) dL_law_938 (by decide) rfl ?_
  exact J hC2 hR2
set_option maxHeartbeats 4000000 in
theorem law_voice {G : fGm} {b L i : Nat} {xs : Nat → Int32} {σ : fSt} {τ : fLt} {ρ : fSt} (hL9 : L < 2 ^ 31) (hi : i + 6 ≤ L) (hC : CR σ ρ) (hR : RR σ ρ) (J : ∀ {σ' : fSt} {τ' : fLt} {ρ' : fSt}, CR σ' ρ' → RR σ' ρ' → LW G b L xs σ' τ' 1335 [(3, .int (nI i)), (0, .ref 1030), (1, .ref 0), (2, .ref 87)] []) : LW G b L xs σ τ 943 [(3, .int (nI i)), (0, .ref 1030), (1, .ref 0), (2, .ref 87)] [] := by
  refine l_aload_n dL_law_943 rfl ?_
  refine l_aload_n dL_law_944 rfl ?_
  refine l_iload_n dL_law_945 rfl ?_
  refine l_iconst (v := 1) dL_law_946 (by decide) ?_
  refine l_iadd dL_law_947 ?_
  rw [show nI i + 1 = nI (i + 1) from nI_add i 1]
  refine l_sld (j := i + 1) rfl (by omega) hL9 dL_law_948 ?_
  refine l_aload_n dL_law_949 rfl ?_
  refine l_iload_n dL_law_950 rfl ?_
  refine l_iconst (v := 2) dL_law_951 (by decide) ?_
  refine l_iadd dL_law_952 ?_
  rw [show nI i + 2 = nI (i + 2) from nI_add i 2]
  refine l_sld (j := i + 2) rfl (by omega) hL9 dL_law_953 ?_
  refine l_aload_n dL_law_954 rfl ?_
  refine l_iload_n dL_law_955 rfl ?_
  refine l_iconst (v := 3) dL_law_956 (by decide) ?_
  refine l_iadd dL_law_957 ?_
  rw [show nI i + 3 = nI (i + 3) from nI_add i 3]
  refine l_sld (j := i + 3) rfl (by omega) hL9 dL_law_958 ?_
  refine l_callV (I' := iX9_voice) lk_L_117 c_X9_voice dL_law_959 (m_X9_voice hC) rfl rfl (by decide) (ae_0 _ _) rfl (by decide) (by decide) (Nat.le_of_ble_eq_true rfl) (fun v1 σ1 τ1 h1 => ?_)
  obtain ⟨rfl, rfl, hC1, hF1⟩ := h1
  have hR1 := RR_fr hR hF1
  refine l_aload_n dL_law_962 rfl ?_
  refine l_aload_n dL_law_963 rfl ?_
  refine l_iload_n dL_law_964 rfl ?_
  refine l_iconst (v := 1) dL_law_965 (by decide) ?_
  refine l_iadd dL_law_966 ?_
  rw [show nI i + 1 = nI (i + 1) from nI_add i 1]
  refine l_sld (j := i + 1) rfl (by omega) hL9 dL_law_967 ?_
  refine l_aload_n dL_law_968 rfl ?_
  refine l_iload_n dL_law_969 rfl ?_
  refine l_iconst (v := 2) dL_law_970 (by decide) ?_
  refine l_iadd dL_law_971 ?_
  rw [show nI i + 2 = nI (i + 2) from nI_add i 2]
  refine l_sld (j := i + 2) rfl (by omega) hL9 dL_law_972 ?_
  refine l_aload_n dL_law_973 rfl ?_
  refine l_iload_n dL_law_974 rfl ?_
  refine l_iconst (v := 3) dL_law_975 (by decide) ?_
  refine l_iadd dL_law_976 ?_
  rw [show nI i + 3 = nI (i + 3) from nI_add i 3]
  refine l_sld (j := i + 3) rfl (by omega) hL9 dL_law_977 ?_
  refine l_callV (I' := iX10_voice) lk_L_120 c_X10_voice dL_law_978 (m_X10_voice hR1) rfl rfl (by decide) (ae_87 _ _) rfl (by decide) (by decide) (Nat.le_of_ble_eq_true rfl) (fun v2 σ2 τ2 h2 => ?_)
  obtain ⟨rfl, rfl, hR2, hF2⟩ := h2
  have hC2 := CR_fr hC1 hF2
  refine l_icmp_eq (tgt := 1335) dL_law_981 (by decide) rfl ?_
  exact J hC2 hR2
set_option maxHeartbeats 4000000 in
theorem law_body {G : fGm} {b L i : Nat} {xs : Nat → Int32} {σ : fSt} {τ : fLt} {ρ : fSt} (hL9 : L < 2 ^ 31) (hi : i + 6 ≤ L) (hC : CR σ ρ) (hR : RR σ ρ) (J : ∀ {σ' : fSt} {τ' : fLt} {ρ' : fSt}, CR σ' ρ' → RR σ' ρ' → LW G b L xs σ' τ' 1335 [(3, .int (nI i)), (0, .ref 1030), (1, .ref 0), (2, .ref 87)] []) : LW G b L xs σ τ 986 [(3, .int (nI i)), (0, .ref 1030), (1, .ref 0), (2, .ref 87)] [] := by
  refine l_aload_n dL_law_986 rfl ?_
  refine l_aload_n dL_law_987 rfl ?_
  refine l_iload_n dL_law_988 rfl ?_
  refine l_iconst (v := 1) dL_law_989 (by decide) ?_
  refine l_iadd dL_law_990 ?_
  rw [show nI i + 1 = nI (i + 1) from nI_add i 1]
  refine l_sld (j := i + 1) rfl (by omega) hL9 dL_law_991 ?_
  refine l_callV (I' := iX9_body) lk_L_121 c_X9_body dL_law_992 (m_X9_body hC) rfl rfl (by decide) (ae_0 _ _) rfl (by decide) (by decide) (Nat.le_of_ble_eq_true rfl) (fun v1 σ1 τ1 h1 => ?_)
  obtain ⟨rfl, rfl, hC1, hF1⟩ := h1
  have hR1 := RR_fr hR hF1
  refine l_aload_n dL_law_995 rfl ?_
  refine l_aload_n dL_law_996 rfl ?_
  refine l_iload_n dL_law_997 rfl ?_
  refine l_iconst (v := 1) dL_law_998 (by decide) ?_
  refine l_iadd dL_law_999 ?_
  rw [show nI i + 1 = nI (i + 1) from nI_add i 1]
  refine l_sld (j := i + 1) rfl (by omega) hL9 dL_law_1000 ?_
  refine l_callV (I' := iX10_body_) lk_L_124 c_X10_body_ dL_law_1001 (m_X10_body_ hR1) rfl rfl (by decide) (ae_87 _ _) rfl (by decide) (by decide) (Nat.le_of_ble_eq_true rfl) (fun v2 σ2 τ2 h2 => ?_)
  obtain ⟨rfl, rfl, hR2, hF2⟩ := h2
  have hC2 := CR_fr hC1 hF2
  refine l_icmp_eq (tgt := 1335) dL_law_1004 (by decide) rfl ?_
  exact J hC2 hR2
set_option maxHeartbeats 4000000 in
theorem law_sheet {G : fGm} {b L i : Nat} {xs : Nat → Int32} {σ : fSt} {τ : fLt} {ρ : fSt} (hL9 : L < 2 ^ 31) (hi : i + 6 ≤ L) (hC : CR σ ρ) (hR : RR σ ρ) (J : ∀ {σ' : fSt} {τ' : fLt} {ρ' : fSt}, CR σ' ρ' → RR σ' ρ' → LW G b L xs σ' τ' 1335 [(3, .int (nI i)), (0, .ref 1030), (1, .ref 0), (2, .ref 87)] []) : LW G b L xs σ τ 1009 [(3, .int (nI i)), (0, .ref 1030), (1, .ref 0), (2, .ref 87)] [] := by
  refine l_aload_n dL_law_1009 rfl ?_
  refine l_aload_n dL_law_1010 rfl ?_
  refine l_iload_n dL_law_1011 rfl ?_
  refine l_iconst (v := 1) dL_law_1012 (by decide) ?_
  refine l_iadd dL_law_1013 ?_
  rw [show nI i + 1 = nI (i + 1) from nI_add i 1]
  refine l_sld (j := i + 1) rfl (by omega) hL9 dL_law_1014 ?_
  refine l_aload_n dL_law_1015 rfl ?_
  refine l_iload_n dL_law_1016 rfl ?_
  refine l_iconst (v := 2) dL_law_1017 (by decide) ?_
  refine l_iadd dL_law_1018 ?_
  rw [show nI i + 2 = nI (i + 2) from nI_add i 2]
  refine l_sld (j := i + 2) rfl (by omega) hL9 dL_law_1019 ?_
  refine l_aload_n dL_law_1020 rfl ?_
  refine l_iload_n dL_law_1021 rfl ?_
  refine l_iconst (v := 3) dL_law_1022 (by decide) ?_
  refine l_iadd dL_law_1023 ?_
  rw [show nI i + 3 = nI (i + 3) from nI_add i 3]
  refine l_sld (j := i + 3) rfl (by omega) hL9 dL_law_1024 ?_
  refine l_callV (I' := iX9_sheet) lk_L_125 c_X9_sheet dL_law_1025 (m_X9_sheet hC) rfl rfl (by decide) (ae_0 _ _) rfl (by decide) (by decide) (Nat.le_of_ble_eq_true rfl) (fun v1 σ1 τ1 h1 => ?_)
  obtain ⟨rfl, rfl, hC1, hF1⟩ := h1
  have hR1 := RR_fr hR hF1
  refine l_aload_n dL_law_1028 rfl ?_
  refine l_aload_n dL_law_1029 rfl ?_
  refine l_iload_n dL_law_1030 rfl ?_
  refine l_iconst (v := 1) dL_law_1031 (by decide) ?_
  refine l_iadd dL_law_1032 ?_
  rw [show nI i + 1 = nI (i + 1) from nI_add i 1]
  refine l_sld (j := i + 1) rfl (by omega) hL9 dL_law_1033 ?_
  refine l_aload_n dL_law_1034 rfl ?_
  refine l_iload_n dL_law_1035 rfl ?_
  refine l_iconst (v := 2) dL_law_1036 (by decide) ?_
  refine l_iadd dL_law_1037 ?_
  rw [show nI i + 2 = nI (i + 2) from nI_add i 2]
  refine l_sld (j := i + 2) rfl (by omega) hL9 dL_law_1038 ?_
  refine l_aload_n dL_law_1039 rfl ?_
  refine l_iload_n dL_law_1040 rfl ?_
  refine l_iconst (v := 3) dL_law_1041 (by decide) ?_
  refine l_iadd dL_law_1042 ?_
  rw [show nI i + 3 = nI (i + 3) from nI_add i 3]
  refine l_sld (j := i + 3) rfl (by omega) hL9 dL_law_1043 ?_
  refine l_callV (I' := iX10_sheet) lk_L_128 c_X10_sheet dL_law_1044 (m_X10_sheet hR1) rfl rfl (by decide) (ae_87 _ _) rfl (by decide) (by decide) (Nat.le_of_ble_eq_true rfl) (fun v2 σ2 τ2 h2 => ?_)
  obtain ⟨rfl, rfl, hR2, hF2⟩ := h2
  have hC2 := CR_fr hC1 hF2
  refine l_icmp_eq (tgt := 1335) dL_law_1047 (by decide) rfl ?_
  exact J hC2 hR2
set_option maxHeartbeats 4000000 in
theorem law_put {G : fGm} {b L i : Nat} {xs : Nat → Int32} {σ : fSt} {τ : fLt} {ρ : fSt} (hL9 : L < 2 ^ 31) (hi : i + 6 ≤ L) (hC : CR σ ρ) (hR : RR σ ρ) (J : ∀ {σ' : fSt} {τ' : fLt} {ρ' : fSt}, CR σ' ρ' → RR σ' ρ' → LW G b L xs σ' τ' 1335 [(3, .int (nI i)), (0, .ref 1030), (1, .ref 0), (2, .ref 87)] []) : LW G b L xs σ τ 1052 [(3, .int (nI i)), (0, .ref 1030), (1, .ref 0), (2, .ref 87)] [] := by
  refine l_aload_n dL_law_1052 rfl ?_
  refine l_aload_n dL_law_1053 rfl ?_
  refine l_iload_n dL_law_1054 rfl ?_
  refine l_iconst (v := 1) dL_law_1055 (by decide) ?_
  refine l_iadd dL_law_1056 ?_
  rw [show nI i + 1 = nI (i + 1) from nI_add i 1]
  refine l_sld (j := i + 1) rfl (by omega) hL9 dL_law_1057 ?_
  refine l_aload_n dL_law_1058 rfl ?_
  refine l_iload_n dL_law_1059 rfl ?_
  refine l_iconst (v := 2) dL_law_1060 (by decide) ?_
  refine l_iadd dL_law_1061 ?_
  rw [show nI i + 2 = nI (i + 2) from nI_add i 2]
  refine l_sld (j := i + 2) rfl (by omega) hL9 dL_law_1062 ?_
  refine l_aload_n dL_law_1063 rfl ?_
  refine l_iload_n dL_law_1064 rfl ?_
  refine l_iconst (v := 3) dL_law_1065 (by decide) ?_
  refine l_iadd dL_law_1066 ?_
  rw [show nI i + 3 = nI (i + 3) from nI_add i 3]
  refine l_sld (j := i + 3) rfl (by omega) hL9 dL_law_1067 ?_
  refine l_callV (I' := iX9_put) lk_L_129 c_X9_put dL_law_1068 (m_X9_put hC) rfl rfl (by decide) (ae_0 _ _) rfl (by decide) (by decide) (Nat.le_of_ble_eq_true rfl) (fun v1 σ1 τ1 h1 => ?_)
  obtain ⟨rfl, rfl, hC1, hF1⟩ := h1
  have hR1 := RR_fr hR hF1
  refine l_aload_n dL_law_1071 rfl ?_
  refine l_aload_n dL_law_1072 rfl ?_
  refine l_iload_n dL_law_1073 rfl ?_
  refine l_iconst (v := 1) dL_law_1074 (by decide) ?_
  refine l_iadd dL_law_1075 ?_
  rw [show nI i + 1 = nI (i + 1) from nI_add i 1]
  refine l_sld (j := i + 1) rfl (by omega) hL9 dL_law_1076 ?_
  refine l_aload_n dL_law_1077 rfl ?_
  refine l_iload_n dL_law_1078 rfl ?_
  refine l_iconst (v := 2) dL_law_1079 (by decide) ?_
  refine l_iadd dL_law_1080 ?_
  rw [show nI i + 2 = nI (i + 2) from nI_add i 2]
  refine l_sld (j := i + 2) rfl (by omega) hL9 dL_law_1081 ?_
  refine l_aload_n dL_law_1082 rfl ?_
  refine l_iload_n dL_law_1083 rfl ?_
  refine l_iconst (v := 3) dL_law_1084 (by decide) ?_
  refine l_iadd dL_law_1085 ?_
  rw [show nI i + 3 = nI (i + 3) from nI_add i 3]
  refine l_sld (j := i + 3) rfl (by omega) hL9 dL_law_1086 ?_
  refine l_callV (I' := iX10_put) lk_L_132 c_X10_put dL_law_1087 (m_X10_put hR1) rfl rfl (by decide) (ae_87 _ _) rfl (by decide) (by decide) (Nat.le_of_ble_eq_true rfl) (fun v2 σ2 τ2 h2 => ?_)
  obtain ⟨rfl, rfl, hR2, hF2⟩ := h2
  have hC2 := CR_fr hC1 hF2
  refine l_icmp_eq (tgt := 1335) dL_law_1090 (by decide) rfl ?_
  exact J hC2 hR2
set_option maxHeartbeats 4000000 in
theorem law_move {G : fGm} {b L i : Nat} {xs : Nat → Int32} {σ : fSt} {τ : fLt} {ρ : fSt} (hL9 : L < 2 ^ 31) (hi : i + 6 ≤ L) (hC : CR σ ρ) (hR : RR σ ρ) (J : ∀ {σ' : fSt} {τ' : fLt} {ρ' : fSt}, CR σ' ρ' → RR σ' ρ' → LW G b L xs σ' τ' 1335 [(3, .int (nI i)), (0, .ref 1030), (1, .ref 0), (2, .ref 87)] []) : LW G b L xs σ τ 1095 [(3, .int (nI i)), (0, .ref 1030), (1, .ref 0), (2, .ref 87)] [] := by
  refine l_aload_n dL_law_1095 rfl ?_
  refine l_aload_n dL_law_1096 rfl ?_
  refine l_iload_n dL_law_1097 rfl ?_
  refine l_iconst (v := 1) dL_law_1098 (by decide) ?_
  refine l_iadd dL_law_1099 ?_
  rw [show nI i + 1 = nI (i + 1) from nI_add i 1]
  refine l_sld (j := i + 1) rfl (by omega) hL9 dL_law_1100 ?_
  refine l_aload_n dL_law_1101 rfl ?_
  refine l_iload_n dL_law_1102 rfl ?_
  refine l_iconst (v := 2) dL_law_1103 (by decide) ?_
  refine l_iadd dL_law_1104 ?_
  rw [show nI i + 2 = nI (i + 2) from nI_add i 2]
  refine l_sld (j := i + 2) rfl (by omega) hL9 dL_law_1105 ?_
  refine l_aload_n dL_law_1106 rfl ?_
  refine l_iload_n dL_law_1107 rfl ?_
  refine l_iconst (v := 3) dL_law_1108 (by decide) ?_
  refine l_iadd dL_law_1109 ?_
  rw [show nI i + 3 = nI (i + 3) from nI_add i 3]
  refine l_sld (j := i + 3) rfl (by omega) hL9 dL_law_1110 ?_
  refine l_aload_n dL_law_1111 rfl ?_
  refine l_iload_n dL_law_1112 rfl ?_
  refine l_iconst (v := 4) dL_law_1113 (by decide) ?_
  refine l_iadd dL_law_1114 ?_
  rw [show nI i + 4 = nI (i + 4) from nI_add i 4]
  refine l_sld (j := i + 4) rfl (by omega) hL9 dL_law_1115 ?_
  refine l_aload_n dL_law_1116 rfl ?_
  refine l_iload_n dL_law_1117 rfl ?_
  refine l_iconst (v := 5) dL_law_1118 (by decide) ?_
  refine l_iadd dL_law_1119 ?_
  rw [show nI i + 5 = nI (i + 5) from nI_add i 5]
  refine l_sld (j := i + 5) rfl (by omega) hL9 dL_law_1120 ?_
  refine l_callV (I' := iX9_move) lk_L_133 c_X9_move dL_law_1121 (m_X9_move hC) rfl rfl (by decide) (ae_0 _ _) rfl (by decide) (by decide) (Nat.le_of_ble_eq_true rfl) (fun v1 σ1 τ1 h1 => ?_)
  obtain ⟨rfl, rfl, hC1, hF1⟩ := h1
  have hR1 := RR_fr hR hF1
  refine l_aload_n dL_law_1124 rfl ?_
  refine l_aload_n dL_law_1125 rfl ?_
  refine l_iload_n dL_law_1126 rfl ?_
  refine l_iconst (v := 1) dL_law_1127 (by decide) ?_
  refine l_iadd dL_law_1128 ?_
  rw [show nI i + 1 = nI (i + 1) from nI_add i 1]
  refine l_sld (j := i + 1) rfl (by omega) hL9 dL_law_1129 ?_
  refine l_aload_n dL_law_1130 rfl ?_
  refine l_iload_n dL_law_1131 rfl ?_
  refine l_iconst (v := 2) dL_law_1132 (by decide) ?_
  refine l_iadd dL_law_1133 ?_
  rw [show nI i + 2 = nI (i + 2) from nI_add i 2]
  refine l_sld (j := i + 2) rfl (by omega) hL9 dL_law_1134 ?_
  refine l_aload_n dL_law_1135 rfl ?_
  refine l_iload_n dL_law_1136 rfl ?_
  refine l_iconst (v := 3) dL_law_1137 (by decide) ?_
  refine l_iadd dL_law_1138 ?_
  rw [show nI i + 3 = nI (i + 3) from nI_add i 3]
  refine l_sld (j := i + 3) rfl (by omega) hL9 dL_law_1139 ?_
  refine l_aload_n dL_law_1140 rfl ?_
  refine l_iload_n dL_law_1141 rfl ?_
  refine l_iconst (v := 4) dL_law_1142 (by decide) ?_
  refine l_iadd dL_law_1143 ?_
  rw [show nI i + 4 = nI (i + 4) from nI_add i 4]
  refine l_sld (j := i + 4) rfl (by omega) hL9 dL_law_1144 ?_
  refine l_aload_n dL_law_1145 rfl ?_
  refine l_iload_n dL_law_1146 rfl ?_
  refine l_iconst (v := 5) dL_law_1147 (by decide) ?_
  refine l_iadd dL_law_1148 ?_
  rw [show nI i + 5 = nI (i + 5) from nI_add i 5]
  refine l_sld (j := i + 5) rfl (by omega) hL9 dL_law_1149 ?_
  refine l_callV (I' := iX10_move) lk_L_137 c_X10_move dL_law_1150 (m_X10_move hR1) rfl rfl (by decide) (ae_87 _ _) rfl (by decide) (by decide) (Nat.le_of_ble_eq_true rfl) (fun v2 σ2 τ2 h2 => ?_)
  obtain ⟨rfl, rfl, hR2, hF2⟩ := h2
  have hC2 := CR_fr hC1 hF2
  refine l_icmp_eq (tgt := 1335) dL_law_1153 (by decide) rfl ?_
  exact J hC2 hR2
set_option maxHeartbeats 4000000 in
theorem law_holds {G : fGm} {b L i : Nat} {xs : Nat → Int32} {σ : fSt} {τ : fLt} {ρ : fSt} (hL9 : L < 2 ^ 31) (hi : i + 6 ≤ L) (hC : CR σ ρ) (hR : RR σ ρ) (J : ∀ {σ' : fSt} {τ' : fLt} {ρ' : fSt}, CR σ' ρ' → RR σ' ρ' → LW G b L xs σ' τ' 1335 [(3, .int (nI i)), (0, .ref 1030), (1, .ref 0), (2, .ref 87)] []) : LW G b L xs σ τ 1158 [(3, .int (nI i)), (0, .ref 1030), (1, .ref 0), (2, .ref 87)] [] := by
  refine l_aload_n dL_law_1158 rfl ?_
  refine l_aload_n dL_law_1159 rfl ?_
  refine l_iload_n dL_law_1160 rfl ?_
  refine l_iconst (v := 1) dL_law_1161 (by decide) ?_
  refine l_iadd dL_law_1162 ?_
  rw [show nI i + 1 = nI (i + 1) from nI_add i 1]
  refine l_sld (j := i + 1) rfl (by omega) hL9 dL_law_1163 ?_
  refine l_callV (I' := iX9_holds) lk_L_138 c_X9_holds dL_law_1164 (m_X9_holds hC) rfl rfl (by decide) (ae_0 _ _) rfl (by decide) (by decide) (Nat.le_of_ble_eq_true rfl) (fun v1 σ1 τ1 h1 => ?_)
  obtain ⟨rfl, rfl, hC1, hF1⟩ := h1
  have hR1 := RR_fr hR hF1
  refine l_aload_n dL_law_1167 rfl ?_
  refine l_aload_n dL_law_1168 rfl ?_
  refine l_iload_n dL_law_1169 rfl ?_
  refine l_iconst (v := 1) dL_law_1170 (by decide) ?_
  refine l_iadd dL_law_1171 ?_
  rw [show nI i + 1 = nI (i + 1) from nI_add i 1]
  refine l_sld (j := i + 1) rfl (by omega) hL9 dL_law_1172 ?_
  refine l_callV (I' := iX10_holds) lk_L_141 c_X10_holds dL_law_1173 (m_X10_holds hR1) rfl rfl (by decide) (ae_87 _ _) rfl (by decide) (by decide) (Nat.le_of_ble_eq_true rfl) (fun v2 σ2 τ2 h2 => ?_)
  obtain ⟨rfl, rfl, hR2, hF2⟩ := h2
  have hC2 := CR_fr hC1 hF2
  refine l_icmp_eq (tgt := 1335) dL_law_1176 (by decide) rfl ?_
  exact J hC2 hR2
set_option maxHeartbeats 4000000 in
theorem law_off {G : fGm} {b L i : Nat} {xs : Nat → Int32} {σ : fSt} {τ : fLt} {ρ : fSt} (hL9 : L < 2 ^ 31) (hi : i + 6 ≤ L) (hC : CR σ ρ) (hR : RR σ ρ) (J : ∀ {σ' : fSt} {τ' : fLt} {ρ' : fSt}, CR σ' ρ' → RR σ' ρ' → LW G b L xs σ' τ' 1335 [(3, .int (nI i)), (0, .ref 1030), (1, .ref 0), (2, .ref 87)] []) : LW G b L xs σ τ 1181 [(3, .int (nI i)), (0, .ref 1030), (1, .ref 0), (2, .ref 87)] [] := by
  refine l_aload_n dL_law_1181 rfl ?_
  refine l_aload_n dL_law_1182 rfl ?_
  refine l_iload_n dL_law_1183 rfl ?_
  refine l_iconst (v := 1) dL_law_1184 (by decide) ?_
  refine l_iadd dL_law_1185 ?_
  rw [show nI i + 1 = nI (i + 1) from nI_add i 1]
  refine l_sld (j := i + 1) rfl (by omega) hL9 dL_law_1186 ?_
  refine l_callV (I' := iX9_off) lk_L_142 c_X9_off dL_law_1187 (m_X9_off hC) rfl rfl (by decide) (ae_0 _ _) rfl (by decide) (by decide) (Nat.le_of_ble_eq_true rfl) (fun v1 σ1 τ1 h1 => ?_)
  obtain ⟨rfl, rfl, hC1, hF1⟩ := h1
  have hR1 := RR_fr hR hF1
  refine l_aload_n dL_law_1190 rfl ?_
  refine l_aload_n dL_law_1191 rfl ?_
  refine l_iload_n dL_law_1192 rfl ?_
  refine l_iconst (v := 1) dL_law_1193 (by decide) ?_
  refine l_iadd dL_law_1194 ?_
  rw [show nI i + 1 = nI (i + 1) from nI_add i 1]
  refine l_sld (j := i + 1) rfl (by omega) hL9 dL_law_1195 ?_
  refine l_callV (I' := iX10_off) lk_L_145 c_X10_off dL_law_1196 (m_X10_off hR1) rfl rfl (by decide) (ae_87 _ _) rfl (by decide) (by decide) (Nat.le_of_ble_eq_true rfl) (fun v2 σ2 τ2 h2 => ?_)
  obtain ⟨rfl, rfl, hR2, hF2⟩ := h2
  have hC2 := CR_fr hC1 hF2
  refine l_icmp_eq (tgt := 1335) dL_law_1199 (by decide) rfl ?_
  exact J hC2 hR2
set_option maxHeartbeats 4000000 in
theorem law_guess {G : fGm} {b L i : Nat} {xs : Nat → Int32} {σ : fSt} {τ : fLt} {ρ : fSt} (hL9 : L < 2 ^ 31) (hi : i + 6 ≤ L) (hC : CR σ ρ) (hR : RR σ ρ) (J : ∀ {σ' : fSt} {τ' : fLt} {ρ' : fSt}, CR σ' ρ' → RR σ' ρ' → LW G b L xs σ' τ' 1335 [(3, .int (nI i)), (0, .ref 1030), (1, .ref 0), (2, .ref 87)] []) : LW G b L xs σ τ 1204 [(3, .int (nI i)), (0, .ref 1030), (1, .ref 0), (2, .ref 87)] [] := by
  refine l_aload_n dL_law_1204 rfl ?_
  refine l_aload_n dL_law_1205 rfl ?_
  refine l_iload_n dL_law_1206 rfl ?_
  refine l_iconst (v := 1) dL_law_1207 (by decide) ?_
  refine l_iadd dL_law_1208 ?_
  rw [show nI i + 1 = nI (i + 1) from nI_add i 1]
  refine l_sld (j := i + 1) rfl (by omega) hL9 dL_law_1209 ?_
  refine l_callV (I' := iX9_guess) lk_L_146 c_X9_guess dL_law_1210 (m_X9_guess hC) rfl rfl (by decide) (ae_0 _ _) rfl (by decide) (by decide) (Nat.le_of_ble_eq_true rfl) (fun v1 σ1 τ1 h1 => ?_)
  obtain ⟨rfl, rfl, hC1, hF1⟩ := h1
  have hR1 := RR_fr hR hF1
  refine l_aload_n dL_law_1213 rfl ?_
  refine l_aload_n dL_law_1214 rfl ?_
  refine l_iload_n dL_law_1215 rfl ?_
  refine l_iconst (v := 1) dL_law_1216 (by decide) ?_
  refine l_iadd dL_law_1217 ?_
  rw [show nI i + 1 = nI (i + 1) from nI_add i 1]
  refine l_sld (j := i + 1) rfl (by omega) hL9 dL_law_1218 ?_
  refine l_callV (I' := iX10_guess) lk_L_149 c_X10_guess dL_law_1219 (m_X10_guess hR1) rfl rfl (by decide) (ae_87 _ _) rfl (by decide) (by decide) (Nat.le_of_ble_eq_true rfl) (fun v2 σ2 τ2 h2 => ?_)
  obtain ⟨rfl, rfl, hR2, hF2⟩ := h2
  have hC2 := CR_fr hC1 hF2
  refine l_icmp_eq (tgt := 1335) dL_law_1222 (by decide) rfl ?_
  exact J hC2 hR2
set_option maxHeartbeats 4000000 in
theorem law_image {G : fGm} {b L i : Nat} {xs : Nat → Int32} {σ : fSt} {τ : fLt} {ρ : fSt} (hL9 : L < 2 ^ 31) (hi : i + 6 ≤ L) (hC : CR σ ρ) (hR : RR σ ρ) (J : ∀ {σ' : fSt} {τ' : fLt} {ρ' : fSt}, CR σ' ρ' → RR σ' ρ' → LW G b L xs σ' τ' 1335 [(3, .int (nI i)), (0, .ref 1030), (1, .ref 0), (2, .ref 87)] []) : LW G b L xs σ τ 1227 [(3, .int (nI i)), (0, .ref 1030), (1, .ref 0), (2, .ref 87)] [] := by
  refine l_aload_n dL_law_1227 rfl ?_
  refine l_callV (I' := iX9_image) lk_L_150 c_X9_image dL_law_1228 (m_X9_image hC) rfl rfl (by decide) (ae_0 _ _) rfl (by decide) (by decide) (Nat.le_of_ble_eq_true rfl) (fun v1 σ1 τ1 h1 => ?_)
  obtain ⟨rfl, rfl, hC1, hF1⟩ := h1
  have hR1 := RR_fr hR hF1
  refine l_aload_n dL_law_1231 rfl ?_
  refine l_callV (I' := iX10_image) lk_L_153 c_X10_image dL_law_1232 (m_X10_image hR1) rfl rfl (by decide) (ae_87 _ _) rfl (by decide) (by decide) (Nat.le_of_ble_eq_true rfl) (fun v2 σ2 τ2 h2 => ?_)
  obtain ⟨rfl, rfl, hR2, hF2⟩ := h2
  have hC2 := CR_fr hC1 hF2
  refine l_icmp_eq (tgt := 1335) dL_law_1235 (by decide) rfl ?_
  exact J hC2 hR2
set_option maxHeartbeats 4000000 in
theorem law_restore {G : fGm} {b L i : Nat} {xs : Nat → Int32} {σ : fSt} {τ : fLt} {ρ : fSt} (hL9 : L < 2 ^ 31) (hi : i + 6 ≤ L) (hC : CR σ ρ) (hR : RR σ ρ) (J : ∀ {σ' : fSt} {τ' : fLt} {ρ' : fSt}, CR σ' ρ' → RR σ' ρ' → LW G b L xs σ' τ' 1335 [(3, .int (nI i)), (0, .ref 1030), (1, .ref 0), (2, .ref 87)] []) : LW G b L xs σ τ 1240 [(3, .int (nI i)), (0, .ref 1030), (1, .ref 0), (2, .ref 87)] [] := by
  refine l_aload_n dL_law_1240 rfl ?_
  refine l_callV (I' := iX9_restore) lk_L_154 c_X9_restore dL_law_1241 (m_X9_restore hC) rfl rfl (by decide) (ae_0 _ _) rfl (by decide) (by decide) (Nat.le_of_ble_eq_true rfl) (fun v1 σ1 τ1 h1 => ?_)
  obtain ⟨rfl, rfl, hC1, hF1⟩ := h1
  have hR1 := RR_fr hR hF1
  refine l_aload_n dL_law_1244 rfl ?_
  refine l_callV (I' := iX10_restore) lk_L_157 c_X10_restore dL_law_1245 (m_X10_restore hR1) rfl rfl (by decide) (ae_87 _ _) rfl (by decide) (by decide) (Nat.le_of_ble_eq_true rfl) (fun v2 σ2 τ2 h2 => ?_)
  obtain ⟨rfl, rfl, hR2, hF2⟩ := h2
  have hC2 := CR_fr hC1 hF2
  refine l_icmp_eq (tgt := 1335) dL_law_1248 (by decide) rfl ?_
  exact J hC2 hR2
set_option maxHeartbeats 4000000 in
theorem law_tell {G : fGm} {b L i : Nat} {xs : Nat → Int32} {σ : fSt} {τ : fLt} {ρ : fSt} (hL9 : L < 2 ^ 31) (hi : i + 6 ≤ L) (hC : CR σ ρ) (hR : RR σ ρ) (J : ∀ {σ' : fSt} {τ' : fLt} {ρ' : fSt}, CR σ' ρ' → RR σ' ρ' → LW G b L xs σ' τ' 1335 [(3, .int (nI i)), (0, .ref 1030), (1, .ref 0), (2, .ref 87)] []) : LW G b L xs σ τ 1253 [(3, .int (nI i)), (0, .ref 1030), (1, .ref 0), (2, .ref 87)] [] := by
  refine l_aload_n dL_law_1253 rfl ?_
  refine l_aload_n dL_law_1254 rfl ?_
  refine l_iload_n dL_law_1255 rfl ?_
  refine l_iconst (v := 1) dL_law_1256 (by decide) ?_
  refine l_iadd dL_law_1257 ?_
  rw [show nI i + 1 = nI (i + 1) from nI_add i 1]
  refine l_sld (j := i + 1) rfl (by omega) hL9 dL_law_1258 ?_
  refine l_callV (I' := iX9_tell) lk_L_158 c_X9_tell dL_law_1259 (m_X9_tell hC) rfl rfl (by decide) (ae_0 _ _) rfl (by decide) (by decide) (Nat.le_of_ble_eq_true rfl) (fun v1 σ1 τ1 h1 => ?_)
  obtain ⟨rfl, rfl, hC1, hF1⟩ := h1
  have hR1 := RR_fr hR hF1
  refine l_aload_n dL_law_1262 rfl ?_
  refine l_aload_n dL_law_1263 rfl ?_
  refine l_iload_n dL_law_1264 rfl ?_
  refine l_iconst (v := 1) dL_law_1265 (by decide) ?_
  refine l_iadd dL_law_1266 ?_
  rw [show nI i + 1 = nI (i + 1) from nI_add i 1]
  refine l_sld (j := i + 1) rfl (by omega) hL9 dL_law_1267 ?_
  refine l_callV (I' := iX10_tell) lk_L_161 c_X10_tell dL_law_1268 (m_X10_tell hR1) rfl rfl (by decide) (ae_87 _ _) rfl (by decide) (by decide) (Nat.le_of_ble_eq_true rfl) (fun v2 σ2 τ2 h2 => ?_)
  obtain ⟨rfl, rfl, hR2, hF2⟩ := h2
  have hC2 := CR_fr hC1 hF2
  refine l_icmp_eq (tgt := 1335) dL_law_1271 (by decide) rfl ?_
  exact J hC2 hR2
set_option maxHeartbeats 4000000 in
theorem law_check {G : fGm} {b L i : Nat} {xs : Nat → Int32} {σ : fSt} {τ : fLt} {ρ : fSt} (hL9 : L < 2 ^ 31) (hi : i + 6 ≤ L) (hC : CR σ ρ) (hR : RR σ ρ) (J : ∀ {σ' : fSt} {τ' : fLt} {ρ' : fSt}, CR σ' ρ' → RR σ' ρ' → LW G b L xs σ' τ' 1335 [(3, .int (nI i)), (0, .ref 1030), (1, .ref 0), (2, .ref 87)] []) : LW G b L xs σ τ 1276 [(3, .int (nI i)), (0, .ref 1030), (1, .ref 0), (2, .ref 87)] [] := by
  refine l_aload_n dL_law_1276 rfl ?_
  refine l_callV (I' := iX9_check) lk_L_162 c_X9_check dL_law_1277 (m_X9_check hC) rfl rfl (by decide) (ae_0 _ _) rfl (by decide) (by decide) (Nat.le_of_ble_eq_true rfl) (fun v1 σ1 τ1 h1 => ?_)
  obtain ⟨rfl, rfl, hC1, hF1⟩ := h1
  have hR1 := RR_fr hR hF1
  refine l_aload_n dL_law_1280 rfl ?_
  refine l_callV (I' := iX10_check) lk_L_165 c_X10_check dL_law_1281 (m_X10_check hR1) rfl rfl (by decide) (ae_87 _ _) rfl (by decide) (by decide) (Nat.le_of_ble_eq_true rfl) (fun v2 σ2 τ2 h2 => ?_)
  obtain ⟨rfl, rfl, hR2, hF2⟩ := h2
  have hC2 := CR_fr hC1 hF2
  refine l_icmp_eq (tgt := 1335) dL_law_1284 (by decide) rfl ?_
  exact J hC2 hR2
set_option maxHeartbeats 4000000 in
theorem law_count {G : fGm} {b L i : Nat} {xs : Nat → Int32} {σ : fSt} {τ : fLt} {ρ : fSt} (hL9 : L < 2 ^ 31) (hi : i + 6 ≤ L) (hC : CR σ ρ) (hR : RR σ ρ) (J : ∀ {σ' : fSt} {τ' : fLt} {ρ' : fSt}, CR σ' ρ' → RR σ' ρ' → LW G b L xs σ' τ' 1335 [(3, .int (nI i)), (0, .ref 1030), (1, .ref 0), (2, .ref 87)] []) : LW G b L xs σ τ 1289 [(3, .int (nI i)), (0, .ref 1030), (1, .ref 0), (2, .ref 87)] [] := by
  refine l_aload_n dL_law_1289 rfl ?_
  refine l_aload_n dL_law_1290 rfl ?_
  refine l_iload_n dL_law_1291 rfl ?_
  refine l_iconst (v := 1) dL_law_1292 (by decide) ?_
  refine l_iadd dL_law_1293 ?_
  rw [show nI i + 1 = nI (i + 1) from nI_add i 1]
  refine l_sld (j := i + 1) rfl (by omega) hL9 dL_law_1294 ?_
  refine l_callV (I' := iX9_count) lk_L_166 c_X9_count dL_law_1295 (m_X9_count hC) rfl rfl (by decide) (ae_0 _ _) rfl (by decide) (by decide) (Nat.le_of_ble_eq_true rfl) (fun v1 σ1 τ1 h1 => ?_)
  obtain ⟨rfl, rfl, hC1, hF1⟩ := h1
  have hR1 := RR_fr hR hF1
  refine l_aload_n dL_law_1298 rfl ?_
  refine l_aload_n dL_law_1299 rfl ?_
  refine l_iload_n dL_law_1300 rfl ?_
  refine l_iconst (v := 1) dL_law_1301 (by decide) ?_
  refine l_iadd dL_law_1302 ?_
  rw [show nI i + 1 = nI (i + 1) from nI_add i 1]
  refine l_sld (j := i + 1) rfl (by omega) hL9 dL_law_1303 ?_
  refine l_callV (I' := iX10_count) lk_L_169 c_X10_count dL_law_1304 (m_X10_count hR1) rfl rfl (by decide) (ae_87 _ _) rfl (by decide) (by decide) (Nat.le_of_ble_eq_true rfl) (fun v2 σ2 τ2 h2 => ?_)
  obtain ⟨rfl, rfl, hR2, hF2⟩ := h2
  have hC2 := CR_fr hC1 hF2
  refine l_icmp_eq (tgt := 1335) dL_law_1307 (by decide) rfl ?_
  exact J hC2 hR2
set_option maxHeartbeats 4000000 in
theorem law_told {G : fGm} {b L i : Nat} {xs : Nat → Int32} {σ : fSt} {τ : fLt} {ρ : fSt} (hL9 : L < 2 ^ 31) (hi : i + 6 ≤ L) (hC : CR σ ρ) (hR : RR σ ρ) (J : ∀ {σ' : fSt} {τ' : fLt} {ρ' : fSt}, CR σ' ρ' → RR σ' ρ' → LW G b L xs σ' τ' 1335 [(3, .int (nI i)), (0, .ref 1030), (1, .ref 0), (2, .ref 87)] []) : LW G b L xs σ τ 1312 [(3, .int (nI i)), (0, .ref 1030), (1, .ref 0), (2, .ref 87)] [] := by
  refine l_aload_n dL_law_1312 rfl ?_
  refine l_aload_n dL_law_1313 rfl ?_
  refine l_iload_n dL_law_1314 rfl ?_
  refine l_iconst (v := 1) dL_law_1315 (by decide) ?_
  refine l_iadd dL_law_1316 ?_
  rw [show nI i + 1 = nI (i + 1) from nI_add i 1]
  refine l_sld (j := i + 1) rfl (by omega) hL9 dL_law_1317 ?_
  refine l_callV (I' := iX9_told) lk_L_170 c_X9_told dL_law_1318 (m_X9_told hC) rfl rfl (by decide) (ae_0 _ _) rfl (by decide) (by decide) (Nat.le_of_ble_eq_true rfl) (fun v1 σ1 τ1 h1 => ?_)
  obtain ⟨rfl, rfl, hC1, hF1⟩ := h1
  have hR1 := RR_fr hR hF1
  refine l_aload_n dL_law_1321 rfl ?_
  refine l_aload_n dL_law_1322 rfl ?_
  refine l_iload_n dL_law_1323 rfl ?_
  refine l_iconst (v := 1) dL_law_1324 (by decide) ?_
  refine l_iadd dL_law_1325 ?_
  rw [show nI i + 1 = nI (i + 1) from nI_add i 1]
  refine l_sld (j := i + 1) rfl (by omega) hL9 dL_law_1326 ?_
  refine l_callV (I' := iX10_told) lk_L_173 c_X10_told dL_law_1327 (m_X10_told hR1) rfl rfl (by decide) (ae_87 _ _) rfl (by decide) (by decide) (Nat.le_of_ble_eq_true rfl) (fun v2 σ2 τ2 h2 => ?_)
  obtain ⟨rfl, rfl, hR2, hF2⟩ := h2
  have hC2 := CR_fr hC1 hF2
  refine l_icmp_eq (tgt := 1335) dL_law_1330 (by decide) rfl ?_
  exact J hC2 hR2
set_option maxRecDepth 100000 in
set_option maxHeartbeats 8000000 in
theorem law_loop {G : fGm} {b L : Nat} {xs : Nat → Int32} (hL : L ≤ 384) : ∀ (n i : Nat), L < i + n → i < 1000 → ∀ {σ : fSt} {τ : fLt} {ρ : fSt} {y : Int32}, CR σ ρ → RR σ ρ → y = nI i → LW G b L xs σ τ 18 [(3, .int y), (0, .ref 1030), (1, .ref 0), (2, .ref 87)] [] := by
  have hL9 : L < 2 ^ 31 := by omega
  intro n
  induction n with
  | zero =>
    intro i hin hi9 σ τ ρ y hC hR hy
    subst hy
    refine l_iload_n dL_law_18 rfl ?_
    refine l_aload_n dL_law_19 rfl ?_
    refine l_slen dL_law_20 ?_
    refine l_bipush (v := 6) dL_law_21 (by decide) ?_
    refine l_isub dL_law_23 ?_
    refine l_icmp_gt (tgt := 1341) dL_law_24 (by decide) (fun c => ?_) (fun c => ?_)
    · refine l_iconst (v := 1) dL_law_1341 (by decide) ?_
      exact l_end dL_law_1342
    · exact absurd ((law_le (by omega) hL).mp c) (by omega)
  | succ n ih =>
    intro i hin hi9 σ τ ρ y hC hR hy
    subst hy
    refine l_iload_n dL_law_18 rfl ?_
    refine l_aload_n dL_law_19 rfl ?_
    refine l_slen dL_law_20 ?_
    refine l_bipush (v := 6) dL_law_21 (by decide) ?_
    refine l_isub dL_law_23 ?_
    refine l_icmp_gt (tgt := 1341) dL_law_24 (by decide) (fun c => ?_) (fun c => ?_)
    · refine l_iconst (v := 1) dL_law_1341 (by decide) ?_
      exact l_end dL_law_1342
    · have hlt : i + 6 ≤ L := (law_le (by omega) hL).mp c
      have J : ∀ {σ' : fSt} {τ' : fLt} {ρ' : fSt}, CR σ' ρ' → RR σ' ρ' → LW G b L xs σ' τ' 1335 [(3, .int (nI i)), (0, .ref 1030), (1, .ref 0), (2, .ref 87)] [] := by
        intro σ' τ' ρ' hC' hR'
        refine l_iinc (ls1 := [(3, _), (0, _), (1, _), (2, _)]) dL_law_1335 rfl rfl (by decide) rfl ?_
        refine l_goto (tgt := 18) dL_law_1338 (by decide) ?_
        exact ih (i + 6) (by omega) (by omega) hC' hR' (nI_add i 6)
      refine l_aload_n dL_law_27 rfl ?_
      refine l_iload_n dL_law_28 rfl ?_
      refine l_sld (j := i) rfl (by omega) hL9 dL_law_29 ?_
      refine l_bipush (v := 63) dL_law_30 (by decide) ?_
      refine l_iand dL_law_32 ?_
      by_cases s0 : xs i &&& 63 = 0
      · refine l_tabIn (tgt := 200) (off := 167) (v := 0) dL_law_33 s0 (by decide) (by decide) (by decide) (by decide) ?_
        exact law_floor hL9 hlt hC hR J
      by_cases s1 : xs i &&& 63 = 1
      · refine l_tabIn (tgt := 243) (off := 210) (v := 1) dL_law_33 s1 (by decide) (by decide) (by decide) (by decide) ?_
        exact law_hold hL9 hlt hC hR J
      by_cases s2 : xs i &&& 63 = 2
      · refine l_tabIn (tgt := 276) (off := 243) (v := 2) dL_law_33 s2 (by decide) (by decide) (by decide) (by decide) ?_
        exact law_holdIs hL9 hlt hC hR J
      by_cases s3 : xs i &&& 63 = 3
      · refine l_tabIn (tgt := 309) (off := 276) (v := 3) dL_law_33 s3 (by decide) (by decide) (by decide) (by decide) ?_
        exact law_setHold hL9 hlt hC hR J
      by_cases s4 : xs i &&& 63 = 4
      · refine l_tabIn (tgt := 352) (off := 319) (v := 4) dL_law_33 s4 (by decide) (by decide) (by decide) (by decide) ?_
        exact law_set hL9 hlt hC hR J
      by_cases s5 : xs i &&& 63 = 5
      · refine l_tabIn (tgt := 385) (off := 352) (v := 5) dL_law_33 s5 (by decide) (by decide) (by decide) (by decide) ?_
        exact law_is hL9 hlt hC hR J
      by_cases s6 : xs i &&& 63 = 6
      · refine l_tabIn (tgt := 408) (off := 375) (v := 6) dL_law_33 s6 (by decide) (by decide) (by decide) (by decide) ?_
        exact law_nearest hL9 hlt hC hR J
      by_cases s7 : xs i &&& 63 = 7
      · refine l_tabIn (tgt := 421) (off := 388) (v := 7) dL_law_33 s7 (by decide) (by decide) (by decide) (by decide) ?_
        exact law_going hL9 hlt hC hR J
      by_cases s8 : xs i &&& 63 = 8
      · refine l_tabIn (tgt := 454) (off := 421) (v := 8) dL_law_33 s8 (by decide) (by decide) (by decide) (by decide) ?_
        exact law_goingIs hL9 hlt hC hR J
      by_cases s9 : xs i &&& 63 = 9
      · refine l_tabIn (tgt := 487) (off := 454) (v := 9) dL_law_33 s9 (by decide) (by decide) (by decide) (by decide) ?_
        exact law_as hL9 hlt hC hR J
      by_cases s10 : xs i &&& 63 = 10
      · refine l_tabIn (tgt := 520) (off := 487) (v := 10) dL_law_33 s10 (by decide) (by decide) (by decide) (by decide) ?_
        exact law_setGoing hL9 hlt hC hR J
      by_cases s11 : xs i &&& 63 = 11
      · refine l_tabIn (tgt := 563) (off := 530) (v := 11) dL_law_33 s11 (by decide) (by decide) (by decide) (by decide) ?_
        exact law_feed hL9 hlt hC hR J
      by_cases s12 : xs i &&& 63 = 12
      · refine l_tabIn (tgt := 626) (off := 593) (v := 12) dL_law_33 s12 (by decide) (by decide) (by decide) (by decide) ?_
        exact law_text hL9 hlt hC hR J
      by_cases s13 : xs i &&& 63 = 13
      · refine l_tabIn (tgt := 649) (off := 616) (v := 13) dL_law_33 s13 (by decide) (by decide) (by decide) (by decide) ?_
        exact law_untell hL9 hlt hC hR J
      by_cases s14 : xs i &&& 63 = 14
      · refine l_tabIn (tgt := 672) (off := 639) (v := 14) dL_law_33 s14 (by decide) (by decide) (by decide) (by decide) ?_
        exact law_tenths hL9 hlt hC hR J
      by_cases s15 : xs i &&& 63 = 15
      · refine l_tabIn (tgt := 695) (off := 662) (v := 15) dL_law_33 s15 (by decide) (by decide) (by decide) (by decide) ?_
        exact law_days hL9 hlt hC hR J
      by_cases s16 : xs i &&& 63 = 16
      · refine l_tabIn (tgt := 718) (off := 685) (v := 16) dL_law_33 s16 (by decide) (by decide) (by decide) (by decide) ?_
        exact law_seed hL9 hlt hC hR J
      by_cases s17 : xs i &&& 63 = 17
      · refine l_tabIn (tgt := 741) (off := 708) (v := 17) dL_law_33 s17 (by decide) (by decide) (by decide) (by decide) ?_
        exact law_then hL9 hlt hC hR J
      by_cases s18 : xs i &&& 63 = 18
      · refine l_tabIn (tgt := 774) (off := 741) (v := 18) dL_law_33 s18 (by decide) (by decide) (by decide) (by decide) ?_
        exact law_ways hL9 hlt hC hR J
      by_cases s19 : xs i &&& 63 = 19
      · refine l_tabIn (tgt := 808) (off := 775) (v := 19) dL_law_33 s19 (by decide) (by decide) (by decide) (by decide) ?_
        exact law_way hL9 hlt hC hR J
      by_cases s20 : xs i &&& 63 = 20
      · refine l_tabIn (tgt := 841) (off := 808) (v := 20) dL_law_33 s20 (by decide) (by decide) (by decide) (by decide) ?_
        exact law_gaps hL9 hlt hC hR J
      by_cases s21 : xs i &&& 63 = 21
      · refine l_tabIn (tgt := 864) (off := 831) (v := 21) dL_law_33 s21 (by decide) (by decide) (by decide) (by decide) ?_
        exact law_pad hL9 hlt hC hR J
      by_cases s22 : xs i &&& 63 = 22
      · refine l_tabIn (tgt := 887) (off := 854) (v := 22) dL_law_33 s22 (by decide) (by decide) (by decide) (by decide) ?_
        exact law_stand hL9 hlt hC hR J
      by_cases s23 : xs i &&& 63 = 23
      · refine l_tabIn (tgt := 920) (off := 887) (v := 23) dL_law_33 s23 (by decide) (by decide) (by decide) (by decide) ?_
        exact law_go hL9 hlt hC hR J
      by_cases s24 : xs i &&& 63 = 24
      · refine l_tabIn (tgt := 943) (off := 910) (v := 24) dL_law_33 s24 (by decide) (by decide) (by decide) (by decide) ?_
        exact law_voice hL9 hlt hC hR J
      by_cases s25 : xs i &&& 63 = 25
      · refine l_tabIn (tgt := 986) (off := 953) (v := 25) dL_law_33 s25 (by decide) (by decide) (by decide) (by decide) ?_
        exact law_body hL9 hlt hC hR J
      by_cases s26 : xs i &&& 63 = 26
      · refine l_tabIn (tgt := 1009) (off := 976) (v := 26) dL_law_33 s26 (by decide) (by decide) (by decide) (by decide) ?_
        exact law_sheet hL9 hlt hC hR J
      by_cases s27 : xs i &&& 63 = 27
      · refine l_tabIn (tgt := 1052) (off := 1019) (v := 27) dL_law_33 s27 (by decide) (by decide) (by decide) (by decide) ?_
        exact law_put hL9 hlt hC hR J
      by_cases s28 : xs i &&& 63 = 28
      · refine l_tabIn (tgt := 1095) (off := 1062) (v := 28) dL_law_33 s28 (by decide) (by decide) (by decide) (by decide) ?_
        exact law_move hL9 hlt hC hR J
      by_cases s29 : xs i &&& 63 = 29
      · refine l_tabIn (tgt := 1158) (off := 1125) (v := 29) dL_law_33 s29 (by decide) (by decide) (by decide) (by decide) ?_
        exact law_holds hL9 hlt hC hR J
      by_cases s30 : xs i &&& 63 = 30
      · refine l_tabIn (tgt := 1181) (off := 1148) (v := 30) dL_law_33 s30 (by decide) (by decide) (by decide) (by decide) ?_
        exact law_off hL9 hlt hC hR J
      by_cases s31 : xs i &&& 63 = 31
      · refine l_tabIn (tgt := 1204) (off := 1171) (v := 31) dL_law_33 s31 (by decide) (by decide) (by decide) (by decide) ?_
        exact law_guess hL9 hlt hC hR J
      by_cases s32 : xs i &&& 63 = 32
      · refine l_tabIn (tgt := 1227) (off := 1194) (v := 32) dL_law_33 s32 (by decide) (by decide) (by decide) (by decide) ?_
        exact law_image hL9 hlt hC hR J
      by_cases s33 : xs i &&& 63 = 33
      · refine l_tabIn (tgt := 1240) (off := 1207) (v := 33) dL_law_33 s33 (by decide) (by decide) (by decide) (by decide) ?_
        exact law_restore hL9 hlt hC hR J
      by_cases s34 : xs i &&& 63 = 34
      · refine l_tabIn (tgt := 1253) (off := 1220) (v := 34) dL_law_33 s34 (by decide) (by decide) (by decide) (by decide) ?_
        exact law_tell hL9 hlt hC hR J
      by_cases s35 : xs i &&& 63 = 35
      · refine l_tabIn (tgt := 1276) (off := 1243) (v := 35) dL_law_33 s35 (by decide) (by decide) (by decide) (by decide) ?_
        exact law_check hL9 hlt hC hR J
      by_cases s36 : xs i &&& 63 = 36
      · refine l_tabIn (tgt := 1289) (off := 1256) (v := 36) dL_law_33 s36 (by decide) (by decide) (by decide) (by decide) ?_
        exact law_count hL9 hlt hC hR J
      by_cases s37 : xs i &&& 63 = 37
      · refine l_tabIn (tgt := 1312) (off := 1279) (v := 37) dL_law_33 s37 (by decide) (by decide) (by decide) (by decide) ?_
        exact law_told hL9 hlt hC hR J
      refine l_tabOut (tgt := 1335) dL_law_33 (by decide) (Decidable.byContradiction fun h9 => ?_) (J hC hR)
      have h1 : ¬ (xs i &&& 63).toInt < 0 := fun h => h9 (Or.inl h)
      have h2 : ¬ 37 < (xs i &&& 63).toInt := fun h => h9 (Or.inr h)
      obtain ⟨j, hj, hjx⟩ := i32_rng (n := 38) h1 h2 (by decide)
      match j, hj with
      | 0, _ => exact absurd (hjx.trans (by decide)) s0
      | 1, _ => exact absurd (hjx.trans (by decide)) s1
      | 2, _ => exact absurd (hjx.trans (by decide)) s2
      | 3, _ => exact absurd (hjx.trans (by decide)) s3
      | 4, _ => exact absurd (hjx.trans (by decide)) s4
      | 5, _ => exact absurd (hjx.trans (by decide)) s5
      | 6, _ => exact absurd (hjx.trans (by decide)) s6
      | 7, _ => exact absurd (hjx.trans (by decide)) s7
      | 8, _ => exact absurd (hjx.trans (by decide)) s8
      | 9, _ => exact absurd (hjx.trans (by decide)) s9
      | 10, _ => exact absurd (hjx.trans (by decide)) s10
      | 11, _ => exact absurd (hjx.trans (by decide)) s11
      | 12, _ => exact absurd (hjx.trans (by decide)) s12
      | 13, _ => exact absurd (hjx.trans (by decide)) s13
      | 14, _ => exact absurd (hjx.trans (by decide)) s14
      | 15, _ => exact absurd (hjx.trans (by decide)) s15
      | 16, _ => exact absurd (hjx.trans (by decide)) s16
      | 17, _ => exact absurd (hjx.trans (by decide)) s17
      | 18, _ => exact absurd (hjx.trans (by decide)) s18
      | 19, _ => exact absurd (hjx.trans (by decide)) s19
      | 20, _ => exact absurd (hjx.trans (by decide)) s20
      | 21, _ => exact absurd (hjx.trans (by decide)) s21
      | 22, _ => exact absurd (hjx.trans (by decide)) s22
      | 23, _ => exact absurd (hjx.trans (by decide)) s23
      | 24, _ => exact absurd (hjx.trans (by decide)) s24
      | 25, _ => exact absurd (hjx.trans (by decide)) s25
      | 26, _ => exact absurd (hjx.trans (by decide)) s26
      | 27, _ => exact absurd (hjx.trans (by decide)) s27
      | 28, _ => exact absurd (hjx.trans (by decide)) s28
      | 29, _ => exact absurd (hjx.trans (by decide)) s29
      | 30, _ => exact absurd (hjx.trans (by decide)) s30
      | 31, _ => exact absurd (hjx.trans (by decide)) s31
      | 32, _ => exact absurd (hjx.trans (by decide)) s32
      | 33, _ => exact absurd (hjx.trans (by decide)) s33
      | 34, _ => exact absurd (hjx.trans (by decide)) s34
      | 35, _ => exact absurd (hjx.trans (by decide)) s35
      | 36, _ => exact absurd (hjx.trans (by decide)) s36
      | 37, _ => exact absurd (hjx.trans (by decide)) s37
      | j + 38, h => omega
