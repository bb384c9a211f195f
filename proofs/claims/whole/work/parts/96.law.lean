abbrev mLaw (L : Nat) (xs : Nat → Int32) : hM := (⟨"FarHeightsLaw", "law", "([I)Z"⟩, code, 4, some .boolean, some (L, xs))
theorem vpL {n L : Nat} (h : n < L) (hL : L ≤ 384) : vp_in (nI n) L := by
  unfold vp_in
  rw [nI_clamp (by omega)]
  rintro (h1 | h1)
  · exact nI_pos (by omega) h1
  · omega
theorem sub6a : ∀ L, L ≤ 384 → (nI L - nI 6).toInt = (L : Int) - 6 := by decide +kernel
theorem sub6 {L i : Nat} (hL : L ≤ 384) (hi : i ≤ 400) : (Int32.ofNat L - nI 6 < nI i) ↔ L < i + 6 := by
  rw [Int32.lt_iff_toInt_lt, nI_toInt (by omega), show (Int32.ofNat L - nI 6).toInt = (L : Int) - 6 from sub6a L hL]
  omega
theorem nI_6 (n : Nat) : nI n + Int32.ofInt 6 = nI (n + 6) := by
  rw [show Int32.ofInt 6 = nI 6 by decide, nI_add]
theorem law_loop {l : Launch} {dp L : Nat} {xs : Nat → Int32} {Q : hQ} (hL : L ≤ 384) (hQ : ∀ I J R, Q (some (.int (nI 1))) hSH I J R) : ∀ (q i : Nat) (I : hI) (J : hJ) (lt tx : Option Nat), 400 < q + i → i ≤ 390 → INV I J lt → HV l (mLaw L xs) (dp + 21) 0 0 18 [some (.retAddr 0), some (.ref 0), some (.ref 82), some (.int (nI i))] [] hSH I J (hRR lt tx) Q := by
  intro q
  induction q with
  | zero => intro i I J lt tx h1 h2; omega
  | succ q ih =>
    intro i I J lt tx h1 h2 hv
    have Ct : ∀ (I2 : hI) (J2 : hJ) (lt2 tx2 : Option Nat), i + 6 ≤ L → INV I2 J2 lt2 → HV l (mLaw L xs) (dp + 21) 0 0 1461 [some (.retAddr 0), some (.ref 0), some (.ref 82), some (.int (nI i))] [] hSH I2 J2 (hRR lt2 tx2) Q := by
      intro I2 J2 lt2 tx2 h3 hv2
      refine h_iinc (v := nI (i + 6)) dL_law_1461 rfl (nI_6 i) (Nat.le_of_ble_eq_true rfl) ?_
      refine h_goto (tgt := 18) dL_law_1464 rfl ?_
      exact ih (i + 6) I2 J2 lt2 tx2 (by omega) (by omega) hv2
    refine h_iload_n dL_law_18 rfl ?_
    refine h_aload_nS dL_law_19 rfl ?_
    refine h_slen dL_law_20 rfl ?_
    refine h_bipush dL_law_21 cb_6 ?_
    refine h_isub dL_law_23 ?_
    refine h_icmpgt (tgt := 1467) dL_law_24 rfl (fun c_24 => ?_) (fun c_24 => ?_)
    · have e24 := (sub6 hL (by omega)).mp c_24
      refine h_iconst dL_law_1467 ci_1 ?_
      refine h_zreturn dL_law_1468 rfl (by decide) ?_
      exact hQ _ _ _
    · have e24 : i + 6 ≤ L := Nat.le_of_not_lt (fun z => c_24 ((sub6 hL (by omega)).mpr z))
      refine h_aload_nS dL_law_27 rfl ?_
      refine h_iload_n dL_law_28 rfl ?_
      refine h_sald dL_law_29 rfl (vpL (by omega) hL) ?_
      refine h_bipush dL_law_30 cb_63 ?_
      refine h_iand dL_law_32 ?_
      by_cases s0 : (xs (nI i).toNatClampNeg &&& nI 63) = nI 0
      · refine h_tableIn (off := 167) (tgt := 200) dL_law_33 (by rw [s0]; decide) (by rw [s0]; decide) (by rw [s0]; decide) rfl ?_
        refine h_aload_n dL_law_200 rfl ?_
        refine h_aload_nS dL_law_201 rfl ?_
        refine h_iload_n dL_law_202 rfl ?_
        refine h_iconst dL_law_203 ci_1 ?_
        refine h_iaddN dL_law_204 ?_
        refine h_sald dL_law_205 rfl (vpL (by omega) hL) ?_
        refine h_cV1 dL_law_206 k2_150 oVX11_station rfl rfl ?_
        refine op_station hv (fun v I1 J1 lt1 tx1 hR => ?_)
        refine h_aload_n dL_law_209 rfl ?_
        refine h_aload_nS dL_law_210 rfl ?_
        refine h_iload_n dL_law_211 rfl ?_
        refine h_iconst dL_law_212 ci_1 ?_
        refine h_iaddN dL_law_213 ?_
        refine h_sald dL_law_214 rfl (vpL (by omega) hL) ?_
        refine h_cV1 dL_law_215 k5_168 oVX12_station rfl rfl ?_
        refine hR _ (fun I2 J2 lt2 tx2 hv2 => ?_)
        refine h_icmpeq (tgt := 1461) dL_law_218 rfl (fun c_218 => ?_) (fun c_218 => ?_)
        · exact Ct I2 J2 lt2 tx2 e24 hv2
        · exact absurd rfl c_218
      by_cases s1 : (xs (nI i).toNatClampNeg &&& nI 63) = nI 1
      · refine h_tableIn (off := 190) (tgt := 223) dL_law_33 (by rw [s1]; decide) (by rw [s1]; decide) (by rw [s1]; decide) rfl ?_
        refine h_aload_n dL_law_223 rfl ?_
        refine h_aload_nS dL_law_224 rfl ?_
        refine h_iload_n dL_law_225 rfl ?_
        refine h_iconst dL_law_226 ci_1 ?_
        refine h_iaddN dL_law_227 ?_
        refine h_sald dL_law_228 rfl (vpL (by omega) hL) ?_
        refine h_aload_nS dL_law_229 rfl ?_
        refine h_iload_n dL_law_230 rfl ?_
        refine h_iconst dL_law_231 ci_2 ?_
        refine h_iaddN dL_law_232 ?_
        refine h_sald dL_law_233 rfl (vpL (by omega) hL) ?_
        refine h_aload_nS dL_law_234 rfl ?_
        refine h_iload_n dL_law_235 rfl ?_
        refine h_iconst dL_law_236 ci_3 ?_
        refine h_iaddN dL_law_237 ?_
        refine h_sald dL_law_238 rfl (vpL (by omega) hL) ?_
        refine h_aload_nS dL_law_239 rfl ?_
        refine h_iload_n dL_law_240 rfl ?_
        refine h_iconst dL_law_241 ci_4 ?_
        refine h_iaddN dL_law_242 ?_
        refine h_sald dL_law_243 rfl (vpL (by omega) hL) ?_
        refine h_cV4 dL_law_244 k2_184 oVX11_leg rfl rfl ?_
        refine op_leg hv (fun v I1 J1 lt1 tx1 hR => ?_)
        refine h_aload_n dL_law_247 rfl ?_
        refine h_aload_nS dL_law_248 rfl ?_
        refine h_iload_n dL_law_249 rfl ?_
        refine h_iconst dL_law_250 ci_1 ?_
        refine h_iaddN dL_law_251 ?_
        refine h_sald dL_law_252 rfl (vpL (by omega) hL) ?_
        refine h_aload_nS dL_law_253 rfl ?_
        refine h_iload_n dL_law_254 rfl ?_
        refine h_iconst dL_law_255 ci_2 ?_
        refine h_iaddN dL_law_256 ?_
        refine h_sald dL_law_257 rfl (vpL (by omega) hL) ?_
        refine h_aload_nS dL_law_258 rfl ?_
        refine h_iload_n dL_law_259 rfl ?_
        refine h_iconst dL_law_260 ci_3 ?_
        refine h_iaddN dL_law_261 ?_
        refine h_sald dL_law_262 rfl (vpL (by omega) hL) ?_
        refine h_aload_nS dL_law_263 rfl ?_
        refine h_iload_n dL_law_264 rfl ?_
        refine h_iconst dL_law_265 ci_4 ?_
        refine h_iaddN dL_law_266 ?_
        refine h_sald dL_law_267 rfl (vpL (by omega) hL) ?_
        refine h_cV4 dL_law_268 k5_175 oVX12_leg rfl rfl ?_
        refine hR _ (fun I2 J2 lt2 tx2 hv2 => ?_)
        refine h_icmpeq (tgt := 1461) dL_law_271 rfl (fun c_271 => ?_) (fun c_271 => ?_)
        · exact Ct I2 J2 lt2 tx2 e24 hv2
        · exact absurd rfl c_271
      by_cases s2 : (xs (nI i).toNatClampNeg &&& nI 63) = nI 2
      · refine h_tableIn (off := 243) (tgt := 276) dL_law_33 (by rw [s2]; decide) (by rw [s2]; decide) (by rw [s2]; decide) rfl ?_
        refine h_aload_n dL_law_276 rfl ?_
        refine h_aload_nS dL_law_277 rfl ?_
        refine h_iload_n dL_law_278 rfl ?_
        refine h_iconst dL_law_279 ci_1 ?_
        refine h_iaddN dL_law_280 ?_
        refine h_sald dL_law_281 rfl (vpL (by omega) hL) ?_
        refine h_aload_nS dL_law_282 rfl ?_
        refine h_iload_n dL_law_283 rfl ?_
        refine h_iconst dL_law_284 ci_2 ?_
        refine h_iaddN dL_law_285 ?_
        refine h_sald dL_law_286 rfl (vpL (by omega) hL) ?_
        refine h_aload_nS dL_law_287 rfl ?_
        refine h_iload_n dL_law_288 rfl ?_
        refine h_iconst dL_law_289 ci_3 ?_
        refine h_iaddN dL_law_290 ?_
        refine h_sald dL_law_291 rfl (vpL (by omega) hL) ?_
        refine h_cV3 dL_law_292 k2_202 oVX11_mend rfl rfl ?_
        refine op_mend hv (fun v I1 J1 lt1 tx1 hR => ?_)
        refine h_aload_n dL_law_295 rfl ?_
        refine h_aload_nS dL_law_296 rfl ?_
        refine h_iload_n dL_law_297 rfl ?_
        refine h_iconst dL_law_298 ci_1 ?_
        refine h_iaddN dL_law_299 ?_
        refine h_sald dL_law_300 rfl (vpL (by omega) hL) ?_
        refine h_aload_nS dL_law_301 rfl ?_
        refine h_iload_n dL_law_302 rfl ?_
        refine h_iconst dL_law_303 ci_2 ?_
        refine h_iaddN dL_law_304 ?_
        refine h_sald dL_law_305 rfl (vpL (by omega) hL) ?_
        refine h_aload_nS dL_law_306 rfl ?_
        refine h_iload_n dL_law_307 rfl ?_
        refine h_iconst dL_law_308 ci_3 ?_
        refine h_iaddN dL_law_309 ?_
        refine h_sald dL_law_310 rfl (vpL (by omega) hL) ?_
        refine h_cV3 dL_law_311 k5_183 oVX12_mend rfl rfl ?_
        refine hR _ (fun I2 J2 lt2 tx2 hv2 => ?_)
        refine h_icmpeq (tgt := 1461) dL_law_314 rfl (fun c_314 => ?_) (fun c_314 => ?_)
        · exact Ct I2 J2 lt2 tx2 e24 hv2
        · exact absurd rfl c_314
      by_cases s3 : (xs (nI i).toNatClampNeg &&& nI 63) = nI 3
      · refine h_tableIn (off := 286) (tgt := 319) dL_law_33 (by rw [s3]; decide) (by rw [s3]; decide) (by rw [s3]; decide) rfl ?_
        refine h_aload_n dL_law_319 rfl ?_
        refine h_aload_nS dL_law_320 rfl ?_
        refine h_iload_n dL_law_321 rfl ?_
        refine h_iconst dL_law_322 ci_1 ?_
        refine h_iaddN dL_law_323 ?_
        refine h_sald dL_law_324 rfl (vpL (by omega) hL) ?_
        refine h_aload_nS dL_law_325 rfl ?_
        refine h_iload_n dL_law_326 rfl ?_
        refine h_iconst dL_law_327 ci_2 ?_
        refine h_iaddN dL_law_328 ?_
        refine h_sald dL_law_329 rfl (vpL (by omega) hL) ?_
        refine h_cV2 dL_law_330 k2_208 oVX11_stationOf rfl rfl ?_
        refine op_stationOf hv (fun v I1 J1 lt1 tx1 hR => ?_)
        refine h_aload_n dL_law_333 rfl ?_
        refine h_aload_nS dL_law_334 rfl ?_
        refine h_iload_n dL_law_335 rfl ?_
        refine h_iconst dL_law_336 ci_1 ?_
        refine h_iaddN dL_law_337 ?_
        refine h_sald dL_law_338 rfl (vpL (by omega) hL) ?_
        refine h_aload_nS dL_law_339 rfl ?_
        refine h_iload_n dL_law_340 rfl ?_
        refine h_iconst dL_law_341 ci_2 ?_
        refine h_iaddN dL_law_342 ?_
        refine h_sald dL_law_343 rfl (vpL (by omega) hL) ?_
        refine h_cV2 dL_law_344 k5_188 oVX12_stationOf rfl rfl ?_
        refine hR _ (fun I2 J2 lt2 tx2 hv2 => ?_)
        refine h_icmpeq (tgt := 1461) dL_law_347 rfl (fun c_347 => ?_) (fun c_347 => ?_)
        · exact Ct I2 J2 lt2 tx2 e24 hv2
        · exact absurd rfl c_347
      by_cases s4 : (xs (nI i).toNatClampNeg &&& nI 63) = nI 4
      · refine h_tableIn (off := 319) (tgt := 352) dL_law_33 (by rw [s4]; decide) (by rw [s4]; decide) (by rw [s4]; decide) rfl ?_
        refine h_aload_n dL_law_352 rfl ?_
        refine h_cV0 dL_law_353 k2_228 oVX11_again rfl rfl ?_
        refine op_again hv (fun v I1 J1 lt1 tx1 hR => ?_)
        refine h_aload_n dL_law_356 rfl ?_
        refine h_cV0 dL_law_357 k5_222 oVX12_again rfl rfl ?_
        refine hR _ (fun I2 J2 lt2 tx2 hv2 => ?_)
        refine h_icmpeq (tgt := 1461) dL_law_360 rfl (fun c_360 => ?_) (fun c_360 => ?_)
        · exact Ct I2 J2 lt2 tx2 e24 hv2
        · exact absurd rfl c_360
      by_cases s5 : (xs (nI i).toNatClampNeg &&& nI 63) = nI 5
      · refine h_tableIn (off := 332) (tgt := 365) dL_law_33 (by rw [s5]; decide) (by rw [s5]; decide) (by rw [s5]; decide) rfl ?_
        refine h_aload_n dL_law_365 rfl ?_
        refine h_aload_nS dL_law_366 rfl ?_
        refine h_iload_n dL_law_367 rfl ?_
        refine h_iconst dL_law_368 ci_1 ?_
        refine h_iaddN dL_law_369 ?_
        refine h_sald dL_law_370 rfl (vpL (by omega) hL) ?_
        refine h_aload_nS dL_law_371 rfl ?_
        refine h_iload_n dL_law_372 rfl ?_
        refine h_iconst dL_law_373 ci_2 ?_
        refine h_iaddN dL_law_374 ?_
        refine h_sald dL_law_375 rfl (vpL (by omega) hL) ?_
        refine h_cV2 dL_law_376 k2_236 oVX11_point rfl rfl ?_
        refine op_point hv (fun v I1 J1 lt1 tx1 hR => ?_)
        refine h_aload_n dL_law_379 rfl ?_
        refine h_aload_nS dL_law_380 rfl ?_
        refine h_iload_n dL_law_381 rfl ?_
        refine h_iconst dL_law_382 ci_1 ?_
        refine h_iaddN dL_law_383 ?_
        refine h_sald dL_law_384 rfl (vpL (by omega) hL) ?_
        refine h_aload_nS dL_law_385 rfl ?_
        refine h_iload_n dL_law_386 rfl ?_
        refine h_iconst dL_law_387 ci_2 ?_
        refine h_iaddN dL_law_388 ?_
        refine h_sald dL_law_389 rfl (vpL (by omega) hL) ?_
        refine h_cV2 dL_law_390 k5_230 oVX12_point rfl rfl ?_
        refine hR _ (fun I2 J2 lt2 tx2 hv2 => ?_)
        refine h_icmpeq (tgt := 1461) dL_law_393 rfl (fun c_393 => ?_) (fun c_393 => ?_)
        · exact Ct I2 J2 lt2 tx2 e24 hv2
        · exact absurd rfl c_393
      by_cases s6 : (xs (nI i).toNatClampNeg &&& nI 63) = nI 6
      · refine h_tableIn (off := 365) (tgt := 398) dL_law_33 (by rw [s6]; decide) (by rw [s6]; decide) (by rw [s6]; decide) rfl ?_
        refine h_aload_n dL_law_398 rfl ?_
        refine h_aload_nS dL_law_399 rfl ?_
        refine h_iload_n dL_law_400 rfl ?_
        refine h_iconst dL_law_401 ci_1 ?_
        refine h_iaddN dL_law_402 ?_
        refine h_sald dL_law_403 rfl (vpL (by omega) hL) ?_
        refine h_aload_nS dL_law_404 rfl ?_
        refine h_iload_n dL_law_405 rfl ?_
        refine h_iconst dL_law_406 ci_2 ?_
        refine h_iaddN dL_law_407 ?_
        refine h_sald dL_law_408 rfl (vpL (by omega) hL) ?_
        refine h_cV2 dL_law_409 k3_7 oVX11_mass rfl rfl ?_
        refine op_mass hv (fun v I1 J1 lt1 tx1 hR => ?_)
        refine h_aload_n dL_law_412 rfl ?_
        refine h_aload_nS dL_law_413 rfl ?_
        refine h_iload_n dL_law_414 rfl ?_
        refine h_iconst dL_law_415 ci_1 ?_
        refine h_iaddN dL_law_416 ?_
        refine h_sald dL_law_417 rfl (vpL (by omega) hL) ?_
        refine h_aload_nS dL_law_418 rfl ?_
        refine h_iload_n dL_law_419 rfl ?_
        refine h_iconst dL_law_420 ci_2 ?_
        refine h_iaddN dL_law_421 ?_
        refine h_sald dL_law_422 rfl (vpL (by omega) hL) ?_
        refine h_cV2 dL_law_423 k5_234 oVX12_mass rfl rfl ?_
        refine hR _ (fun I2 J2 lt2 tx2 hv2 => ?_)
        refine h_icmpeq (tgt := 1461) dL_law_426 rfl (fun c_426 => ?_) (fun c_426 => ?_)
        · exact Ct I2 J2 lt2 tx2 e24 hv2
        · exact absurd rfl c_426
      by_cases s7 : (xs (nI i).toNatClampNeg &&& nI 63) = nI 7
      · refine h_tableIn (off := 398) (tgt := 431) dL_law_33 (by rw [s7]; decide) (by rw [s7]; decide) (by rw [s7]; decide) rfl ?_
        refine h_aload_n dL_law_431 rfl ?_
        refine h_aload_nS dL_law_432 rfl ?_
        refine h_iload_n dL_law_433 rfl ?_
        refine h_iconst dL_law_434 ci_1 ?_
        refine h_iaddN dL_law_435 ?_
        refine h_sald dL_law_436 rfl (vpL (by omega) hL) ?_
        refine h_cV1 dL_law_437 k3_15 oVX11_masses rfl rfl ?_
        refine op_masses hv (fun v I1 J1 lt1 tx1 hR => ?_)
        refine h_aload_n dL_law_440 rfl ?_
        refine h_aload_nS dL_law_441 rfl ?_
        refine h_iload_n dL_law_442 rfl ?_
        refine h_iconst dL_law_443 ci_1 ?_
        refine h_iaddN dL_law_444 ?_
        refine h_sald dL_law_445 rfl (vpL (by omega) hL) ?_
        refine h_cV1 dL_law_446 k6_2 oVX12_masses rfl rfl ?_
        refine hR _ (fun I2 J2 lt2 tx2 hv2 => ?_)
        refine h_icmpeq (tgt := 1461) dL_law_449 rfl (fun c_449 => ?_) (fun c_449 => ?_)
        · exact Ct I2 J2 lt2 tx2 e24 hv2
        · exact absurd rfl c_449
      by_cases s8 : (xs (nI i).toNatClampNeg &&& nI 63) = nI 8
      · refine h_tableIn (off := 421) (tgt := 454) dL_law_33 (by rw [s8]; decide) (by rw [s8]; decide) (by rw [s8]; decide) rfl ?_
        refine h_aload_n dL_law_454 rfl ?_
        refine h_aload_nS dL_law_455 rfl ?_
        refine h_iload_n dL_law_456 rfl ?_
        refine h_iconst dL_law_457 ci_1 ?_
        refine h_iaddN dL_law_458 ?_
        refine h_sald dL_law_459 rfl (vpL (by omega) hL) ?_
        refine h_aload_nS dL_law_460 rfl ?_
        refine h_iload_n dL_law_461 rfl ?_
        refine h_iconst dL_law_462 ci_2 ?_
        refine h_iaddN dL_law_463 ?_
        refine h_sald dL_law_464 rfl (vpL (by omega) hL) ?_
        refine h_aload_nS dL_law_465 rfl ?_
        refine h_iload_n dL_law_466 rfl ?_
        refine h_iconst dL_law_467 ci_3 ?_
        refine h_iaddN dL_law_468 ?_
        refine h_sald dL_law_469 rfl (vpL (by omega) hL) ?_
        refine h_aload_nS dL_law_470 rfl ?_
        refine h_iload_n dL_law_471 rfl ?_
        refine h_iconst dL_law_472 ci_4 ?_
        refine h_iaddN dL_law_473 ?_
        refine h_sald dL_law_474 rfl (vpL (by omega) hL) ?_
        refine h_aload_nS dL_law_475 rfl ?_
        refine h_iload_n dL_law_476 rfl ?_
        refine h_iconst dL_law_477 ci_5 ?_
        refine h_iaddN dL_law_478 ?_
        refine h_sald dL_law_479 rfl (vpL (by omega) hL) ?_
        refine h_cV5 dL_law_480 k3_19 oVX11_sight rfl rfl ?_
        refine op_sight hv (fun v I1 J1 lt1 tx1 hR => ?_)
        refine h_aload_n dL_law_483 rfl ?_
        refine h_aload_nS dL_law_484 rfl ?_
        refine h_iload_n dL_law_485 rfl ?_
        refine h_iconst dL_law_486 ci_1 ?_
        refine h_iaddN dL_law_487 ?_
        refine h_sald dL_law_488 rfl (vpL (by omega) hL) ?_
        refine h_aload_nS dL_law_489 rfl ?_
        refine h_iload_n dL_law_490 rfl ?_
        refine h_iconst dL_law_491 ci_2 ?_
        refine h_iaddN dL_law_492 ?_
        refine h_sald dL_law_493 rfl (vpL (by omega) hL) ?_
        refine h_aload_nS dL_law_494 rfl ?_
        refine h_iload_n dL_law_495 rfl ?_
        refine h_iconst dL_law_496 ci_3 ?_
        refine h_iaddN dL_law_497 ?_
        refine h_sald dL_law_498 rfl (vpL (by omega) hL) ?_
        refine h_aload_nS dL_law_499 rfl ?_
        refine h_iload_n dL_law_500 rfl ?_
        refine h_iconst dL_law_501 ci_4 ?_
        refine h_iaddN dL_law_502 ?_
        refine h_sald dL_law_503 rfl (vpL (by omega) hL) ?_
        refine h_aload_nS dL_law_504 rfl ?_
        refine h_iload_n dL_law_505 rfl ?_
        refine h_iconst dL_law_506 ci_5 ?_
        refine h_iaddN dL_law_507 ?_
        refine h_sald dL_law_508 rfl (vpL (by omega) hL) ?_
        refine h_cV5 dL_law_509 k6_6 oVX12_sight rfl rfl ?_
        refine hR _ (fun I2 J2 lt2 tx2 hv2 => ?_)
        refine h_icmpeq (tgt := 1461) dL_law_512 rfl (fun c_512 => ?_) (fun c_512 => ?_)
        · exact Ct I2 J2 lt2 tx2 e24 hv2
        · exact absurd rfl c_512
      by_cases s9 : (xs (nI i).toNatClampNeg &&& nI 63) = nI 9
      · refine h_tableIn (off := 484) (tgt := 517) dL_law_33 (by rw [s9]; decide) (by rw [s9]; decide) (by rw [s9]; decide) rfl ?_
        refine h_aload_n dL_law_517 rfl ?_
        refine h_aload_nS dL_law_518 rfl ?_
        refine h_iload_n dL_law_519 rfl ?_
        refine h_iconst dL_law_520 ci_1 ?_
        refine h_iaddN dL_law_521 ?_
        refine h_sald dL_law_522 rfl (vpL (by omega) hL) ?_
        refine h_aload_nS dL_law_523 rfl ?_
        refine h_iload_n dL_law_524 rfl ?_
        refine h_iconst dL_law_525 ci_2 ?_
        refine h_iaddN dL_law_526 ?_
        refine h_sald dL_law_527 rfl (vpL (by omega) hL) ?_
        refine h_cV2 dL_law_528 k3_36 oVX11_sightOf rfl rfl ?_
        refine op_sightOf hv (fun v I1 J1 lt1 tx1 hR => ?_)
        refine h_aload_n dL_law_531 rfl ?_
        refine h_aload_nS dL_law_532 rfl ?_
        refine h_iload_n dL_law_533 rfl ?_
        refine h_iconst dL_law_534 ci_1 ?_
        refine h_iaddN dL_law_535 ?_
        refine h_sald dL_law_536 rfl (vpL (by omega) hL) ?_
        refine h_aload_nS dL_law_537 rfl ?_
        refine h_iload_n dL_law_538 rfl ?_
        refine h_iconst dL_law_539 ci_2 ?_
        refine h_iaddN dL_law_540 ?_
        refine h_sald dL_law_541 rfl (vpL (by omega) hL) ?_
        refine h_cV2 dL_law_542 k6_20 oVX12_sightOf rfl rfl ?_
        refine hR _ (fun I2 J2 lt2 tx2 hv2 => ?_)
        refine h_icmpeq (tgt := 1461) dL_law_545 rfl (fun c_545 => ?_) (fun c_545 => ?_)
        · exact Ct I2 J2 lt2 tx2 e24 hv2
        · exact absurd rfl c_545
      by_cases s10 : (xs (nI i).toNatClampNeg &&& nI 63) = nI 10
      · refine h_tableIn (off := 517) (tgt := 550) dL_law_33 (by rw [s10]; decide) (by rw [s10]; decide) (by rw [s10]; decide) rfl ?_
        refine h_aload_n dL_law_550 rfl ?_
        refine h_aload_nS dL_law_551 rfl ?_
        refine h_iload_n dL_law_552 rfl ?_
        refine h_iconst dL_law_553 ci_1 ?_
        refine h_iaddN dL_law_554 ?_
        refine h_sald dL_law_555 rfl (vpL (by omega) hL) ?_
        refine h_aload_nS dL_law_556 rfl ?_
        refine h_iload_n dL_law_557 rfl ?_
        refine h_iconst dL_law_558 ci_2 ?_
        refine h_iaddN dL_law_559 ?_
        refine h_sald dL_law_560 rfl (vpL (by omega) hL) ?_
        refine h_ifeq (tgt := 568) dL_law_561 rfl (fun c_561 => ?_) (fun c_561 => ?_)
        · refine h_iconst dL_law_568 ci_0 ?_
          refine h_cV2 dL_law_569 k3_77 oVX11_falls rfl rfl ?_
          refine op_falls0 hv (fun v I1 J1 lt1 tx1 hR => ?_)
          refine h_aload_n dL_law_572 rfl ?_
          refine h_aload_nS dL_law_573 rfl ?_
          refine h_iload_n dL_law_574 rfl ?_
          refine h_iconst dL_law_575 ci_1 ?_
          refine h_iaddN dL_law_576 ?_
          refine h_sald dL_law_577 rfl (vpL (by omega) hL) ?_
          refine h_aload_nS dL_law_578 rfl ?_
          refine h_iload_n dL_law_579 rfl ?_
          refine h_iconst dL_law_580 ci_2 ?_
          refine h_iaddN dL_law_581 ?_
          refine h_sald dL_law_582 rfl (vpL (by omega) hL) ?_
          refine h_ifeq (tgt := 590) dL_law_583 rfl (fun c_583 => ?_) (fun c_583 => ?_)
          · refine h_iconst dL_law_590 ci_0 ?_
            refine h_cV2 dL_law_591 k6_50 oVX12_falls rfl rfl ?_
            refine hR _ (fun I2 J2 lt2 tx2 hv2 => ?_)
            refine h_icmpeq (tgt := 1461) dL_law_594 rfl (fun c_594 => ?_) (fun c_594 => ?_)
            · exact Ct I2 J2 lt2 tx2 e24 hv2
            · exact absurd rfl c_594
          · exact absurd c_561 c_583
        · refine h_iconst dL_law_564 ci_1 ?_
          refine h_goto (tgt := 569) dL_law_565 rfl ?_
          refine h_cV2 dL_law_569 k3_77 oVX11_falls rfl rfl ?_
          refine op_falls1 hv (fun v I1 J1 lt1 tx1 hR => ?_)
          refine h_aload_n dL_law_572 rfl ?_
          refine h_aload_nS dL_law_573 rfl ?_
          refine h_iload_n dL_law_574 rfl ?_
          refine h_iconst dL_law_575 ci_1 ?_
          refine h_iaddN dL_law_576 ?_
          refine h_sald dL_law_577 rfl (vpL (by omega) hL) ?_
          refine h_aload_nS dL_law_578 rfl ?_
          refine h_iload_n dL_law_579 rfl ?_
          refine h_iconst dL_law_580 ci_2 ?_
          refine h_iaddN dL_law_581 ?_
          refine h_sald dL_law_582 rfl (vpL (by omega) hL) ?_
          refine h_ifeq (tgt := 590) dL_law_583 rfl (fun c_583 => ?_) (fun c_583 => ?_)
          · exact absurd c_583 c_561
          · refine h_iconst dL_law_586 ci_1 ?_
            refine h_goto (tgt := 591) dL_law_587 rfl ?_
            refine h_cV2 dL_law_591 k6_50 oVX12_falls rfl rfl ?_
            refine hR _ (fun I2 J2 lt2 tx2 hv2 => ?_)
            refine h_icmpeq (tgt := 1461) dL_law_594 rfl (fun c_594 => ?_) (fun c_594 => ?_)
            · exact Ct I2 J2 lt2 tx2 e24 hv2
            · exact absurd rfl c_594
      by_cases s11 : (xs (nI i).toNatClampNeg &&& nI 63) = nI 11
      · refine h_tableIn (off := 566) (tgt := 599) dL_law_33 (by rw [s11]; decide) (by rw [s11]; decide) (by rw [s11]; decide) rfl ?_
        refine h_aload_n dL_law_599 rfl ?_
        refine h_aload_nS dL_law_600 rfl ?_
        refine h_iload_n dL_law_601 rfl ?_
        refine h_iconst dL_law_602 ci_1 ?_
        refine h_iaddN dL_law_603 ?_
        refine h_sald dL_law_604 rfl (vpL (by omega) hL) ?_
        refine h_aload_nS dL_law_605 rfl ?_
        refine h_iload_n dL_law_606 rfl ?_
        refine h_iconst dL_law_607 ci_2 ?_
        refine h_iaddN dL_law_608 ?_
        refine h_sald dL_law_609 rfl (vpL (by omega) hL) ?_
        refine h_cV2 dL_law_610 k3_81 oVX11_foot rfl rfl ?_
        refine op_foot hv (fun v I1 J1 lt1 tx1 hR => ?_)
        refine h_aload_n dL_law_613 rfl ?_
        refine h_aload_nS dL_law_614 rfl ?_
        refine h_iload_n dL_law_615 rfl ?_
        refine h_iconst dL_law_616 ci_1 ?_
        refine h_iaddN dL_law_617 ?_
        refine h_sald dL_law_618 rfl (vpL (by omega) hL) ?_
        refine h_aload_nS dL_law_619 rfl ?_
        refine h_iload_n dL_law_620 rfl ?_
        refine h_iconst dL_law_621 ci_2 ?_
        refine h_iaddN dL_law_622 ?_
        refine h_sald dL_law_623 rfl (vpL (by omega) hL) ?_
        refine h_cV2 dL_law_624 k6_54 oVX12_foot rfl rfl ?_
        refine hR _ (fun I2 J2 lt2 tx2 hv2 => ?_)
        refine h_icmpeq (tgt := 1461) dL_law_627 rfl (fun c_627 => ?_) (fun c_627 => ?_)
        · exact Ct I2 J2 lt2 tx2 e24 hv2
        · exact absurd rfl c_627
      by_cases s12 : (xs (nI i).toNatClampNeg &&& nI 63) = nI 12
      · refine h_tableIn (off := 599) (tgt := 632) dL_law_33 (by rw [s12]; decide) (by rw [s12]; decide) (by rw [s12]; decide) rfl ?_
        refine h_aload_n dL_law_632 rfl ?_
        refine h_aload_nS dL_law_633 rfl ?_
        refine h_iload_n dL_law_634 rfl ?_
        refine h_iconst dL_law_635 ci_1 ?_
        refine h_iaddN dL_law_636 ?_
        refine h_sald dL_law_637 rfl (vpL (by omega) hL) ?_
        refine h_aload_nS dL_law_638 rfl ?_
        refine h_iload_n dL_law_639 rfl ?_
        refine h_iconst dL_law_640 ci_2 ?_
        refine h_iaddN dL_law_641 ?_
        refine h_sald dL_law_642 rfl (vpL (by omega) hL) ?_
        refine h_cV2 dL_law_643 k3_104 oVX11_span rfl rfl ?_
        refine op_span hv (fun v I1 J1 lt1 tx1 hR => ?_)
        refine h_aload_n dL_law_646 rfl ?_
        refine h_aload_nS dL_law_647 rfl ?_
        refine h_iload_n dL_law_648 rfl ?_
        refine h_iconst dL_law_649 ci_1 ?_
        refine h_iaddN dL_law_650 ?_
        refine h_sald dL_law_651 rfl (vpL (by omega) hL) ?_
        refine h_aload_nS dL_law_652 rfl ?_
        refine h_iload_n dL_law_653 rfl ?_
        refine h_iconst dL_law_654 ci_2 ?_
        refine h_iaddN dL_law_655 ?_
        refine h_sald dL_law_656 rfl (vpL (by omega) hL) ?_
        refine h_cV2 dL_law_657 k6_70 oVX12_span rfl rfl ?_
        refine hR _ (fun I2 J2 lt2 tx2 hv2 => ?_)
        refine h_icmpeq (tgt := 1461) dL_law_660 rfl (fun c_660 => ?_) (fun c_660 => ?_)
        · exact Ct I2 J2 lt2 tx2 e24 hv2
        · exact absurd rfl c_660
      by_cases s13 : (xs (nI i).toNatClampNeg &&& nI 63) = nI 13
      · refine h_tableIn (off := 632) (tgt := 665) dL_law_33 (by rw [s13]; decide) (by rw [s13]; decide) (by rw [s13]; decide) rfl ?_
        refine h_aload_n dL_law_665 rfl ?_
        refine h_aload_nS dL_law_666 rfl ?_
        refine h_iload_n dL_law_667 rfl ?_
        refine h_iconst dL_law_668 ci_1 ?_
        refine h_iaddN dL_law_669 ?_
        refine h_sald dL_law_670 rfl (vpL (by omega) hL) ?_
        refine h_cV1 dL_law_671 k3_127 oVX11_counted rfl rfl ?_
        refine op_counted hv (fun v I1 J1 lt1 tx1 hR => ?_)
        refine h_aload_n dL_law_674 rfl ?_
        refine h_aload_nS dL_law_675 rfl ?_
        refine h_iload_n dL_law_676 rfl ?_
        refine h_iconst dL_law_677 ci_1 ?_
        refine h_iaddN dL_law_678 ?_
        refine h_sald dL_law_679 rfl (vpL (by omega) hL) ?_
        refine h_cV1 dL_law_680 k6_87 oVX12_counted rfl rfl ?_
        refine hR _ (fun I2 J2 lt2 tx2 hv2 => ?_)
        refine h_icmpeq (tgt := 1461) dL_law_683 rfl (fun c_683 => ?_) (fun c_683 => ?_)
        · exact Ct I2 J2 lt2 tx2 e24 hv2
        · exact absurd rfl c_683
      by_cases s14 : (xs (nI i).toNatClampNeg &&& nI 63) = nI 14
      · refine h_tableIn (off := 655) (tgt := 688) dL_law_33 (by rw [s14]; decide) (by rw [s14]; decide) (by rw [s14]; decide) rfl ?_
        refine h_aload_n dL_law_688 rfl ?_
        refine h_aload_nS dL_law_689 rfl ?_
        refine h_iload_n dL_law_690 rfl ?_
        refine h_iconst dL_law_691 ci_1 ?_
        refine h_iaddN dL_law_692 ?_
        refine h_sald dL_law_693 rfl (vpL (by omega) hL) ?_
        refine h_cV1 dL_law_694 k3_132 oVX11_hangs rfl rfl ?_
        refine op_hangs hv (fun v I1 J1 lt1 tx1 hR => ?_)
        refine h_aload_n dL_law_697 rfl ?_
        refine h_aload_nS dL_law_698 rfl ?_
        refine h_iload_n dL_law_699 rfl ?_
        refine h_iconst dL_law_700 ci_1 ?_
        refine h_iaddN dL_law_701 ?_
        refine h_sald dL_law_702 rfl (vpL (by omega) hL) ?_
        refine h_cV1 dL_law_703 k6_91 oVX12_hangs rfl rfl ?_
        refine hR _ (fun I2 J2 lt2 tx2 hv2 => ?_)
        refine h_icmpeq (tgt := 1461) dL_law_706 rfl (fun c_706 => ?_) (fun c_706 => ?_)
        · exact Ct I2 J2 lt2 tx2 e24 hv2
        · exact absurd rfl c_706
      by_cases s15 : (xs (nI i).toNatClampNeg &&& nI 63) = nI 15
      · refine h_tableIn (off := 678) (tgt := 711) dL_law_33 (by rw [s15]; decide) (by rw [s15]; decide) (by rw [s15]; decide) rfl ?_
        refine h_aload_n dL_law_711 rfl ?_
        refine h_aload_nS dL_law_712 rfl ?_
        refine h_iload_n dL_law_713 rfl ?_
        refine h_iconst dL_law_714 ci_1 ?_
        refine h_iaddN dL_law_715 ?_
        refine h_sald dL_law_716 rfl (vpL (by omega) hL) ?_
        refine h_aload_nS dL_law_717 rfl ?_
        refine h_iload_n dL_law_718 rfl ?_
        refine h_iconst dL_law_719 ci_2 ?_
        refine h_iaddN dL_law_720 ?_
        refine h_sald dL_law_721 rfl (vpL (by omega) hL) ?_
        refine h_aload_nS dL_law_722 rfl ?_
        refine h_iload_n dL_law_723 rfl ?_
        refine h_iconst dL_law_724 ci_3 ?_
        refine h_iaddN dL_law_725 ?_
        refine h_sald dL_law_726 rfl (vpL (by omega) hL) ?_
        refine h_cV3 dL_law_727 k3_136 oVX11_mayBe rfl rfl ?_
        refine op_mayBe hv (fun v I1 J1 lt1 tx1 hR => ?_)
        refine h_aload_n dL_law_730 rfl ?_
        refine h_aload_nS dL_law_731 rfl ?_
        refine h_iload_n dL_law_732 rfl ?_
        refine h_iconst dL_law_733 ci_1 ?_
        refine h_iaddN dL_law_734 ?_
        refine h_sald dL_law_735 rfl (vpL (by omega) hL) ?_
        refine h_aload_nS dL_law_736 rfl ?_
        refine h_iload_n dL_law_737 rfl ?_
        refine h_iconst dL_law_738 ci_2 ?_
        refine h_iaddN dL_law_739 ?_
        refine h_sald dL_law_740 rfl (vpL (by omega) hL) ?_
        refine h_aload_nS dL_law_741 rfl ?_
        refine h_iload_n dL_law_742 rfl ?_
        refine h_iconst dL_law_743 ci_3 ?_
        refine h_iaddN dL_law_744 ?_
        refine h_sald dL_law_745 rfl (vpL (by omega) hL) ?_
        refine h_cV3 dL_law_746 k6_95 oVX12_mayBe rfl rfl ?_
        refine hR _ (fun I2 J2 lt2 tx2 hv2 => ?_)
        refine h_icmpeq (tgt := 1461) dL_law_749 rfl (fun c_749 => ?_) (fun c_749 => ?_)
        · exact Ct I2 J2 lt2 tx2 e24 hv2
        · exact absurd rfl c_749
      by_cases s16 : (xs (nI i).toNatClampNeg &&& nI 63) = nI 16
      · refine h_tableIn (off := 721) (tgt := 754) dL_law_33 (by rw [s16]; decide) (by rw [s16]; decide) (by rw [s16]; decide) rfl ?_
        refine h_aload_n dL_law_754 rfl ?_
        refine h_aload_nS dL_law_755 rfl ?_
        refine h_iload_n dL_law_756 rfl ?_
        refine h_iconst dL_law_757 ci_1 ?_
        refine h_iaddN dL_law_758 ?_
        refine h_sald dL_law_759 rfl (vpL (by omega) hL) ?_
        refine h_aload_nS dL_law_760 rfl ?_
        refine h_iload_n dL_law_761 rfl ?_
        refine h_iconst dL_law_762 ci_2 ?_
        refine h_iaddN dL_law_763 ?_
        refine h_sald dL_law_764 rfl (vpL (by omega) hL) ?_
        refine h_cV2 dL_law_765 k3_145 oVX11_next rfl rfl ?_
        refine op_next hv (fun v I1 J1 lt1 tx1 hR => ?_)
        refine h_aload_n dL_law_768 rfl ?_
        refine h_aload_nS dL_law_769 rfl ?_
        refine h_iload_n dL_law_770 rfl ?_
        refine h_iconst dL_law_771 ci_1 ?_
        refine h_iaddN dL_law_772 ?_
        refine h_sald dL_law_773 rfl (vpL (by omega) hL) ?_
        refine h_aload_nS dL_law_774 rfl ?_
        refine h_iload_n dL_law_775 rfl ?_
        refine h_iconst dL_law_776 ci_2 ?_
        refine h_iaddN dL_law_777 ?_
        refine h_sald dL_law_778 rfl (vpL (by omega) hL) ?_
        refine h_cV2 dL_law_779 k6_99 oVX12_next rfl rfl ?_
        refine hR _ (fun I2 J2 lt2 tx2 hv2 => ?_)
        refine h_icmpeq (tgt := 1461) dL_law_782 rfl (fun c_782 => ?_) (fun c_782 => ?_)
        · exact Ct I2 J2 lt2 tx2 e24 hv2
        · exact absurd rfl c_782
      by_cases s17 : (xs (nI i).toNatClampNeg &&& nI 63) = nI 17
      · refine h_tableIn (off := 754) (tgt := 787) dL_law_33 (by rw [s17]; decide) (by rw [s17]; decide) (by rw [s17]; decide) rfl ?_
        refine h_aload_n dL_law_787 rfl ?_
        refine h_aload_nS dL_law_788 rfl ?_
        refine h_iload_n dL_law_789 rfl ?_
        refine h_iconst dL_law_790 ci_1 ?_
        refine h_iaddN dL_law_791 ?_
        refine h_sald dL_law_792 rfl (vpL (by omega) hL) ?_
        refine h_aload_nS dL_law_793 rfl ?_
        refine h_iload_n dL_law_794 rfl ?_
        refine h_iconst dL_law_795 ci_2 ?_
        refine h_iaddN dL_law_796 ?_
        refine h_sald dL_law_797 rfl (vpL (by omega) hL) ?_
        refine h_cV2 dL_law_798 k3_150 oVX11_behind rfl rfl ?_
        refine op_behind hv (fun v I1 J1 lt1 tx1 hR => ?_)
        refine h_aload_n dL_law_801 rfl ?_
        refine h_aload_nS dL_law_802 rfl ?_
        refine h_iload_n dL_law_803 rfl ?_
        refine h_iconst dL_law_804 ci_1 ?_
        refine h_iaddN dL_law_805 ?_
        refine h_sald dL_law_806 rfl (vpL (by omega) hL) ?_
        refine h_aload_nS dL_law_807 rfl ?_
        refine h_iload_n dL_law_808 rfl ?_
        refine h_iconst dL_law_809 ci_2 ?_
        refine h_iaddN dL_law_810 ?_
        refine h_sald dL_law_811 rfl (vpL (by omega) hL) ?_
        refine h_cV2 dL_law_812 k6_103 oVX12_behind rfl rfl ?_
        refine hR _ (fun I2 J2 lt2 tx2 hv2 => ?_)
        refine h_icmpeq (tgt := 1461) dL_law_815 rfl (fun c_815 => ?_) (fun c_815 => ?_)
        · exact Ct I2 J2 lt2 tx2 e24 hv2
        · exact absurd rfl c_815
      by_cases s18 : (xs (nI i).toNatClampNeg &&& nI 63) = nI 18
      · refine h_tableIn (off := 787) (tgt := 820) dL_law_33 (by rw [s18]; decide) (by rw [s18]; decide) (by rw [s18]; decide) rfl ?_
        refine h_aload_n dL_law_820 rfl ?_
        refine h_aload_nS dL_law_821 rfl ?_
        refine h_iload_n dL_law_822 rfl ?_
        refine h_iconst dL_law_823 ci_1 ?_
        refine h_iaddN dL_law_824 ?_
        refine h_sald dL_law_825 rfl (vpL (by omega) hL) ?_
        refine h_aload_nS dL_law_826 rfl ?_
        refine h_iload_n dL_law_827 rfl ?_
        refine h_iconst dL_law_828 ci_2 ?_
        refine h_iaddN dL_law_829 ?_
        refine h_sald dL_law_830 rfl (vpL (by omega) hL) ?_
        refine h_cV2 dL_law_831 k3_162 oVX11_highest rfl rfl ?_
        refine op_highest hv (fun v I1 J1 lt1 tx1 hR => ?_)
        refine h_aload_n dL_law_834 rfl ?_
        refine h_aload_nS dL_law_835 rfl ?_
        refine h_iload_n dL_law_836 rfl ?_
        refine h_iconst dL_law_837 ci_1 ?_
        refine h_iaddN dL_law_838 ?_
        refine h_sald dL_law_839 rfl (vpL (by omega) hL) ?_
        refine h_aload_nS dL_law_840 rfl ?_
        refine h_iload_n dL_law_841 rfl ?_
        refine h_iconst dL_law_842 ci_2 ?_
        refine h_iaddN dL_law_843 ?_
        refine h_sald dL_law_844 rfl (vpL (by omega) hL) ?_
        refine h_cV2 dL_law_845 k6_107 oVX12_highest rfl rfl ?_
        refine hR _ (fun I2 J2 lt2 tx2 hv2 => ?_)
        refine h_lcmp dL_law_848 ?_
        refine h_ifeq (tgt := 1461) dL_law_849 rfl (fun c_849 => ?_) (fun c_849 => ?_)
        · exact Ct I2 J2 lt2 tx2 e24 hv2
        · exact absurd ((lg_0 _ _).mpr rfl) c_849
      by_cases s19 : (xs (nI i).toNatClampNeg &&& nI 63) = nI 19
      · refine h_tableIn (off := 821) (tgt := 854) dL_law_33 (by rw [s19]; decide) (by rw [s19]; decide) (by rw [s19]; decide) rfl ?_
        refine h_aload_n dL_law_854 rfl ?_
        refine h_aload_nS dL_law_855 rfl ?_
        refine h_iload_n dL_law_856 rfl ?_
        refine h_iconst dL_law_857 ci_1 ?_
        refine h_iaddN dL_law_858 ?_
        refine h_sald dL_law_859 rfl (vpL (by omega) hL) ?_
        refine h_cV1 dL_law_860 k3_184 oVX11_said rfl rfl ?_
        refine op_said hv (fun v I1 J1 lt1 tx1 hR => ?_)
        refine h_aload_n dL_law_863 rfl ?_
        refine h_aload_nS dL_law_864 rfl ?_
        refine h_iload_n dL_law_865 rfl ?_
        refine h_iconst dL_law_866 ci_1 ?_
        refine h_iaddN dL_law_867 ?_
        refine h_sald dL_law_868 rfl (vpL (by omega) hL) ?_
        refine h_cV1 dL_law_869 k6_117 oVX12_said rfl rfl ?_
        refine hR _ (fun I2 J2 lt2 tx2 hv2 => ?_)
        refine h_icmpeq (tgt := 1461) dL_law_872 rfl (fun c_872 => ?_) (fun c_872 => ?_)
        · exact Ct I2 J2 lt2 tx2 e24 hv2
        · exact absurd rfl c_872
      by_cases s20 : (xs (nI i).toNatClampNeg &&& nI 63) = nI 20
      · refine h_tableIn (off := 844) (tgt := 877) dL_law_33 (by rw [s20]; decide) (by rw [s20]; decide) (by rw [s20]; decide) rfl ?_
        refine h_aload_n dL_law_877 rfl ?_
        refine h_aload_nS dL_law_878 rfl ?_
        refine h_iload_n dL_law_879 rfl ?_
        refine h_iconst dL_law_880 ci_1 ?_
        refine h_iaddN dL_law_881 ?_
        refine h_sald dL_law_882 rfl (vpL (by omega) hL) ?_
        refine h_aload_nS dL_law_883 rfl ?_
        refine h_iload_n dL_law_884 rfl ?_
        refine h_iconst dL_law_885 ci_2 ?_
        refine h_iaddN dL_law_886 ?_
        refine h_sald dL_law_887 rfl (vpL (by omega) hL) ?_
        refine h_cV2 dL_law_888 k3_188 oVX11_believed rfl rfl ?_
        refine op_believed hv (fun v I1 J1 lt1 tx1 hR => ?_)
        refine h_aload_n dL_law_891 rfl ?_
        refine h_aload_nS dL_law_892 rfl ?_
        refine h_iload_n dL_law_893 rfl ?_
        refine h_iconst dL_law_894 ci_1 ?_
        refine h_iaddN dL_law_895 ?_
        refine h_sald dL_law_896 rfl (vpL (by omega) hL) ?_
        refine h_aload_nS dL_law_897 rfl ?_
        refine h_iload_n dL_law_898 rfl ?_
        refine h_iconst dL_law_899 ci_2 ?_
        refine h_iaddN dL_law_900 ?_
        refine h_sald dL_law_901 rfl (vpL (by omega) hL) ?_
        refine h_cV2 dL_law_902 k6_121 oVX12_believed rfl rfl ?_
        refine hR _ (fun I2 J2 lt2 tx2 hv2 => ?_)
        refine h_icmpeq (tgt := 1461) dL_law_905 rfl (fun c_905 => ?_) (fun c_905 => ?_)
        · exact Ct I2 J2 lt2 tx2 e24 hv2
        · exact absurd rfl c_905
      by_cases s21 : (xs (nI i).toNatClampNeg &&& nI 63) = nI 21
      · refine h_tableIn (off := 877) (tgt := 910) dL_law_33 (by rw [s21]; decide) (by rw [s21]; decide) (by rw [s21]; decide) rfl ?_
        refine h_aload_n dL_law_910 rfl ?_
        refine h_aload_nS dL_law_911 rfl ?_
        refine h_iload_n dL_law_912 rfl ?_
        refine h_iconst dL_law_913 ci_1 ?_
        refine h_iaddN dL_law_914 ?_
        refine h_sald dL_law_915 rfl (vpL (by omega) hL) ?_
        refine h_i2l dL_law_916 ?_
        refine h_bipush dL_law_917 cb_32 ?_
        refine h_lshl dL_law_919 ?_
        refine h_aload_nS dL_law_920 rfl ?_
        refine h_iload_n dL_law_921 rfl ?_
        refine h_iconst dL_law_922 ci_2 ?_
        refine h_iaddN dL_law_923 ?_
        refine h_sald dL_law_924 rfl (vpL (by omega) hL) ?_
        refine h_i2l dL_law_925 ?_
        refine h_ldc2 dL_law_926 k7_96 ?_
        refine h_land dL_law_929 ?_
        refine h_lor dL_law_930 ?_
        refine h_aload_nS dL_law_931 rfl ?_
        refine h_iload_n dL_law_932 rfl ?_
        refine h_iconst dL_law_933 ci_3 ?_
        refine h_iaddN dL_law_934 ?_
        refine h_sald dL_law_935 rfl (vpL (by omega) hL) ?_
        refine h_cV2 dL_law_936 k3_192 oVX11_feed rfl rfl ?_
        refine op_feed hv (fun v I1 J1 lt1 tx1 hR => ?_)
        refine h_aload_n dL_law_939 rfl ?_
        refine h_aload_nS dL_law_940 rfl ?_
        refine h_iload_n dL_law_941 rfl ?_
        refine h_iconst dL_law_942 ci_1 ?_
        refine h_iaddN dL_law_943 ?_
        refine h_sald dL_law_944 rfl (vpL (by omega) hL) ?_
        refine h_i2l dL_law_945 ?_
        refine h_bipush dL_law_946 cb_32 ?_
        refine h_lshl dL_law_948 ?_
        refine h_aload_nS dL_law_949 rfl ?_
        refine h_iload_n dL_law_950 rfl ?_
        refine h_iconst dL_law_951 ci_2 ?_
        refine h_iaddN dL_law_952 ?_
        refine h_sald dL_law_953 rfl (vpL (by omega) hL) ?_
        refine h_i2l dL_law_954 ?_
        refine h_ldc2 dL_law_955 k7_96 ?_
        refine h_land dL_law_958 ?_
        refine h_lor dL_law_959 ?_
        refine h_aload_nS dL_law_960 rfl ?_
        refine h_iload_n dL_law_961 rfl ?_
        refine h_iconst dL_law_962 ci_3 ?_
        refine h_iaddN dL_law_963 ?_
        refine h_sald dL_law_964 rfl (vpL (by omega) hL) ?_
        refine h_cV2 dL_law_965 k6_125 oVX12_feed rfl rfl ?_
        refine hR _ (fun I2 J2 lt2 tx2 hv2 => ?_)
        refine h_icmpeq (tgt := 1461) dL_law_968 rfl (fun c_968 => ?_) (fun c_968 => ?_)
        · exact Ct I2 J2 lt2 tx2 e24 hv2
        · exact absurd rfl c_968
      by_cases s22 : (xs (nI i).toNatClampNeg &&& nI 63) = nI 22
      · refine h_tableIn (off := 940) (tgt := 973) dL_law_33 (by rw [s22]; decide) (by rw [s22]; decide) (by rw [s22]; decide) rfl ?_
        refine h_aload_n dL_law_973 rfl ?_
        refine h_cV0 dL_law_974 k3_196 oVX11_read rfl rfl ?_
        refine op_read hv (fun v I1 J1 lt1 tx1 hR => ?_)
        refine h_aload_n dL_law_977 rfl ?_
        refine h_cV0 dL_law_978 k6_130 oVX12_read rfl rfl ?_
        refine hR _ (fun I2 J2 lt2 tx2 hv2 => ?_)
        refine h_icmpeq (tgt := 1461) dL_law_981 rfl (fun c_981 => ?_) (fun c_981 => ?_)
        · exact Ct I2 J2 lt2 tx2 e24 hv2
        · exact absurd rfl c_981
      by_cases s23 : (xs (nI i).toNatClampNeg &&& nI 63) = nI 23
      · refine h_tableIn (off := 953) (tgt := 986) dL_law_33 (by rw [s23]; decide) (by rw [s23]; decide) (by rw [s23]; decide) rfl ?_
        refine h_aload_n dL_law_986 rfl ?_
        refine h_cV0 dL_law_987 k4_18 oVX11_prove rfl rfl ?_
        refine op_prove hv (fun v I1 J1 lt1 tx1 hR => ?_)
        refine h_aload_n dL_law_990 rfl ?_
        refine h_cV0 dL_law_991 k6_209 oVX12_prove rfl rfl ?_
        refine hR _ (fun I2 J2 lt2 tx2 hv2 => ?_)
        refine h_icmpeq (tgt := 1461) dL_law_994 rfl (fun c_994 => ?_) (fun c_994 => ?_)
        · exact Ct I2 J2 lt2 tx2 e24 hv2
        · exact absurd rfl c_994
      by_cases s24 : (xs (nI i).toNatClampNeg &&& nI 63) = nI 24
      · refine h_tableIn (off := 966) (tgt := 999) dL_law_33 (by rw [s24]; decide) (by rw [s24]; decide) (by rw [s24]; decide) rfl ?_
        refine h_aload_n dL_law_999 rfl ?_
        refine h_aload_nS dL_law_1000 rfl ?_
        refine h_iload_n dL_law_1001 rfl ?_
        refine h_iconst dL_law_1002 ci_1 ?_
        refine h_iaddN dL_law_1003 ?_
        refine h_sald dL_law_1004 rfl (vpL (by omega) hL) ?_
        refine h_aload_nS dL_law_1005 rfl ?_
        refine h_iload_n dL_law_1006 rfl ?_
        refine h_iconst dL_law_1007 ci_2 ?_
        refine h_iaddN dL_law_1008 ?_
        refine h_sald dL_law_1009 rfl (vpL (by omega) hL) ?_
        refine h_cV2 dL_law_1010 k4_22 oVX11_row rfl rfl ?_
        refine op_row hv (fun v I1 J1 lt1 tx1 hR => ?_)
        refine h_aload_n dL_law_1013 rfl ?_
        refine h_aload_nS dL_law_1014 rfl ?_
        refine h_iload_n dL_law_1015 rfl ?_
        refine h_iconst dL_law_1016 ci_1 ?_
        refine h_iaddN dL_law_1017 ?_
        refine h_sald dL_law_1018 rfl (vpL (by omega) hL) ?_
        refine h_aload_nS dL_law_1019 rfl ?_
        refine h_iload_n dL_law_1020 rfl ?_
        refine h_iconst dL_law_1021 ci_2 ?_
        refine h_iaddN dL_law_1022 ?_
        refine h_sald dL_law_1023 rfl (vpL (by omega) hL) ?_
        refine h_cV2 dL_law_1024 k6_213 oVX12_row rfl rfl ?_
        refine hR _ (fun I2 J2 lt2 tx2 hv2 => ?_)
        refine h_icmpeq (tgt := 1461) dL_law_1027 rfl (fun c_1027 => ?_) (fun c_1027 => ?_)
        · exact Ct I2 J2 lt2 tx2 e24 hv2
        · exact absurd rfl c_1027
      by_cases s25 : (xs (nI i).toNatClampNeg &&& nI 63) = nI 25
      · refine h_tableIn (off := 999) (tgt := 1032) dL_law_33 (by rw [s25]; decide) (by rw [s25]; decide) (by rw [s25]; decide) rfl ?_
        refine h_aload_n dL_law_1032 rfl ?_
        refine h_aload_nS dL_law_1033 rfl ?_
        refine h_iload_n dL_law_1034 rfl ?_
        refine h_iconst dL_law_1035 ci_1 ?_
        refine h_iaddN dL_law_1036 ?_
        refine h_sald dL_law_1037 rfl (vpL (by omega) hL) ?_
        refine h_aload_nS dL_law_1038 rfl ?_
        refine h_iload_n dL_law_1039 rfl ?_
        refine h_iconst dL_law_1040 ci_2 ?_
        refine h_iaddN dL_law_1041 ?_
        refine h_sald dL_law_1042 rfl (vpL (by omega) hL) ?_
        refine h_aload_nS dL_law_1043 rfl ?_
        refine h_iload_n dL_law_1044 rfl ?_
        refine h_iconst dL_law_1045 ci_3 ?_
        refine h_iaddN dL_law_1046 ?_
        refine h_sald dL_law_1047 rfl (vpL (by omega) hL) ?_
        refine h_cV3 dL_law_1048 k4_30 oVX11_alterRow rfl rfl ?_
        refine op_alterRow hv (fun v I1 J1 lt1 tx1 hR => ?_)
        refine h_aload_n dL_law_1051 rfl ?_
        refine h_aload_nS dL_law_1052 rfl ?_
        refine h_iload_n dL_law_1053 rfl ?_
        refine h_iconst dL_law_1054 ci_1 ?_
        refine h_iaddN dL_law_1055 ?_
        refine h_sald dL_law_1056 rfl (vpL (by omega) hL) ?_
        refine h_aload_nS dL_law_1057 rfl ?_
        refine h_iload_n dL_law_1058 rfl ?_
        refine h_iconst dL_law_1059 ci_2 ?_
        refine h_iaddN dL_law_1060 ?_
        refine h_sald dL_law_1061 rfl (vpL (by omega) hL) ?_
        refine h_aload_nS dL_law_1062 rfl ?_
        refine h_iload_n dL_law_1063 rfl ?_
        refine h_iconst dL_law_1064 ci_3 ?_
        refine h_iaddN dL_law_1065 ?_
        refine h_sald dL_law_1066 rfl (vpL (by omega) hL) ?_
        refine h_cV3 dL_law_1067 k6_221 oVX12_alterRow rfl rfl ?_
        refine hR _ (fun I2 J2 lt2 tx2 hv2 => ?_)
        refine h_icmpeq (tgt := 1461) dL_law_1070 rfl (fun c_1070 => ?_) (fun c_1070 => ?_)
        · exact Ct I2 J2 lt2 tx2 e24 hv2
        · exact absurd rfl c_1070
      by_cases s26 : (xs (nI i).toNatClampNeg &&& nI 63) = nI 26
      · refine h_tableIn (off := 1042) (tgt := 1075) dL_law_33 (by rw [s26]; decide) (by rw [s26]; decide) (by rw [s26]; decide) rfl ?_
        refine h_aload_n dL_law_1075 rfl ?_
        refine h_cV0 dL_law_1076 k4_34 oVX11_judge rfl rfl ?_
        refine op_judge hv (fun v I1 J1 lt1 tx1 hR => ?_)
        refine h_aload_n dL_law_1079 rfl ?_
        refine h_cV0 dL_law_1080 k6_225 oVX12_judge rfl rfl ?_
        refine hR _ (fun I2 J2 lt2 tx2 hv2 => ?_)
        refine h_icmpeq (tgt := 1461) dL_law_1083 rfl (fun c_1083 => ?_) (fun c_1083 => ?_)
        · exact Ct I2 J2 lt2 tx2 e24 hv2
        · exact absurd rfl c_1083
      by_cases s27 : (xs (nI i).toNatClampNeg &&& nI 63) = nI 27
      · refine h_tableIn (off := 1055) (tgt := 1088) dL_law_33 (by rw [s27]; decide) (by rw [s27]; decide) (by rw [s27]; decide) rfl ?_
        refine h_aload_n dL_law_1088 rfl ?_
        refine h_aload_nS dL_law_1089 rfl ?_
        refine h_iload_n dL_law_1090 rfl ?_
        refine h_iconst dL_law_1091 ci_1 ?_
        refine h_iaddN dL_law_1092 ?_
        refine h_sald dL_law_1093 rfl (vpL (by omega) hL) ?_
        refine h_aload_nS dL_law_1094 rfl ?_
        refine h_iload_n dL_law_1095 rfl ?_
        refine h_iconst dL_law_1096 ci_2 ?_
        refine h_iaddN dL_law_1097 ?_
        refine h_sald dL_law_1098 rfl (vpL (by omega) hL) ?_
        refine h_aload_nS dL_law_1099 rfl ?_
        refine h_iload_n dL_law_1100 rfl ?_
        refine h_iconst dL_law_1101 ci_3 ?_
        refine h_iaddN dL_law_1102 ?_
        refine h_sald dL_law_1103 rfl (vpL (by omega) hL) ?_
        refine h_cV3 dL_law_1104 k4_42 oVX11_sheet rfl rfl ?_
        refine op_sheet hv (fun v I1 J1 lt1 tx1 hR => ?_)
        refine h_aload_n dL_law_1107 rfl ?_
        refine h_aload_nS dL_law_1108 rfl ?_
        refine h_iload_n dL_law_1109 rfl ?_
        refine h_iconst dL_law_1110 ci_1 ?_
        refine h_iaddN dL_law_1111 ?_
        refine h_sald dL_law_1112 rfl (vpL (by omega) hL) ?_
        refine h_aload_nS dL_law_1113 rfl ?_
        refine h_iload_n dL_law_1114 rfl ?_
        refine h_iconst dL_law_1115 ci_2 ?_
        refine h_iaddN dL_law_1116 ?_
        refine h_sald dL_law_1117 rfl (vpL (by omega) hL) ?_
        refine h_aload_nS dL_law_1118 rfl ?_
        refine h_iload_n dL_law_1119 rfl ?_
        refine h_iconst dL_law_1120 ci_3 ?_
        refine h_iaddN dL_law_1121 ?_
        refine h_sald dL_law_1122 rfl (vpL (by omega) hL) ?_
        refine h_cV3 dL_law_1123 k6_229 oVX12_sheet rfl rfl ?_
        refine hR _ (fun I2 J2 lt2 tx2 hv2 => ?_)
        refine h_icmpeq (tgt := 1461) dL_law_1126 rfl (fun c_1126 => ?_) (fun c_1126 => ?_)
        · exact Ct I2 J2 lt2 tx2 e24 hv2
        · exact absurd rfl c_1126
      by_cases s28 : (xs (nI i).toNatClampNeg &&& nI 63) = nI 28
      · refine h_tableIn (off := 1098) (tgt := 1131) dL_law_33 (by rw [s28]; decide) (by rw [s28]; decide) (by rw [s28]; decide) rfl ?_
        refine h_aload_n dL_law_1131 rfl ?_
        refine h_aload_nS dL_law_1132 rfl ?_
        refine h_iload_n dL_law_1133 rfl ?_
        refine h_iconst dL_law_1134 ci_1 ?_
        refine h_iaddN dL_law_1135 ?_
        refine h_sald dL_law_1136 rfl (vpL (by omega) hL) ?_
        refine h_aload_nS dL_law_1137 rfl ?_
        refine h_iload_n dL_law_1138 rfl ?_
        refine h_iconst dL_law_1139 ci_2 ?_
        refine h_iaddN dL_law_1140 ?_
        refine h_sald dL_law_1141 rfl (vpL (by omega) hL) ?_
        refine h_aload_nS dL_law_1142 rfl ?_
        refine h_iload_n dL_law_1143 rfl ?_
        refine h_iconst dL_law_1144 ci_3 ?_
        refine h_iaddN dL_law_1145 ?_
        refine h_sald dL_law_1146 rfl (vpL (by omega) hL) ?_
        refine h_cV3 dL_law_1147 k4_49 oVX11_put rfl rfl ?_
        refine op_put hv (fun v I1 J1 lt1 tx1 hR => ?_)
        refine h_aload_n dL_law_1150 rfl ?_
        refine h_aload_nS dL_law_1151 rfl ?_
        refine h_iload_n dL_law_1152 rfl ?_
        refine h_iconst dL_law_1153 ci_1 ?_
        refine h_iaddN dL_law_1154 ?_
        refine h_sald dL_law_1155 rfl (vpL (by omega) hL) ?_
        refine h_aload_nS dL_law_1156 rfl ?_
        refine h_iload_n dL_law_1157 rfl ?_
        refine h_iconst dL_law_1158 ci_2 ?_
        refine h_iaddN dL_law_1159 ?_
        refine h_sald dL_law_1160 rfl (vpL (by omega) hL) ?_
        refine h_aload_nS dL_law_1161 rfl ?_
        refine h_iload_n dL_law_1162 rfl ?_
        refine h_iconst dL_law_1163 ci_3 ?_
        refine h_iaddN dL_law_1164 ?_
        refine h_sald dL_law_1165 rfl (vpL (by omega) hL) ?_
        refine h_cV3 dL_law_1166 k6_236 oVX12_put rfl rfl ?_
        refine hR _ (fun I2 J2 lt2 tx2 hv2 => ?_)
        refine h_icmpeq (tgt := 1461) dL_law_1169 rfl (fun c_1169 => ?_) (fun c_1169 => ?_)
        · exact Ct I2 J2 lt2 tx2 e24 hv2
        · exact absurd rfl c_1169
      by_cases s29 : (xs (nI i).toNatClampNeg &&& nI 63) = nI 29
      · refine h_tableIn (off := 1141) (tgt := 1174) dL_law_33 (by rw [s29]; decide) (by rw [s29]; decide) (by rw [s29]; decide) rfl ?_
        refine h_aload_n dL_law_1174 rfl ?_
        refine h_aload_nS dL_law_1175 rfl ?_
        refine h_iload_n dL_law_1176 rfl ?_
        refine h_iconst dL_law_1177 ci_1 ?_
        refine h_iaddN dL_law_1178 ?_
        refine h_sald dL_law_1179 rfl (vpL (by omega) hL) ?_
        refine h_aload_nS dL_law_1180 rfl ?_
        refine h_iload_n dL_law_1181 rfl ?_
        refine h_iconst dL_law_1182 ci_2 ?_
        refine h_iaddN dL_law_1183 ?_
        refine h_sald dL_law_1184 rfl (vpL (by omega) hL) ?_
        refine h_aload_nS dL_law_1185 rfl ?_
        refine h_iload_n dL_law_1186 rfl ?_
        refine h_iconst dL_law_1187 ci_3 ?_
        refine h_iaddN dL_law_1188 ?_
        refine h_sald dL_law_1189 rfl (vpL (by omega) hL) ?_
        refine h_cV3 dL_law_1190 k4_56 oVX11_item rfl rfl ?_
        refine op_item hv (fun v I1 J1 lt1 tx1 hR => ?_)
        refine h_aload_n dL_law_1193 rfl ?_
        refine h_aload_nS dL_law_1194 rfl ?_
        refine h_iload_n dL_law_1195 rfl ?_
        refine h_iconst dL_law_1196 ci_1 ?_
        refine h_iaddN dL_law_1197 ?_
        refine h_sald dL_law_1198 rfl (vpL (by omega) hL) ?_
        refine h_aload_nS dL_law_1199 rfl ?_
        refine h_iload_n dL_law_1200 rfl ?_
        refine h_iconst dL_law_1201 ci_2 ?_
        refine h_iaddN dL_law_1202 ?_
        refine h_sald dL_law_1203 rfl (vpL (by omega) hL) ?_
        refine h_aload_nS dL_law_1204 rfl ?_
        refine h_iload_n dL_law_1205 rfl ?_
        refine h_iconst dL_law_1206 ci_3 ?_
        refine h_iaddN dL_law_1207 ?_
        refine h_sald dL_law_1208 rfl (vpL (by omega) hL) ?_
        refine h_cV3 dL_law_1209 k7_0 oVX12_item rfl rfl ?_
        refine hR _ (fun I2 J2 lt2 tx2 hv2 => ?_)
        refine h_icmpeq (tgt := 1461) dL_law_1212 rfl (fun c_1212 => ?_) (fun c_1212 => ?_)
        · exact Ct I2 J2 lt2 tx2 e24 hv2
        · exact absurd rfl c_1212
      by_cases s30 : (xs (nI i).toNatClampNeg &&& nI 63) = nI 30
      · refine h_tableIn (off := 1184) (tgt := 1217) dL_law_33 (by rw [s30]; decide) (by rw [s30]; decide) (by rw [s30]; decide) rfl ?_
        refine h_aload_n dL_law_1217 rfl ?_
        refine h_aload_nS dL_law_1218 rfl ?_
        refine h_iload_n dL_law_1219 rfl ?_
        refine h_iconst dL_law_1220 ci_1 ?_
        refine h_iaddN dL_law_1221 ?_
        refine h_sald dL_law_1222 rfl (vpL (by omega) hL) ?_
        refine h_aload_nS dL_law_1223 rfl ?_
        refine h_iload_n dL_law_1224 rfl ?_
        refine h_iconst dL_law_1225 ci_2 ?_
        refine h_iaddN dL_law_1226 ?_
        refine h_sald dL_law_1227 rfl (vpL (by omega) hL) ?_
        refine h_aload_nS dL_law_1228 rfl ?_
        refine h_iload_n dL_law_1229 rfl ?_
        refine h_iconst dL_law_1230 ci_3 ?_
        refine h_iaddN dL_law_1231 ?_
        refine h_sald dL_law_1232 rfl (vpL (by omega) hL) ?_
        refine h_aload_nS dL_law_1233 rfl ?_
        refine h_iload_n dL_law_1234 rfl ?_
        refine h_iconst dL_law_1235 ci_4 ?_
        refine h_iaddN dL_law_1236 ?_
        refine h_sald dL_law_1237 rfl (vpL (by omega) hL) ?_
        refine h_cV4 dL_law_1238 k4_64 oVX11_book rfl rfl ?_
        refine op_book hv (fun v I1 J1 lt1 tx1 hR => ?_)
        refine h_aload_n dL_law_1241 rfl ?_
        refine h_aload_nS dL_law_1242 rfl ?_
        refine h_iload_n dL_law_1243 rfl ?_
        refine h_iconst dL_law_1244 ci_1 ?_
        refine h_iaddN dL_law_1245 ?_
        refine h_sald dL_law_1246 rfl (vpL (by omega) hL) ?_
        refine h_aload_nS dL_law_1247 rfl ?_
        refine h_iload_n dL_law_1248 rfl ?_
        refine h_iconst dL_law_1249 ci_2 ?_
        refine h_iaddN dL_law_1250 ?_
        refine h_sald dL_law_1251 rfl (vpL (by omega) hL) ?_
        refine h_aload_nS dL_law_1252 rfl ?_
        refine h_iload_n dL_law_1253 rfl ?_
        refine h_iconst dL_law_1254 ci_3 ?_
        refine h_iaddN dL_law_1255 ?_
        refine h_sald dL_law_1256 rfl (vpL (by omega) hL) ?_
        refine h_aload_nS dL_law_1257 rfl ?_
        refine h_iload_n dL_law_1258 rfl ?_
        refine h_iconst dL_law_1259 ci_4 ?_
        refine h_iaddN dL_law_1260 ?_
        refine h_sald dL_law_1261 rfl (vpL (by omega) hL) ?_
        refine h_cV4 dL_law_1262 k7_8 oVX12_book rfl rfl ?_
        refine hR _ (fun I2 J2 lt2 tx2 hv2 => ?_)
        refine h_icmpeq (tgt := 1461) dL_law_1265 rfl (fun c_1265 => ?_) (fun c_1265 => ?_)
        · exact Ct I2 J2 lt2 tx2 e24 hv2
        · exact absurd rfl c_1265
      by_cases s31 : (xs (nI i).toNatClampNeg &&& nI 63) = nI 31
      · refine h_tableIn (off := 1237) (tgt := 1270) dL_law_33 (by rw [s31]; decide) (by rw [s31]; decide) (by rw [s31]; decide) rfl ?_
        refine h_aload_n dL_law_1270 rfl ?_
        refine h_aload_nS dL_law_1271 rfl ?_
        refine h_iload_n dL_law_1272 rfl ?_
        refine h_iconst dL_law_1273 ci_1 ?_
        refine h_iaddN dL_law_1274 ?_
        refine h_sald dL_law_1275 rfl (vpL (by omega) hL) ?_
        refine h_aload_nS dL_law_1276 rfl ?_
        refine h_iload_n dL_law_1277 rfl ?_
        refine h_iconst dL_law_1278 ci_2 ?_
        refine h_iaddN dL_law_1279 ?_
        refine h_sald dL_law_1280 rfl (vpL (by omega) hL) ?_
        refine h_aload_nS dL_law_1281 rfl ?_
        refine h_iload_n dL_law_1282 rfl ?_
        refine h_iconst dL_law_1283 ci_3 ?_
        refine h_iaddN dL_law_1284 ?_
        refine h_sald dL_law_1285 rfl (vpL (by omega) hL) ?_
        refine h_cV3 dL_law_1286 k4_68 oVX11_shelf rfl rfl ?_
        refine op_shelf hv (fun v I1 J1 lt1 tx1 hR => ?_)
        refine h_aload_n dL_law_1289 rfl ?_
        refine h_aload_nS dL_law_1290 rfl ?_
        refine h_iload_n dL_law_1291 rfl ?_
        refine h_iconst dL_law_1292 ci_1 ?_
        refine h_iaddN dL_law_1293 ?_
        refine h_sald dL_law_1294 rfl (vpL (by omega) hL) ?_
        refine h_aload_nS dL_law_1295 rfl ?_
        refine h_iload_n dL_law_1296 rfl ?_
        refine h_iconst dL_law_1297 ci_2 ?_
        refine h_iaddN dL_law_1298 ?_
        refine h_sald dL_law_1299 rfl (vpL (by omega) hL) ?_
        refine h_aload_nS dL_law_1300 rfl ?_
        refine h_iload_n dL_law_1301 rfl ?_
        refine h_iconst dL_law_1302 ci_3 ?_
        refine h_iaddN dL_law_1303 ?_
        refine h_sald dL_law_1304 rfl (vpL (by omega) hL) ?_
        refine h_cV3 dL_law_1305 k7_13 oVX12_shelf rfl rfl ?_
        refine hR _ (fun I2 J2 lt2 tx2 hv2 => ?_)
        refine h_icmpeq (tgt := 1461) dL_law_1308 rfl (fun c_1308 => ?_) (fun c_1308 => ?_)
        · exact Ct I2 J2 lt2 tx2 e24 hv2
        · exact absurd rfl c_1308
      by_cases s32 : (xs (nI i).toNatClampNeg &&& nI 63) = nI 32
      · refine h_tableIn (off := 1280) (tgt := 1313) dL_law_33 (by rw [s32]; decide) (by rw [s32]; decide) (by rw [s32]; decide) rfl ?_
        refine h_aload_n dL_law_1313 rfl ?_
        refine h_aload_nS dL_law_1314 rfl ?_
        refine h_iload_n dL_law_1315 rfl ?_
        refine h_iconst dL_law_1316 ci_1 ?_
        refine h_iaddN dL_law_1317 ?_
        refine h_sald dL_law_1318 rfl (vpL (by omega) hL) ?_
        refine h_aload_nS dL_law_1319 rfl ?_
        refine h_iload_n dL_law_1320 rfl ?_
        refine h_iconst dL_law_1321 ci_2 ?_
        refine h_iaddN dL_law_1322 ?_
        refine h_sald dL_law_1323 rfl (vpL (by omega) hL) ?_
        refine h_cV2 dL_law_1324 k4_79 oVX11_taken rfl rfl ?_
        refine op_taken hv (fun v I1 J1 lt1 tx1 hR => ?_)
        refine h_aload_n dL_law_1327 rfl ?_
        refine h_aload_nS dL_law_1328 rfl ?_
        refine h_iload_n dL_law_1329 rfl ?_
        refine h_iconst dL_law_1330 ci_1 ?_
        refine h_iaddN dL_law_1331 ?_
        refine h_sald dL_law_1332 rfl (vpL (by omega) hL) ?_
        refine h_aload_nS dL_law_1333 rfl ?_
        refine h_iload_n dL_law_1334 rfl ?_
        refine h_iconst dL_law_1335 ci_2 ?_
        refine h_iaddN dL_law_1336 ?_
        refine h_sald dL_law_1337 rfl (vpL (by omega) hL) ?_
        refine h_cV2 dL_law_1338 k7_21 oVX12_taken rfl rfl ?_
        refine hR _ (fun I2 J2 lt2 tx2 hv2 => ?_)
        refine h_icmpeq (tgt := 1461) dL_law_1341 rfl (fun c_1341 => ?_) (fun c_1341 => ?_)
        · exact Ct I2 J2 lt2 tx2 e24 hv2
        · exact absurd rfl c_1341
      by_cases s33 : (xs (nI i).toNatClampNeg &&& nI 63) = nI 33
      · refine h_tableIn (off := 1313) (tgt := 1346) dL_law_33 (by rw [s33]; decide) (by rw [s33]; decide) (by rw [s33]; decide) rfl ?_
        refine h_aload_n dL_law_1346 rfl ?_
        refine h_aload_nS dL_law_1347 rfl ?_
        refine h_iload_n dL_law_1348 rfl ?_
        refine h_iconst dL_law_1349 ci_1 ?_
        refine h_iaddN dL_law_1350 ?_
        refine h_sald dL_law_1351 rfl (vpL (by omega) hL) ?_
        refine h_aload_nS dL_law_1352 rfl ?_
        refine h_iload_n dL_law_1353 rfl ?_
        refine h_iconst dL_law_1354 ci_2 ?_
        refine h_iaddN dL_law_1355 ?_
        refine h_sald dL_law_1356 rfl (vpL (by omega) hL) ?_
        refine h_aload_nS dL_law_1357 rfl ?_
        refine h_iload_n dL_law_1358 rfl ?_
        refine h_iconst dL_law_1359 ci_3 ?_
        refine h_iaddN dL_law_1360 ?_
        refine h_sald dL_law_1361 rfl (vpL (by omega) hL) ?_
        refine h_cV3 dL_law_1362 k4_90 oVX11_act rfl rfl ?_
        refine op_act hv (fun v I1 J1 lt1 tx1 hR => ?_)
        refine h_aload_n dL_law_1365 rfl ?_
        refine h_aload_nS dL_law_1366 rfl ?_
        refine h_iload_n dL_law_1367 rfl ?_
        refine h_iconst dL_law_1368 ci_1 ?_
        refine h_iaddN dL_law_1369 ?_
        refine h_sald dL_law_1370 rfl (vpL (by omega) hL) ?_
        refine h_aload_nS dL_law_1371 rfl ?_
        refine h_iload_n dL_law_1372 rfl ?_
        refine h_iconst dL_law_1373 ci_2 ?_
        refine h_iaddN dL_law_1374 ?_
        refine h_sald dL_law_1375 rfl (vpL (by omega) hL) ?_
        refine h_aload_nS dL_law_1376 rfl ?_
        refine h_iload_n dL_law_1377 rfl ?_
        refine h_iconst dL_law_1378 ci_3 ?_
        refine h_iaddN dL_law_1379 ?_
        refine h_sald dL_law_1380 rfl (vpL (by omega) hL) ?_
        refine h_cV3 dL_law_1381 k7_32 oVX12_act rfl rfl ?_
        refine hR _ (fun I2 J2 lt2 tx2 hv2 => ?_)
        refine h_icmpeq (tgt := 1461) dL_law_1384 rfl (fun c_1384 => ?_) (fun c_1384 => ?_)
        · exact Ct I2 J2 lt2 tx2 e24 hv2
        · exact absurd rfl c_1384
      by_cases s34 : (xs (nI i).toNatClampNeg &&& nI 63) = nI 34
      · refine h_tableIn (off := 1356) (tgt := 1389) dL_law_33 (by rw [s34]; decide) (by rw [s34]; decide) (by rw [s34]; decide) rfl ?_
        refine h_aload_n dL_law_1389 rfl ?_
        refine h_aload_nS dL_law_1390 rfl ?_
        refine h_iload_n dL_law_1391 rfl ?_
        refine h_iconst dL_law_1392 ci_1 ?_
        refine h_iaddN dL_law_1393 ?_
        refine h_sald dL_law_1394 rfl (vpL (by omega) hL) ?_
        refine h_cV1 dL_law_1395 k4_197 oVX11_trace rfl rfl ?_
        refine op_trace hv (fun v I1 J1 lt1 tx1 hR => ?_)
        refine h_aload_n dL_law_1398 rfl ?_
        refine h_aload_nS dL_law_1399 rfl ?_
        refine h_iload_n dL_law_1400 rfl ?_
        refine h_iconst dL_law_1401 ci_1 ?_
        refine h_iaddN dL_law_1402 ?_
        refine h_sald dL_law_1403 rfl (vpL (by omega) hL) ?_
        refine h_cV1 dL_law_1404 k7_68 oVX12_trace rfl rfl ?_
        refine hR _ (fun I2 J2 lt2 tx2 hv2 => ?_)
        refine h_icmpeq (tgt := 1461) dL_law_1407 rfl (fun c_1407 => ?_) (fun c_1407 => ?_)
        · exact Ct I2 J2 lt2 tx2 e24 hv2
        · exact absurd rfl c_1407
      by_cases s35 : (xs (nI i).toNatClampNeg &&& nI 63) = nI 35
      · refine h_tableIn (off := 1379) (tgt := 1412) dL_law_33 (by rw [s35]; decide) (by rw [s35]; decide) (by rw [s35]; decide) rfl ?_
        refine h_aload_n dL_law_1412 rfl ?_
        refine h_aload_nS dL_law_1413 rfl ?_
        refine h_iload_n dL_law_1414 rfl ?_
        refine h_iconst dL_law_1415 ci_1 ?_
        refine h_iaddN dL_law_1416 ?_
        refine h_sald dL_law_1417 rfl (vpL (by omega) hL) ?_
        refine h_cV1 dL_law_1418 k4_211 oVX11_many rfl rfl ?_
        refine op_many hv (fun v I1 J1 lt1 tx1 hR => ?_)
        refine h_aload_n dL_law_1421 rfl ?_
        refine h_aload_nS dL_law_1422 rfl ?_
        refine h_iload_n dL_law_1423 rfl ?_
        refine h_iconst dL_law_1424 ci_1 ?_
        refine h_iaddN dL_law_1425 ?_
        refine h_sald dL_law_1426 rfl (vpL (by omega) hL) ?_
        refine h_cV1 dL_law_1427 k7_72 oVX12_many rfl rfl ?_
        refine hR _ (fun I2 J2 lt2 tx2 hv2 => ?_)
        refine h_icmpeq (tgt := 1461) dL_law_1430 rfl (fun c_1430 => ?_) (fun c_1430 => ?_)
        · exact Ct I2 J2 lt2 tx2 e24 hv2
        · exact absurd rfl c_1430
      by_cases s36 : (xs (nI i).toNatClampNeg &&& nI 63) = nI 36
      · refine h_tableIn (off := 1402) (tgt := 1435) dL_law_33 (by rw [s36]; decide) (by rw [s36]; decide) (by rw [s36]; decide) rfl ?_
        refine h_aload_n dL_law_1435 rfl ?_
        refine h_cV0 dL_law_1436 k4_219 oVX11_keep rfl rfl ?_
        refine op_keep hv (fun v I1 J1 lt1 tx1 hR => ?_)
        refine h_aload_n dL_law_1439 rfl ?_
        refine h_cV0 dL_law_1440 k7_80 oVX12_keep rfl rfl ?_
        refine hR _ (fun I2 J2 lt2 tx2 hv2 => ?_)
        refine h_icmpeq (tgt := 1461) dL_law_1443 rfl (fun c_1443 => ?_) (fun c_1443 => ?_)
        · exact Ct I2 J2 lt2 tx2 e24 hv2
        · exact absurd rfl c_1443
      by_cases s37 : (xs (nI i).toNatClampNeg &&& nI 63) = nI 37
      · refine h_tableIn (off := 1415) (tgt := 1448) dL_law_33 (by rw [s37]; decide) (by rw [s37]; decide) (by rw [s37]; decide) rfl ?_
        refine h_aload_n dL_law_1448 rfl ?_
        refine h_cV0 dL_law_1449 k4_234 oVX11_back rfl rfl ?_
        refine op_back hv (fun v I1 J1 lt1 tx1 hR => ?_)
        refine h_aload_n dL_law_1452 rfl ?_
        refine h_cV0 dL_law_1453 k7_92 oVX12_back rfl rfl ?_
        refine hR _ (fun I2 J2 lt2 tx2 hv2 => ?_)
        refine h_icmpeq (tgt := 1461) dL_law_1456 rfl (fun c_1456 => ?_) (fun c_1456 => ?_)
        · exact Ct I2 J2 lt2 tx2 e24 hv2
        · exact absurd rfl c_1456
      refine h_tableOut (tgt := 1461) dL_law_33 (by have q0 := ti_ne s0 (by decide); have q1 := ti_ne s1 (by decide); have q2 := ti_ne s2 (by decide); have q3 := ti_ne s3 (by decide); have q4 := ti_ne s4 (by decide); have q5 := ti_ne s5 (by decide); have q6 := ti_ne s6 (by decide); have q7 := ti_ne s7 (by decide); have q8 := ti_ne s8 (by decide); have q9 := ti_ne s9 (by decide); have q10 := ti_ne s10 (by decide); have q11 := ti_ne s11 (by decide); have q12 := ti_ne s12 (by decide); have q13 := ti_ne s13 (by decide); have q14 := ti_ne s14 (by decide); have q15 := ti_ne s15 (by decide); have q16 := ti_ne s16 (by decide); have q17 := ti_ne s17 (by decide); have q18 := ti_ne s18 (by decide); have q19 := ti_ne s19 (by decide); have q20 := ti_ne s20 (by decide); have q21 := ti_ne s21 (by decide); have q22 := ti_ne s22 (by decide); have q23 := ti_ne s23 (by decide); have q24 := ti_ne s24 (by decide); have q25 := ti_ne s25 (by decide); have q26 := ti_ne s26 (by decide); have q27 := ti_ne s27 (by decide); have q28 := ti_ne s28 (by decide); have q29 := ti_ne s29 (by decide); have q30 := ti_ne s30 (by decide); have q31 := ti_ne s31 (by decide); have q32 := ti_ne s32 (by decide); have q33 := ti_ne s33 (by decide); have q34 := ti_ne s34 (by decide); have q35 := ti_ne s35 (by decide); have q36 := ti_ne s36 (by decide); have q37 := ti_ne s37 (by decide); omega) rfl ?_
      exact Ct I J lt tx e24 hv
