set_option maxHeartbeats 1000000 in
set_option maxRecDepth 100000 in
theorem lc_0 (l : Launch) (G : az_Gh) (F : az_Fn) (bc bs i : Nat) (sh : List az_Sh) (sg : Nat → Nat → Int32) (la : Nat → Nat → Int64) (σ : SGM) (kp tr : Option Nat) (hL : (az_ex G 1003).1 < 2 ^ 31) (hi : i + 6 ≤ (az_ex G 1003).1) (hI : LI sh sg la σ kp tr bc bs) (back : ∀ (sh : List az_Sh) (sg : Nat → Nat → Int32) (la : Nat → Nat → Int64) (σ : SGM) (kp tr : Option Nat) (bc bs : Nat), LI sh sg la σ kp tr bc bs → AW l G mL_law 2048 F bc bs 1791 [some (.ref 1003), some (.ref 0), some (.ref 60), some (.int (nI i))] [] (sh, sg, la)) : AW l G mL_law 2048 F bc bs 272 [some (.ref 1003), some (.ref 0), some (.ref 60), some (.int (nI i))] [] (sh, sg, la) := by
  obtain ⟨hX, hS, hK, hR, hb⟩ := hI
  refine A_aload_n dL_law_272 rfl rfl ?_
  refine A_aload_n dL_law_273 rfl rfl ?_
  refine A_iload_n dL_law_274 rfl rfl ?_
  refine A_iconst (v := 1) dL_law_275 (by decide) ?_
  refine A_iadd dL_law_276 ?_
  refine A_eald (k := 1003) (i := i + 1) dL_law_277 (by decide) (by decide) (by omega) hL (nI_add i 1) ?_
  refine A_aload_n dL_law_278 rfl rfl ?_
  refine A_iload_n dL_law_279 rfl rfl ?_
  refine A_iconst (v := 2) dL_law_280 (by decide) ?_
  refine A_iadd dL_law_281 ?_
  refine A_eald (k := 1003) (i := i + 2) dL_law_282 (by decide) (by decide) (by omega) hL (nI_add i 2) ?_
  refine A_aload_n dL_law_283 rfl rfl ?_
  refine A_iload_n dL_law_284 rfl rfl ?_
  refine A_iconst (v := 3) dL_law_285 (by decide) ?_
  refine A_iadd dL_law_286 ?_
  refine A_eald (k := 1003) (i := i + 3) dL_law_287 (by decide) (by decide) (by omega) hL (nI_add i 3) ?_
  refine A_callV (n := 0) dL_law_288 kvX7_row mlL_13 rfl (az_rc_obj clX7 (hX 0 _ rfl)) (x_row l G 2000 sh sg la (sg, la) σ ((az_ex G 1003).2 (i + 1)) ((az_ex G 1003).2 (i + 2)) ((az_ex G 1003).2 (i + 3)) hX hK) (by decide) (Nat.le_refl _) (Nat.le_refl _) rfl (Nat.le_of_ble_eq_true rfl) (fun r S1 hp => ?_)
  obtain ⟨rfl, sg1, la1, rfl, hK1⟩ := hp
  show AW l G mL_law 2048 F bc bs 291 [some (.ref 1003), some (.ref 0), some (.ref 60), some (.int (nI i))] [.int (q_row σ ((az_ex G 1003).2 (i + 1)) ((az_ex G 1003).2 (i + 2)) ((az_ex G 1003).2 (i + 3))).1] (sh, sg1, la1)
  have hR1 := hR.mv hK1
  refine A_aload_n dL_law_291 rfl rfl ?_
  refine A_aload_n dL_law_292 rfl rfl ?_
  refine A_iload_n dL_law_293 rfl rfl ?_
  refine A_iconst (v := 1) dL_law_294 (by decide) ?_
  refine A_iadd dL_law_295 ?_
  refine A_eald (k := 1003) (i := i + 1) dL_law_296 (by decide) (by decide) (by omega) hL (nI_add i 1) ?_
  refine A_aload_n dL_law_297 rfl rfl ?_
  refine A_iload_n dL_law_298 rfl rfl ?_
  refine A_iconst (v := 2) dL_law_299 (by decide) ?_
  refine A_iadd dL_law_300 ?_
  refine A_eald (k := 1003) (i := i + 2) dL_law_301 (by decide) (by decide) (by omega) hL (nI_add i 2) ?_
  refine A_aload_n dL_law_302 rfl rfl ?_
  refine A_iload_n dL_law_303 rfl rfl ?_
  refine A_iconst (v := 3) dL_law_304 (by decide) ?_
  refine A_iadd dL_law_305 ?_
  refine A_eald (k := 1003) (i := i + 3) dL_law_306 (by decide) (by decide) (by omega) hL (nI_add i 3) ?_
  refine A_callV (n := 0) dL_law_307 kvX8_row mlL_17 rfl (az_rc_obj clX8 (hS.1 0 _ rfl)) (y_row l G 2000 sh sg1 la1 (sg1, la1) σ kp tr ((az_ex G 1003).2 (i + 1)) ((az_ex G 1003).2 (i + 2)) ((az_ex G 1003).2 (i + 3)) hS.1 hR1 hK.wf) (by decide) (Nat.le_refl _) (Nat.le_refl _) rfl (Nat.le_of_ble_eq_true rfl) (fun r S1 hp => ?_)
  obtain ⟨rfl, sg2, la2, rfl, hR2⟩ := hp
  show AW l G mL_law 2048 F bc bs 310 [some (.ref 1003), some (.ref 0), some (.ref 60), some (.int (nI i))] [.int (q_row σ ((az_ex G 1003).2 (i + 1)) ((az_ex G 1003).2 (i + 2)) ((az_ex G 1003).2 (i + 3))).1, .int (q_row σ ((az_ex G 1003).2 (i + 1)) ((az_ex G 1003).2 (i + 2)) ((az_ex G 1003).2 (i + 3))).1] (sh, sg2, la2)
  refine A_icmp_eq (tgt := 1791) dL_law_310 rfl (fun _ => ?_) (fun h => absurd rfl h)
  exact back sh sg2 la2 _ _ _ bc bs (LI_go hX hS hK1 hR2 hb)
set_option maxHeartbeats 1000000 in
set_option maxRecDepth 100000 in
theorem lc_1 (l : Launch) (G : az_Gh) (F : az_Fn) (bc bs i : Nat) (sh : List az_Sh) (sg : Nat → Nat → Int32) (la : Nat → Nat → Int64) (σ : SGM) (kp tr : Option Nat) (hL : (az_ex G 1003).1 < 2 ^ 31) (hi : i + 6 ≤ (az_ex G 1003).1) (hI : LI sh sg la σ kp tr bc bs) (back : ∀ (sh : List az_Sh) (sg : Nat → Nat → Int32) (la : Nat → Nat → Int64) (σ : SGM) (kp tr : Option Nat) (bc bs : Nat), LI sh sg la σ kp tr bc bs → AW l G mL_law 2048 F bc bs 1791 [some (.ref 1003), some (.ref 0), some (.ref 60), some (.int (nI i))] [] (sh, sg, la)) : AW l G mL_law 2048 F bc bs 315 [some (.ref 1003), some (.ref 0), some (.ref 60), some (.int (nI i))] [] (sh, sg, la) := by
  obtain ⟨hX, hS, hK, hR, hb⟩ := hI
  refine A_aload_n dL_law_315 rfl rfl ?_
  refine A_aload_n dL_law_316 rfl rfl ?_
  refine A_iload_n dL_law_317 rfl rfl ?_
  refine A_iconst (v := 1) dL_law_318 (by decide) ?_
  refine A_iadd dL_law_319 ?_
  refine A_eald (k := 1003) (i := i + 1) dL_law_320 (by decide) (by decide) (by omega) hL (nI_add i 1) ?_
  refine A_aload_n dL_law_321 rfl rfl ?_
  refine A_iload_n dL_law_322 rfl rfl ?_
  refine A_iconst (v := 2) dL_law_323 (by decide) ?_
  refine A_iadd dL_law_324 ?_
  refine A_eald (k := 1003) (i := i + 2) dL_law_325 (by decide) (by decide) (by omega) hL (nI_add i 2) ?_
  refine A_aload_n dL_law_326 rfl rfl ?_
  refine A_iload_n dL_law_327 rfl rfl ?_
  refine A_iconst (v := 3) dL_law_328 (by decide) ?_
  refine A_iadd dL_law_329 ?_
  refine A_eald (k := 1003) (i := i + 3) dL_law_330 (by decide) (by decide) (by omega) hL (nI_add i 3) ?_
  refine A_i2l dL_law_331 ?_
  refine A_bipush (v := 32) dL_law_332 (by decide) ?_
  refine A_lshl dL_law_334 ?_
  refine A_aload_n dL_law_335 rfl rfl ?_
  refine A_iload_n dL_law_336 rfl rfl ?_
  refine A_iconst (v := 4) dL_law_337 (by decide) ?_
  refine A_iadd dL_law_338 ?_
  refine A_eald (k := 1003) (i := i + 4) dL_law_339 (by decide) (by decide) (by omega) hL (nI_add i 4) ?_
  refine A_i2l dL_law_340 ?_
  refine A_ldc2 (v := 4294967295) dL_law_341 lcL_18 ?_
  refine A_land dL_law_344 ?_
  refine A_lor dL_law_345 ?_
  refine A_callV (n := 0) dL_law_346 kvX7_set mlL_20 rfl (az_rc_obj clX7 (hX 0 _ rfl)) (x_set l G 2000 sh sg la (sg, la) σ ((az_ex G 1003).2 (i + 1)) ((az_ex G 1003).2 (i + 2)) (((((az_ex G 1003).2 (i + 3))).toInt64 <<< ((32 : Int32).toInt64 &&& 63)) ||| ((((az_ex G 1003).2 (i + 4))).toInt64 &&& (4294967295))) hX hK) (by decide) (Nat.le_refl _) (Nat.le_refl _) rfl (Nat.le_of_ble_eq_true rfl) (fun r S1 hp => ?_)
  obtain ⟨rfl, sg1, la1, rfl, hK1⟩ := hp
  show AW l G mL_law 2048 F bc bs 349 [some (.ref 1003), some (.ref 0), some (.ref 60), some (.int (nI i))] [.int (q_set σ ((az_ex G 1003).2 (i + 1)) ((az_ex G 1003).2 (i + 2)) (((((az_ex G 1003).2 (i + 3))).toInt64 <<< ((32 : Int32).toInt64 &&& 63)) ||| ((((az_ex G 1003).2 (i + 4))).toInt64 &&& (4294967295)))).1] (sh, sg1, la1)
  have hR1 := hR.mv hK1
  refine A_aload_n dL_law_349 rfl rfl ?_
  refine A_aload_n dL_law_350 rfl rfl ?_
  refine A_iload_n dL_law_351 rfl rfl ?_
  refine A_iconst (v := 1) dL_law_352 (by decide) ?_
  refine A_iadd dL_law_353 ?_
  refine A_eald (k := 1003) (i := i + 1) dL_law_354 (by decide) (by decide) (by omega) hL (nI_add i 1) ?_
  refine A_aload_n dL_law_355 rfl rfl ?_
  refine A_iload_n dL_law_356 rfl rfl ?_
  refine A_iconst (v := 2) dL_law_357 (by decide) ?_
  refine A_iadd dL_law_358 ?_
  refine A_eald (k := 1003) (i := i + 2) dL_law_359 (by decide) (by decide) (by omega) hL (nI_add i 2) ?_
  refine A_aload_n dL_law_360 rfl rfl ?_
  refine A_iload_n dL_law_361 rfl rfl ?_
  refine A_iconst (v := 3) dL_law_362 (by decide) ?_
  refine A_iadd dL_law_363 ?_
  refine A_eald (k := 1003) (i := i + 3) dL_law_364 (by decide) (by decide) (by omega) hL (nI_add i 3) ?_
  refine A_i2l dL_law_365 ?_
  refine A_bipush (v := 32) dL_law_366 (by decide) ?_
  refine A_lshl dL_law_368 ?_
  refine A_aload_n dL_law_369 rfl rfl ?_
  refine A_iload_n dL_law_370 rfl rfl ?_
  refine A_iconst (v := 4) dL_law_371 (by decide) ?_
  refine A_iadd dL_law_372 ?_
  refine A_eald (k := 1003) (i := i + 4) dL_law_373 (by decide) (by decide) (by omega) hL (nI_add i 4) ?_
  refine A_i2l dL_law_374 ?_
  refine A_ldc2 (v := 4294967295) dL_law_375 lcL_18 ?_
  refine A_land dL_law_378 ?_
  refine A_lor dL_law_379 ?_
  refine A_callV (n := 0) dL_law_380 kvX8_set mlL_24 rfl (az_rc_obj clX8 (hS.1 0 _ rfl)) (y_set l G 2000 sh sg1 la1 (sg1, la1) σ kp tr ((az_ex G 1003).2 (i + 1)) ((az_ex G 1003).2 (i + 2)) (((((az_ex G 1003).2 (i + 3))).toInt64 <<< ((32 : Int32).toInt64 &&& 63)) ||| ((((az_ex G 1003).2 (i + 4))).toInt64 &&& (4294967295))) hS.1 hR1 hK.wf) (by decide) (Nat.le_refl _) (Nat.le_refl _) rfl (Nat.le_of_ble_eq_true rfl) (fun r S1 hp => ?_)
  obtain ⟨rfl, sg2, la2, rfl, hR2⟩ := hp
  show AW l G mL_law 2048 F bc bs 383 [some (.ref 1003), some (.ref 0), some (.ref 60), some (.int (nI i))] [.int (q_set σ ((az_ex G 1003).2 (i + 1)) ((az_ex G 1003).2 (i + 2)) (((((az_ex G 1003).2 (i + 3))).toInt64 <<< ((32 : Int32).toInt64 &&& 63)) ||| ((((az_ex G 1003).2 (i + 4))).toInt64 &&& (4294967295)))).1, .int (q_set σ ((az_ex G 1003).2 (i + 1)) ((az_ex G 1003).2 (i + 2)) (((((az_ex G 1003).2 (i + 3))).toInt64 <<< ((32 : Int32).toInt64 &&& 63)) ||| ((((az_ex G 1003).2 (i + 4))).toInt64 &&& (4294967295)))).1] (sh, sg2, la2)
  refine A_icmp_eq (tgt := 1791) dL_law_383 rfl (fun _ => ?_) (fun h => absurd rfl h)
  exact back sh sg2 la2 _ _ _ bc bs (LI_go hX hS hK1 hR2 hb)
set_option maxHeartbeats 1000000 in
set_option maxRecDepth 100000 in
theorem lc_2 (l : Launch) (G : az_Gh) (F : az_Fn) (bc bs i : Nat) (sh : List az_Sh) (sg : Nat → Nat → Int32) (la : Nat → Nat → Int64) (σ : SGM) (kp tr : Option Nat) (hL : (az_ex G 1003).1 < 2 ^ 31) (hi : i + 6 ≤ (az_ex G 1003).1) (hI : LI sh sg la σ kp tr bc bs) (back : ∀ (sh : List az_Sh) (sg : Nat → Nat → Int32) (la : Nat → Nat → Int64) (σ : SGM) (kp tr : Option Nat) (bc bs : Nat), LI sh sg la σ kp tr bc bs → AW l G mL_law 2048 F bc bs 1791 [some (.ref 1003), some (.ref 0), some (.ref 60), some (.int (nI i))] [] (sh, sg, la)) : AW l G mL_law 2048 F bc bs 388 [some (.ref 1003), some (.ref 0), some (.ref 60), some (.int (nI i))] [] (sh, sg, la) := by
  obtain ⟨hX, hS, hK, hR, hb⟩ := hI
  refine A_aload_n dL_law_388 rfl rfl ?_
  refine A_aload_n dL_law_389 rfl rfl ?_
  refine A_iload_n dL_law_390 rfl rfl ?_
  refine A_iconst (v := 1) dL_law_391 (by decide) ?_
  refine A_iadd dL_law_392 ?_
  refine A_eald (k := 1003) (i := i + 1) dL_law_393 (by decide) (by decide) (by omega) hL (nI_add i 1) ?_
  refine A_aload_n dL_law_394 rfl rfl ?_
  refine A_iload_n dL_law_395 rfl rfl ?_
  refine A_iconst (v := 2) dL_law_396 (by decide) ?_
  refine A_iadd dL_law_397 ?_
  refine A_eald (k := 1003) (i := i + 2) dL_law_398 (by decide) (by decide) (by omega) hL (nI_add i 2) ?_
  refine A_aload_n dL_law_399 rfl rfl ?_
  refine A_iload_n dL_law_400 rfl rfl ?_
  refine A_iconst (v := 3) dL_law_401 (by decide) ?_
  refine A_iadd dL_law_402 ?_
  refine A_eald (k := 1003) (i := i + 3) dL_law_403 (by decide) (by decide) (by omega) hL (nI_add i 3) ?_
  refine A_aload_n dL_law_404 rfl rfl ?_
  refine A_iload_n dL_law_405 rfl rfl ?_
  refine A_iconst (v := 4) dL_law_406 (by decide) ?_
  refine A_iadd dL_law_407 ?_
  refine A_eald (k := 1003) (i := i + 4) dL_law_408 (by decide) (by decide) (by omega) hL (nI_add i 4) ?_
  refine A_aload_n dL_law_409 rfl rfl ?_
  refine A_iload_n dL_law_410 rfl rfl ?_
  refine A_iconst (v := 5) dL_law_411 (by decide) ?_
  refine A_iadd dL_law_412 ?_
  refine A_eald (k := 1003) (i := i + 5) dL_law_413 (by decide) (by decide) (by omega) hL (nI_add i 5) ?_
  refine A_callV (n := 0) dL_law_414 kvX7_copy mlL_25 rfl (az_rc_obj clX7 (hX 0 _ rfl)) (x_copy l G 2000 sh sg la (sg, la) σ ((az_ex G 1003).2 (i + 1)) ((az_ex G 1003).2 (i + 2)) ((az_ex G 1003).2 (i + 3)) ((az_ex G 1003).2 (i + 4)) ((az_ex G 1003).2 (i + 5)) hX hK) (by decide) (Nat.le_refl _) (Nat.le_refl _) rfl (Nat.le_of_ble_eq_true rfl) (fun r S1 hp => ?_)
  obtain ⟨rfl, sg1, la1, rfl, hK1⟩ := hp
  show AW l G mL_law 2048 F bc bs 417 [some (.ref 1003), some (.ref 0), some (.ref 60), some (.int (nI i))] [.int (q_copy σ ((az_ex G 1003).2 (i + 1)) ((az_ex G 1003).2 (i + 2)) ((az_ex G 1003).2 (i + 3)) ((az_ex G 1003).2 (i + 4)) ((az_ex G 1003).2 (i + 5))).1] (sh, sg1, la1)
  have hR1 := hR.mv hK1
  refine A_aload_n dL_law_417 rfl rfl ?_
  refine A_aload_n dL_law_418 rfl rfl ?_
  refine A_iload_n dL_law_419 rfl rfl ?_
  refine A_iconst (v := 1) dL_law_420 (by decide) ?_
  refine A_iadd dL_law_421 ?_
  refine A_eald (k := 1003) (i := i + 1) dL_law_422 (by decide) (by decide) (by omega) hL (nI_add i 1) ?_
  refine A_aload_n dL_law_423 rfl rfl ?_
  refine A_iload_n dL_law_424 rfl rfl ?_
  refine A_iconst (v := 2) dL_law_425 (by decide) ?_
  refine A_iadd dL_law_426 ?_
  refine A_eald (k := 1003) (i := i + 2) dL_law_427 (by decide) (by decide) (by omega) hL (nI_add i 2) ?_
  refine A_aload_n dL_law_428 rfl rfl ?_
  refine A_iload_n dL_law_429 rfl rfl ?_
  refine A_iconst (v := 3) dL_law_430 (by decide) ?_
  refine A_iadd dL_law_431 ?_
  refine A_eald (k := 1003) (i := i + 3) dL_law_432 (by decide) (by decide) (by omega) hL (nI_add i 3) ?_
  refine A_aload_n dL_law_433 rfl rfl ?_
  refine A_iload_n dL_law_434 rfl rfl ?_
  refine A_iconst (v := 4) dL_law_435 (by decide) ?_
  refine A_iadd dL_law_436 ?_
  refine A_eald (k := 1003) (i := i + 4) dL_law_437 (by decide) (by decide) (by omega) hL (nI_add i 4) ?_
  refine A_aload_n dL_law_438 rfl rfl ?_
  refine A_iload_n dL_law_439 rfl rfl ?_
  refine A_iconst (v := 5) dL_law_440 (by decide) ?_
  refine A_iadd dL_law_441 ?_
  refine A_eald (k := 1003) (i := i + 5) dL_law_442 (by decide) (by decide) (by omega) hL (nI_add i 5) ?_
  refine A_callV (n := 0) dL_law_443 kvX8_copy mlL_29 rfl (az_rc_obj clX8 (hS.1 0 _ rfl)) (y_copy l G 2000 sh sg1 la1 (sg1, la1) σ kp tr ((az_ex G 1003).2 (i + 1)) ((az_ex G 1003).2 (i + 2)) ((az_ex G 1003).2 (i + 3)) ((az_ex G 1003).2 (i + 4)) ((az_ex G 1003).2 (i + 5)) hS.1 hR1 hK.wf) (by decide) (Nat.le_refl _) (Nat.le_refl _) rfl (Nat.le_of_ble_eq_true rfl) (fun r S1 hp => ?_)
  obtain ⟨rfl, sg2, la2, rfl, hR2⟩ := hp
  show AW l G mL_law 2048 F bc bs 446 [some (.ref 1003), some (.ref 0), some (.ref 60), some (.int (nI i))] [.int (q_copy σ ((az_ex G 1003).2 (i + 1)) ((az_ex G 1003).2 (i + 2)) ((az_ex G 1003).2 (i + 3)) ((az_ex G 1003).2 (i + 4)) ((az_ex G 1003).2 (i + 5))).1, .int (q_copy σ ((az_ex G 1003).2 (i + 1)) ((az_ex G 1003).2 (i + 2)) ((az_ex G 1003).2 (i + 3)) ((az_ex G 1003).2 (i + 4)) ((az_ex G 1003).2 (i + 5))).1] (sh, sg2, la2)
  refine A_icmp_eq (tgt := 1791) dL_law_446 rfl (fun _ => ?_) (fun h => absurd rfl h)
  exact back sh sg2 la2 _ _ _ bc bs (LI_go hX hS hK1 hR2 hb)
set_option maxHeartbeats 1000000 in
set_option maxRecDepth 100000 in
theorem lc_3 (l : Launch) (G : az_Gh) (F : az_Fn) (bc bs i : Nat) (sh : List az_Sh) (sg : Nat → Nat → Int32) (la : Nat → Nat → Int64) (σ : SGM) (kp tr : Option Nat) (hL : (az_ex G 1003).1 < 2 ^ 31) (hi : i + 6 ≤ (az_ex G 1003).1) (hI : LI sh sg la σ kp tr bc bs) (back : ∀ (sh : List az_Sh) (sg : Nat → Nat → Int32) (la : Nat → Nat → Int64) (σ : SGM) (kp tr : Option Nat) (bc bs : Nat), LI sh sg la σ kp tr bc bs → AW l G mL_law 2048 F bc bs 1791 [some (.ref 1003), some (.ref 0), some (.ref 60), some (.int (nI i))] [] (sh, sg, la)) : AW l G mL_law 2048 F bc bs 451 [some (.ref 1003), some (.ref 0), some (.ref 60), some (.int (nI i))] [] (sh, sg, la) := by
  obtain ⟨hX, hS, hK, hR, hb⟩ := hI
  refine A_aload_n dL_law_451 rfl rfl ?_
  refine A_aload_n dL_law_452 rfl rfl ?_
  refine A_iload_n dL_law_453 rfl rfl ?_
  refine A_iconst (v := 1) dL_law_454 (by decide) ?_
  refine A_iadd dL_law_455 ?_
  refine A_eald (k := 1003) (i := i + 1) dL_law_456 (by decide) (by decide) (by omega) hL (nI_add i 1) ?_
  refine A_aload_n dL_law_457 rfl rfl ?_
  refine A_iload_n dL_law_458 rfl rfl ?_
  refine A_iconst (v := 2) dL_law_459 (by decide) ?_
  refine A_iadd dL_law_460 ?_
  refine A_eald (k := 1003) (i := i + 2) dL_law_461 (by decide) (by decide) (by omega) hL (nI_add i 2) ?_
  refine A_callV (n := 0) dL_law_462 kvX7_element mlL_30 rfl (az_rc_obj clX7 (hX 0 _ rfl)) (x_element l G 2000 sh sg la (sg, la) σ ((az_ex G 1003).2 (i + 1)) ((az_ex G 1003).2 (i + 2)) hX hK) (by decide) (Nat.le_refl _) (Nat.le_refl _) rfl (Nat.le_of_ble_eq_true rfl) (fun r S1 hp => ?_)
  obtain ⟨rfl, sg1, la1, rfl, hK1⟩ := hp
  show AW l G mL_law 2048 F bc bs 465 [some (.ref 1003), some (.ref 0), some (.ref 60), some (.int (nI i))] [.long (q_element σ ((az_ex G 1003).2 (i + 1)) ((az_ex G 1003).2 (i + 2)))] (sh, sg1, la1)
  have hR1 := hR.mv hK1
  refine A_aload_n dL_law_465 rfl rfl ?_
  refine A_aload_n dL_law_466 rfl rfl ?_
  refine A_iload_n dL_law_467 rfl rfl ?_
  refine A_iconst (v := 1) dL_law_468 (by decide) ?_
  refine A_iadd dL_law_469 ?_
  refine A_eald (k := 1003) (i := i + 1) dL_law_470 (by decide) (by decide) (by omega) hL (nI_add i 1) ?_
  refine A_aload_n dL_law_471 rfl rfl ?_
  refine A_iload_n dL_law_472 rfl rfl ?_
  refine A_iconst (v := 2) dL_law_473 (by decide) ?_
  refine A_iadd dL_law_474 ?_
  refine A_eald (k := 1003) (i := i + 2) dL_law_475 (by decide) (by decide) (by omega) hL (nI_add i 2) ?_
  refine A_callV (n := 0) dL_law_476 kvX8_element mlL_34 rfl (az_rc_obj clX8 (hS.1 0 _ rfl)) (y_element l G 2000 sh sg1 la1 (sg1, la1) σ kp tr ((az_ex G 1003).2 (i + 1)) ((az_ex G 1003).2 (i + 2)) hS.1 hR1 hK.wf) (by decide) (Nat.le_refl _) (Nat.le_refl _) rfl (Nat.le_of_ble_eq_true rfl) (fun r S1 hp => ?_)
  obtain ⟨rfl, sg2, la2, rfl, hR2⟩ := hp
  show AW l G mL_law 2048 F bc bs 479 [some (.ref 1003), some (.ref 0), some (.ref 60), some (.int (nI i))] [.long (q_element σ ((az_ex G 1003).2 (i + 1)) ((az_ex G 1003).2 (i + 2))), .long (q_element σ ((az_ex G 1003).2 (i + 1)) ((az_ex G 1003).2 (i + 2)))] (sh, sg2, la2)
  refine A_lcmp dL_law_479 ?_
  refine B_top (lg_cmp_self _) ?_
  refine A_if_eq (tgt := 1791) dL_law_480 rfl (fun _ => ?_) (fun h => absurd rfl h)
  exact back sh sg2 la2 _ _ _ bc bs (LI_go hX hS hK1 hR2 hb)
set_option maxHeartbeats 1000000 in
set_option maxRecDepth 100000 in
theorem lc_4 (l : Launch) (G : az_Gh) (F : az_Fn) (bc bs i : Nat) (sh : List az_Sh) (sg : Nat → Nat → Int32) (la : Nat → Nat → Int64) (σ : SGM) (kp tr : Option Nat) (hL : (az_ex G 1003).1 < 2 ^ 31) (hi : i + 6 ≤ (az_ex G 1003).1) (hI : LI sh sg la σ kp tr bc bs) (back : ∀ (sh : List az_Sh) (sg : Nat → Nat → Int32) (la : Nat → Nat → Int64) (σ : SGM) (kp tr : Option Nat) (bc bs : Nat), LI sh sg la σ kp tr bc bs → AW l G mL_law 2048 F bc bs 1791 [some (.ref 1003), some (.ref 0), some (.ref 60), some (.int (nI i))] [] (sh, sg, la)) : AW l G mL_law 2048 F bc bs 485 [some (.ref 1003), some (.ref 0), some (.ref 60), some (.int (nI i))] [] (sh, sg, la) := by
  obtain ⟨hX, hS, hK, hR, hb⟩ := hI
  refine A_aload_n dL_law_485 rfl rfl ?_
  refine A_aload_n dL_law_486 rfl rfl ?_
  refine A_iload_n dL_law_487 rfl rfl ?_
  refine A_iconst (v := 1) dL_law_488 (by decide) ?_
  refine A_iadd dL_law_489 ?_
  refine A_eald (k := 1003) (i := i + 1) dL_law_490 (by decide) (by decide) (by omega) hL (nI_add i 1) ?_
  refine A_callV (n := 0) dL_law_491 kvX7_holds mlL_35 rfl (az_rc_obj clX7 (hX 0 _ rfl)) (x_holds l G 2000 sh sg la (sg, la) σ ((az_ex G 1003).2 (i + 1)) hX hK) (by decide) (Nat.le_refl _) (Nat.le_refl _) rfl (Nat.le_of_ble_eq_true rfl) (fun r S1 hp => ?_)
  obtain ⟨rfl, sg1, la1, rfl, hK1⟩ := hp
  show AW l G mL_law 2048 F bc bs 494 [some (.ref 1003), some (.ref 0), some (.ref 60), some (.int (nI i))] [.int (q_holds σ ((az_ex G 1003).2 (i + 1)))] (sh, sg1, la1)
  have hR1 := hR.mv hK1
  refine A_aload_n dL_law_494 rfl rfl ?_
  refine A_aload_n dL_law_495 rfl rfl ?_
  refine A_iload_n dL_law_496 rfl rfl ?_
  refine A_iconst (v := 1) dL_law_497 (by decide) ?_
  refine A_iadd dL_law_498 ?_
  refine A_eald (k := 1003) (i := i + 1) dL_law_499 (by decide) (by decide) (by omega) hL (nI_add i 1) ?_
  refine A_callV (n := 0) dL_law_500 kvX8_holds mlL_39 rfl (az_rc_obj clX8 (hS.1 0 _ rfl)) (y_holds l G 2000 sh sg1 la1 (sg1, la1) σ kp tr ((az_ex G 1003).2 (i + 1)) hS.1 hR1 hK.wf) (by decide) (Nat.le_refl _) (Nat.le_refl _) rfl (Nat.le_of_ble_eq_true rfl) (fun r S1 hp => ?_)
  obtain ⟨rfl, sg2, la2, rfl, hR2⟩ := hp
  show AW l G mL_law 2048 F bc bs 503 [some (.ref 1003), some (.ref 0), some (.ref 60), some (.int (nI i))] [.int (q_holds σ ((az_ex G 1003).2 (i + 1))), .int (q_holds σ ((az_ex G 1003).2 (i + 1)))] (sh, sg2, la2)
  refine A_icmp_eq (tgt := 1791) dL_law_503 rfl (fun _ => ?_) (fun h => absurd rfl h)
  exact back sh sg2 la2 _ _ _ bc bs (LI_go hX hS hK1 hR2 hb)
set_option maxHeartbeats 1000000 in
set_option maxRecDepth 100000 in
theorem lc_5 (l : Launch) (G : az_Gh) (F : az_Fn) (bc bs i : Nat) (sh : List az_Sh) (sg : Nat → Nat → Int32) (la : Nat → Nat → Int64) (σ : SGM) (kp tr : Option Nat) (hL : (az_ex G 1003).1 < 2 ^ 31) (hi : i + 6 ≤ (az_ex G 1003).1) (hI : LI sh sg la σ kp tr bc bs) (back : ∀ (sh : List az_Sh) (sg : Nat → Nat → Int32) (la : Nat → Nat → Int64) (σ : SGM) (kp tr : Option Nat) (bc bs : Nat), LI sh sg la σ kp tr bc bs → AW l G mL_law 2048 F bc bs 1791 [some (.ref 1003), some (.ref 0), some (.ref 60), some (.int (nI i))] [] (sh, sg, la)) : AW l G mL_law 2048 F bc bs 508 [some (.ref 1003), some (.ref 0), some (.ref 60), some (.int (nI i))] [] (sh, sg, la) := by
  obtain ⟨hX, hS, hK, hR, hb⟩ := hI
  refine A_aload_n dL_law_508 rfl rfl ?_
  refine A_aload_n dL_law_509 rfl rfl ?_
  refine A_iload_n dL_law_510 rfl rfl ?_
  refine A_iconst (v := 1) dL_law_511 (by decide) ?_
  refine A_iadd dL_law_512 ?_
  refine A_eald (k := 1003) (i := i + 1) dL_law_513 (by decide) (by decide) (by omega) hL (nI_add i 1) ?_
  refine A_aload_n dL_law_514 rfl rfl ?_
  refine A_iload_n dL_law_515 rfl rfl ?_
  refine A_iconst (v := 2) dL_law_516 (by decide) ?_
  refine A_iadd dL_law_517 ?_
  refine A_eald (k := 1003) (i := i + 2) dL_law_518 (by decide) (by decide) (by omega) hL (nI_add i 2) ?_
  refine A_callV (n := 0) dL_law_519 kvX7_show mlL_40 rfl (az_rc_obj clX7 (hX 0 _ rfl)) (x_show l G 2000 sh sg la (sg, la) σ ((az_ex G 1003).2 (i + 1)) ((az_ex G 1003).2 (i + 2)) hX hK) (by decide) (Nat.le_refl _) (Nat.le_refl _) rfl (Nat.le_of_ble_eq_true rfl) (fun r S1 hp => ?_)
  obtain ⟨rfl, sg1, la1, rfl, hK1⟩ := hp
  show AW l G mL_law 2048 F bc bs 522 [some (.ref 1003), some (.ref 0), some (.ref 60), some (.int (nI i))] [.int (q_show σ ((az_ex G 1003).2 (i + 1)) ((az_ex G 1003).2 (i + 2))).1] (sh, sg1, la1)
  have hR1 := hR.mv hK1
  refine A_aload_n dL_law_522 rfl rfl ?_
  refine A_aload_n dL_law_523 rfl rfl ?_
  refine A_iload_n dL_law_524 rfl rfl ?_
  refine A_iconst (v := 1) dL_law_525 (by decide) ?_
  refine A_iadd dL_law_526 ?_
  refine A_eald (k := 1003) (i := i + 1) dL_law_527 (by decide) (by decide) (by omega) hL (nI_add i 1) ?_
  refine A_aload_n dL_law_528 rfl rfl ?_
  refine A_iload_n dL_law_529 rfl rfl ?_
  refine A_iconst (v := 2) dL_law_530 (by decide) ?_
  refine A_iadd dL_law_531 ?_
  refine A_eald (k := 1003) (i := i + 2) dL_law_532 (by decide) (by decide) (by omega) hL (nI_add i 2) ?_
  refine A_callV (n := 0) dL_law_533 kvX8_show mlL_44 rfl (az_rc_obj clX8 (hS.1 0 _ rfl)) (y_show l G 2000 sh sg1 la1 (sg1, la1) σ kp tr ((az_ex G 1003).2 (i + 1)) ((az_ex G 1003).2 (i + 2)) hS.1 hR1 hK.wf) (by decide) (Nat.le_refl _) (Nat.le_refl _) rfl (Nat.le_of_ble_eq_true rfl) (fun r S1 hp => ?_)
  obtain ⟨rfl, sg2, la2, rfl, hR2⟩ := hp
  show AW l G mL_law 2048 F bc bs 536 [some (.ref 1003), some (.ref 0), some (.ref 60), some (.int (nI i))] [.int (q_show σ ((az_ex G 1003).2 (i + 1)) ((az_ex G 1003).2 (i + 2))).1, .int (q_show σ ((az_ex G 1003).2 (i + 1)) ((az_ex G 1003).2 (i + 2))).1] (sh, sg2, la2)
  refine A_icmp_eq (tgt := 1791) dL_law_536 rfl (fun _ => ?_) (fun h => absurd rfl h)
  exact back sh sg2 la2 _ _ _ bc bs (LI_go hX hS hK1 hR2 hb)
set_option maxHeartbeats 1000000 in
set_option maxRecDepth 100000 in
theorem lc_6 (l : Launch) (G : az_Gh) (F : az_Fn) (bc bs i : Nat) (sh : List az_Sh) (sg : Nat → Nat → Int32) (la : Nat → Nat → Int64) (σ : SGM) (kp tr : Option Nat) (hL : (az_ex G 1003).1 < 2 ^ 31) (hi : i + 6 ≤ (az_ex G 1003).1) (hI : LI sh sg la σ kp tr bc bs) (back : ∀ (sh : List az_Sh) (sg : Nat → Nat → Int32) (la : Nat → Nat → Int64) (σ : SGM) (kp tr : Option Nat) (bc bs : Nat), LI sh sg la σ kp tr bc bs → AW l G mL_law 2048 F bc bs 1791 [some (.ref 1003), some (.ref 0), some (.ref 60), some (.int (nI i))] [] (sh, sg, la)) : AW l G mL_law 2048 F bc bs 541 [some (.ref 1003), some (.ref 0), some (.ref 60), some (.int (nI i))] [] (sh, sg, la) := by
  obtain ⟨hX, hS, hK, hR, hb⟩ := hI
  refine A_aload_n dL_law_541 rfl rfl ?_
  refine A_aload_n dL_law_542 rfl rfl ?_
  refine A_iload_n dL_law_543 rfl rfl ?_
  refine A_iconst (v := 1) dL_law_544 (by decide) ?_
  refine A_iadd dL_law_545 ?_
  refine A_eald (k := 1003) (i := i + 1) dL_law_546 (by decide) (by decide) (by omega) hL (nI_add i 1) ?_
  refine A_aload_n dL_law_547 rfl rfl ?_
  refine A_iload_n dL_law_548 rfl rfl ?_
  refine A_iconst (v := 2) dL_law_549 (by decide) ?_
  refine A_iadd dL_law_550 ?_
  refine A_eald (k := 1003) (i := i + 2) dL_law_551 (by decide) (by decide) (by omega) hL (nI_add i 2) ?_
  refine A_callV (n := 0) dL_law_552 kvX7_says mlL_45 rfl (az_rc_obj clX7 (hX 0 _ rfl)) (x_says l G 2000 sh sg la (sg, la) σ ((az_ex G 1003).2 (i + 1)) ((az_ex G 1003).2 (i + 2)) hX hK) (by decide) (Nat.le_refl _) (Nat.le_refl _) rfl (Nat.le_of_ble_eq_true rfl) (fun r S1 hp => ?_)
  obtain ⟨rfl, sg1, la1, rfl, hK1⟩ := hp
  show AW l G mL_law 2048 F bc bs 555 [some (.ref 1003), some (.ref 0), some (.ref 60), some (.int (nI i))] [.int (q_says σ ((az_ex G 1003).2 (i + 1)) ((az_ex G 1003).2 (i + 2))).1] (sh, sg1, la1)
  have hR1 := hR.mv hK1
  refine A_aload_n dL_law_555 rfl rfl ?_
  refine A_aload_n dL_law_556 rfl rfl ?_
  refine A_iload_n dL_law_557 rfl rfl ?_
  refine A_iconst (v := 1) dL_law_558 (by decide) ?_
  refine A_iadd dL_law_559 ?_
  refine A_eald (k := 1003) (i := i + 1) dL_law_560 (by decide) (by decide) (by omega) hL (nI_add i 1) ?_
  refine A_aload_n dL_law_561 rfl rfl ?_
  refine A_iload_n dL_law_562 rfl rfl ?_
  refine A_iconst (v := 2) dL_law_563 (by decide) ?_
  refine A_iadd dL_law_564 ?_
  refine A_eald (k := 1003) (i := i + 2) dL_law_565 (by decide) (by decide) (by omega) hL (nI_add i 2) ?_
  refine A_callV (n := 0) dL_law_566 kvX8_says mlL_48 rfl (az_rc_obj clX8 (hS.1 0 _ rfl)) (y_says l G 2000 sh sg1 la1 (sg1, la1) σ kp tr ((az_ex G 1003).2 (i + 1)) ((az_ex G 1003).2 (i + 2)) hS.1 hR1 hK.wf) (by decide) (Nat.le_refl _) (Nat.le_refl _) rfl (Nat.le_of_ble_eq_true rfl) (fun r S1 hp => ?_)
  obtain ⟨rfl, sg2, la2, rfl, hR2⟩ := hp
  show AW l G mL_law 2048 F bc bs 569 [some (.ref 1003), some (.ref 0), some (.ref 60), some (.int (nI i))] [.int (q_says σ ((az_ex G 1003).2 (i + 1)) ((az_ex G 1003).2 (i + 2))).1, .int (q_says σ ((az_ex G 1003).2 (i + 1)) ((az_ex G 1003).2 (i + 2))).1] (sh, sg2, la2)
  refine A_icmp_eq (tgt := 1791) dL_law_569 rfl (fun _ => ?_) (fun h => absurd rfl h)
  exact back sh sg2 la2 _ _ _ bc bs (LI_go hX hS hK1 hR2 hb)
set_option maxHeartbeats 1000000 in
set_option maxRecDepth 100000 in
theorem lc_7 (l : Launch) (G : az_Gh) (F : az_Fn) (bc bs i : Nat) (sh : List az_Sh) (sg : Nat → Nat → Int32) (la : Nat → Nat → Int64) (σ : SGM) (kp tr : Option Nat) (hL : (az_ex G 1003).1 < 2 ^ 31) (hi : i + 6 ≤ (az_ex G 1003).1) (hI : LI sh sg la σ kp tr bc bs) (back : ∀ (sh : List az_Sh) (sg : Nat → Nat → Int32) (la : Nat → Nat → Int64) (σ : SGM) (kp tr : Option Nat) (bc bs : Nat), LI sh sg la σ kp tr bc bs → AW l G mL_law 2048 F bc bs 1791 [some (.ref 1003), some (.ref 0), some (.ref 60), some (.int (nI i))] [] (sh, sg, la)) : AW l G mL_law 2048 F bc bs 574 [some (.ref 1003), some (.ref 0), some (.ref 60), some (.int (nI i))] [] (sh, sg, la) := by
  obtain ⟨hX, hS, hK, hR, hb⟩ := hI
  refine A_aload_n dL_law_574 rfl rfl ?_
  refine A_aload_n dL_law_575 rfl rfl ?_
  refine A_iload_n dL_law_576 rfl rfl ?_
  refine A_iconst (v := 1) dL_law_577 (by decide) ?_
  refine A_iadd dL_law_578 ?_
  refine A_eald (k := 1003) (i := i + 1) dL_law_579 (by decide) (by decide) (by omega) hL (nI_add i 1) ?_
  refine A_aload_n dL_law_580 rfl rfl ?_
  refine A_iload_n dL_law_581 rfl rfl ?_
  refine A_iconst (v := 2) dL_law_582 (by decide) ?_
  refine A_iadd dL_law_583 ?_
  refine A_eald (k := 1003) (i := i + 2) dL_law_584 (by decide) (by decide) (by omega) hL (nI_add i 2) ?_
  refine A_aload_n dL_law_585 rfl rfl ?_
  refine A_iload_n dL_law_586 rfl rfl ?_
  refine A_iconst (v := 3) dL_law_587 (by decide) ?_
  refine A_iadd dL_law_588 ?_
  refine A_eald (k := 1003) (i := i + 3) dL_law_589 (by decide) (by decide) (by omega) hL (nI_add i 3) ?_
  refine A_callV (n := 0) dL_law_590 kvX7_person mlL_49 rfl (az_rc_obj clX7 (hX 0 _ rfl)) (x_person l G 2000 sh sg la (sg, la) σ ((az_ex G 1003).2 (i + 1)) ((az_ex G 1003).2 (i + 2)) ((az_ex G 1003).2 (i + 3)) hX hK) (by decide) (Nat.le_refl _) (Nat.le_refl _) rfl (Nat.le_of_ble_eq_true rfl) (fun r S1 hp => ?_)
  obtain ⟨rfl, sg1, la1, rfl, hK1⟩ := hp
  show AW l G mL_law 2048 F bc bs 593 [some (.ref 1003), some (.ref 0), some (.ref 60), some (.int (nI i))] [.int (q_person σ ((az_ex G 1003).2 (i + 1)) ((az_ex G 1003).2 (i + 2)) ((az_ex G 1003).2 (i + 3))).1] (sh, sg1, la1)
  have hR1 := hR.mv hK1
  refine A_aload_n dL_law_593 rfl rfl ?_
  refine A_aload_n dL_law_594 rfl rfl ?_
  refine A_iload_n dL_law_595 rfl rfl ?_
  refine A_iconst (v := 1) dL_law_596 (by decide) ?_
  refine A_iadd dL_law_597 ?_
  refine A_eald (k := 1003) (i := i + 1) dL_law_598 (by decide) (by decide) (by omega) hL (nI_add i 1) ?_
  refine A_aload_n dL_law_599 rfl rfl ?_
  refine A_iload_n dL_law_600 rfl rfl ?_
  refine A_iconst (v := 2) dL_law_601 (by decide) ?_
  refine A_iadd dL_law_602 ?_
  refine A_eald (k := 1003) (i := i + 2) dL_law_603 (by decide) (by decide) (by omega) hL (nI_add i 2) ?_
  refine A_aload_n dL_law_604 rfl rfl ?_
  refine A_iload_n dL_law_605 rfl rfl ?_
  refine A_iconst (v := 3) dL_law_606 (by decide) ?_
  refine A_iadd dL_law_607 ?_
  refine A_eald (k := 1003) (i := i + 3) dL_law_608 (by decide) (by decide) (by omega) hL (nI_add i 3) ?_
  refine A_callV (n := 0) dL_law_609 kvX8_person mlL_52 rfl (az_rc_obj clX8 (hS.1 0 _ rfl)) (y_person l G 2000 sh sg1 la1 (sg1, la1) σ kp tr ((az_ex G 1003).2 (i + 1)) ((az_ex G 1003).2 (i + 2)) ((az_ex G 1003).2 (i + 3)) hS.1 hR1 hK.wf) (by decide) (Nat.le_refl _) (Nat.le_refl _) rfl (Nat.le_of_ble_eq_true rfl) (fun r S1 hp => ?_)
  obtain ⟨rfl, sg2, la2, rfl, hR2⟩ := hp
  show AW l G mL_law 2048 F bc bs 612 [some (.ref 1003), some (.ref 0), some (.ref 60), some (.int (nI i))] [.int (q_person σ ((az_ex G 1003).2 (i + 1)) ((az_ex G 1003).2 (i + 2)) ((az_ex G 1003).2 (i + 3))).1, .int (q_person σ ((az_ex G 1003).2 (i + 1)) ((az_ex G 1003).2 (i + 2)) ((az_ex G 1003).2 (i + 3))).1] (sh, sg2, la2)
  refine A_icmp_eq (tgt := 1791) dL_law_612 rfl (fun _ => ?_) (fun h => absurd rfl h)
  exact back sh sg2 la2 _ _ _ bc bs (LI_go hX hS hK1 hR2 hb)
set_option maxHeartbeats 1000000 in
set_option maxRecDepth 100000 in
theorem lc_8 (l : Launch) (G : az_Gh) (F : az_Fn) (bc bs i : Nat) (sh : List az_Sh) (sg : Nat → Nat → Int32) (la : Nat → Nat → Int64) (σ : SGM) (kp tr : Option Nat) (hL : (az_ex G 1003).1 < 2 ^ 31) (hi : i + 6 ≤ (az_ex G 1003).1) (hI : LI sh sg la σ kp tr bc bs) (back : ∀ (sh : List az_Sh) (sg : Nat → Nat → Int32) (la : Nat → Nat → Int64) (σ : SGM) (kp tr : Option Nat) (bc bs : Nat), LI sh sg la σ kp tr bc bs → AW l G mL_law 2048 F bc bs 1791 [some (.ref 1003), some (.ref 0), some (.ref 60), some (.int (nI i))] [] (sh, sg, la)) : AW l G mL_law 2048 F bc bs 617 [some (.ref 1003), some (.ref 0), some (.ref 60), some (.int (nI i))] [] (sh, sg, la) := by
  obtain ⟨hX, hS, hK, hR, hb⟩ := hI
  refine A_aload_n dL_law_617 rfl rfl ?_
  refine A_aload_n dL_law_618 rfl rfl ?_
  refine A_iload_n dL_law_619 rfl rfl ?_
  refine A_iconst (v := 1) dL_law_620 (by decide) ?_
  refine A_iadd dL_law_621 ?_
  refine A_eald (k := 1003) (i := i + 1) dL_law_622 (by decide) (by decide) (by omega) hL (nI_add i 1) ?_
  refine A_aload_n dL_law_623 rfl rfl ?_
  refine A_iload_n dL_law_624 rfl rfl ?_
  refine A_iconst (v := 2) dL_law_625 (by decide) ?_
  refine A_iadd dL_law_626 ?_
  refine A_eald (k := 1003) (i := i + 2) dL_law_627 (by decide) (by decide) (by omega) hL (nI_add i 2) ?_
  refine A_aload_n dL_law_628 rfl rfl ?_
  refine A_iload_n dL_law_629 rfl rfl ?_
  refine A_iconst (v := 3) dL_law_630 (by decide) ?_
  refine A_iadd dL_law_631 ?_
  refine A_eald (k := 1003) (i := i + 3) dL_law_632 (by decide) (by decide) (by omega) hL (nI_add i 3) ?_
  refine A_callV (n := 0) dL_law_633 kvX7_give mlL_53 rfl (az_rc_obj clX7 (hX 0 _ rfl)) (x_give l G 2000 sh sg la (sg, la) σ ((az_ex G 1003).2 (i + 1)) ((az_ex G 1003).2 (i + 2)) ((az_ex G 1003).2 (i + 3)) hX hK) (by decide) (Nat.le_refl _) (Nat.le_refl _) rfl (Nat.le_of_ble_eq_true rfl) (fun r S1 hp => ?_)
  obtain ⟨rfl, sg1, la1, rfl, hK1⟩ := hp
  show AW l G mL_law 2048 F bc bs 636 [some (.ref 1003), some (.ref 0), some (.ref 60), some (.int (nI i))] [.int (q_give σ ((az_ex G 1003).2 (i + 1)) ((az_ex G 1003).2 (i + 2)) ((az_ex G 1003).2 (i + 3))).1] (sh, sg1, la1)
  have hR1 := hR.mv hK1
  refine A_aload_n dL_law_636 rfl rfl ?_
  refine A_aload_n dL_law_637 rfl rfl ?_
  refine A_iload_n dL_law_638 rfl rfl ?_
  refine A_iconst (v := 1) dL_law_639 (by decide) ?_
  refine A_iadd dL_law_640 ?_
  refine A_eald (k := 1003) (i := i + 1) dL_law_641 (by decide) (by decide) (by omega) hL (nI_add i 1) ?_
  refine A_aload_n dL_law_642 rfl rfl ?_
  refine A_iload_n dL_law_643 rfl rfl ?_
  refine A_iconst (v := 2) dL_law_644 (by decide) ?_
  refine A_iadd dL_law_645 ?_
  refine A_eald (k := 1003) (i := i + 2) dL_law_646 (by decide) (by decide) (by omega) hL (nI_add i 2) ?_
  refine A_aload_n dL_law_647 rfl rfl ?_
  refine A_iload_n dL_law_648 rfl rfl ?_
  refine A_iconst (v := 3) dL_law_649 (by decide) ?_
  refine A_iadd dL_law_650 ?_
  refine A_eald (k := 1003) (i := i + 3) dL_law_651 (by decide) (by decide) (by omega) hL (nI_add i 3) ?_
  refine A_callV (n := 0) dL_law_652 kvX8_give mlL_56 rfl (az_rc_obj clX8 (hS.1 0 _ rfl)) (y_give l G 2000 sh sg1 la1 (sg1, la1) σ kp tr ((az_ex G 1003).2 (i + 1)) ((az_ex G 1003).2 (i + 2)) ((az_ex G 1003).2 (i + 3)) hS.1 hR1 hK.wf) (by decide) (Nat.le_refl _) (Nat.le_refl _) rfl (Nat.le_of_ble_eq_true rfl) (fun r S1 hp => ?_)
  obtain ⟨rfl, sg2, la2, rfl, hR2⟩ := hp
  show AW l G mL_law 2048 F bc bs 655 [some (.ref 1003), some (.ref 0), some (.ref 60), some (.int (nI i))] [.int (q_give σ ((az_ex G 1003).2 (i + 1)) ((az_ex G 1003).2 (i + 2)) ((az_ex G 1003).2 (i + 3))).1, .int (q_give σ ((az_ex G 1003).2 (i + 1)) ((az_ex G 1003).2 (i + 2)) ((az_ex G 1003).2 (i + 3))).1] (sh, sg2, la2)
  refine A_icmp_eq (tgt := 1791) dL_law_655 rfl (fun _ => ?_) (fun h => absurd rfl h)
  exact back sh sg2 la2 _ _ _ bc bs (LI_go hX hS hK1 hR2 hb)
set_option maxHeartbeats 1000000 in
set_option maxRecDepth 100000 in
theorem lc_9 (l : Launch) (G : az_Gh) (F : az_Fn) (bc bs i : Nat) (sh : List az_Sh) (sg : Nat → Nat → Int32) (la : Nat → Nat → Int64) (σ : SGM) (kp tr : Option Nat) (hL : (az_ex G 1003).1 < 2 ^ 31) (hi : i + 6 ≤ (az_ex G 1003).1) (hI : LI sh sg la σ kp tr bc bs) (back : ∀ (sh : List az_Sh) (sg : Nat → Nat → Int32) (la : Nat → Nat → Int64) (σ : SGM) (kp tr : Option Nat) (bc bs : Nat), LI sh sg la σ kp tr bc bs → AW l G mL_law 2048 F bc bs 1791 [some (.ref 1003), some (.ref 0), some (.ref 60), some (.int (nI i))] [] (sh, sg, la)) : AW l G mL_law 2048 F bc bs 660 [some (.ref 1003), some (.ref 0), some (.ref 60), some (.int (nI i))] [] (sh, sg, la) := by
  obtain ⟨hX, hS, hK, hR, hb⟩ := hI
  refine A_aload_n dL_law_660 rfl rfl ?_
  refine A_aload_n dL_law_661 rfl rfl ?_
  refine A_iload_n dL_law_662 rfl rfl ?_
  refine A_iconst (v := 1) dL_law_663 (by decide) ?_
  refine A_iadd dL_law_664 ?_
  refine A_eald (k := 1003) (i := i + 1) dL_law_665 (by decide) (by decide) (by omega) hL (nI_add i 1) ?_
  refine A_aload_n dL_law_666 rfl rfl ?_
  refine A_iload_n dL_law_667 rfl rfl ?_
  refine A_iconst (v := 2) dL_law_668 (by decide) ?_
  refine A_iadd dL_law_669 ?_
  refine A_eald (k := 1003) (i := i + 2) dL_law_670 (by decide) (by decide) (by omega) hL (nI_add i 2) ?_
  refine A_callV (n := 0) dL_law_671 kvX7_tell mlL_57 rfl (az_rc_obj clX7 (hX 0 _ rfl)) (x_tell l G 2000 sh sg la (sg, la) σ ((az_ex G 1003).2 (i + 1)) ((az_ex G 1003).2 (i + 2)) hX hK) (by decide) (Nat.le_refl _) (Nat.le_refl _) rfl (Nat.le_of_ble_eq_true rfl) (fun r S1 hp => ?_)
  obtain ⟨rfl, sg1, la1, rfl, hK1⟩ := hp
  show AW l G mL_law 2048 F bc bs 674 [some (.ref 1003), some (.ref 0), some (.ref 60), some (.int (nI i))] [.int (q_tell σ ((az_ex G 1003).2 (i + 1)) ((az_ex G 1003).2 (i + 2))).1] (sh, sg1, la1)
  have hR1 := hR.mv hK1
  refine A_aload_n dL_law_674 rfl rfl ?_
  refine A_aload_n dL_law_675 rfl rfl ?_
  refine A_iload_n dL_law_676 rfl rfl ?_
  refine A_iconst (v := 1) dL_law_677 (by decide) ?_
  refine A_iadd dL_law_678 ?_
  refine A_eald (k := 1003) (i := i + 1) dL_law_679 (by decide) (by decide) (by omega) hL (nI_add i 1) ?_
  refine A_aload_n dL_law_680 rfl rfl ?_
  refine A_iload_n dL_law_681 rfl rfl ?_
  refine A_iconst (v := 2) dL_law_682 (by decide) ?_
  refine A_iadd dL_law_683 ?_
  refine A_eald (k := 1003) (i := i + 2) dL_law_684 (by decide) (by decide) (by omega) hL (nI_add i 2) ?_
  refine A_callV (n := 0) dL_law_685 kvX8_tell mlL_60 rfl (az_rc_obj clX8 (hS.1 0 _ rfl)) (y_tell l G 2000 sh sg1 la1 (sg1, la1) σ kp tr ((az_ex G 1003).2 (i + 1)) ((az_ex G 1003).2 (i + 2)) hS.1 hR1 hK.wf) (by decide) (Nat.le_refl _) (Nat.le_refl _) rfl (Nat.le_of_ble_eq_true rfl) (fun r S1 hp => ?_)
  obtain ⟨rfl, sg2, la2, rfl, hR2⟩ := hp
  show AW l G mL_law 2048 F bc bs 688 [some (.ref 1003), some (.ref 0), some (.ref 60), some (.int (nI i))] [.int (q_tell σ ((az_ex G 1003).2 (i + 1)) ((az_ex G 1003).2 (i + 2))).1, .int (q_tell σ ((az_ex G 1003).2 (i + 1)) ((az_ex G 1003).2 (i + 2))).1] (sh, sg2, la2)
  refine A_icmp_eq (tgt := 1791) dL_law_688 rfl (fun _ => ?_) (fun h => absurd rfl h)
  exact back sh sg2 la2 _ _ _ bc bs (LI_go hX hS hK1 hR2 hb)
set_option maxHeartbeats 1000000 in
set_option maxRecDepth 100000 in
theorem lc_10 (l : Launch) (G : az_Gh) (F : az_Fn) (bc bs i : Nat) (sh : List az_Sh) (sg : Nat → Nat → Int32) (la : Nat → Nat → Int64) (σ : SGM) (kp tr : Option Nat) (hL : (az_ex G 1003).1 < 2 ^ 31) (hi : i + 6 ≤ (az_ex G 1003).1) (hI : LI sh sg la σ kp tr bc bs) (back : ∀ (sh : List az_Sh) (sg : Nat → Nat → Int32) (la : Nat → Nat → Int64) (σ : SGM) (kp tr : Option Nat) (bc bs : Nat), LI sh sg la σ kp tr bc bs → AW l G mL_law 2048 F bc bs 1791 [some (.ref 1003), some (.ref 0), some (.ref 60), some (.int (nI i))] [] (sh, sg, la)) : AW l G mL_law 2048 F bc bs 693 [some (.ref 1003), some (.ref 0), some (.ref 60), some (.int (nI i))] [] (sh, sg, la) := by
  obtain ⟨hX, hS, hK, hR, hb⟩ := hI
  refine A_aload_n dL_law_693 rfl rfl ?_
  refine A_callV (n := 0) dL_law_694 kvX7_thaw mlL_61 rfl (az_rc_obj clX7 (hX 0 _ rfl)) (x_thaw l G 2000 sh sg la (sg, la) σ hX hK) (by decide) (Nat.le_refl _) (Nat.le_refl _) rfl (Nat.le_of_ble_eq_true rfl) (fun r S1 hp => ?_)
  obtain ⟨rfl, sg1, la1, rfl, hK1⟩ := hp
  show AW l G mL_law 2048 F bc bs 697 [some (.ref 1003), some (.ref 0), some (.ref 60), some (.int (nI i))] [.int (q_thaw σ).1] (sh, sg1, la1)
  have hR1 := hR.mv hK1
  refine A_aload_n dL_law_697 rfl rfl ?_
  refine A_callV (n := 0) dL_law_698 kvX8_thaw mlL_65 rfl (az_rc_obj clX8 (hS.1 0 _ rfl)) (y_thaw l G 2000 sh sg1 la1 (sg1, la1) σ kp tr hS.1 hR1 hK.wf) (by decide) (Nat.le_refl _) (Nat.le_refl _) rfl (Nat.le_of_ble_eq_true rfl) (fun r S1 hp => ?_)
  obtain ⟨rfl, sg2, la2, rfl, hR2⟩ := hp
  show AW l G mL_law 2048 F bc bs 701 [some (.ref 1003), some (.ref 0), some (.ref 60), some (.int (nI i))] [.int (q_thaw σ).1, .int (q_thaw σ).1] (sh, sg2, la2)
  refine A_icmp_eq (tgt := 1791) dL_law_701 rfl (fun _ => ?_) (fun h => absurd rfl h)
  exact back sh sg2 la2 _ _ _ bc bs (LI_go hX hS hK1 hR2 hb)
set_option maxHeartbeats 1000000 in
set_option maxRecDepth 100000 in
theorem lc_11 (l : Launch) (G : az_Gh) (F : az_Fn) (bc bs i : Nat) (sh : List az_Sh) (sg : Nat → Nat → Int32) (la : Nat → Nat → Int64) (σ : SGM) (kp tr : Option Nat) (hL : (az_ex G 1003).1 < 2 ^ 31) (hi : i + 6 ≤ (az_ex G 1003).1) (hI : LI sh sg la σ kp tr bc bs) (back : ∀ (sh : List az_Sh) (sg : Nat → Nat → Int32) (la : Nat → Nat → Int64) (σ : SGM) (kp tr : Option Nat) (bc bs : Nat), LI sh sg la σ kp tr bc bs → AW l G mL_law 2048 F bc bs 1791 [some (.ref 1003), some (.ref 0), some (.ref 60), some (.int (nI i))] [] (sh, sg, la)) : AW l G mL_law 2048 F bc bs 706 [some (.ref 1003), some (.ref 0), some (.ref 60), some (.int (nI i))] [] (sh, sg, la) := by
  obtain ⟨hX, hS, hK, hR, hb⟩ := hI
  refine A_aload_n dL_law_706 rfl rfl ?_
  refine A_aload_n dL_law_707 rfl rfl ?_
  refine A_iload_n dL_law_708 rfl rfl ?_
  refine A_iconst (v := 1) dL_law_709 (by decide) ?_
  refine A_iadd dL_law_710 ?_
  refine A_eald (k := 1003) (i := i + 1) dL_law_711 (by decide) (by decide) (by omega) hL (nI_add i 1) ?_
  refine A_callV (n := 0) dL_law_712 kvX7_feed mlL_66 rfl (az_rc_obj clX7 (hX 0 _ rfl)) (x_feed l G 2000 sh sg la (sg, la) σ ((az_ex G 1003).2 (i + 1)) hX hK) (by decide) (Nat.le_refl _) (Nat.le_refl _) rfl (Nat.le_of_ble_eq_true rfl) (fun r S1 hp => ?_)
  obtain ⟨rfl, sg1, la1, rfl, hK1⟩ := hp
  show AW l G mL_law 2048 F bc bs 715 [some (.ref 1003), some (.ref 0), some (.ref 60), some (.int (nI i))] [.int (q_feed σ ((az_ex G 1003).2 (i + 1))).1] (sh, sg1, la1)
  have hR1 := hR.mv hK1
  refine A_aload_n dL_law_715 rfl rfl ?_
  refine A_aload_n dL_law_716 rfl rfl ?_
  refine A_iload_n dL_law_717 rfl rfl ?_
  refine A_iconst (v := 1) dL_law_718 (by decide) ?_
  refine A_iadd dL_law_719 ?_
  refine A_eald (k := 1003) (i := i + 1) dL_law_720 (by decide) (by decide) (by omega) hL (nI_add i 1) ?_
  refine A_callV (n := 0) dL_law_721 kvX8_feed mlL_69 rfl (az_rc_obj clX8 (hS.1 0 _ rfl)) (y_feed l G 2000 sh sg1 la1 (sg1, la1) σ kp tr ((az_ex G 1003).2 (i + 1)) hS.1 hR1 hK.wf) (by decide) (Nat.le_refl _) (Nat.le_refl _) rfl (Nat.le_of_ble_eq_true rfl) (fun r S1 hp => ?_)
  obtain ⟨rfl, sg2, la2, rfl, hR2⟩ := hp
  show AW l G mL_law 2048 F bc bs 724 [some (.ref 1003), some (.ref 0), some (.ref 60), some (.int (nI i))] [.int (q_feed σ ((az_ex G 1003).2 (i + 1))).1, .int (q_feed σ ((az_ex G 1003).2 (i + 1))).1] (sh, sg2, la2)
  refine A_icmp_eq (tgt := 1791) dL_law_724 rfl (fun _ => ?_) (fun h => absurd rfl h)
  exact back sh sg2 la2 _ _ _ bc bs (LI_go hX hS hK1 hR2 hb)
set_option maxHeartbeats 1000000 in
set_option maxRecDepth 100000 in
theorem lc_12 (l : Launch) (G : az_Gh) (F : az_Fn) (bc bs i : Nat) (sh : List az_Sh) (sg : Nat → Nat → Int32) (la : Nat → Nat → Int64) (σ : SGM) (kp tr : Option Nat) (hL : (az_ex G 1003).1 < 2 ^ 31) (hi : i + 6 ≤ (az_ex G 1003).1) (hI : LI sh sg la σ kp tr bc bs) (back : ∀ (sh : List az_Sh) (sg : Nat → Nat → Int32) (la : Nat → Nat → Int64) (σ : SGM) (kp tr : Option Nat) (bc bs : Nat), LI sh sg la σ kp tr bc bs → AW l G mL_law 2048 F bc bs 1791 [some (.ref 1003), some (.ref 0), some (.ref 60), some (.int (nI i))] [] (sh, sg, la)) : AW l G mL_law 2048 F bc bs 729 [some (.ref 1003), some (.ref 0), some (.ref 60), some (.int (nI i))] [] (sh, sg, la) := by
  obtain ⟨hX, hS, hK, hR, hb⟩ := hI
  refine A_aload_n dL_law_729 rfl rfl ?_
  refine A_callV (n := 0) dL_law_730 kvX7_wipe mlL_70 rfl (az_rc_obj clX7 (hX 0 _ rfl)) (x_wipe l G 2000 sh sg la (sg, la) σ hX hK) (by decide) (Nat.le_refl _) (Nat.le_refl _) rfl (Nat.le_of_ble_eq_true rfl) (fun r S1 hp => ?_)
  obtain ⟨rfl, sg1, la1, rfl, hK1⟩ := hp
  show AW l G mL_law 2048 F bc bs 733 [some (.ref 1003), some (.ref 0), some (.ref 60), some (.int (nI i))] [.int (q_wipe σ).1] (sh, sg1, la1)
  have hR1 := hR.mv hK1
  refine A_aload_n dL_law_733 rfl rfl ?_
  refine A_callV (n := 0) dL_law_734 kvX8_wipe mlL_73 rfl (az_rc_obj clX8 (hS.1 0 _ rfl)) (y_wipe l G 2000 sh sg1 la1 (sg1, la1) σ kp tr hS.1 hR1 hK.wf) (by decide) (Nat.le_refl _) (Nat.le_refl _) rfl (Nat.le_of_ble_eq_true rfl) (fun r S1 hp => ?_)
  obtain ⟨rfl, sg2, la2, rfl, hR2⟩ := hp
  show AW l G mL_law 2048 F bc bs 737 [some (.ref 1003), some (.ref 0), some (.ref 60), some (.int (nI i))] [.int (q_wipe σ).1, .int (q_wipe σ).1] (sh, sg2, la2)
  refine A_icmp_eq (tgt := 1791) dL_law_737 rfl (fun _ => ?_) (fun h => absurd rfl h)
  exact back sh sg2 la2 _ _ _ bc bs (LI_go hX hS hK1 hR2 hb)
set_option maxHeartbeats 1000000 in
set_option maxRecDepth 100000 in
theorem lc_13 (l : Launch) (G : az_Gh) (F : az_Fn) (bc bs i : Nat) (sh : List az_Sh) (sg : Nat → Nat → Int32) (la : Nat → Nat → Int64) (σ : SGM) (kp tr : Option Nat) (hL : (az_ex G 1003).1 < 2 ^ 31) (hi : i + 6 ≤ (az_ex G 1003).1) (hI : LI sh sg la σ kp tr bc bs) (back : ∀ (sh : List az_Sh) (sg : Nat → Nat → Int32) (la : Nat → Nat → Int64) (σ : SGM) (kp tr : Option Nat) (bc bs : Nat), LI sh sg la σ kp tr bc bs → AW l G mL_law 2048 F bc bs 1791 [some (.ref 1003), some (.ref 0), some (.ref 60), some (.int (nI i))] [] (sh, sg, la)) : AW l G mL_law 2048 F bc bs 742 [some (.ref 1003), some (.ref 0), some (.ref 60), some (.int (nI i))] [] (sh, sg, la) := by
  obtain ⟨hX, hS, hK, hR, hb⟩ := hI
  refine A_aload_n dL_law_742 rfl rfl ?_
  refine A_callV (n := 0) dL_law_743 kvX7_country mlL_74 rfl (az_rc_obj clX7 (hX 0 _ rfl)) (x_country l G 2000 sh sg la (sg, la) σ hX hK) (by decide) (Nat.le_refl _) (Nat.le_refl _) rfl (Nat.le_of_ble_eq_true rfl) (fun r S1 hp => ?_)
  obtain ⟨rfl, sg1, la1, rfl, hK1⟩ := hp
  show AW l G mL_law 2048 F bc bs 746 [some (.ref 1003), some (.ref 0), some (.ref 60), some (.int (nI i))] [.int (q_country σ).1] (sh, sg1, la1)
  have hR1 := hR.mv hK1
  refine A_aload_n dL_law_746 rfl rfl ?_
  cases tr with
  | none =>
    have hb3 : 33 ≤ bc ∧ 1069 ≤ bs := by have e1 : bN none = 1 := rfl; rw [e1] at hb; omega
    refine A_callV (n := 0) (bc2 := bc - 33) (bs2 := bs - 1069) dL_law_747 kvX8_country mlL_77 rfl (az_rc_obj clX8 (hS.1 0 _ rfl)) (y_country_0 l G 2000 sh sg1 la1 (sg1, la1) σ kp hS hR1 hK.wf) (by decide) (by omega) (by omega) rfl (Nat.le_of_ble_eq_true rfl) (fun r S1 hp => ?_)
    obtain ⟨rfl, sh', kp', tr', sg2, la2, rfl, hS2, he2, hR2, hor⟩ := hp
    show AW l G mL_law 2048 F (bc - 33) (bs - 1069) 750 [some (.ref 1003), some (.ref 0), some (.ref 60), some (.int (nI i))] [.int (q_country σ).1, .int (q_country σ).1] (sh', sg2, la2)
    refine A_icmp_eq (tgt := 1791) dL_law_750 rfl (fun _ => ?_) (fun h => absurd rfl h)
    exact back sh' sg2 la2 _ _ _ _ _ (LI_gn hX hS2 he2 hK1 hR2 hb (hor)).1
  | some k =>
    refine A_callV (n := 0) dL_law_747 kvX8_country mlL_77 rfl (az_rc_obj clX8 (hS.1 0 _ rfl)) (y_country_k l G 2000 sh sg1 la1 (sg1, la1) σ kp k hS hR1 hK.wf) (by decide) (Nat.le_refl _) (Nat.le_refl _) rfl (Nat.le_of_ble_eq_true rfl) (fun r S1 hp => ?_)
    obtain ⟨rfl, sg2, la2, rfl, hR2⟩ := hp
    show AW l G mL_law 2048 F bc bs 750 [some (.ref 1003), some (.ref 0), some (.ref 60), some (.int (nI i))] [.int (q_country σ).1, .int (q_country σ).1] (sh, sg2, la2)
    refine A_icmp_eq (tgt := 1791) dL_law_750 rfl (fun _ => ?_) (fun h => absurd rfl h)
    exact back sh sg2 la2 _ _ _ bc bs (LI_go hX hS hK1 hR2 hb)
