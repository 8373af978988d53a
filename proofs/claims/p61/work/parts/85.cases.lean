theorem lc_0 {nm : String} {B : BT} {c : Nat × Nat} {ad : Nat → Nat} {Ln i : Nat} {xs : Nat → Int32} {x : Cn} (X : mCx B c ad (mLw nm) FF) (S : SCR B ad Ln xs) (hi : i + 6 ≤ Ln) (hL : Ln < 100000) (R : Rel x) (ih : ∀ y, Rel y → mG B c ad 4 2028 (Lx i) [] (hp KW y)) : mG B c ad 4 288 (Lx i) [] (hp KW x) := by
  refine g_aload_n (M := mLw nm) (pc := 288) X dL_law_288 rfl ?_
  refine g_arg (pc := 289) (j := 1) X S dL_law_289 dL_law_290 dL_law_291 dL_law_292 dL_law_293 (by decide) (by omega) (by omega) ?_
  refine g_arg (pc := 294) (j := 2) X S dL_law_294 dL_law_295 dL_law_296 dL_law_297 dL_law_298 (by decide) (by omega) (by omega) ?_
  refine g_arg (pc := 299) (j := 3) X S dL_law_299 dL_law_300 dL_law_301 dL_law_302 dL_law_303 (by decide) (by omega) (by omega) ?_
  refine g_arg (pc := 304) (j := 4) X S dL_law_304 dL_law_305 dL_law_306 dL_law_307 dL_law_308 (by decide) (by omega) (by omega) ?_
  refine g_arg (pc := 309) (j := 5) X S dL_law_309 dL_law_310 dL_law_311 dL_law_312 dL_law_313 (by decide) (by omega) (by omega) ?_
  refine g_callV (M := mLw nm) mX7_feed (pc := 314) (ci := 7) (a := 0) (st := []) (As := [.int (xs (i + 1)), .int (xs (i + 2)), .int (xs (i + 3)), .int (xs (i + 4)), .int (xs (i + 5))]) X dL_law_314 lk_L_13 in_X7_feed mo_X7_feed k0 ⟨by decide, rfl⟩ ⟨Nat.le_of_ble_eq_true rfl, Nat.le_of_ble_eq_true rfl⟩ (Nat.le_of_ble_eq_true rfl) (mSp_mono (eq_feed _ _ _ _ _ x R) ?_)
  rintro _ _ ⟨r, y, rfl, rfl, q⟩
  refine g_pop (M := mLw nm) (pc := 317) X dL_law_317 rfl ?_
  refine g_aload_n (M := mLw nm) (pc := 318) X dL_law_318 rfl ?_
  refine g_arg (pc := 319) (j := 1) X S dL_law_319 dL_law_320 dL_law_321 dL_law_322 dL_law_323 (by decide) (by omega) (by omega) ?_
  refine g_arg (pc := 324) (j := 2) X S dL_law_324 dL_law_325 dL_law_326 dL_law_327 dL_law_328 (by decide) (by omega) (by omega) ?_
  refine g_arg (pc := 329) (j := 3) X S dL_law_329 dL_law_330 dL_law_331 dL_law_332 dL_law_333 (by decide) (by omega) (by omega) ?_
  refine g_arg (pc := 334) (j := 4) X S dL_law_334 dL_law_335 dL_law_336 dL_law_337 dL_law_338 (by decide) (by omega) (by omega) ?_
  refine g_arg (pc := 339) (j := 5) X S dL_law_339 dL_law_340 dL_law_341 dL_law_342 dL_law_343 (by decide) (by omega) (by omega) ?_
  refine g_callV (M := mLw nm) mX8_feed (pc := 344) (ci := 8) (a := 717) (st := []) (As := [.int (xs (i + 1)), .int (xs (i + 2)), .int (xs (i + 3)), .int (xs (i + 4)), .int (xs (i + 5))]) X dL_law_344 lk_L_17 in_X8_feed mo_X8_feed km ⟨by decide, rfl⟩ ⟨Nat.le_of_ble_eq_true rfl, Nat.le_of_ble_eq_true rfl⟩ (Nat.le_of_ble_eq_true rfl) (mSp_mono q ?_)
  rintro _ _ ⟨r', z, rfl, rfl, e, Rz⟩
  refine g_pop (M := mLw nm) (pc := 347) X dL_law_347 rfl ?_
  refine g_goto (M := mLw nm) (pc := 348) (tgt := 2028) X dL_law_348 (by decide) ?_
  exact ih z Rz
theorem lc_1 {nm : String} {B : BT} {c : Nat × Nat} {ad : Nat → Nat} {Ln i : Nat} {xs : Nat → Int32} {x : Cn} (X : mCx B c ad (mLw nm) FF) (S : SCR B ad Ln xs) (hi : i + 6 ≤ Ln) (hL : Ln < 100000) (R : Rel x) (ih : ∀ y, Rel y → mG B c ad 4 2028 (Lx i) [] (hp KW y)) : mG B c ad 4 351 (Lx i) [] (hp KW x) := by
  refine g_aload_n (M := mLw nm) (pc := 351) X dL_law_351 rfl ?_
  refine g_arg (pc := 352) (j := 1) X S dL_law_352 dL_law_353 dL_law_354 dL_law_355 dL_law_356 (by decide) (by omega) (by omega) ?_
  refine g_callV (M := mLw nm) mX7_end (pc := 357) (ci := 7) (a := 0) (st := []) (As := [.int (xs (i + 1))]) X dL_law_357 lk_L_18 in_X7_end mo_X7_end k0 ⟨by decide, rfl⟩ ⟨Nat.le_of_ble_eq_true rfl, Nat.le_of_ble_eq_true rfl⟩ (Nat.le_of_ble_eq_true rfl) (mSp_mono (eq_end _ x R) ?_)
  rintro _ _ ⟨r, y, rfl, rfl, q⟩
  refine g_pop (M := mLw nm) (pc := 360) X dL_law_360 rfl ?_
  refine g_aload_n (M := mLw nm) (pc := 361) X dL_law_361 rfl ?_
  refine g_arg (pc := 362) (j := 1) X S dL_law_362 dL_law_363 dL_law_364 dL_law_365 dL_law_366 (by decide) (by omega) (by omega) ?_
  refine g_callV (M := mLw nm) mX8_end (pc := 367) (ci := 8) (a := 717) (st := []) (As := [.int (xs (i + 1))]) X dL_law_367 lk_L_22 in_X8_end mo_X8_end km ⟨by decide, rfl⟩ ⟨Nat.le_of_ble_eq_true rfl, Nat.le_of_ble_eq_true rfl⟩ (Nat.le_of_ble_eq_true rfl) (mSp_mono q ?_)
  rintro _ _ ⟨r', z, rfl, rfl, e, Rz⟩
  refine g_pop (M := mLw nm) (pc := 370) X dL_law_370 rfl ?_
  refine g_goto (M := mLw nm) (pc := 371) (tgt := 2028) X dL_law_371 (by decide) ?_
  exact ih z Rz
theorem lc_2 {nm : String} {B : BT} {c : Nat × Nat} {ad : Nat → Nat} {Ln i : Nat} {xs : Nat → Int32} {x : Cn} (X : mCx B c ad (mLw nm) FF) (S : SCR B ad Ln xs) (hi : i + 6 ≤ Ln) (hL : Ln < 100000) (T : mSI mX7_text [.ref 0] KW x (fun r y => mSI mX8_text [.ref 717] KW y (fun r' z => mG B c ad 4 2028 (Lx i) [] (hp KW z)))) : mG B c ad 4 374 (Lx i) [] (hp KW x) := by
  refine g_aload_n (M := mLw nm) (pc := 374) X dL_law_374 rfl ?_
  refine g_callV (M := mLw nm) mX7_text (pc := 375) (ci := 7) (a := 0) (st := []) (As := []) X dL_law_375 lk_L_23 in_X7_text mo_X7_text k0 ⟨by decide, rfl⟩ ⟨Nat.le_of_ble_eq_true rfl, Nat.le_of_ble_eq_true rfl⟩ (Nat.le_of_ble_eq_true rfl) (mSp_mono T ?_)
  rintro _ _ ⟨r, y, rfl, rfl, q⟩
  refine g_pop (M := mLw nm) (pc := 378) X dL_law_378 rfl ?_
  refine g_aload_n (M := mLw nm) (pc := 379) X dL_law_379 rfl ?_
  refine g_callV (M := mLw nm) mX8_text (pc := 380) (ci := 8) (a := 717) (st := []) (As := []) X dL_law_380 lk_L_27 in_X8_text mo_X8_text km ⟨by decide, rfl⟩ ⟨Nat.le_of_ble_eq_true rfl, Nat.le_of_ble_eq_true rfl⟩ (Nat.le_of_ble_eq_true rfl) (mSp_mono q ?_)
  rintro _ _ ⟨r', z, rfl, rfl, Rz⟩
  refine g_pop (M := mLw nm) (pc := 383) X dL_law_383 rfl ?_
  refine g_goto (M := mLw nm) (pc := 384) (tgt := 2028) X dL_law_384 (by decide) ?_
  exact Rz
theorem lc_3 {nm : String} {B : BT} {c : Nat × Nat} {ad : Nat → Nat} {Ln i : Nat} {xs : Nat → Int32} {x : Cn} (X : mCx B c ad (mLw nm) FF) (S : SCR B ad Ln xs) (hi : i + 6 ≤ Ln) (hL : Ln < 100000) (Fq : mSI mX7_fault [.ref 0, .int (xs (i + 1))] KW x (fun r y => mSI mX8_fault [.ref 717, .int (xs (i + 1))] KW y (fun r' z => mG B c ad 4 2028 (Lx i) [] (hp KW z)))) : mG B c ad 4 387 (Lx i) [] (hp KW x) := by
  refine g_aload_n (M := mLw nm) (pc := 387) X dL_law_387 rfl ?_
  refine g_arg (pc := 388) (j := 1) X S dL_law_388 dL_law_389 dL_law_390 dL_law_391 dL_law_392 (by decide) (by omega) (by omega) ?_
  refine g_callV (M := mLw nm) mX7_fault (pc := 393) (ci := 7) (a := 0) (st := []) (As := [.int (xs (i + 1))]) X dL_law_393 lk_L_28 in_X7_fault mo_X7_fault k0 ⟨by decide, rfl⟩ ⟨Nat.le_of_ble_eq_true rfl, Nat.le_of_ble_eq_true rfl⟩ (Nat.le_of_ble_eq_true rfl) (mSp_mono Fq ?_)
  rintro _ _ ⟨r, y, rfl, rfl, q⟩
  refine g_pop (M := mLw nm) (pc := 396) X dL_law_396 rfl ?_
  refine g_aload_n (M := mLw nm) (pc := 397) X dL_law_397 rfl ?_
  refine g_arg (pc := 398) (j := 1) X S dL_law_398 dL_law_399 dL_law_400 dL_law_401 dL_law_402 (by decide) (by omega) (by omega) ?_
  refine g_callV (M := mLw nm) mX8_fault (pc := 403) (ci := 8) (a := 717) (st := []) (As := [.int (xs (i + 1))]) X dL_law_403 lk_L_31 in_X8_fault mo_X8_fault km ⟨by decide, rfl⟩ ⟨Nat.le_of_ble_eq_true rfl, Nat.le_of_ble_eq_true rfl⟩ (Nat.le_of_ble_eq_true rfl) (mSp_mono q ?_)
  rintro _ _ ⟨r', z, rfl, rfl, Rz⟩
  refine g_pop (M := mLw nm) (pc := 406) X dL_law_406 rfl ?_
  refine g_goto (M := mLw nm) (pc := 407) (tgt := 2028) X dL_law_407 (by decide) ?_
  exact Rz
theorem lc_4 {nm : String} {B : BT} {c : Nat × Nat} {ad : Nat → Nat} {Ln i : Nat} {xs : Nat → Int32} {x : Cn} (X : mCx B c ad (mLw nm) FF) (S : SCR B ad Ln xs) (hi : i + 6 ≤ Ln) (hL : Ln < 100000) (R : Rel x) (ih : ∀ y, Rel y → mG B c ad 4 2028 (Lx i) [] (hp KW y)) : mG B c ad 4 410 (Lx i) [] (hp KW x) := by
  refine g_aload_n (M := mLw nm) (pc := 410) X dL_law_410 rfl ?_
  refine g_arg (pc := 411) (j := 1) X S dL_law_411 dL_law_412 dL_law_413 dL_law_414 dL_law_415 (by decide) (by omega) (by omega) ?_
  refine g_callV (M := mLw nm) mX7_count (pc := 416) (ci := 7) (a := 0) (st := []) (As := [.int (xs (i + 1))]) X dL_law_416 lk_L_32 in_X7_count mo_X7_count k0 ⟨by decide, rfl⟩ ⟨Nat.le_of_ble_eq_true rfl, Nat.le_of_ble_eq_true rfl⟩ (Nat.le_of_ble_eq_true rfl) (mSp_mono (eq_count _ x R) ?_)
  rintro _ _ ⟨r, y, rfl, rfl, q⟩
  refine g_pop (M := mLw nm) (pc := 419) X dL_law_419 rfl ?_
  refine g_aload_n (M := mLw nm) (pc := 420) X dL_law_420 rfl ?_
  refine g_arg (pc := 421) (j := 1) X S dL_law_421 dL_law_422 dL_law_423 dL_law_424 dL_law_425 (by decide) (by omega) (by omega) ?_
  refine g_callV (M := mLw nm) mX8_count (pc := 426) (ci := 8) (a := 717) (st := []) (As := [.int (xs (i + 1))]) X dL_law_426 lk_L_35 in_X8_count mo_X8_count km ⟨by decide, rfl⟩ ⟨Nat.le_of_ble_eq_true rfl, Nat.le_of_ble_eq_true rfl⟩ (Nat.le_of_ble_eq_true rfl) (mSp_mono q ?_)
  rintro _ _ ⟨r', z, rfl, rfl, e, Rz⟩
  refine g_pop (M := mLw nm) (pc := 429) X dL_law_429 rfl ?_
  refine g_goto (M := mLw nm) (pc := 430) (tgt := 2028) X dL_law_430 (by decide) ?_
  exact ih z Rz
theorem lc_5 {nm : String} {B : BT} {c : Nat × Nat} {ad : Nat → Nat} {Ln i : Nat} {xs : Nat → Int32} {x : Cn} (X : mCx B c ad (mLw nm) FF) (S : SCR B ad Ln xs) (hi : i + 6 ≤ Ln) (hL : Ln < 100000) (R : Rel x) (ih : ∀ y, Rel y → mG B c ad 4 2028 (Lx i) [] (hp KW y)) : mG B c ad 4 433 (Lx i) [] (hp KW x) := by
  refine g_aload_n (M := mLw nm) (pc := 433) X dL_law_433 rfl ?_
  refine g_arg (pc := 434) (j := 1) X S dL_law_434 dL_law_435 dL_law_436 dL_law_437 dL_law_438 (by decide) (by omega) (by omega) ?_
  refine g_arg (pc := 439) (j := 2) X S dL_law_439 dL_law_440 dL_law_441 dL_law_442 dL_law_443 (by decide) (by omega) (by omega) ?_
  refine g_callV (M := mLw nm) mX7_letter (pc := 444) (ci := 7) (a := 0) (st := []) (As := [.int (xs (i + 1)), .int (xs (i + 2))]) X dL_law_444 lk_L_36 in_X7_letter mo_X7_letter k0 ⟨by decide, rfl⟩ ⟨Nat.le_of_ble_eq_true rfl, Nat.le_of_ble_eq_true rfl⟩ (Nat.le_of_ble_eq_true rfl) (mSp_mono (eq_letter _ _ x R) ?_)
  rintro _ _ ⟨r, y, rfl, rfl, q⟩
  refine g_pop (M := mLw nm) (pc := 447) X dL_law_447 rfl ?_
  refine g_aload_n (M := mLw nm) (pc := 448) X dL_law_448 rfl ?_
  refine g_arg (pc := 449) (j := 1) X S dL_law_449 dL_law_450 dL_law_451 dL_law_452 dL_law_453 (by decide) (by omega) (by omega) ?_
  refine g_arg (pc := 454) (j := 2) X S dL_law_454 dL_law_455 dL_law_456 dL_law_457 dL_law_458 (by decide) (by omega) (by omega) ?_
  refine g_callV (M := mLw nm) mX8_letter (pc := 459) (ci := 8) (a := 717) (st := []) (As := [.int (xs (i + 1)), .int (xs (i + 2))]) X dL_law_459 lk_L_40 in_X8_letter mo_X8_letter km ⟨by decide, rfl⟩ ⟨Nat.le_of_ble_eq_true rfl, Nat.le_of_ble_eq_true rfl⟩ (Nat.le_of_ble_eq_true rfl) (mSp_mono q ?_)
  rintro _ _ ⟨r', z, rfl, rfl, e, Rz⟩
  refine g_pop (M := mLw nm) (pc := 462) X dL_law_462 rfl ?_
  refine g_goto (M := mLw nm) (pc := 463) (tgt := 2028) X dL_law_463 (by decide) ?_
  exact ih z Rz
theorem lc_6 {nm : String} {B : BT} {c : Nat × Nat} {ad : Nat → Nat} {Ln i : Nat} {xs : Nat → Int32} {x : Cn} (X : mCx B c ad (mLw nm) FF) (S : SCR B ad Ln xs) (hi : i + 6 ≤ Ln) (hL : Ln < 100000) (R : Rel x) (ih : ∀ y, Rel y → mG B c ad 4 2028 (Lx i) [] (hp KW y)) : mG B c ad 4 466 (Lx i) [] (hp KW x) := by
  refine g_aload_n (M := mLw nm) (pc := 466) X dL_law_466 rfl ?_
  refine g_callV (M := mLw nm) mX7_find (pc := 467) (ci := 7) (a := 0) (st := []) (As := []) X dL_law_467 lk_L_41 in_X7_find mo_X7_find k0 ⟨by decide, rfl⟩ ⟨Nat.le_of_ble_eq_true rfl, Nat.le_of_ble_eq_true rfl⟩ (Nat.le_of_ble_eq_true rfl) (mSp_mono (eq_find x R) ?_)
  rintro _ _ ⟨r, y, rfl, rfl, q⟩
  refine g_pop (M := mLw nm) (pc := 470) X dL_law_470 rfl ?_
  refine g_aload_n (M := mLw nm) (pc := 471) X dL_law_471 rfl ?_
  refine g_callV (M := mLw nm) mX8_find (pc := 472) (ci := 8) (a := 717) (st := []) (As := []) X dL_law_472 lk_L_44 in_X8_find mo_X8_find km ⟨by decide, rfl⟩ ⟨Nat.le_of_ble_eq_true rfl, Nat.le_of_ble_eq_true rfl⟩ (Nat.le_of_ble_eq_true rfl) (mSp_mono q ?_)
  rintro _ _ ⟨r', z, rfl, rfl, e, Rz⟩
  refine g_pop (M := mLw nm) (pc := 475) X dL_law_475 rfl ?_
  refine g_goto (M := mLw nm) (pc := 476) (tgt := 2028) X dL_law_476 (by decide) ?_
  exact ih z Rz
theorem lc_7 {nm : String} {B : BT} {c : Nat × Nat} {ad : Nat → Nat} {Ln i : Nat} {xs : Nat → Int32} {x : Cn} (X : mCx B c ad (mLw nm) FF) (S : SCR B ad Ln xs) (hi : i + 6 ≤ Ln) (hL : Ln < 100000) (R : Rel x) (ih : ∀ y, Rel y → mG B c ad 4 2028 (Lx i) [] (hp KW y)) : mG B c ad 4 479 (Lx i) [] (hp KW x) := by
  refine g_aload_n (M := mLw nm) (pc := 479) X dL_law_479 rfl ?_
  refine g_arg (pc := 480) (j := 1) X S dL_law_480 dL_law_481 dL_law_482 dL_law_483 dL_law_484 (by decide) (by omega) (by omega) ?_
  refine g_arg (pc := 485) (j := 2) X S dL_law_485 dL_law_486 dL_law_487 dL_law_488 dL_law_489 (by decide) (by omega) (by omega) ?_
  refine g_callV (M := mLw nm) mX7_series (pc := 490) (ci := 7) (a := 0) (st := []) (As := [.int (xs (i + 1)), .int (xs (i + 2))]) X dL_law_490 lk_L_45 in_X7_series mo_X7_series k0 ⟨by decide, rfl⟩ ⟨Nat.le_of_ble_eq_true rfl, Nat.le_of_ble_eq_true rfl⟩ (Nat.le_of_ble_eq_true rfl) (mSp_mono (eq_series _ _ x R) ?_)
  rintro _ _ ⟨r, y, rfl, rfl, q⟩
  refine g_pop (M := mLw nm) (pc := 493) X dL_law_493 rfl ?_
  refine g_aload_n (M := mLw nm) (pc := 494) X dL_law_494 rfl ?_
  refine g_arg (pc := 495) (j := 1) X S dL_law_495 dL_law_496 dL_law_497 dL_law_498 dL_law_499 (by decide) (by omega) (by omega) ?_
  refine g_arg (pc := 500) (j := 2) X S dL_law_500 dL_law_501 dL_law_502 dL_law_503 dL_law_504 (by decide) (by omega) (by omega) ?_
  refine g_callV (M := mLw nm) mX8_series (pc := 505) (ci := 8) (a := 717) (st := []) (As := [.int (xs (i + 1)), .int (xs (i + 2))]) X dL_law_505 lk_L_48 in_X8_series mo_X8_series km ⟨by decide, rfl⟩ ⟨Nat.le_of_ble_eq_true rfl, Nat.le_of_ble_eq_true rfl⟩ (Nat.le_of_ble_eq_true rfl) (mSp_mono q ?_)
  rintro _ _ ⟨r', z, rfl, rfl, e, Rz⟩
  refine g_pop (M := mLw nm) (pc := 508) X dL_law_508 rfl ?_
  refine g_goto (M := mLw nm) (pc := 509) (tgt := 2028) X dL_law_509 (by decide) ?_
  exact ih z Rz
theorem lc_8 {nm : String} {B : BT} {c : Nat × Nat} {ad : Nat → Nat} {Ln i : Nat} {xs : Nat → Int32} {x : Cn} (X : mCx B c ad (mLw nm) FF) (S : SCR B ad Ln xs) (hi : i + 6 ≤ Ln) (hL : Ln < 100000) (R : Rel x) (ih : ∀ y, Rel y → mG B c ad 4 2028 (Lx i) [] (hp KW y)) : mG B c ad 4 512 (Lx i) [] (hp KW x) := by
  refine g_aload_n (M := mLw nm) (pc := 512) X dL_law_512 rfl ?_
  refine g_arg (pc := 513) (j := 1) X S dL_law_513 dL_law_514 dL_law_515 dL_law_516 dL_law_517 (by decide) (by omega) (by omega) ?_
  refine g_arg (pc := 518) (j := 2) X S dL_law_518 dL_law_519 dL_law_520 dL_law_521 dL_law_522 (by decide) (by omega) (by omega) ?_
  refine g_callV (M := mLw nm) mX7_weeks (pc := 523) (ci := 7) (a := 0) (st := []) (As := [.int (xs (i + 1)), .int (xs (i + 2))]) X dL_law_523 lk_L_49 in_X7_weeks mo_X7_weeks k0 ⟨by decide, rfl⟩ ⟨Nat.le_of_ble_eq_true rfl, Nat.le_of_ble_eq_true rfl⟩ (Nat.le_of_ble_eq_true rfl) (mSp_mono (eq_weeks _ _ x R) ?_)
  rintro _ _ ⟨r, y, rfl, rfl, q⟩
  refine g_pop (M := mLw nm) (pc := 526) X dL_law_526 rfl ?_
  refine g_aload_n (M := mLw nm) (pc := 527) X dL_law_527 rfl ?_
  refine g_arg (pc := 528) (j := 1) X S dL_law_528 dL_law_529 dL_law_530 dL_law_531 dL_law_532 (by decide) (by omega) (by omega) ?_
  refine g_arg (pc := 533) (j := 2) X S dL_law_533 dL_law_534 dL_law_535 dL_law_536 dL_law_537 (by decide) (by omega) (by omega) ?_
  refine g_callV (M := mLw nm) mX8_weeks (pc := 538) (ci := 8) (a := 717) (st := []) (As := [.int (xs (i + 1)), .int (xs (i + 2))]) X dL_law_538 lk_L_52 in_X8_weeks mo_X8_weeks km ⟨by decide, rfl⟩ ⟨Nat.le_of_ble_eq_true rfl, Nat.le_of_ble_eq_true rfl⟩ (Nat.le_of_ble_eq_true rfl) (mSp_mono q ?_)
  rintro _ _ ⟨r', z, rfl, rfl, e, Rz⟩
  refine g_pop (M := mLw nm) (pc := 541) X dL_law_541 rfl ?_
  refine g_goto (M := mLw nm) (pc := 542) (tgt := 2028) X dL_law_542 (by decide) ?_
  exact ih z Rz
theorem lc_9 {nm : String} {B : BT} {c : Nat × Nat} {ad : Nat → Nat} {Ln i : Nat} {xs : Nat → Int32} {x : Cn} (X : mCx B c ad (mLw nm) FF) (S : SCR B ad Ln xs) (hi : i + 6 ≤ Ln) (hL : Ln < 100000) (R : Rel x) (ih : ∀ y, Rel y → mG B c ad 4 2028 (Lx i) [] (hp KW y)) : mG B c ad 4 545 (Lx i) [] (hp KW x) := by
  refine g_aload_n (M := mLw nm) (pc := 545) X dL_law_545 rfl ?_
  refine g_arg (pc := 546) (j := 1) X S dL_law_546 dL_law_547 dL_law_548 dL_law_549 dL_law_550 (by decide) (by omega) (by omega) ?_
  refine g_arg (pc := 551) (j := 2) X S dL_law_551 dL_law_552 dL_law_553 dL_law_554 dL_law_555 (by decide) (by omega) (by omega) ?_
  refine g_callV (M := mLw nm) mX7_week (pc := 556) (ci := 7) (a := 0) (st := []) (As := [.int (xs (i + 1)), .int (xs (i + 2))]) X dL_law_556 lk_L_53 in_X7_week mo_X7_week k0 ⟨by decide, rfl⟩ ⟨Nat.le_of_ble_eq_true rfl, Nat.le_of_ble_eq_true rfl⟩ (Nat.le_of_ble_eq_true rfl) (mSp_mono (eq_week _ _ x R) ?_)
  rintro _ _ ⟨r, y, rfl, rfl, q⟩
  refine g_pop (M := mLw nm) (pc := 559) X dL_law_559 rfl ?_
  refine g_aload_n (M := mLw nm) (pc := 560) X dL_law_560 rfl ?_
  refine g_arg (pc := 561) (j := 1) X S dL_law_561 dL_law_562 dL_law_563 dL_law_564 dL_law_565 (by decide) (by omega) (by omega) ?_
  refine g_arg (pc := 566) (j := 2) X S dL_law_566 dL_law_567 dL_law_568 dL_law_569 dL_law_570 (by decide) (by omega) (by omega) ?_
  refine g_callV (M := mLw nm) mX8_week (pc := 571) (ci := 8) (a := 717) (st := []) (As := [.int (xs (i + 1)), .int (xs (i + 2))]) X dL_law_571 lk_L_56 in_X8_week mo_X8_week km ⟨by decide, rfl⟩ ⟨Nat.le_of_ble_eq_true rfl, Nat.le_of_ble_eq_true rfl⟩ (Nat.le_of_ble_eq_true rfl) (mSp_mono q ?_)
  rintro _ _ ⟨r', z, rfl, rfl, e, Rz⟩
  refine g_pop (M := mLw nm) (pc := 574) X dL_law_574 rfl ?_
  refine g_goto (M := mLw nm) (pc := 575) (tgt := 2028) X dL_law_575 (by decide) ?_
  exact ih z Rz
theorem lc_10 {nm : String} {B : BT} {c : Nat × Nat} {ad : Nat → Nat} {Ln i : Nat} {xs : Nat → Int32} {x : Cn} (X : mCx B c ad (mLw nm) FF) (S : SCR B ad Ln xs) (hi : i + 6 ≤ Ln) (hL : Ln < 100000) (R : Rel x) (ih : ∀ y, Rel y → mG B c ad 4 2028 (Lx i) [] (hp KW y)) : mG B c ad 4 578 (Lx i) [] (hp KW x) := by
  refine g_aload_n (M := mLw nm) (pc := 578) X dL_law_578 rfl ?_
  refine g_arg (pc := 579) (j := 1) X S dL_law_579 dL_law_580 dL_law_581 dL_law_582 dL_law_583 (by decide) (by omega) (by omega) ?_
  refine g_arg (pc := 584) (j := 2) X S dL_law_584 dL_law_585 dL_law_586 dL_law_587 dL_law_588 (by decide) (by omega) (by omega) ?_
  refine g_callV (M := mLw nm) mX7_asked (pc := 589) (ci := 7) (a := 0) (st := []) (As := [.int (xs (i + 1)), .int (xs (i + 2))]) X dL_law_589 lk_L_57 in_X7_asked mo_X7_asked k0 ⟨by decide, rfl⟩ ⟨Nat.le_of_ble_eq_true rfl, Nat.le_of_ble_eq_true rfl⟩ (Nat.le_of_ble_eq_true rfl) (mSp_mono (eq_asked _ _ x R) ?_)
  rintro _ _ ⟨r, y, rfl, rfl, q⟩
  refine g_pop (M := mLw nm) (pc := 592) X dL_law_592 rfl ?_
  refine g_aload_n (M := mLw nm) (pc := 593) X dL_law_593 rfl ?_
  refine g_arg (pc := 594) (j := 1) X S dL_law_594 dL_law_595 dL_law_596 dL_law_597 dL_law_598 (by decide) (by omega) (by omega) ?_
  refine g_arg (pc := 599) (j := 2) X S dL_law_599 dL_law_600 dL_law_601 dL_law_602 dL_law_603 (by decide) (by omega) (by omega) ?_
  refine g_callV (M := mLw nm) mX8_asked (pc := 604) (ci := 8) (a := 717) (st := []) (As := [.int (xs (i + 1)), .int (xs (i + 2))]) X dL_law_604 lk_L_60 in_X8_asked mo_X8_asked km ⟨by decide, rfl⟩ ⟨Nat.le_of_ble_eq_true rfl, Nat.le_of_ble_eq_true rfl⟩ (Nat.le_of_ble_eq_true rfl) (mSp_mono q ?_)
  rintro _ _ ⟨r', z, rfl, rfl, e, Rz⟩
  refine g_pop (M := mLw nm) (pc := 607) X dL_law_607 rfl ?_
  refine g_goto (M := mLw nm) (pc := 608) (tgt := 2028) X dL_law_608 (by decide) ?_
  exact ih z Rz
theorem lc_11 {nm : String} {B : BT} {c : Nat × Nat} {ad : Nat → Nat} {Ln i : Nat} {xs : Nat → Int32} {x : Cn} (X : mCx B c ad (mLw nm) FF) (S : SCR B ad Ln xs) (hi : i + 6 ≤ Ln) (hL : Ln < 100000) (R : Rel x) (ih : ∀ y, Rel y → mG B c ad 4 2028 (Lx i) [] (hp KW y)) : mG B c ad 4 611 (Lx i) [] (hp KW x) := by
  refine g_aload_n (M := mLw nm) (pc := 611) X dL_law_611 rfl ?_
  refine g_arg (pc := 612) (j := 1) X S dL_law_612 dL_law_613 dL_law_614 dL_law_615 dL_law_616 (by decide) (by omega) (by omega) ?_
  refine g_arg (pc := 617) (j := 2) X S dL_law_617 dL_law_618 dL_law_619 dL_law_620 dL_law_621 (by decide) (by omega) (by omega) ?_
  refine g_callV (M := mLw nm) mX7_limitOf (pc := 622) (ci := 7) (a := 0) (st := []) (As := [.int (xs (i + 1)), .int (xs (i + 2))]) X dL_law_622 lk_L_61 in_X7_limitOf mo_X7_limitOf k0 ⟨by decide, rfl⟩ ⟨Nat.le_of_ble_eq_true rfl, Nat.le_of_ble_eq_true rfl⟩ (Nat.le_of_ble_eq_true rfl) (mSp_mono (eq_limitOf _ _ x R) ?_)
  rintro _ _ ⟨r, y, rfl, rfl, q⟩
  refine g_pop (M := mLw nm) (pc := 625) X dL_law_625 rfl ?_
  refine g_aload_n (M := mLw nm) (pc := 626) X dL_law_626 rfl ?_
  refine g_arg (pc := 627) (j := 1) X S dL_law_627 dL_law_628 dL_law_629 dL_law_630 dL_law_631 (by decide) (by omega) (by omega) ?_
  refine g_arg (pc := 632) (j := 2) X S dL_law_632 dL_law_633 dL_law_634 dL_law_635 dL_law_636 (by decide) (by omega) (by omega) ?_
  refine g_callV (M := mLw nm) mX8_limitOf (pc := 637) (ci := 8) (a := 717) (st := []) (As := [.int (xs (i + 1)), .int (xs (i + 2))]) X dL_law_637 lk_L_64 in_X8_limitOf mo_X8_limitOf km ⟨by decide, rfl⟩ ⟨Nat.le_of_ble_eq_true rfl, Nat.le_of_ble_eq_true rfl⟩ (Nat.le_of_ble_eq_true rfl) (mSp_mono q ?_)
  rintro _ _ ⟨r', z, rfl, rfl, e, Rz⟩
  refine g_pop (M := mLw nm) (pc := 640) X dL_law_640 rfl ?_
  refine g_goto (M := mLw nm) (pc := 641) (tgt := 2028) X dL_law_641 (by decide) ?_
  exact ih z Rz
theorem lc_12 {nm : String} {B : BT} {c : Nat × Nat} {ad : Nat → Nat} {Ln i : Nat} {xs : Nat → Int32} {x : Cn} (X : mCx B c ad (mLw nm) FF) (S : SCR B ad Ln xs) (hi : i + 6 ≤ Ln) (hL : Ln < 100000) (R : Rel x) (ih : ∀ y, Rel y → mG B c ad 4 2028 (Lx i) [] (hp KW y)) : mG B c ad 4 644 (Lx i) [] (hp KW x) := by
  refine g_aload_n (M := mLw nm) (pc := 644) X dL_law_644 rfl ?_
  refine g_arg (pc := 645) (j := 1) X S dL_law_645 dL_law_646 dL_law_647 dL_law_648 dL_law_649 (by decide) (by omega) (by omega) ?_
  refine g_arg (pc := 650) (j := 2) X S dL_law_650 dL_law_651 dL_law_652 dL_law_653 dL_law_654 (by decide) (by omega) (by omega) ?_
  refine g_arg (pc := 655) (j := 3) X S dL_law_655 dL_law_656 dL_law_657 dL_law_658 dL_law_659 (by decide) (by omega) (by omega) ?_
  refine g_arg (pc := 660) (j := 4) X S dL_law_660 dL_law_661 dL_law_662 dL_law_663 dL_law_664 (by decide) (by omega) (by omega) ?_
  refine g_callV (M := mLw nm) mX7_load (pc := 665) (ci := 7) (a := 0) (st := []) (As := [.int (xs (i + 1)), .int (xs (i + 2)), .int (xs (i + 3)), .int (xs (i + 4))]) X dL_law_665 lk_L_65 in_X7_load mo_X7_load k0 ⟨by decide, rfl⟩ ⟨Nat.le_of_ble_eq_true rfl, Nat.le_of_ble_eq_true rfl⟩ (Nat.le_of_ble_eq_true rfl) (mSp_mono (eq_load _ _ _ _ x R) ?_)
  rintro _ _ ⟨r, y, rfl, rfl, q⟩
  refine g_pop (M := mLw nm) (pc := 668) X dL_law_668 rfl ?_
  refine g_aload_n (M := mLw nm) (pc := 669) X dL_law_669 rfl ?_
  refine g_arg (pc := 670) (j := 1) X S dL_law_670 dL_law_671 dL_law_672 dL_law_673 dL_law_674 (by decide) (by omega) (by omega) ?_
  refine g_arg (pc := 675) (j := 2) X S dL_law_675 dL_law_676 dL_law_677 dL_law_678 dL_law_679 (by decide) (by omega) (by omega) ?_
  refine g_arg (pc := 680) (j := 3) X S dL_law_680 dL_law_681 dL_law_682 dL_law_683 dL_law_684 (by decide) (by omega) (by omega) ?_
  refine g_arg (pc := 685) (j := 4) X S dL_law_685 dL_law_686 dL_law_687 dL_law_688 dL_law_689 (by decide) (by omega) (by omega) ?_
  refine g_callV (M := mLw nm) mX8_load (pc := 690) (ci := 8) (a := 717) (st := []) (As := [.int (xs (i + 1)), .int (xs (i + 2)), .int (xs (i + 3)), .int (xs (i + 4))]) X dL_law_690 lk_L_69 in_X8_load mo_X8_load km ⟨by decide, rfl⟩ ⟨Nat.le_of_ble_eq_true rfl, Nat.le_of_ble_eq_true rfl⟩ (Nat.le_of_ble_eq_true rfl) (mSp_mono q ?_)
  rintro _ _ ⟨r', z, rfl, rfl, e, Rz⟩
  refine g_pop (M := mLw nm) (pc := 693) X dL_law_693 rfl ?_
  refine g_goto (M := mLw nm) (pc := 694) (tgt := 2028) X dL_law_694 (by decide) ?_
  exact ih z Rz
theorem lc_13 {nm : String} {B : BT} {c : Nat × Nat} {ad : Nat → Nat} {Ln i : Nat} {xs : Nat → Int32} {x : Cn} (X : mCx B c ad (mLw nm) FF) (S : SCR B ad Ln xs) (hi : i + 6 ≤ Ln) (hL : Ln < 100000) (R : Rel x) (ih : ∀ y, Rel y → mG B c ad 4 2028 (Lx i) [] (hp KW y)) : mG B c ad 4 697 (Lx i) [] (hp KW x) := by
  refine g_aload_n (M := mLw nm) (pc := 697) X dL_law_697 rfl ?_
  refine g_arg (pc := 698) (j := 1) X S dL_law_698 dL_law_699 dL_law_700 dL_law_701 dL_law_702 (by decide) (by omega) (by omega) ?_
  refine g_arg (pc := 703) (j := 2) X S dL_law_703 dL_law_704 dL_law_705 dL_law_706 dL_law_707 (by decide) (by omega) (by omega) ?_
  refine g_arg (pc := 708) (j := 3) X S dL_law_708 dL_law_709 dL_law_710 dL_law_711 dL_law_712 (by decide) (by omega) (by omega) ?_
  refine g_arg (pc := 713) (j := 4) X S dL_law_713 dL_law_714 dL_law_715 dL_law_716 dL_law_717 (by decide) (by omega) (by omega) ?_
  refine g_callV (M := mLw nm) mX7_at (pc := 718) (ci := 7) (a := 0) (st := []) (As := [.int (xs (i + 1)), .int (xs (i + 2)), .int (xs (i + 3)), .int (xs (i + 4))]) X dL_law_718 lk_L_70 in_X7_at mo_X7_at k0 ⟨by decide, rfl⟩ ⟨Nat.le_of_ble_eq_true rfl, Nat.le_of_ble_eq_true rfl⟩ (Nat.le_of_ble_eq_true rfl) (mSp_mono (eq_at _ _ _ _ x R) ?_)
  rintro _ _ ⟨r, y, rfl, rfl, q⟩
  refine g_pop (M := mLw nm) (pc := 721) X dL_law_721 rfl ?_
  refine g_aload_n (M := mLw nm) (pc := 722) X dL_law_722 rfl ?_
  refine g_arg (pc := 723) (j := 1) X S dL_law_723 dL_law_724 dL_law_725 dL_law_726 dL_law_727 (by decide) (by omega) (by omega) ?_
  refine g_arg (pc := 728) (j := 2) X S dL_law_728 dL_law_729 dL_law_730 dL_law_731 dL_law_732 (by decide) (by omega) (by omega) ?_
  refine g_arg (pc := 733) (j := 3) X S dL_law_733 dL_law_734 dL_law_735 dL_law_736 dL_law_737 (by decide) (by omega) (by omega) ?_
  refine g_arg (pc := 738) (j := 4) X S dL_law_738 dL_law_739 dL_law_740 dL_law_741 dL_law_742 (by decide) (by omega) (by omega) ?_
  refine g_callV (M := mLw nm) mX8_at (pc := 743) (ci := 8) (a := 717) (st := []) (As := [.int (xs (i + 1)), .int (xs (i + 2)), .int (xs (i + 3)), .int (xs (i + 4))]) X dL_law_743 lk_L_73 in_X8_at mo_X8_at km ⟨by decide, rfl⟩ ⟨Nat.le_of_ble_eq_true rfl, Nat.le_of_ble_eq_true rfl⟩ (Nat.le_of_ble_eq_true rfl) (mSp_mono q ?_)
  rintro _ _ ⟨r', z, rfl, rfl, e, Rz⟩
  refine g_pop (M := mLw nm) (pc := 746) X dL_law_746 rfl ?_
  refine g_goto (M := mLw nm) (pc := 747) (tgt := 2028) X dL_law_747 (by decide) ?_
  exact ih z Rz
theorem lc_14 {nm : String} {B : BT} {c : Nat × Nat} {ad : Nat → Nat} {Ln i : Nat} {xs : Nat → Int32} {x : Cn} (X : mCx B c ad (mLw nm) FF) (S : SCR B ad Ln xs) (hi : i + 6 ≤ Ln) (hL : Ln < 100000) (R : Rel x) (ih : ∀ y, Rel y → mG B c ad 4 2028 (Lx i) [] (hp KW y)) : mG B c ad 4 750 (Lx i) [] (hp KW x) := by
  refine g_aload_n (M := mLw nm) (pc := 750) X dL_law_750 rfl ?_
  refine g_arg (pc := 751) (j := 1) X S dL_law_751 dL_law_752 dL_law_753 dL_law_754 dL_law_755 (by decide) (by omega) (by omega) ?_
  refine g_arg (pc := 756) (j := 2) X S dL_law_756 dL_law_757 dL_law_758 dL_law_759 dL_law_760 (by decide) (by omega) (by omega) ?_
  refine g_arg (pc := 761) (j := 3) X S dL_law_761 dL_law_762 dL_law_763 dL_law_764 dL_law_765 (by decide) (by omega) (by omega) ?_
  refine g_arg (pc := 766) (j := 4) X S dL_law_766 dL_law_767 dL_law_768 dL_law_769 dL_law_770 (by decide) (by omega) (by omega) ?_
  refine g_callV (M := mLw nm) mX7_room (pc := 771) (ci := 7) (a := 0) (st := []) (As := [.int (xs (i + 1)), .int (xs (i + 2)), .int (xs (i + 3)), .int (xs (i + 4))]) X dL_law_771 lk_L_74 in_X7_room mo_X7_room k0 ⟨by decide, rfl⟩ ⟨Nat.le_of_ble_eq_true rfl, Nat.le_of_ble_eq_true rfl⟩ (Nat.le_of_ble_eq_true rfl) (mSp_mono (eq_room _ _ _ _ x R) ?_)
  rintro _ _ ⟨r, y, rfl, rfl, q⟩
  refine g_pop (M := mLw nm) (pc := 774) X dL_law_774 rfl ?_
  refine g_aload_n (M := mLw nm) (pc := 775) X dL_law_775 rfl ?_
  refine g_arg (pc := 776) (j := 1) X S dL_law_776 dL_law_777 dL_law_778 dL_law_779 dL_law_780 (by decide) (by omega) (by omega) ?_
  refine g_arg (pc := 781) (j := 2) X S dL_law_781 dL_law_782 dL_law_783 dL_law_784 dL_law_785 (by decide) (by omega) (by omega) ?_
  refine g_arg (pc := 786) (j := 3) X S dL_law_786 dL_law_787 dL_law_788 dL_law_789 dL_law_790 (by decide) (by omega) (by omega) ?_
  refine g_arg (pc := 791) (j := 4) X S dL_law_791 dL_law_792 dL_law_793 dL_law_794 dL_law_795 (by decide) (by omega) (by omega) ?_
  refine g_callV (M := mLw nm) mX8_room (pc := 796) (ci := 8) (a := 717) (st := []) (As := [.int (xs (i + 1)), .int (xs (i + 2)), .int (xs (i + 3)), .int (xs (i + 4))]) X dL_law_796 lk_L_77 in_X8_room mo_X8_room km ⟨by decide, rfl⟩ ⟨Nat.le_of_ble_eq_true rfl, Nat.le_of_ble_eq_true rfl⟩ (Nat.le_of_ble_eq_true rfl) (mSp_mono q ?_)
  rintro _ _ ⟨r', z, rfl, rfl, e, Rz⟩
  refine g_pop (M := mLw nm) (pc := 799) X dL_law_799 rfl ?_
  refine g_goto (M := mLw nm) (pc := 800) (tgt := 2028) X dL_law_800 (by decide) ?_
  exact ih z Rz
theorem lc_15 {nm : String} {B : BT} {c : Nat × Nat} {ad : Nat → Nat} {Ln i : Nat} {xs : Nat → Int32} {x : Cn} (X : mCx B c ad (mLw nm) FF) (S : SCR B ad Ln xs) (hi : i + 6 ≤ Ln) (hL : Ln < 100000) (R : Rel x) (ih : ∀ y, Rel y → mG B c ad 4 2028 (Lx i) [] (hp KW y)) : mG B c ad 4 803 (Lx i) [] (hp KW x) := by
  refine g_aload_n (M := mLw nm) (pc := 803) X dL_law_803 rfl ?_
  refine g_arg (pc := 804) (j := 1) X S dL_law_804 dL_law_805 dL_law_806 dL_law_807 dL_law_808 (by decide) (by omega) (by omega) ?_
  refine g_arg (pc := 809) (j := 2) X S dL_law_809 dL_law_810 dL_law_811 dL_law_812 dL_law_813 (by decide) (by omega) (by omega) ?_
  refine g_callV (M := mLw nm) mX7_use (pc := 814) (ci := 7) (a := 0) (st := []) (As := [.int (xs (i + 1)), .int (xs (i + 2))]) X dL_law_814 lk_L_78 in_X7_use mo_X7_use k0 ⟨by decide, rfl⟩ ⟨Nat.le_of_ble_eq_true rfl, Nat.le_of_ble_eq_true rfl⟩ (Nat.le_of_ble_eq_true rfl) (mSp_mono (eq_use _ _ x R) ?_)
  rintro _ _ ⟨r, y, rfl, rfl, q⟩
  refine g_pop (M := mLw nm) (pc := 817) X dL_law_817 rfl ?_
  refine g_aload_n (M := mLw nm) (pc := 818) X dL_law_818 rfl ?_
  refine g_arg (pc := 819) (j := 1) X S dL_law_819 dL_law_820 dL_law_821 dL_law_822 dL_law_823 (by decide) (by omega) (by omega) ?_
  refine g_arg (pc := 824) (j := 2) X S dL_law_824 dL_law_825 dL_law_826 dL_law_827 dL_law_828 (by decide) (by omega) (by omega) ?_
  refine g_callV (M := mLw nm) mX8_use (pc := 829) (ci := 8) (a := 717) (st := []) (As := [.int (xs (i + 1)), .int (xs (i + 2))]) X dL_law_829 lk_L_81 in_X8_use mo_X8_use km ⟨by decide, rfl⟩ ⟨Nat.le_of_ble_eq_true rfl, Nat.le_of_ble_eq_true rfl⟩ (Nat.le_of_ble_eq_true rfl) (mSp_mono q ?_)
  rintro _ _ ⟨r', z, rfl, rfl, e, Rz⟩
  refine g_pop (M := mLw nm) (pc := 832) X dL_law_832 rfl ?_
  refine g_goto (M := mLw nm) (pc := 833) (tgt := 2028) X dL_law_833 (by decide) ?_
  exact ih z Rz
theorem lc_16 {nm : String} {B : BT} {c : Nat × Nat} {ad : Nat → Nat} {Ln i : Nat} {xs : Nat → Int32} {x : Cn} (X : mCx B c ad (mLw nm) FF) (S : SCR B ad Ln xs) (hi : i + 6 ≤ Ln) (hL : Ln < 100000) (R : Rel x) (ih : ∀ y, Rel y → mG B c ad 4 2028 (Lx i) [] (hp KW y)) : mG B c ad 4 836 (Lx i) [] (hp KW x) := by
  refine g_aload_n (M := mLw nm) (pc := 836) X dL_law_836 rfl ?_
  refine g_arg (pc := 837) (j := 1) X S dL_law_837 dL_law_838 dL_law_839 dL_law_840 dL_law_841 (by decide) (by omega) (by omega) ?_
  refine g_callV (M := mLw nm) mX7_stands (pc := 842) (ci := 7) (a := 0) (st := []) (As := [.int (xs (i + 1))]) X dL_law_842 lk_L_82 in_X7_stands mo_X7_stands k0 ⟨by decide, rfl⟩ ⟨Nat.le_of_ble_eq_true rfl, Nat.le_of_ble_eq_true rfl⟩ (Nat.le_of_ble_eq_true rfl) (mSp_mono (eq_stands _ x R) ?_)
  rintro _ _ ⟨r, y, rfl, rfl, q⟩
  refine g_pop (M := mLw nm) (pc := 845) X dL_law_845 rfl ?_
  refine g_aload_n (M := mLw nm) (pc := 846) X dL_law_846 rfl ?_
  refine g_arg (pc := 847) (j := 1) X S dL_law_847 dL_law_848 dL_law_849 dL_law_850 dL_law_851 (by decide) (by omega) (by omega) ?_
  refine g_callV (M := mLw nm) mX8_stands (pc := 852) (ci := 8) (a := 717) (st := []) (As := [.int (xs (i + 1))]) X dL_law_852 lk_L_85 in_X8_stands mo_X8_stands km ⟨by decide, rfl⟩ ⟨Nat.le_of_ble_eq_true rfl, Nat.le_of_ble_eq_true rfl⟩ (Nat.le_of_ble_eq_true rfl) (mSp_mono q ?_)
  rintro _ _ ⟨r', z, rfl, rfl, e, Rz⟩
  refine g_pop (M := mLw nm) (pc := 855) X dL_law_855 rfl ?_
  refine g_goto (M := mLw nm) (pc := 856) (tgt := 2028) X dL_law_856 (by decide) ?_
  exact ih z Rz
theorem lc_17 {nm : String} {B : BT} {c : Nat × Nat} {ad : Nat → Nat} {Ln i : Nat} {xs : Nat → Int32} {x : Cn} (X : mCx B c ad (mLw nm) FF) (S : SCR B ad Ln xs) (hi : i + 6 ≤ Ln) (hL : Ln < 100000) (R : Rel x) (ih : ∀ y, Rel y → mG B c ad 4 2028 (Lx i) [] (hp KW y)) : mG B c ad 4 859 (Lx i) [] (hp KW x) := by
  refine g_aload_n (M := mLw nm) (pc := 859) X dL_law_859 rfl ?_
  refine g_arg (pc := 860) (j := 1) X S dL_law_860 dL_law_861 dL_law_862 dL_law_863 dL_law_864 (by decide) (by omega) (by omega) ?_
  refine g_callV (M := mLw nm) mX7_spare (pc := 865) (ci := 7) (a := 0) (st := []) (As := [.int (xs (i + 1))]) X dL_law_865 lk_L_86 in_X7_spare mo_X7_spare k0 ⟨by decide, rfl⟩ ⟨Nat.le_of_ble_eq_true rfl, Nat.le_of_ble_eq_true rfl⟩ (Nat.le_of_ble_eq_true rfl) (mSp_mono (eq_spare _ x R) ?_)
  rintro _ _ ⟨r, y, rfl, rfl, q⟩
  refine g_pop (M := mLw nm) (pc := 868) X dL_law_868 rfl ?_
  refine g_aload_n (M := mLw nm) (pc := 869) X dL_law_869 rfl ?_
  refine g_arg (pc := 870) (j := 1) X S dL_law_870 dL_law_871 dL_law_872 dL_law_873 dL_law_874 (by decide) (by omega) (by omega) ?_
  refine g_callV (M := mLw nm) mX8_spare (pc := 875) (ci := 8) (a := 717) (st := []) (As := [.int (xs (i + 1))]) X dL_law_875 lk_L_89 in_X8_spare mo_X8_spare km ⟨by decide, rfl⟩ ⟨Nat.le_of_ble_eq_true rfl, Nat.le_of_ble_eq_true rfl⟩ (Nat.le_of_ble_eq_true rfl) (mSp_mono q ?_)
  rintro _ _ ⟨r', z, rfl, rfl, e, Rz⟩
  refine g_pop (M := mLw nm) (pc := 878) X dL_law_878 rfl ?_
  refine g_goto (M := mLw nm) (pc := 879) (tgt := 2028) X dL_law_879 (by decide) ?_
  exact ih z Rz
theorem lc_18 {nm : String} {B : BT} {c : Nat × Nat} {ad : Nat → Nat} {Ln i : Nat} {xs : Nat → Int32} {x : Cn} (X : mCx B c ad (mLw nm) FF) (S : SCR B ad Ln xs) (hi : i + 6 ≤ Ln) (hL : Ln < 100000) (R : Rel x) (ih : ∀ y, Rel y → mG B c ad 4 2028 (Lx i) [] (hp KW y)) : mG B c ad 4 882 (Lx i) [] (hp KW x) := by
  refine g_aload_n (M := mLw nm) (pc := 882) X dL_law_882 rfl ?_
  refine g_arg (pc := 883) (j := 1) X S dL_law_883 dL_law_884 dL_law_885 dL_law_886 dL_law_887 (by decide) (by omega) (by omega) ?_
  refine g_arg (pc := 888) (j := 2) X S dL_law_888 dL_law_889 dL_law_890 dL_law_891 dL_law_892 (by decide) (by omega) (by omega) ?_
  refine g_callV (M := mLw nm) mX7_of (pc := 893) (ci := 7) (a := 0) (st := []) (As := [.int (xs (i + 1)), .int (xs (i + 2))]) X dL_law_893 lk_L_90 in_X7_of mo_X7_of k0 ⟨by decide, rfl⟩ ⟨Nat.le_of_ble_eq_true rfl, Nat.le_of_ble_eq_true rfl⟩ (Nat.le_of_ble_eq_true rfl) (mSp_mono (eq_of _ _ x R) ?_)
  rintro _ _ ⟨r, y, rfl, rfl, q⟩
  refine g_pop (M := mLw nm) (pc := 896) X dL_law_896 rfl ?_
  refine g_aload_n (M := mLw nm) (pc := 897) X dL_law_897 rfl ?_
  refine g_arg (pc := 898) (j := 1) X S dL_law_898 dL_law_899 dL_law_900 dL_law_901 dL_law_902 (by decide) (by omega) (by omega) ?_
  refine g_arg (pc := 903) (j := 2) X S dL_law_903 dL_law_904 dL_law_905 dL_law_906 dL_law_907 (by decide) (by omega) (by omega) ?_
  refine g_callV (M := mLw nm) mX8_of (pc := 908) (ci := 8) (a := 717) (st := []) (As := [.int (xs (i + 1)), .int (xs (i + 2))]) X dL_law_908 lk_L_93 in_X8_of mo_X8_of km ⟨by decide, rfl⟩ ⟨Nat.le_of_ble_eq_true rfl, Nat.le_of_ble_eq_true rfl⟩ (Nat.le_of_ble_eq_true rfl) (mSp_mono q ?_)
  rintro _ _ ⟨r', z, rfl, rfl, e, Rz⟩
  refine g_pop (M := mLw nm) (pc := 911) X dL_law_911 rfl ?_
  refine g_goto (M := mLw nm) (pc := 912) (tgt := 2028) X dL_law_912 (by decide) ?_
  exact ih z Rz
theorem lc_19 {nm : String} {B : BT} {c : Nat × Nat} {ad : Nat → Nat} {Ln i : Nat} {xs : Nat → Int32} {x : Cn} (X : mCx B c ad (mLw nm) FF) (S : SCR B ad Ln xs) (hi : i + 6 ≤ Ln) (hL : Ln < 100000) (R : Rel x) (ih : ∀ y, Rel y → mG B c ad 4 2028 (Lx i) [] (hp KW y)) : mG B c ad 4 915 (Lx i) [] (hp KW x) := by
  refine g_aload_n (M := mLw nm) (pc := 915) X dL_law_915 rfl ?_
  refine g_arg (pc := 916) (j := 1) X S dL_law_916 dL_law_917 dL_law_918 dL_law_919 dL_law_920 (by decide) (by omega) (by omega) ?_
  refine g_arg (pc := 921) (j := 2) X S dL_law_921 dL_law_922 dL_law_923 dL_law_924 dL_law_925 (by decide) (by omega) (by omega) ?_
  refine g_callV (M := mLw nm) mX7_entrant (pc := 926) (ci := 7) (a := 0) (st := []) (As := [.int (xs (i + 1)), .int (xs (i + 2))]) X dL_law_926 lk_L_94 in_X7_entrant mo_X7_entrant k0 ⟨by decide, rfl⟩ ⟨Nat.le_of_ble_eq_true rfl, Nat.le_of_ble_eq_true rfl⟩ (Nat.le_of_ble_eq_true rfl) (mSp_mono (eq_entrant _ _ x R) ?_)
  rintro _ _ ⟨r, y, rfl, rfl, q⟩
  refine g_pop (M := mLw nm) (pc := 929) X dL_law_929 rfl ?_
  refine g_aload_n (M := mLw nm) (pc := 930) X dL_law_930 rfl ?_
  refine g_arg (pc := 931) (j := 1) X S dL_law_931 dL_law_932 dL_law_933 dL_law_934 dL_law_935 (by decide) (by omega) (by omega) ?_
  refine g_arg (pc := 936) (j := 2) X S dL_law_936 dL_law_937 dL_law_938 dL_law_939 dL_law_940 (by decide) (by omega) (by omega) ?_
  refine g_callV (M := mLw nm) mX8_entrant (pc := 941) (ci := 8) (a := 717) (st := []) (As := [.int (xs (i + 1)), .int (xs (i + 2))]) X dL_law_941 lk_L_97 in_X8_entrant mo_X8_entrant km ⟨by decide, rfl⟩ ⟨Nat.le_of_ble_eq_true rfl, Nat.le_of_ble_eq_true rfl⟩ (Nat.le_of_ble_eq_true rfl) (mSp_mono q ?_)
  rintro _ _ ⟨r', z, rfl, rfl, e, Rz⟩
  refine g_pop (M := mLw nm) (pc := 944) X dL_law_944 rfl ?_
  refine g_goto (M := mLw nm) (pc := 945) (tgt := 2028) X dL_law_945 (by decide) ?_
  exact ih z Rz
theorem lc_20 {nm : String} {B : BT} {c : Nat × Nat} {ad : Nat → Nat} {Ln i : Nat} {xs : Nat → Int32} {x : Cn} (X : mCx B c ad (mLw nm) FF) (S : SCR B ad Ln xs) (hi : i + 6 ≤ Ln) (hL : Ln < 100000) (R : Rel x) (ih : ∀ y, Rel y → mG B c ad 4 2028 (Lx i) [] (hp KW y)) : mG B c ad 4 948 (Lx i) [] (hp KW x) := by
  refine g_aload_n (M := mLw nm) (pc := 948) X dL_law_948 rfl ?_
  refine g_arg (pc := 949) (j := 1) X S dL_law_949 dL_law_950 dL_law_951 dL_law_952 dL_law_953 (by decide) (by omega) (by omega) ?_
  refine g_arg (pc := 954) (j := 2) X S dL_law_954 dL_law_955 dL_law_956 dL_law_957 dL_law_958 (by decide) (by omega) (by omega) ?_
  refine g_callV (M := mLw nm) mX7_sum (pc := 959) (ci := 7) (a := 0) (st := []) (As := [.int (xs (i + 1)), .int (xs (i + 2))]) X dL_law_959 lk_L_98 in_X7_sum mo_X7_sum k0 ⟨by decide, rfl⟩ ⟨Nat.le_of_ble_eq_true rfl, Nat.le_of_ble_eq_true rfl⟩ (Nat.le_of_ble_eq_true rfl) (mSp_mono (eq_sum _ _ x R) ?_)
  rintro _ _ ⟨r, y, rfl, rfl, q⟩
  refine g_pop (M := mLw nm) (pc := 962) X dL_law_962 rfl ?_
  refine g_aload_n (M := mLw nm) (pc := 963) X dL_law_963 rfl ?_
  refine g_arg (pc := 964) (j := 1) X S dL_law_964 dL_law_965 dL_law_966 dL_law_967 dL_law_968 (by decide) (by omega) (by omega) ?_
  refine g_arg (pc := 969) (j := 2) X S dL_law_969 dL_law_970 dL_law_971 dL_law_972 dL_law_973 (by decide) (by omega) (by omega) ?_
  refine g_callV (M := mLw nm) mX8_sum (pc := 974) (ci := 8) (a := 717) (st := []) (As := [.int (xs (i + 1)), .int (xs (i + 2))]) X dL_law_974 lk_L_101 in_X8_sum mo_X8_sum km ⟨by decide, rfl⟩ ⟨Nat.le_of_ble_eq_true rfl, Nat.le_of_ble_eq_true rfl⟩ (Nat.le_of_ble_eq_true rfl) (mSp_mono q ?_)
  rintro _ _ ⟨r', z, rfl, rfl, e, Rz⟩
  refine g_pop (M := mLw nm) (pc := 977) X dL_law_977 rfl ?_
  refine g_goto (M := mLw nm) (pc := 978) (tgt := 2028) X dL_law_978 (by decide) ?_
  exact ih z Rz
theorem lc_21 {nm : String} {B : BT} {c : Nat × Nat} {ad : Nat → Nat} {Ln i : Nat} {xs : Nat → Int32} {x : Cn} (X : mCx B c ad (mLw nm) FF) (S : SCR B ad Ln xs) (hi : i + 6 ≤ Ln) (hL : Ln < 100000) (R : Rel x) (ih : ∀ y, Rel y → mG B c ad 4 2028 (Lx i) [] (hp KW y)) : mG B c ad 4 981 (Lx i) [] (hp KW x) := by
  refine g_aload_n (M := mLw nm) (pc := 981) X dL_law_981 rfl ?_
  refine g_arg (pc := 982) (j := 1) X S dL_law_982 dL_law_983 dL_law_984 dL_law_985 dL_law_986 (by decide) (by omega) (by omega) ?_
  refine g_callV (M := mLw nm) mX7_best (pc := 987) (ci := 7) (a := 0) (st := []) (As := [.int (xs (i + 1))]) X dL_law_987 lk_L_102 in_X7_best mo_X7_best k0 ⟨by decide, rfl⟩ ⟨Nat.le_of_ble_eq_true rfl, Nat.le_of_ble_eq_true rfl⟩ (Nat.le_of_ble_eq_true rfl) (mSp_mono (eq_best _ x R) ?_)
  rintro _ _ ⟨r, y, rfl, rfl, q⟩
  refine g_pop (M := mLw nm) (pc := 990) X dL_law_990 rfl ?_
  refine g_aload_n (M := mLw nm) (pc := 991) X dL_law_991 rfl ?_
  refine g_arg (pc := 992) (j := 1) X S dL_law_992 dL_law_993 dL_law_994 dL_law_995 dL_law_996 (by decide) (by omega) (by omega) ?_
  refine g_callV (M := mLw nm) mX8_best (pc := 997) (ci := 8) (a := 717) (st := []) (As := [.int (xs (i + 1))]) X dL_law_997 lk_L_105 in_X8_best mo_X8_best km ⟨by decide, rfl⟩ ⟨Nat.le_of_ble_eq_true rfl, Nat.le_of_ble_eq_true rfl⟩ (Nat.le_of_ble_eq_true rfl) (mSp_mono q ?_)
  rintro _ _ ⟨r', z, rfl, rfl, e, Rz⟩
  refine g_pop (M := mLw nm) (pc := 1000) X dL_law_1000 rfl ?_
  refine g_goto (M := mLw nm) (pc := 1001) (tgt := 2028) X dL_law_1001 (by decide) ?_
  exact ih z Rz
theorem lc_22 {nm : String} {B : BT} {c : Nat × Nat} {ad : Nat → Nat} {Ln i : Nat} {xs : Nat → Int32} {x : Cn} (X : mCx B c ad (mLw nm) FF) (S : SCR B ad Ln xs) (hi : i + 6 ≤ Ln) (hL : Ln < 100000) (R : Rel x) (ih : ∀ y, Rel y → mG B c ad 4 2028 (Lx i) [] (hp KW y)) : mG B c ad 4 1004 (Lx i) [] (hp KW x) := by
  refine g_aload_n (M := mLw nm) (pc := 1004) X dL_law_1004 rfl ?_
  refine g_arg (pc := 1005) (j := 1) X S dL_law_1005 dL_law_1006 dL_law_1007 dL_law_1008 dL_law_1009 (by decide) (by omega) (by omega) ?_
  refine g_callV (M := mLw nm) mX7_peak (pc := 1010) (ci := 7) (a := 0) (st := []) (As := [.int (xs (i + 1))]) X dL_law_1010 lk_L_106 in_X7_peak mo_X7_peak k0 ⟨by decide, rfl⟩ ⟨Nat.le_of_ble_eq_true rfl, Nat.le_of_ble_eq_true rfl⟩ (Nat.le_of_ble_eq_true rfl) (mSp_mono (eq_peak _ x R) ?_)
  rintro _ _ ⟨r, y, rfl, rfl, q⟩
  refine g_pop (M := mLw nm) (pc := 1013) X dL_law_1013 rfl ?_
  refine g_aload_n (M := mLw nm) (pc := 1014) X dL_law_1014 rfl ?_
  refine g_arg (pc := 1015) (j := 1) X S dL_law_1015 dL_law_1016 dL_law_1017 dL_law_1018 dL_law_1019 (by decide) (by omega) (by omega) ?_
  refine g_callV (M := mLw nm) mX8_peak (pc := 1020) (ci := 8) (a := 717) (st := []) (As := [.int (xs (i + 1))]) X dL_law_1020 lk_L_109 in_X8_peak mo_X8_peak km ⟨by decide, rfl⟩ ⟨Nat.le_of_ble_eq_true rfl, Nat.le_of_ble_eq_true rfl⟩ (Nat.le_of_ble_eq_true rfl) (mSp_mono q ?_)
  rintro _ _ ⟨r', z, rfl, rfl, e, Rz⟩
  refine g_pop (M := mLw nm) (pc := 1023) X dL_law_1023 rfl ?_
  refine g_goto (M := mLw nm) (pc := 1024) (tgt := 2028) X dL_law_1024 (by decide) ?_
  exact ih z Rz
theorem lc_23 {nm : String} {B : BT} {c : Nat × Nat} {ad : Nat → Nat} {Ln i : Nat} {xs : Nat → Int32} {x : Cn} (X : mCx B c ad (mLw nm) FF) (S : SCR B ad Ln xs) (hi : i + 6 ≤ Ln) (hL : Ln < 100000) (R : Rel x) (ih : ∀ y, Rel y → mG B c ad 4 2028 (Lx i) [] (hp KW y)) : mG B c ad 4 1027 (Lx i) [] (hp KW x) := by
  refine g_aload_n (M := mLw nm) (pc := 1027) X dL_law_1027 rfl ?_
  refine g_arg (pc := 1028) (j := 1) X S dL_law_1028 dL_law_1029 dL_law_1030 dL_law_1031 dL_law_1032 (by decide) (by omega) (by omega) ?_
  refine g_callV (M := mLw nm) mX7_full (pc := 1033) (ci := 7) (a := 0) (st := []) (As := [.int (xs (i + 1))]) X dL_law_1033 lk_L_110 in_X7_full mo_X7_full k0 ⟨by decide, rfl⟩ ⟨Nat.le_of_ble_eq_true rfl, Nat.le_of_ble_eq_true rfl⟩ (Nat.le_of_ble_eq_true rfl) (mSp_mono (eq_full _ x R) ?_)
  rintro _ _ ⟨r, y, rfl, rfl, q⟩
  refine g_pop (M := mLw nm) (pc := 1036) X dL_law_1036 rfl ?_
  refine g_aload_n (M := mLw nm) (pc := 1037) X dL_law_1037 rfl ?_
  refine g_arg (pc := 1038) (j := 1) X S dL_law_1038 dL_law_1039 dL_law_1040 dL_law_1041 dL_law_1042 (by decide) (by omega) (by omega) ?_
  refine g_callV (M := mLw nm) mX8_full (pc := 1043) (ci := 8) (a := 717) (st := []) (As := [.int (xs (i + 1))]) X dL_law_1043 lk_L_113 in_X8_full mo_X8_full km ⟨by decide, rfl⟩ ⟨Nat.le_of_ble_eq_true rfl, Nat.le_of_ble_eq_true rfl⟩ (Nat.le_of_ble_eq_true rfl) (mSp_mono q ?_)
  rintro _ _ ⟨r', z, rfl, rfl, e, Rz⟩
  refine g_pop (M := mLw nm) (pc := 1046) X dL_law_1046 rfl ?_
  refine g_goto (M := mLw nm) (pc := 1047) (tgt := 2028) X dL_law_1047 (by decide) ?_
  exact ih z Rz
theorem lc_24 {nm : String} {B : BT} {c : Nat × Nat} {ad : Nat → Nat} {Ln i : Nat} {xs : Nat → Int32} {x : Cn} (X : mCx B c ad (mLw nm) FF) (S : SCR B ad Ln xs) (hi : i + 6 ≤ Ln) (hL : Ln < 100000) (R : Rel x) (ih : ∀ y, Rel y → mG B c ad 4 2028 (Lx i) [] (hp KW y)) : mG B c ad 4 1050 (Lx i) [] (hp KW x) := by
  refine g_aload_n (M := mLw nm) (pc := 1050) X dL_law_1050 rfl ?_
  refine g_arg (pc := 1051) (j := 1) X S dL_law_1051 dL_law_1052 dL_law_1053 dL_law_1054 dL_law_1055 (by decide) (by omega) (by omega) ?_
  refine g_arg (pc := 1056) (j := 2) X S dL_law_1056 dL_law_1057 dL_law_1058 dL_law_1059 dL_law_1060 (by decide) (by omega) (by omega) ?_
  refine g_arg (pc := 1061) (j := 3) X S dL_law_1061 dL_law_1062 dL_law_1063 dL_law_1064 dL_law_1065 (by decide) (by omega) (by omega) ?_
  refine g_arg (pc := 1066) (j := 4) X S dL_law_1066 dL_law_1067 dL_law_1068 dL_law_1069 dL_law_1070 (by decide) (by omega) (by omega) ?_
  refine g_callV (M := mLw nm) mX7_fitting (pc := 1071) (ci := 7) (a := 0) (st := []) (As := [.int (xs (i + 1)), .int (xs (i + 2)), .int (xs (i + 3)), .int (xs (i + 4))]) X dL_law_1071 lk_L_114 in_X7_fitting mo_X7_fitting k0 ⟨by decide, rfl⟩ ⟨Nat.le_of_ble_eq_true rfl, Nat.le_of_ble_eq_true rfl⟩ (Nat.le_of_ble_eq_true rfl) (mSp_mono (eq_fitting _ _ _ _ x R) ?_)
  rintro _ _ ⟨r, y, rfl, rfl, q⟩
  refine g_pop (M := mLw nm) (pc := 1074) X dL_law_1074 rfl ?_
  refine g_aload_n (M := mLw nm) (pc := 1075) X dL_law_1075 rfl ?_
  refine g_arg (pc := 1076) (j := 1) X S dL_law_1076 dL_law_1077 dL_law_1078 dL_law_1079 dL_law_1080 (by decide) (by omega) (by omega) ?_
  refine g_arg (pc := 1081) (j := 2) X S dL_law_1081 dL_law_1082 dL_law_1083 dL_law_1084 dL_law_1085 (by decide) (by omega) (by omega) ?_
  refine g_arg (pc := 1086) (j := 3) X S dL_law_1086 dL_law_1087 dL_law_1088 dL_law_1089 dL_law_1090 (by decide) (by omega) (by omega) ?_
  refine g_arg (pc := 1091) (j := 4) X S dL_law_1091 dL_law_1092 dL_law_1093 dL_law_1094 dL_law_1095 (by decide) (by omega) (by omega) ?_
  refine g_callV (M := mLw nm) mX8_fitting (pc := 1096) (ci := 8) (a := 717) (st := []) (As := [.int (xs (i + 1)), .int (xs (i + 2)), .int (xs (i + 3)), .int (xs (i + 4))]) X dL_law_1096 lk_L_117 in_X8_fitting mo_X8_fitting km ⟨by decide, rfl⟩ ⟨Nat.le_of_ble_eq_true rfl, Nat.le_of_ble_eq_true rfl⟩ (Nat.le_of_ble_eq_true rfl) (mSp_mono q ?_)
  rintro _ _ ⟨r', z, rfl, rfl, e, Rz⟩
  refine g_pop (M := mLw nm) (pc := 1099) X dL_law_1099 rfl ?_
  refine g_goto (M := mLw nm) (pc := 1100) (tgt := 2028) X dL_law_1100 (by decide) ?_
  exact ih z Rz
theorem lc_25 {nm : String} {B : BT} {c : Nat × Nat} {ad : Nat → Nat} {Ln i : Nat} {xs : Nat → Int32} {x : Cn} (X : mCx B c ad (mLw nm) FF) (S : SCR B ad Ln xs) (hi : i + 6 ≤ Ln) (hL : Ln < 100000) (R : Rel x) (ih : ∀ y, Rel y → mG B c ad 4 2028 (Lx i) [] (hp KW y)) : mG B c ad 4 1103 (Lx i) [] (hp KW x) := by
  refine g_aload_n (M := mLw nm) (pc := 1103) X dL_law_1103 rfl ?_
  refine g_arg (pc := 1104) (j := 1) X S dL_law_1104 dL_law_1105 dL_law_1106 dL_law_1107 dL_law_1108 (by decide) (by omega) (by omega) ?_
  refine g_callV (M := mLw nm) mX7_fits (pc := 1109) (ci := 7) (a := 0) (st := []) (As := [.int (xs (i + 1))]) X dL_law_1109 lk_L_118 in_X7_fits mo_X7_fits k0 ⟨by decide, rfl⟩ ⟨Nat.le_of_ble_eq_true rfl, Nat.le_of_ble_eq_true rfl⟩ (Nat.le_of_ble_eq_true rfl) (mSp_mono (eq_fits _ x R) ?_)
  rintro _ _ ⟨r, y, rfl, rfl, q⟩
  refine g_pop (M := mLw nm) (pc := 1112) X dL_law_1112 rfl ?_
  refine g_aload_n (M := mLw nm) (pc := 1113) X dL_law_1113 rfl ?_
  refine g_arg (pc := 1114) (j := 1) X S dL_law_1114 dL_law_1115 dL_law_1116 dL_law_1117 dL_law_1118 (by decide) (by omega) (by omega) ?_
  refine g_callV (M := mLw nm) mX8_fits (pc := 1119) (ci := 8) (a := 717) (st := []) (As := [.int (xs (i + 1))]) X dL_law_1119 lk_L_121 in_X8_fits mo_X8_fits km ⟨by decide, rfl⟩ ⟨Nat.le_of_ble_eq_true rfl, Nat.le_of_ble_eq_true rfl⟩ (Nat.le_of_ble_eq_true rfl) (mSp_mono q ?_)
  rintro _ _ ⟨r', z, rfl, rfl, e, Rz⟩
  refine g_pop (M := mLw nm) (pc := 1122) X dL_law_1122 rfl ?_
  refine g_goto (M := mLw nm) (pc := 1123) (tgt := 2028) X dL_law_1123 (by decide) ?_
  exact ih z Rz
theorem lc_26 {nm : String} {B : BT} {c : Nat × Nat} {ad : Nat → Nat} {Ln i : Nat} {xs : Nat → Int32} {x : Cn} (X : mCx B c ad (mLw nm) FF) (S : SCR B ad Ln xs) (hi : i + 6 ≤ Ln) (hL : Ln < 100000) (R : Rel x) (ih : ∀ y, Rel y → mG B c ad 4 2028 (Lx i) [] (hp KW y)) : mG B c ad 4 1126 (Lx i) [] (hp KW x) := by
  refine g_aload_n (M := mLw nm) (pc := 1126) X dL_law_1126 rfl ?_
  refine g_arg (pc := 1127) (j := 1) X S dL_law_1127 dL_law_1128 dL_law_1129 dL_law_1130 dL_law_1131 (by decide) (by omega) (by omega) ?_
  refine g_callV (M := mLw nm) mX7_where (pc := 1132) (ci := 7) (a := 0) (st := []) (As := [.int (xs (i + 1))]) X dL_law_1132 lk_L_122 in_X7_where mo_X7_where k0 ⟨by decide, rfl⟩ ⟨Nat.le_of_ble_eq_true rfl, Nat.le_of_ble_eq_true rfl⟩ (Nat.le_of_ble_eq_true rfl) (mSp_mono (eq_where _ x R) ?_)
  rintro _ _ ⟨r, y, rfl, rfl, q⟩
  refine g_pop (M := mLw nm) (pc := 1135) X dL_law_1135 rfl ?_
  refine g_aload_n (M := mLw nm) (pc := 1136) X dL_law_1136 rfl ?_
  refine g_arg (pc := 1137) (j := 1) X S dL_law_1137 dL_law_1138 dL_law_1139 dL_law_1140 dL_law_1141 (by decide) (by omega) (by omega) ?_
  refine g_callV (M := mLw nm) mX8_where (pc := 1142) (ci := 8) (a := 717) (st := []) (As := [.int (xs (i + 1))]) X dL_law_1142 lk_L_125 in_X8_where mo_X8_where km ⟨by decide, rfl⟩ ⟨Nat.le_of_ble_eq_true rfl, Nat.le_of_ble_eq_true rfl⟩ (Nat.le_of_ble_eq_true rfl) (mSp_mono q ?_)
  rintro _ _ ⟨r', z, rfl, rfl, e, Rz⟩
  refine g_pop (M := mLw nm) (pc := 1145) X dL_law_1145 rfl ?_
  refine g_goto (M := mLw nm) (pc := 1146) (tgt := 2028) X dL_law_1146 (by decide) ?_
  exact ih z Rz
theorem lc_27 {nm : String} {B : BT} {c : Nat × Nat} {ad : Nat → Nat} {Ln i : Nat} {xs : Nat → Int32} {x : Cn} (X : mCx B c ad (mLw nm) FF) (S : SCR B ad Ln xs) (hi : i + 6 ≤ Ln) (hL : Ln < 100000) (R : Rel x) (ih : ∀ y, Rel y → mG B c ad 4 2028 (Lx i) [] (hp KW y)) : mG B c ad 4 1149 (Lx i) [] (hp KW x) := by
  refine g_aload_n (M := mLw nm) (pc := 1149) X dL_law_1149 rfl ?_
  refine g_arg (pc := 1150) (j := 1) X S dL_law_1150 dL_law_1151 dL_law_1152 dL_law_1153 dL_law_1154 (by decide) (by omega) (by omega) ?_
  refine g_callV (M := mLw nm) mX7_blocked (pc := 1155) (ci := 7) (a := 0) (st := []) (As := [.int (xs (i + 1))]) X dL_law_1155 lk_L_126 in_X7_blocked mo_X7_blocked k0 ⟨by decide, rfl⟩ ⟨Nat.le_of_ble_eq_true rfl, Nat.le_of_ble_eq_true rfl⟩ (Nat.le_of_ble_eq_true rfl) (mSp_mono (eq_blocked _ x R) ?_)
  rintro _ _ ⟨r, y, rfl, rfl, q⟩
  refine g_pop (M := mLw nm) (pc := 1158) X dL_law_1158 rfl ?_
  refine g_aload_n (M := mLw nm) (pc := 1159) X dL_law_1159 rfl ?_
  refine g_arg (pc := 1160) (j := 1) X S dL_law_1160 dL_law_1161 dL_law_1162 dL_law_1163 dL_law_1164 (by decide) (by omega) (by omega) ?_
  refine g_callV (M := mLw nm) mX8_blocked (pc := 1165) (ci := 8) (a := 717) (st := []) (As := [.int (xs (i + 1))]) X dL_law_1165 lk_L_129 in_X8_blocked mo_X8_blocked km ⟨by decide, rfl⟩ ⟨Nat.le_of_ble_eq_true rfl, Nat.le_of_ble_eq_true rfl⟩ (Nat.le_of_ble_eq_true rfl) (mSp_mono q ?_)
  rintro _ _ ⟨r', z, rfl, rfl, e, Rz⟩
  refine g_pop (M := mLw nm) (pc := 1168) X dL_law_1168 rfl ?_
  refine g_goto (M := mLw nm) (pc := 1169) (tgt := 2028) X dL_law_1169 (by decide) ?_
  exact ih z Rz
theorem lc_28 {nm : String} {B : BT} {c : Nat × Nat} {ad : Nat → Nat} {Ln i : Nat} {xs : Nat → Int32} {x : Cn} (X : mCx B c ad (mLw nm) FF) (S : SCR B ad Ln xs) (hi : i + 6 ≤ Ln) (hL : Ln < 100000) (R : Rel x) (ih : ∀ y, Rel y → mG B c ad 4 2028 (Lx i) [] (hp KW y)) : mG B c ad 4 1172 (Lx i) [] (hp KW x) := by
  refine g_aload_n (M := mLw nm) (pc := 1172) X dL_law_1172 rfl ?_
  refine g_callV (M := mLw nm) mX7_first (pc := 1173) (ci := 7) (a := 0) (st := []) (As := []) X dL_law_1173 lk_L_130 in_X7_first mo_X7_first k0 ⟨by decide, rfl⟩ ⟨Nat.le_of_ble_eq_true rfl, Nat.le_of_ble_eq_true rfl⟩ (Nat.le_of_ble_eq_true rfl) (mSp_mono (eq_first x R) ?_)
  rintro _ _ ⟨r, y, rfl, rfl, q⟩
  refine g_pop (M := mLw nm) (pc := 1176) X dL_law_1176 rfl ?_
  refine g_aload_n (M := mLw nm) (pc := 1177) X dL_law_1177 rfl ?_
  refine g_callV (M := mLw nm) mX8_first (pc := 1178) (ci := 8) (a := 717) (st := []) (As := []) X dL_law_1178 lk_L_133 in_X8_first mo_X8_first km ⟨by decide, rfl⟩ ⟨Nat.le_of_ble_eq_true rfl, Nat.le_of_ble_eq_true rfl⟩ (Nat.le_of_ble_eq_true rfl) (mSp_mono q ?_)
  rintro _ _ ⟨r', z, rfl, rfl, e, Rz⟩
  refine g_pop (M := mLw nm) (pc := 1181) X dL_law_1181 rfl ?_
  refine g_goto (M := mLw nm) (pc := 1182) (tgt := 2028) X dL_law_1182 (by decide) ?_
  exact ih z Rz
theorem lc_29 {nm : String} {B : BT} {c : Nat × Nat} {ad : Nat → Nat} {Ln i : Nat} {xs : Nat → Int32} {x : Cn} (X : mCx B c ad (mLw nm) FF) (S : SCR B ad Ln xs) (hi : i + 6 ≤ Ln) (hL : Ln < 100000) (R : Rel x) (ih : ∀ y, Rel y → mG B c ad 4 2028 (Lx i) [] (hp KW y)) : mG B c ad 4 1185 (Lx i) [] (hp KW x) := by
  refine g_aload_n (M := mLw nm) (pc := 1185) X dL_law_1185 rfl ?_
  refine g_callV (M := mLw nm) mX7_would (pc := 1186) (ci := 7) (a := 0) (st := []) (As := []) X dL_law_1186 lk_L_134 in_X7_would mo_X7_would k0 ⟨by decide, rfl⟩ ⟨Nat.le_of_ble_eq_true rfl, Nat.le_of_ble_eq_true rfl⟩ (Nat.le_of_ble_eq_true rfl) (mSp_mono (eq_would x R) ?_)
  rintro _ _ ⟨r, y, rfl, rfl, q⟩
  refine g_pop (M := mLw nm) (pc := 1189) X dL_law_1189 rfl ?_
  refine g_aload_n (M := mLw nm) (pc := 1190) X dL_law_1190 rfl ?_
  refine g_callV (M := mLw nm) mX8_would (pc := 1191) (ci := 8) (a := 717) (st := []) (As := []) X dL_law_1191 lk_L_137 in_X8_would mo_X8_would km ⟨by decide, rfl⟩ ⟨Nat.le_of_ble_eq_true rfl, Nat.le_of_ble_eq_true rfl⟩ (Nat.le_of_ble_eq_true rfl) (mSp_mono q ?_)
  rintro _ _ ⟨r', z, rfl, rfl, e, Rz⟩
  refine g_pop (M := mLw nm) (pc := 1194) X dL_law_1194 rfl ?_
  refine g_goto (M := mLw nm) (pc := 1195) (tgt := 2028) X dL_law_1195 (by decide) ?_
  exact ih z Rz
theorem lc_30 {nm : String} {B : BT} {c : Nat × Nat} {ad : Nat → Nat} {Ln i : Nat} {xs : Nat → Int32} {x : Cn} (X : mCx B c ad (mLw nm) FF) (S : SCR B ad Ln xs) (hi : i + 6 ≤ Ln) (hL : Ln < 100000) (R : Rel x) (ih : ∀ y, Rel y → mG B c ad 4 2028 (Lx i) [] (hp KW y)) : mG B c ad 4 1198 (Lx i) [] (hp KW x) := by
  refine g_aload_n (M := mLw nm) (pc := 1198) X dL_law_1198 rfl ?_
  refine g_arg (pc := 1199) (j := 1) X S dL_law_1199 dL_law_1200 dL_law_1201 dL_law_1202 dL_law_1203 (by decide) (by omega) (by omega) ?_
  refine g_callV (M := mLw nm) mX7_helps (pc := 1204) (ci := 7) (a := 0) (st := []) (As := [.int (xs (i + 1))]) X dL_law_1204 lk_L_138 in_X7_helps mo_X7_helps k0 ⟨by decide, rfl⟩ ⟨Nat.le_of_ble_eq_true rfl, Nat.le_of_ble_eq_true rfl⟩ (Nat.le_of_ble_eq_true rfl) (mSp_mono (eq_helps _ x R) ?_)
  rintro _ _ ⟨r, y, rfl, rfl, q⟩
  refine g_pop (M := mLw nm) (pc := 1207) X dL_law_1207 rfl ?_
  refine g_aload_n (M := mLw nm) (pc := 1208) X dL_law_1208 rfl ?_
  refine g_arg (pc := 1209) (j := 1) X S dL_law_1209 dL_law_1210 dL_law_1211 dL_law_1212 dL_law_1213 (by decide) (by omega) (by omega) ?_
  refine g_callV (M := mLw nm) mX8_helps (pc := 1214) (ci := 8) (a := 717) (st := []) (As := [.int (xs (i + 1))]) X dL_law_1214 lk_L_141 in_X8_helps mo_X8_helps km ⟨by decide, rfl⟩ ⟨Nat.le_of_ble_eq_true rfl, Nat.le_of_ble_eq_true rfl⟩ (Nat.le_of_ble_eq_true rfl) (mSp_mono q ?_)
  rintro _ _ ⟨r', z, rfl, rfl, e, Rz⟩
  refine g_pop (M := mLw nm) (pc := 1217) X dL_law_1217 rfl ?_
  refine g_goto (M := mLw nm) (pc := 1218) (tgt := 2028) X dL_law_1218 (by decide) ?_
  exact ih z Rz
theorem lc_31 {nm : String} {B : BT} {c : Nat × Nat} {ad : Nat → Nat} {Ln i : Nat} {xs : Nat → Int32} {x : Cn} (X : mCx B c ad (mLw nm) FF) (S : SCR B ad Ln xs) (hi : i + 6 ≤ Ln) (hL : Ln < 100000) (R : Rel x) (ih : ∀ y, Rel y → mG B c ad 4 2028 (Lx i) [] (hp KW y)) : mG B c ad 4 1221 (Lx i) [] (hp KW x) := by
  refine g_aload_n (M := mLw nm) (pc := 1221) X dL_law_1221 rfl ?_
  refine g_arg (pc := 1222) (j := 1) X S dL_law_1222 dL_law_1223 dL_law_1224 dL_law_1225 dL_law_1226 (by decide) (by omega) (by omega) ?_
  refine g_callV (M := mLw nm) mX7_kept (pc := 1227) (ci := 7) (a := 0) (st := []) (As := [.int (xs (i + 1))]) X dL_law_1227 lk_L_142 in_X7_kept mo_X7_kept k0 ⟨by decide, rfl⟩ ⟨Nat.le_of_ble_eq_true rfl, Nat.le_of_ble_eq_true rfl⟩ (Nat.le_of_ble_eq_true rfl) (mSp_mono (eq_kept _ x R) ?_)
  rintro _ _ ⟨r, y, rfl, rfl, q⟩
  refine g_pop (M := mLw nm) (pc := 1230) X dL_law_1230 rfl ?_
  refine g_aload_n (M := mLw nm) (pc := 1231) X dL_law_1231 rfl ?_
  refine g_arg (pc := 1232) (j := 1) X S dL_law_1232 dL_law_1233 dL_law_1234 dL_law_1235 dL_law_1236 (by decide) (by omega) (by omega) ?_
  refine g_callV (M := mLw nm) mX8_kept (pc := 1237) (ci := 8) (a := 717) (st := []) (As := [.int (xs (i + 1))]) X dL_law_1237 lk_L_145 in_X8_kept mo_X8_kept km ⟨by decide, rfl⟩ ⟨Nat.le_of_ble_eq_true rfl, Nat.le_of_ble_eq_true rfl⟩ (Nat.le_of_ble_eq_true rfl) (mSp_mono q ?_)
  rintro _ _ ⟨r', z, rfl, rfl, e, Rz⟩
  refine g_pop (M := mLw nm) (pc := 1240) X dL_law_1240 rfl ?_
  refine g_goto (M := mLw nm) (pc := 1241) (tgt := 2028) X dL_law_1241 (by decide) ?_
  exact ih z Rz
theorem lc_32 {nm : String} {B : BT} {c : Nat × Nat} {ad : Nat → Nat} {Ln i : Nat} {xs : Nat → Int32} {x : Cn} (X : mCx B c ad (mLw nm) FF) (S : SCR B ad Ln xs) (hi : i + 6 ≤ Ln) (hL : Ln < 100000) (R : Rel x) (ih : ∀ y, Rel y → mG B c ad 4 2028 (Lx i) [] (hp KW y)) : mG B c ad 4 1244 (Lx i) [] (hp KW x) := by
  refine g_aload_n (M := mLw nm) (pc := 1244) X dL_law_1244 rfl ?_
  refine g_arg (pc := 1245) (j := 1) X S dL_law_1245 dL_law_1246 dL_law_1247 dL_law_1248 dL_law_1249 (by decide) (by omega) (by omega) ?_
  refine g_arg (pc := 1250) (j := 2) X S dL_law_1250 dL_law_1251 dL_law_1252 dL_law_1253 dL_law_1254 (by decide) (by omega) (by omega) ?_
  refine g_callV (M := mLw nm) mX7_common (pc := 1255) (ci := 7) (a := 0) (st := []) (As := [.int (xs (i + 1)), .int (xs (i + 2))]) X dL_law_1255 lk_L_146 in_X7_common mo_X7_common k0 ⟨by decide, rfl⟩ ⟨Nat.le_of_ble_eq_true rfl, Nat.le_of_ble_eq_true rfl⟩ (Nat.le_of_ble_eq_true rfl) (mSp_mono (eq_common _ _ x R) ?_)
  rintro _ _ ⟨r, y, rfl, rfl, q⟩
  refine g_pop (M := mLw nm) (pc := 1258) X dL_law_1258 rfl ?_
  refine g_aload_n (M := mLw nm) (pc := 1259) X dL_law_1259 rfl ?_
  refine g_arg (pc := 1260) (j := 1) X S dL_law_1260 dL_law_1261 dL_law_1262 dL_law_1263 dL_law_1264 (by decide) (by omega) (by omega) ?_
  refine g_arg (pc := 1265) (j := 2) X S dL_law_1265 dL_law_1266 dL_law_1267 dL_law_1268 dL_law_1269 (by decide) (by omega) (by omega) ?_
  refine g_callV (M := mLw nm) mX8_common (pc := 1270) (ci := 8) (a := 717) (st := []) (As := [.int (xs (i + 1)), .int (xs (i + 2))]) X dL_law_1270 lk_L_149 in_X8_common mo_X8_common km ⟨by decide, rfl⟩ ⟨Nat.le_of_ble_eq_true rfl, Nat.le_of_ble_eq_true rfl⟩ (Nat.le_of_ble_eq_true rfl) (mSp_mono q ?_)
  rintro _ _ ⟨r', z, rfl, rfl, e, Rz⟩
  refine g_pop (M := mLw nm) (pc := 1273) X dL_law_1273 rfl ?_
  refine g_goto (M := mLw nm) (pc := 1274) (tgt := 2028) X dL_law_1274 (by decide) ?_
  exact ih z Rz
theorem lc_33 {nm : String} {B : BT} {c : Nat × Nat} {ad : Nat → Nat} {Ln i : Nat} {xs : Nat → Int32} {x : Cn} (X : mCx B c ad (mLw nm) FF) (S : SCR B ad Ln xs) (hi : i + 6 ≤ Ln) (hL : Ln < 100000) (R : Rel x) (ih : ∀ y, Rel y → mG B c ad 4 2028 (Lx i) [] (hp KW y)) : mG B c ad 4 1277 (Lx i) [] (hp KW x) := by
  refine g_aload_n (M := mLw nm) (pc := 1277) X dL_law_1277 rfl ?_
  refine g_arg (pc := 1278) (j := 1) X S dL_law_1278 dL_law_1279 dL_law_1280 dL_law_1281 dL_law_1282 (by decide) (by omega) (by omega) ?_
  refine g_callV (M := mLw nm) mX7_idle (pc := 1283) (ci := 7) (a := 0) (st := []) (As := [.int (xs (i + 1))]) X dL_law_1283 lk_L_150 in_X7_idle mo_X7_idle k0 ⟨by decide, rfl⟩ ⟨Nat.le_of_ble_eq_true rfl, Nat.le_of_ble_eq_true rfl⟩ (Nat.le_of_ble_eq_true rfl) (mSp_mono (eq_idle _ x R) ?_)
  rintro _ _ ⟨r, y, rfl, rfl, q⟩
  refine g_pop (M := mLw nm) (pc := 1286) X dL_law_1286 rfl ?_
  refine g_aload_n (M := mLw nm) (pc := 1287) X dL_law_1287 rfl ?_
  refine g_arg (pc := 1288) (j := 1) X S dL_law_1288 dL_law_1289 dL_law_1290 dL_law_1291 dL_law_1292 (by decide) (by omega) (by omega) ?_
  refine g_callV (M := mLw nm) mX8_idle (pc := 1293) (ci := 8) (a := 717) (st := []) (As := [.int (xs (i + 1))]) X dL_law_1293 lk_L_153 in_X8_idle mo_X8_idle km ⟨by decide, rfl⟩ ⟨Nat.le_of_ble_eq_true rfl, Nat.le_of_ble_eq_true rfl⟩ (Nat.le_of_ble_eq_true rfl) (mSp_mono q ?_)
  rintro _ _ ⟨r', z, rfl, rfl, e, Rz⟩
  refine g_pop (M := mLw nm) (pc := 1296) X dL_law_1296 rfl ?_
  refine g_goto (M := mLw nm) (pc := 1297) (tgt := 2028) X dL_law_1297 (by decide) ?_
  exact ih z Rz
theorem lc_34 {nm : String} {B : BT} {c : Nat × Nat} {ad : Nat → Nat} {Ln i : Nat} {xs : Nat → Int32} {x : Cn} (X : mCx B c ad (mLw nm) FF) (S : SCR B ad Ln xs) (hi : i + 6 ≤ Ln) (hL : Ln < 100000) (R : Rel x) (ih : ∀ y, Rel y → mG B c ad 4 2028 (Lx i) [] (hp KW y)) : mG B c ad 4 1300 (Lx i) [] (hp KW x) := by
  refine g_aload_n (M := mLw nm) (pc := 1300) X dL_law_1300 rfl ?_
  refine g_arg (pc := 1301) (j := 1) X S dL_law_1301 dL_law_1302 dL_law_1303 dL_law_1304 dL_law_1305 (by decide) (by omega) (by omega) ?_
  refine g_arg (pc := 1306) (j := 2) X S dL_law_1306 dL_law_1307 dL_law_1308 dL_law_1309 dL_law_1310 (by decide) (by omega) (by omega) ?_
  refine g_callV (M := mLw nm) mX7_miss (pc := 1311) (ci := 7) (a := 0) (st := []) (As := [.int (xs (i + 1)), .int (xs (i + 2))]) X dL_law_1311 lk_L_154 in_X7_miss mo_X7_miss k0 ⟨by decide, rfl⟩ ⟨Nat.le_of_ble_eq_true rfl, Nat.le_of_ble_eq_true rfl⟩ (Nat.le_of_ble_eq_true rfl) (mSp_mono (eq_miss _ _ x R) ?_)
  rintro _ _ ⟨r, y, rfl, rfl, q⟩
  refine g_pop (M := mLw nm) (pc := 1314) X dL_law_1314 rfl ?_
  refine g_aload_n (M := mLw nm) (pc := 1315) X dL_law_1315 rfl ?_
  refine g_arg (pc := 1316) (j := 1) X S dL_law_1316 dL_law_1317 dL_law_1318 dL_law_1319 dL_law_1320 (by decide) (by omega) (by omega) ?_
  refine g_arg (pc := 1321) (j := 2) X S dL_law_1321 dL_law_1322 dL_law_1323 dL_law_1324 dL_law_1325 (by decide) (by omega) (by omega) ?_
  refine g_callV (M := mLw nm) mX8_miss (pc := 1326) (ci := 8) (a := 717) (st := []) (As := [.int (xs (i + 1)), .int (xs (i + 2))]) X dL_law_1326 lk_L_157 in_X8_miss mo_X8_miss km ⟨by decide, rfl⟩ ⟨Nat.le_of_ble_eq_true rfl, Nat.le_of_ble_eq_true rfl⟩ (Nat.le_of_ble_eq_true rfl) (mSp_mono q ?_)
  rintro _ _ ⟨r', z, rfl, rfl, e, Rz⟩
  refine g_pop (M := mLw nm) (pc := 1329) X dL_law_1329 rfl ?_
  refine g_goto (M := mLw nm) (pc := 1330) (tgt := 2028) X dL_law_1330 (by decide) ?_
  exact ih z Rz
theorem lc_35 {nm : String} {B : BT} {c : Nat × Nat} {ad : Nat → Nat} {Ln i : Nat} {xs : Nat → Int32} {x : Cn} (X : mCx B c ad (mLw nm) FF) (S : SCR B ad Ln xs) (hi : i + 6 ≤ Ln) (hL : Ln < 100000) (R : Rel x) (ih : ∀ y, Rel y → mG B c ad 4 2028 (Lx i) [] (hp KW y)) : mG B c ad 4 1333 (Lx i) [] (hp KW x) := by
  refine g_aload_n (M := mLw nm) (pc := 1333) X dL_law_1333 rfl ?_
  refine g_arg (pc := 1334) (j := 1) X S dL_law_1334 dL_law_1335 dL_law_1336 dL_law_1337 dL_law_1338 (by decide) (by omega) (by omega) ?_
  refine g_arg (pc := 1339) (j := 2) X S dL_law_1339 dL_law_1340 dL_law_1341 dL_law_1342 dL_law_1343 (by decide) (by omega) (by omega) ?_
  refine g_callV (M := mLw nm) mX7_excuse (pc := 1344) (ci := 7) (a := 0) (st := []) (As := [.int (xs (i + 1)), .int (xs (i + 2))]) X dL_law_1344 lk_L_158 in_X7_excuse mo_X7_excuse k0 ⟨by decide, rfl⟩ ⟨Nat.le_of_ble_eq_true rfl, Nat.le_of_ble_eq_true rfl⟩ (Nat.le_of_ble_eq_true rfl) (mSp_mono (eq_excuse _ _ x R) ?_)
  rintro _ _ ⟨r, y, rfl, rfl, q⟩
  refine g_pop (M := mLw nm) (pc := 1347) X dL_law_1347 rfl ?_
  refine g_aload_n (M := mLw nm) (pc := 1348) X dL_law_1348 rfl ?_
  refine g_arg (pc := 1349) (j := 1) X S dL_law_1349 dL_law_1350 dL_law_1351 dL_law_1352 dL_law_1353 (by decide) (by omega) (by omega) ?_
  refine g_arg (pc := 1354) (j := 2) X S dL_law_1354 dL_law_1355 dL_law_1356 dL_law_1357 dL_law_1358 (by decide) (by omega) (by omega) ?_
  refine g_callV (M := mLw nm) mX8_excuse (pc := 1359) (ci := 8) (a := 717) (st := []) (As := [.int (xs (i + 1)), .int (xs (i + 2))]) X dL_law_1359 lk_L_161 in_X8_excuse mo_X8_excuse km ⟨by decide, rfl⟩ ⟨Nat.le_of_ble_eq_true rfl, Nat.le_of_ble_eq_true rfl⟩ (Nat.le_of_ble_eq_true rfl) (mSp_mono q ?_)
  rintro _ _ ⟨r', z, rfl, rfl, e, Rz⟩
  refine g_pop (M := mLw nm) (pc := 1362) X dL_law_1362 rfl ?_
  refine g_goto (M := mLw nm) (pc := 1363) (tgt := 2028) X dL_law_1363 (by decide) ?_
  exact ih z Rz
theorem lc_36 {nm : String} {B : BT} {c : Nat × Nat} {ad : Nat → Nat} {Ln i : Nat} {xs : Nat → Int32} {x : Cn} (X : mCx B c ad (mLw nm) FF) (S : SCR B ad Ln xs) (hi : i + 6 ≤ Ln) (hL : Ln < 100000) (R : Rel x) (ih : ∀ y, Rel y → mG B c ad 4 2028 (Lx i) [] (hp KW y)) : mG B c ad 4 1366 (Lx i) [] (hp KW x) := by
  refine g_aload_n (M := mLw nm) (pc := 1366) X dL_law_1366 rfl ?_
  refine g_arg (pc := 1367) (j := 1) X S dL_law_1367 dL_law_1368 dL_law_1369 dL_law_1370 dL_law_1371 (by decide) (by omega) (by omega) ?_
  refine g_arg (pc := 1372) (j := 2) X S dL_law_1372 dL_law_1373 dL_law_1374 dL_law_1375 dL_law_1376 (by decide) (by omega) (by omega) ?_
  refine g_callV (M := mLw nm) mX7_fly (pc := 1377) (ci := 7) (a := 0) (st := []) (As := [.int (xs (i + 1)), .int (xs (i + 2))]) X dL_law_1377 lk_L_162 in_X7_fly mo_X7_fly k0 ⟨by decide, rfl⟩ ⟨Nat.le_of_ble_eq_true rfl, Nat.le_of_ble_eq_true rfl⟩ (Nat.le_of_ble_eq_true rfl) (mSp_mono (eq_fly _ _ x R) ?_)
  rintro _ _ ⟨r, y, rfl, rfl, q⟩
  refine g_pop (M := mLw nm) (pc := 1380) X dL_law_1380 rfl ?_
  refine g_aload_n (M := mLw nm) (pc := 1381) X dL_law_1381 rfl ?_
  refine g_arg (pc := 1382) (j := 1) X S dL_law_1382 dL_law_1383 dL_law_1384 dL_law_1385 dL_law_1386 (by decide) (by omega) (by omega) ?_
  refine g_arg (pc := 1387) (j := 2) X S dL_law_1387 dL_law_1388 dL_law_1389 dL_law_1390 dL_law_1391 (by decide) (by omega) (by omega) ?_
  refine g_callV (M := mLw nm) mX8_fly (pc := 1392) (ci := 8) (a := 717) (st := []) (As := [.int (xs (i + 1)), .int (xs (i + 2))]) X dL_law_1392 lk_L_165 in_X8_fly mo_X8_fly km ⟨by decide, rfl⟩ ⟨Nat.le_of_ble_eq_true rfl, Nat.le_of_ble_eq_true rfl⟩ (Nat.le_of_ble_eq_true rfl) (mSp_mono q ?_)
  rintro _ _ ⟨r', z, rfl, rfl, e, Rz⟩
  refine g_pop (M := mLw nm) (pc := 1395) X dL_law_1395 rfl ?_
  refine g_goto (M := mLw nm) (pc := 1396) (tgt := 2028) X dL_law_1396 (by decide) ?_
  exact ih z Rz
theorem lc_37 {nm : String} {B : BT} {c : Nat × Nat} {ad : Nat → Nat} {Ln i : Nat} {xs : Nat → Int32} {x : Cn} (X : mCx B c ad (mLw nm) FF) (S : SCR B ad Ln xs) (hi : i + 6 ≤ Ln) (hL : Ln < 100000) (R : Rel x) (ih : ∀ y, Rel y → mG B c ad 4 2028 (Lx i) [] (hp KW y)) : mG B c ad 4 1399 (Lx i) [] (hp KW x) := by
  refine g_aload_n (M := mLw nm) (pc := 1399) X dL_law_1399 rfl ?_
  refine g_arg (pc := 1400) (j := 1) X S dL_law_1400 dL_law_1401 dL_law_1402 dL_law_1403 dL_law_1404 (by decide) (by omega) (by omega) ?_
  refine g_arg (pc := 1405) (j := 2) X S dL_law_1405 dL_law_1406 dL_law_1407 dL_law_1408 dL_law_1409 (by decide) (by omega) (by omega) ?_
  refine g_callV (M := mLw nm) mX7_back (pc := 1410) (ci := 7) (a := 0) (st := []) (As := [.int (xs (i + 1)), .int (xs (i + 2))]) X dL_law_1410 lk_L_166 in_X7_back mo_X7_back k0 ⟨by decide, rfl⟩ ⟨Nat.le_of_ble_eq_true rfl, Nat.le_of_ble_eq_true rfl⟩ (Nat.le_of_ble_eq_true rfl) (mSp_mono (eq_back _ _ x R) ?_)
  rintro _ _ ⟨r, y, rfl, rfl, q⟩
  refine g_pop (M := mLw nm) (pc := 1413) X dL_law_1413 rfl ?_
  refine g_aload_n (M := mLw nm) (pc := 1414) X dL_law_1414 rfl ?_
  refine g_arg (pc := 1415) (j := 1) X S dL_law_1415 dL_law_1416 dL_law_1417 dL_law_1418 dL_law_1419 (by decide) (by omega) (by omega) ?_
  refine g_arg (pc := 1420) (j := 2) X S dL_law_1420 dL_law_1421 dL_law_1422 dL_law_1423 dL_law_1424 (by decide) (by omega) (by omega) ?_
  refine g_callV (M := mLw nm) mX8_back (pc := 1425) (ci := 8) (a := 717) (st := []) (As := [.int (xs (i + 1)), .int (xs (i + 2))]) X dL_law_1425 lk_L_169 in_X8_back mo_X8_back km ⟨by decide, rfl⟩ ⟨Nat.le_of_ble_eq_true rfl, Nat.le_of_ble_eq_true rfl⟩ (Nat.le_of_ble_eq_true rfl) (mSp_mono q ?_)
  rintro _ _ ⟨r', z, rfl, rfl, e, Rz⟩
  refine g_pop (M := mLw nm) (pc := 1428) X dL_law_1428 rfl ?_
  refine g_goto (M := mLw nm) (pc := 1429) (tgt := 2028) X dL_law_1429 (by decide) ?_
  exact ih z Rz
theorem lc_38 {nm : String} {B : BT} {c : Nat × Nat} {ad : Nat → Nat} {Ln i : Nat} {xs : Nat → Int32} {x : Cn} (X : mCx B c ad (mLw nm) FF) (S : SCR B ad Ln xs) (hi : i + 6 ≤ Ln) (hL : Ln < 100000) (R : Rel x) (ih : ∀ y, Rel y → mG B c ad 4 2028 (Lx i) [] (hp KW y)) : mG B c ad 4 1432 (Lx i) [] (hp KW x) := by
  refine g_aload_n (M := mLw nm) (pc := 1432) X dL_law_1432 rfl ?_
  refine g_arg (pc := 1433) (j := 1) X S dL_law_1433 dL_law_1434 dL_law_1435 dL_law_1436 dL_law_1437 (by decide) (by omega) (by omega) ?_
  refine g_arg (pc := 1438) (j := 2) X S dL_law_1438 dL_law_1439 dL_law_1440 dL_law_1441 dL_law_1442 (by decide) (by omega) (by omega) ?_
  refine g_callV (M := mLw nm) mX7_gives (pc := 1443) (ci := 7) (a := 0) (st := []) (As := [.int (xs (i + 1)), .int (xs (i + 2))]) X dL_law_1443 lk_L_170 in_X7_gives mo_X7_gives k0 ⟨by decide, rfl⟩ ⟨Nat.le_of_ble_eq_true rfl, Nat.le_of_ble_eq_true rfl⟩ (Nat.le_of_ble_eq_true rfl) (mSp_mono (eq_gives _ _ x R) ?_)
  rintro _ _ ⟨r, y, rfl, rfl, q⟩
  refine g_pop (M := mLw nm) (pc := 1446) X dL_law_1446 rfl ?_
  refine g_aload_n (M := mLw nm) (pc := 1447) X dL_law_1447 rfl ?_
  refine g_arg (pc := 1448) (j := 1) X S dL_law_1448 dL_law_1449 dL_law_1450 dL_law_1451 dL_law_1452 (by decide) (by omega) (by omega) ?_
  refine g_arg (pc := 1453) (j := 2) X S dL_law_1453 dL_law_1454 dL_law_1455 dL_law_1456 dL_law_1457 (by decide) (by omega) (by omega) ?_
  refine g_callV (M := mLw nm) mX8_gives (pc := 1458) (ci := 8) (a := 717) (st := []) (As := [.int (xs (i + 1)), .int (xs (i + 2))]) X dL_law_1458 lk_L_173 in_X8_gives mo_X8_gives km ⟨by decide, rfl⟩ ⟨Nat.le_of_ble_eq_true rfl, Nat.le_of_ble_eq_true rfl⟩ (Nat.le_of_ble_eq_true rfl) (mSp_mono q ?_)
  rintro _ _ ⟨r', z, rfl, rfl, e, Rz⟩
  refine g_pop (M := mLw nm) (pc := 1461) X dL_law_1461 rfl ?_
  refine g_goto (M := mLw nm) (pc := 1462) (tgt := 2028) X dL_law_1462 (by decide) ?_
  exact ih z Rz
theorem lc_39 {nm : String} {B : BT} {c : Nat × Nat} {ad : Nat → Nat} {Ln i : Nat} {xs : Nat → Int32} {x : Cn} (X : mCx B c ad (mLw nm) FF) (S : SCR B ad Ln xs) (hi : i + 6 ≤ Ln) (hL : Ln < 100000) (R : Rel x) (ih : ∀ y, Rel y → mG B c ad 4 2028 (Lx i) [] (hp KW y)) : mG B c ad 4 1465 (Lx i) [] (hp KW x) := by
  refine g_aload_n (M := mLw nm) (pc := 1465) X dL_law_1465 rfl ?_
  refine g_callV (M := mLw nm) mX7_tick (pc := 1466) (ci := 7) (a := 0) (st := []) (As := []) X dL_law_1466 lk_L_174 in_X7_tick mo_X7_tick k0 ⟨by decide, rfl⟩ ⟨Nat.le_of_ble_eq_true rfl, Nat.le_of_ble_eq_true rfl⟩ (Nat.le_of_ble_eq_true rfl) (mSp_mono (eq_tick x R) ?_)
  rintro _ _ ⟨r, y, rfl, rfl, q⟩
  refine g_pop (M := mLw nm) (pc := 1469) X dL_law_1469 rfl ?_
  refine g_aload_n (M := mLw nm) (pc := 1470) X dL_law_1470 rfl ?_
  refine g_callV (M := mLw nm) mX8_tick (pc := 1471) (ci := 8) (a := 717) (st := []) (As := []) X dL_law_1471 lk_L_177 in_X8_tick mo_X8_tick km ⟨by decide, rfl⟩ ⟨Nat.le_of_ble_eq_true rfl, Nat.le_of_ble_eq_true rfl⟩ (Nat.le_of_ble_eq_true rfl) (mSp_mono q ?_)
  rintro _ _ ⟨r', z, rfl, rfl, e, Rz⟩
  refine g_pop (M := mLw nm) (pc := 1474) X dL_law_1474 rfl ?_
  refine g_goto (M := mLw nm) (pc := 1475) (tgt := 2028) X dL_law_1475 (by decide) ?_
  exact ih z Rz
theorem lc_40 {nm : String} {B : BT} {c : Nat × Nat} {ad : Nat → Nat} {Ln i : Nat} {xs : Nat → Int32} {x : Cn} (X : mCx B c ad (mLw nm) FF) (S : SCR B ad Ln xs) (hi : i + 6 ≤ Ln) (hL : Ln < 100000) (R : Rel x) (ih : ∀ y, Rel y → mG B c ad 4 2028 (Lx i) [] (hp KW y)) : mG B c ad 4 1478 (Lx i) [] (hp KW x) := by
  refine g_aload_n (M := mLw nm) (pc := 1478) X dL_law_1478 rfl ?_
  refine g_callV (M := mLw nm) mX7_pool (pc := 1479) (ci := 7) (a := 0) (st := []) (As := []) X dL_law_1479 lk_L_178 in_X7_pool mo_X7_pool k0 ⟨by decide, rfl⟩ ⟨Nat.le_of_ble_eq_true rfl, Nat.le_of_ble_eq_true rfl⟩ (Nat.le_of_ble_eq_true rfl) (mSp_mono (eq_pool x R) ?_)
  rintro _ _ ⟨r, y, rfl, rfl, q⟩
  refine g_pop (M := mLw nm) (pc := 1482) X dL_law_1482 rfl ?_
  refine g_aload_n (M := mLw nm) (pc := 1483) X dL_law_1483 rfl ?_
  refine g_callV (M := mLw nm) mX8_pool (pc := 1484) (ci := 8) (a := 717) (st := []) (As := []) X dL_law_1484 lk_L_181 in_X8_pool mo_X8_pool km ⟨by decide, rfl⟩ ⟨Nat.le_of_ble_eq_true rfl, Nat.le_of_ble_eq_true rfl⟩ (Nat.le_of_ble_eq_true rfl) (mSp_mono q ?_)
  rintro _ _ ⟨r', z, rfl, rfl, e, Rz⟩
  refine g_pop (M := mLw nm) (pc := 1487) X dL_law_1487 rfl ?_
  refine g_goto (M := mLw nm) (pc := 1488) (tgt := 2028) X dL_law_1488 (by decide) ?_
  exact ih z Rz
theorem lc_41 {nm : String} {B : BT} {c : Nat × Nat} {ad : Nat → Nat} {Ln i : Nat} {xs : Nat → Int32} {x : Cn} (X : mCx B c ad (mLw nm) FF) (S : SCR B ad Ln xs) (hi : i + 6 ≤ Ln) (hL : Ln < 100000) (R : Rel x) (ih : ∀ y, Rel y → mG B c ad 4 2028 (Lx i) [] (hp KW y)) : mG B c ad 4 1491 (Lx i) [] (hp KW x) := by
  refine g_aload_n (M := mLw nm) (pc := 1491) X dL_law_1491 rfl ?_
  refine g_arg (pc := 1492) (j := 1) X S dL_law_1492 dL_law_1493 dL_law_1494 dL_law_1495 dL_law_1496 (by decide) (by omega) (by omega) ?_
  refine g_arg (pc := 1497) (j := 2) X S dL_law_1497 dL_law_1498 dL_law_1499 dL_law_1500 dL_law_1501 (by decide) (by omega) (by omega) ?_
  refine g_callV (M := mLw nm) mX7_retime (pc := 1502) (ci := 7) (a := 0) (st := []) (As := [.int (xs (i + 1)), .int (xs (i + 2))]) X dL_law_1502 lk_L_182 in_X7_retime mo_X7_retime k0 ⟨by decide, rfl⟩ ⟨Nat.le_of_ble_eq_true rfl, Nat.le_of_ble_eq_true rfl⟩ (Nat.le_of_ble_eq_true rfl) (mSp_mono (eq_retime _ _ x R) ?_)
  rintro _ _ ⟨r, y, rfl, rfl, q⟩
  refine g_pop (M := mLw nm) (pc := 1505) X dL_law_1505 rfl ?_
  refine g_aload_n (M := mLw nm) (pc := 1506) X dL_law_1506 rfl ?_
  refine g_arg (pc := 1507) (j := 1) X S dL_law_1507 dL_law_1508 dL_law_1509 dL_law_1510 dL_law_1511 (by decide) (by omega) (by omega) ?_
  refine g_arg (pc := 1512) (j := 2) X S dL_law_1512 dL_law_1513 dL_law_1514 dL_law_1515 dL_law_1516 (by decide) (by omega) (by omega) ?_
  refine g_callV (M := mLw nm) mX8_retime (pc := 1517) (ci := 8) (a := 717) (st := []) (As := [.int (xs (i + 1)), .int (xs (i + 2))]) X dL_law_1517 lk_L_185 in_X8_retime mo_X8_retime km ⟨by decide, rfl⟩ ⟨Nat.le_of_ble_eq_true rfl, Nat.le_of_ble_eq_true rfl⟩ (Nat.le_of_ble_eq_true rfl) (mSp_mono q ?_)
  rintro _ _ ⟨r', z, rfl, rfl, e, Rz⟩
  refine g_pop (M := mLw nm) (pc := 1520) X dL_law_1520 rfl ?_
  refine g_goto (M := mLw nm) (pc := 1521) (tgt := 2028) X dL_law_1521 (by decide) ?_
  exact ih z Rz
theorem lc_42 {nm : String} {B : BT} {c : Nat × Nat} {ad : Nat → Nat} {Ln i : Nat} {xs : Nat → Int32} {x : Cn} (X : mCx B c ad (mLw nm) FF) (S : SCR B ad Ln xs) (hi : i + 6 ≤ Ln) (hL : Ln < 100000) (R : Rel x) (ih : ∀ y, Rel y → mG B c ad 4 2028 (Lx i) [] (hp KW y)) : mG B c ad 4 1524 (Lx i) [] (hp KW x) := by
  refine g_aload_n (M := mLw nm) (pc := 1524) X dL_law_1524 rfl ?_
  refine g_arg (pc := 1525) (j := 1) X S dL_law_1525 dL_law_1526 dL_law_1527 dL_law_1528 dL_law_1529 (by decide) (by omega) (by omega) ?_
  refine g_arg (pc := 1530) (j := 2) X S dL_law_1530 dL_law_1531 dL_law_1532 dL_law_1533 dL_law_1534 (by decide) (by omega) (by omega) ?_
  refine g_callV (M := mLw nm) mX7_swap (pc := 1535) (ci := 7) (a := 0) (st := []) (As := [.int (xs (i + 1)), .int (xs (i + 2))]) X dL_law_1535 lk_L_186 in_X7_swap mo_X7_swap k0 ⟨by decide, rfl⟩ ⟨Nat.le_of_ble_eq_true rfl, Nat.le_of_ble_eq_true rfl⟩ (Nat.le_of_ble_eq_true rfl) (mSp_mono (eq_swap _ _ x R) ?_)
  rintro _ _ ⟨r, y, rfl, rfl, q⟩
  refine g_pop (M := mLw nm) (pc := 1538) X dL_law_1538 rfl ?_
  refine g_aload_n (M := mLw nm) (pc := 1539) X dL_law_1539 rfl ?_
  refine g_arg (pc := 1540) (j := 1) X S dL_law_1540 dL_law_1541 dL_law_1542 dL_law_1543 dL_law_1544 (by decide) (by omega) (by omega) ?_
  refine g_arg (pc := 1545) (j := 2) X S dL_law_1545 dL_law_1546 dL_law_1547 dL_law_1548 dL_law_1549 (by decide) (by omega) (by omega) ?_
  refine g_callV (M := mLw nm) mX8_swap (pc := 1550) (ci := 8) (a := 717) (st := []) (As := [.int (xs (i + 1)), .int (xs (i + 2))]) X dL_law_1550 lk_L_189 in_X8_swap mo_X8_swap km ⟨by decide, rfl⟩ ⟨Nat.le_of_ble_eq_true rfl, Nat.le_of_ble_eq_true rfl⟩ (Nat.le_of_ble_eq_true rfl) (mSp_mono q ?_)
  rintro _ _ ⟨r', z, rfl, rfl, e, Rz⟩
  refine g_pop (M := mLw nm) (pc := 1553) X dL_law_1553 rfl ?_
  refine g_goto (M := mLw nm) (pc := 1554) (tgt := 2028) X dL_law_1554 (by decide) ?_
  exact ih z Rz
theorem lc_43 {nm : String} {B : BT} {c : Nat × Nat} {ad : Nat → Nat} {Ln i : Nat} {xs : Nat → Int32} {x : Cn} (X : mCx B c ad (mLw nm) FF) (S : SCR B ad Ln xs) (hi : i + 6 ≤ Ln) (hL : Ln < 100000) (R : Rel x) (ih : ∀ y, Rel y → mG B c ad 4 2028 (Lx i) [] (hp KW y)) : mG B c ad 4 1557 (Lx i) [] (hp KW x) := by
  refine g_aload_n (M := mLw nm) (pc := 1557) X dL_law_1557 rfl ?_
  refine g_arg (pc := 1558) (j := 1) X S dL_law_1558 dL_law_1559 dL_law_1560 dL_law_1561 dL_law_1562 (by decide) (by omega) (by omega) ?_
  refine g_arg (pc := 1563) (j := 2) X S dL_law_1563 dL_law_1564 dL_law_1565 dL_law_1566 dL_law_1567 (by decide) (by omega) (by omega) ?_
  refine g_callV (M := mLw nm) mX7_hand (pc := 1568) (ci := 7) (a := 0) (st := []) (As := [.int (xs (i + 1)), .int (xs (i + 2))]) X dL_law_1568 lk_L_190 in_X7_hand mo_X7_hand k0 ⟨by decide, rfl⟩ ⟨Nat.le_of_ble_eq_true rfl, Nat.le_of_ble_eq_true rfl⟩ (Nat.le_of_ble_eq_true rfl) (mSp_mono (eq_hand _ _ x R) ?_)
  rintro _ _ ⟨r, y, rfl, rfl, q⟩
  refine g_pop (M := mLw nm) (pc := 1571) X dL_law_1571 rfl ?_
  refine g_aload_n (M := mLw nm) (pc := 1572) X dL_law_1572 rfl ?_
  refine g_arg (pc := 1573) (j := 1) X S dL_law_1573 dL_law_1574 dL_law_1575 dL_law_1576 dL_law_1577 (by decide) (by omega) (by omega) ?_
  refine g_arg (pc := 1578) (j := 2) X S dL_law_1578 dL_law_1579 dL_law_1580 dL_law_1581 dL_law_1582 (by decide) (by omega) (by omega) ?_
  refine g_callV (M := mLw nm) mX8_hand (pc := 1583) (ci := 8) (a := 717) (st := []) (As := [.int (xs (i + 1)), .int (xs (i + 2))]) X dL_law_1583 lk_L_193 in_X8_hand mo_X8_hand km ⟨by decide, rfl⟩ ⟨Nat.le_of_ble_eq_true rfl, Nat.le_of_ble_eq_true rfl⟩ (Nat.le_of_ble_eq_true rfl) (mSp_mono q ?_)
  rintro _ _ ⟨r', z, rfl, rfl, e, Rz⟩
  refine g_pop (M := mLw nm) (pc := 1586) X dL_law_1586 rfl ?_
  refine g_goto (M := mLw nm) (pc := 1587) (tgt := 2028) X dL_law_1587 (by decide) ?_
  exact ih z Rz
theorem lc_44 {nm : String} {B : BT} {c : Nat × Nat} {ad : Nat → Nat} {Ln i : Nat} {xs : Nat → Int32} {x : Cn} (X : mCx B c ad (mLw nm) FF) (S : SCR B ad Ln xs) (hi : i + 6 ≤ Ln) (hL : Ln < 100000) (R : Rel x) (ih : ∀ y, Rel y → mG B c ad 4 2028 (Lx i) [] (hp KW y)) : mG B c ad 4 1590 (Lx i) [] (hp KW x) := by
  refine g_aload_n (M := mLw nm) (pc := 1590) X dL_law_1590 rfl ?_
  refine g_arg (pc := 1591) (j := 1) X S dL_law_1591 dL_law_1592 dL_law_1593 dL_law_1594 dL_law_1595 (by decide) (by omega) (by omega) ?_
  refine g_arg (pc := 1596) (j := 2) X S dL_law_1596 dL_law_1597 dL_law_1598 dL_law_1599 dL_law_1600 (by decide) (by omega) (by omega) ?_
  refine g_arg (pc := 1601) (j := 3) X S dL_law_1601 dL_law_1602 dL_law_1603 dL_law_1604 dL_law_1605 (by decide) (by omega) (by omega) ?_
  refine g_callV (M := mLw nm) mX7_limit (pc := 1606) (ci := 7) (a := 0) (st := []) (As := [.int (xs (i + 1)), .int (xs (i + 2)), .int (xs (i + 3))]) X dL_law_1606 lk_L_194 in_X7_limit mo_X7_limit k0 ⟨by decide, rfl⟩ ⟨Nat.le_of_ble_eq_true rfl, Nat.le_of_ble_eq_true rfl⟩ (Nat.le_of_ble_eq_true rfl) (mSp_mono (eq_limit _ _ _ x R) ?_)
  rintro _ _ ⟨r, y, rfl, rfl, q⟩
  refine g_pop (M := mLw nm) (pc := 1609) X dL_law_1609 rfl ?_
  refine g_aload_n (M := mLw nm) (pc := 1610) X dL_law_1610 rfl ?_
  refine g_arg (pc := 1611) (j := 1) X S dL_law_1611 dL_law_1612 dL_law_1613 dL_law_1614 dL_law_1615 (by decide) (by omega) (by omega) ?_
  refine g_arg (pc := 1616) (j := 2) X S dL_law_1616 dL_law_1617 dL_law_1618 dL_law_1619 dL_law_1620 (by decide) (by omega) (by omega) ?_
  refine g_arg (pc := 1621) (j := 3) X S dL_law_1621 dL_law_1622 dL_law_1623 dL_law_1624 dL_law_1625 (by decide) (by omega) (by omega) ?_
  refine g_callV (M := mLw nm) mX8_limit (pc := 1626) (ci := 8) (a := 717) (st := []) (As := [.int (xs (i + 1)), .int (xs (i + 2)), .int (xs (i + 3))]) X dL_law_1626 lk_L_198 in_X8_limit mo_X8_limit km ⟨by decide, rfl⟩ ⟨Nat.le_of_ble_eq_true rfl, Nat.le_of_ble_eq_true rfl⟩ (Nat.le_of_ble_eq_true rfl) (mSp_mono q ?_)
  rintro _ _ ⟨r', z, rfl, rfl, e, Rz⟩
  refine g_pop (M := mLw nm) (pc := 1629) X dL_law_1629 rfl ?_
  refine g_goto (M := mLw nm) (pc := 1630) (tgt := 2028) X dL_law_1630 (by decide) ?_
  exact ih z Rz
theorem lc_45 {nm : String} {B : BT} {c : Nat × Nat} {ad : Nat → Nat} {Ln i : Nat} {xs : Nat → Int32} {x : Cn} (X : mCx B c ad (mLw nm) FF) (S : SCR B ad Ln xs) (hi : i + 6 ≤ Ln) (hL : Ln < 100000) (R : Rel x) (ih : ∀ y, Rel y → mG B c ad 4 2028 (Lx i) [] (hp KW y)) : mG B c ad 4 1633 (Lx i) [] (hp KW x) := by
  refine g_aload_n (M := mLw nm) (pc := 1633) X dL_law_1633 rfl ?_
  refine g_arg (pc := 1634) (j := 1) X S dL_law_1634 dL_law_1635 dL_law_1636 dL_law_1637 dL_law_1638 (by decide) (by omega) (by omega) ?_
  refine g_arg (pc := 1639) (j := 2) X S dL_law_1639 dL_law_1640 dL_law_1641 dL_law_1642 dL_law_1643 (by decide) (by omega) (by omega) ?_
  refine g_arg (pc := 1644) (j := 3) X S dL_law_1644 dL_law_1645 dL_law_1646 dL_law_1647 dL_law_1648 (by decide) (by omega) (by omega) ?_
  refine g_arg (pc := 1649) (j := 4) X S dL_law_1649 dL_law_1650 dL_law_1651 dL_law_1652 dL_law_1653 (by decide) (by omega) (by omega) ?_
  refine g_arg (pc := 1654) (j := 5) X S dL_law_1654 dL_law_1655 dL_law_1656 dL_law_1657 dL_law_1658 (by decide) (by omega) (by omega) ?_
  refine g_callV (M := mLw nm) mX7_ask (pc := 1659) (ci := 7) (a := 0) (st := []) (As := [.int (xs (i + 1)), .int (xs (i + 2)), .int (xs (i + 3)), .int (xs (i + 4)), .int (xs (i + 5))]) X dL_law_1659 lk_L_199 in_X7_ask mo_X7_ask k0 ⟨by decide, rfl⟩ ⟨Nat.le_of_ble_eq_true rfl, Nat.le_of_ble_eq_true rfl⟩ (Nat.le_of_ble_eq_true rfl) (mSp_mono (eq_ask _ _ _ _ _ x R) ?_)
  rintro _ _ ⟨r, y, rfl, rfl, q⟩
  refine g_pop (M := mLw nm) (pc := 1662) X dL_law_1662 rfl ?_
  refine g_aload_n (M := mLw nm) (pc := 1663) X dL_law_1663 rfl ?_
  refine g_arg (pc := 1664) (j := 1) X S dL_law_1664 dL_law_1665 dL_law_1666 dL_law_1667 dL_law_1668 (by decide) (by omega) (by omega) ?_
  refine g_arg (pc := 1669) (j := 2) X S dL_law_1669 dL_law_1670 dL_law_1671 dL_law_1672 dL_law_1673 (by decide) (by omega) (by omega) ?_
  refine g_arg (pc := 1674) (j := 3) X S dL_law_1674 dL_law_1675 dL_law_1676 dL_law_1677 dL_law_1678 (by decide) (by omega) (by omega) ?_
  refine g_arg (pc := 1679) (j := 4) X S dL_law_1679 dL_law_1680 dL_law_1681 dL_law_1682 dL_law_1683 (by decide) (by omega) (by omega) ?_
  refine g_arg (pc := 1684) (j := 5) X S dL_law_1684 dL_law_1685 dL_law_1686 dL_law_1687 dL_law_1688 (by decide) (by omega) (by omega) ?_
  refine g_callV (M := mLw nm) mX8_ask (pc := 1689) (ci := 8) (a := 717) (st := []) (As := [.int (xs (i + 1)), .int (xs (i + 2)), .int (xs (i + 3)), .int (xs (i + 4)), .int (xs (i + 5))]) X dL_law_1689 lk_L_202 in_X8_ask mo_X8_ask km ⟨by decide, rfl⟩ ⟨Nat.le_of_ble_eq_true rfl, Nat.le_of_ble_eq_true rfl⟩ (Nat.le_of_ble_eq_true rfl) (mSp_mono q ?_)
  rintro _ _ ⟨r', z, rfl, rfl, e, Rz⟩
  refine g_pop (M := mLw nm) (pc := 1692) X dL_law_1692 rfl ?_
  refine g_goto (M := mLw nm) (pc := 1693) (tgt := 2028) X dL_law_1693 (by decide) ?_
  exact ih z Rz
theorem lc_46 {nm : String} {B : BT} {c : Nat × Nat} {ad : Nat → Nat} {Ln i : Nat} {xs : Nat → Int32} {x : Cn} (X : mCx B c ad (mLw nm) FF) (S : SCR B ad Ln xs) (hi : i + 6 ≤ Ln) (hL : Ln < 100000) (R : Rel x) (ih : ∀ y, Rel y → mG B c ad 4 2028 (Lx i) [] (hp KW y)) : mG B c ad 4 1696 (Lx i) [] (hp KW x) := by
  refine g_aload_n (M := mLw nm) (pc := 1696) X dL_law_1696 rfl ?_
  refine g_arg (pc := 1697) (j := 1) X S dL_law_1697 dL_law_1698 dL_law_1699 dL_law_1700 dL_law_1701 (by decide) (by omega) (by omega) ?_
  refine g_callV (M := mLw nm) mX7_drop (pc := 1702) (ci := 7) (a := 0) (st := []) (As := [.int (xs (i + 1))]) X dL_law_1702 lk_L_203 in_X7_drop mo_X7_drop k0 ⟨by decide, rfl⟩ ⟨Nat.le_of_ble_eq_true rfl, Nat.le_of_ble_eq_true rfl⟩ (Nat.le_of_ble_eq_true rfl) (mSp_mono (eq_drop _ x R) ?_)
  rintro _ _ ⟨r, y, rfl, rfl, q⟩
  refine g_pop (M := mLw nm) (pc := 1705) X dL_law_1705 rfl ?_
  refine g_aload_n (M := mLw nm) (pc := 1706) X dL_law_1706 rfl ?_
  refine g_arg (pc := 1707) (j := 1) X S dL_law_1707 dL_law_1708 dL_law_1709 dL_law_1710 dL_law_1711 (by decide) (by omega) (by omega) ?_
  refine g_callV (M := mLw nm) mX8_drop (pc := 1712) (ci := 8) (a := 717) (st := []) (As := [.int (xs (i + 1))]) X dL_law_1712 lk_L_206 in_X8_drop mo_X8_drop km ⟨by decide, rfl⟩ ⟨Nat.le_of_ble_eq_true rfl, Nat.le_of_ble_eq_true rfl⟩ (Nat.le_of_ble_eq_true rfl) (mSp_mono q ?_)
  rintro _ _ ⟨r', z, rfl, rfl, e, Rz⟩
  refine g_pop (M := mLw nm) (pc := 1715) X dL_law_1715 rfl ?_
  refine g_goto (M := mLw nm) (pc := 1716) (tgt := 2028) X dL_law_1716 (by decide) ?_
  exact ih z Rz
theorem lc_47 {nm : String} {B : BT} {c : Nat × Nat} {ad : Nat → Nat} {Ln i : Nat} {xs : Nat → Int32} {x : Cn} (X : mCx B c ad (mLw nm) FF) (S : SCR B ad Ln xs) (hi : i + 6 ≤ Ln) (hL : Ln < 100000) (R : Rel x) (ih : ∀ y, Rel y → mG B c ad 4 2028 (Lx i) [] (hp KW y)) : mG B c ad 4 1719 (Lx i) [] (hp KW x) := by
  refine g_aload_n (M := mLw nm) (pc := 1719) X dL_law_1719 rfl ?_
  refine g_callV (M := mLw nm) mX7_ends (pc := 1720) (ci := 7) (a := 0) (st := []) (As := []) X dL_law_1720 lk_L_207 in_X7_ends mo_X7_ends k0 ⟨by decide, rfl⟩ ⟨Nat.le_of_ble_eq_true rfl, Nat.le_of_ble_eq_true rfl⟩ (Nat.le_of_ble_eq_true rfl) (mSp_mono (eq_ends x R) ?_)
  rintro _ _ ⟨r, y, rfl, rfl, q⟩
  refine g_pop (M := mLw nm) (pc := 1723) X dL_law_1723 rfl ?_
  refine g_aload_n (M := mLw nm) (pc := 1724) X dL_law_1724 rfl ?_
  refine g_callV (M := mLw nm) mX8_ends (pc := 1725) (ci := 8) (a := 717) (st := []) (As := []) X dL_law_1725 lk_L_210 in_X8_ends mo_X8_ends km ⟨by decide, rfl⟩ ⟨Nat.le_of_ble_eq_true rfl, Nat.le_of_ble_eq_true rfl⟩ (Nat.le_of_ble_eq_true rfl) (mSp_mono q ?_)
  rintro _ _ ⟨r', z, rfl, rfl, e, Rz⟩
  refine g_pop (M := mLw nm) (pc := 1728) X dL_law_1728 rfl ?_
  refine g_goto (M := mLw nm) (pc := 1729) (tgt := 2028) X dL_law_1729 (by decide) ?_
  exact ih z Rz
theorem lc_48 {nm : String} {B : BT} {c : Nat × Nat} {ad : Nat → Nat} {Ln i : Nat} {xs : Nat → Int32} {x : Cn} (X : mCx B c ad (mLw nm) FF) (S : SCR B ad Ln xs) (hi : i + 6 ≤ Ln) (hL : Ln < 100000) (R : Rel x) (ih : ∀ y, Rel y → mG B c ad 4 2028 (Lx i) [] (hp KW y)) : mG B c ad 4 1732 (Lx i) [] (hp KW x) := by
  refine g_aload_n (M := mLw nm) (pc := 1732) X dL_law_1732 rfl ?_
  refine g_callV (M := mLw nm) mX7_undo (pc := 1733) (ci := 7) (a := 0) (st := []) (As := []) X dL_law_1733 lk_L_211 in_X7_undo mo_X7_undo k0 ⟨by decide, rfl⟩ ⟨Nat.le_of_ble_eq_true rfl, Nat.le_of_ble_eq_true rfl⟩ (Nat.le_of_ble_eq_true rfl) (mSp_mono (eq_undo x R) ?_)
  rintro _ _ ⟨r, y, rfl, rfl, q⟩
  refine g_pop (M := mLw nm) (pc := 1736) X dL_law_1736 rfl ?_
  refine g_aload_n (M := mLw nm) (pc := 1737) X dL_law_1737 rfl ?_
  refine g_callV (M := mLw nm) mX8_undo (pc := 1738) (ci := 8) (a := 717) (st := []) (As := []) X dL_law_1738 lk_L_214 in_X8_undo mo_X8_undo km ⟨by decide, rfl⟩ ⟨Nat.le_of_ble_eq_true rfl, Nat.le_of_ble_eq_true rfl⟩ (Nat.le_of_ble_eq_true rfl) (mSp_mono q ?_)
  rintro _ _ ⟨r', z, rfl, rfl, e, Rz⟩
  refine g_pop (M := mLw nm) (pc := 1741) X dL_law_1741 rfl ?_
  refine g_goto (M := mLw nm) (pc := 1742) (tgt := 2028) X dL_law_1742 (by decide) ?_
  exact ih z Rz
theorem lc_49 {nm : String} {B : BT} {c : Nat × Nat} {ad : Nat → Nat} {Ln i : Nat} {xs : Nat → Int32} {x : Cn} (X : mCx B c ad (mLw nm) FF) (S : SCR B ad Ln xs) (hi : i + 6 ≤ Ln) (hL : Ln < 100000) (R : Rel x) (ih : ∀ y, Rel y → mG B c ad 4 2028 (Lx i) [] (hp KW y)) : mG B c ad 4 1745 (Lx i) [] (hp KW x) := by
  refine g_aload_n (M := mLw nm) (pc := 1745) X dL_law_1745 rfl ?_
  refine g_arg (pc := 1746) (j := 1) X S dL_law_1746 dL_law_1747 dL_law_1748 dL_law_1749 dL_law_1750 (by decide) (by omega) (by omega) ?_
  refine g_callV (M := mLw nm) mX7_turn (pc := 1751) (ci := 7) (a := 0) (st := []) (As := [.int (xs (i + 1))]) X dL_law_1751 lk_L_215 in_X7_turn mo_X7_turn k0 ⟨by decide, rfl⟩ ⟨Nat.le_of_ble_eq_true rfl, Nat.le_of_ble_eq_true rfl⟩ (Nat.le_of_ble_eq_true rfl) (mSp_mono (eq_turn _ x R) ?_)
  rintro _ _ ⟨r, y, rfl, rfl, q⟩
  refine g_pop (M := mLw nm) (pc := 1754) X dL_law_1754 rfl ?_
  refine g_aload_n (M := mLw nm) (pc := 1755) X dL_law_1755 rfl ?_
  refine g_arg (pc := 1756) (j := 1) X S dL_law_1756 dL_law_1757 dL_law_1758 dL_law_1759 dL_law_1760 (by decide) (by omega) (by omega) ?_
  refine g_callV (M := mLw nm) mX8_turn (pc := 1761) (ci := 8) (a := 717) (st := []) (As := [.int (xs (i + 1))]) X dL_law_1761 lk_L_218 in_X8_turn mo_X8_turn km ⟨by decide, rfl⟩ ⟨Nat.le_of_ble_eq_true rfl, Nat.le_of_ble_eq_true rfl⟩ (Nat.le_of_ble_eq_true rfl) (mSp_mono q ?_)
  rintro _ _ ⟨r', z, rfl, rfl, e, Rz⟩
  refine g_pop (M := mLw nm) (pc := 1764) X dL_law_1764 rfl ?_
  refine g_goto (M := mLw nm) (pc := 1765) (tgt := 2028) X dL_law_1765 (by decide) ?_
  exact ih z Rz
theorem lc_50 {nm : String} {B : BT} {c : Nat × Nat} {ad : Nat → Nat} {Ln i : Nat} {xs : Nat → Int32} {x : Cn} (X : mCx B c ad (mLw nm) FF) (S : SCR B ad Ln xs) (hi : i + 6 ≤ Ln) (hL : Ln < 100000) (R : Rel x) (ih : ∀ y, Rel y → mG B c ad 4 2028 (Lx i) [] (hp KW y)) : mG B c ad 4 1768 (Lx i) [] (hp KW x) := by
  refine g_aload_n (M := mLw nm) (pc := 1768) X dL_law_1768 rfl ?_
  refine g_arg (pc := 1769) (j := 1) X S dL_law_1769 dL_law_1770 dL_law_1771 dL_law_1772 dL_law_1773 (by decide) (by omega) (by omega) ?_
  refine g_callV (M := mLw nm) mX7_granted (pc := 1774) (ci := 7) (a := 0) (st := []) (As := [.int (xs (i + 1))]) X dL_law_1774 lk_L_219 in_X7_granted mo_X7_granted k0 ⟨by decide, rfl⟩ ⟨Nat.le_of_ble_eq_true rfl, Nat.le_of_ble_eq_true rfl⟩ (Nat.le_of_ble_eq_true rfl) (mSp_mono (eq_granted _ x R) ?_)
  rintro _ _ ⟨r, y, rfl, rfl, q⟩
  refine g_pop (M := mLw nm) (pc := 1777) X dL_law_1777 rfl ?_
  refine g_aload_n (M := mLw nm) (pc := 1778) X dL_law_1778 rfl ?_
  refine g_arg (pc := 1779) (j := 1) X S dL_law_1779 dL_law_1780 dL_law_1781 dL_law_1782 dL_law_1783 (by decide) (by omega) (by omega) ?_
  refine g_callV (M := mLw nm) mX8_granted (pc := 1784) (ci := 8) (a := 717) (st := []) (As := [.int (xs (i + 1))]) X dL_law_1784 lk_L_222 in_X8_granted mo_X8_granted km ⟨by decide, rfl⟩ ⟨Nat.le_of_ble_eq_true rfl, Nat.le_of_ble_eq_true rfl⟩ (Nat.le_of_ble_eq_true rfl) (mSp_mono q ?_)
  rintro _ _ ⟨r', z, rfl, rfl, e, Rz⟩
  refine g_pop (M := mLw nm) (pc := 1787) X dL_law_1787 rfl ?_
  refine g_goto (M := mLw nm) (pc := 1788) (tgt := 2028) X dL_law_1788 (by decide) ?_
  exact ih z Rz
theorem lc_51 {nm : String} {B : BT} {c : Nat × Nat} {ad : Nat → Nat} {Ln i : Nat} {xs : Nat → Int32} {x : Cn} (X : mCx B c ad (mLw nm) FF) (S : SCR B ad Ln xs) (hi : i + 6 ≤ Ln) (hL : Ln < 100000) (R : Rel x) (ih : ∀ y, Rel y → mG B c ad 4 2028 (Lx i) [] (hp KW y)) : mG B c ad 4 1791 (Lx i) [] (hp KW x) := by
  refine g_aload_n (M := mLw nm) (pc := 1791) X dL_law_1791 rfl ?_
  refine g_arg (pc := 1792) (j := 1) X S dL_law_1792 dL_law_1793 dL_law_1794 dL_law_1795 dL_law_1796 (by decide) (by omega) (by omega) ?_
  refine g_arg (pc := 1797) (j := 2) X S dL_law_1797 dL_law_1798 dL_law_1799 dL_law_1800 dL_law_1801 (by decide) (by omega) (by omega) ?_
  refine g_callV (M := mLw nm) mX7_clash (pc := 1802) (ci := 7) (a := 0) (st := []) (As := [.int (xs (i + 1)), .int (xs (i + 2))]) X dL_law_1802 lk_L_223 in_X7_clash mo_X7_clash k0 ⟨by decide, rfl⟩ ⟨Nat.le_of_ble_eq_true rfl, Nat.le_of_ble_eq_true rfl⟩ (Nat.le_of_ble_eq_true rfl) (mSp_mono (eq_clash _ _ x R) ?_)
  rintro _ _ ⟨r, y, rfl, rfl, q⟩
  refine g_pop (M := mLw nm) (pc := 1805) X dL_law_1805 rfl ?_
  refine g_aload_n (M := mLw nm) (pc := 1806) X dL_law_1806 rfl ?_
  refine g_arg (pc := 1807) (j := 1) X S dL_law_1807 dL_law_1808 dL_law_1809 dL_law_1810 dL_law_1811 (by decide) (by omega) (by omega) ?_
  refine g_arg (pc := 1812) (j := 2) X S dL_law_1812 dL_law_1813 dL_law_1814 dL_law_1815 dL_law_1816 (by decide) (by omega) (by omega) ?_
  refine g_callV (M := mLw nm) mX8_clash (pc := 1817) (ci := 8) (a := 717) (st := []) (As := [.int (xs (i + 1)), .int (xs (i + 2))]) X dL_law_1817 lk_L_226 in_X8_clash mo_X8_clash km ⟨by decide, rfl⟩ ⟨Nat.le_of_ble_eq_true rfl, Nat.le_of_ble_eq_true rfl⟩ (Nat.le_of_ble_eq_true rfl) (mSp_mono q ?_)
  rintro _ _ ⟨r', z, rfl, rfl, e, Rz⟩
  refine g_pop (M := mLw nm) (pc := 1820) X dL_law_1820 rfl ?_
  refine g_goto (M := mLw nm) (pc := 1821) (tgt := 2028) X dL_law_1821 (by decide) ?_
  exact ih z Rz
theorem lc_52 {nm : String} {B : BT} {c : Nat × Nat} {ad : Nat → Nat} {Ln i : Nat} {xs : Nat → Int32} {x : Cn} (X : mCx B c ad (mLw nm) FF) (S : SCR B ad Ln xs) (hi : i + 6 ≤ Ln) (hL : Ln < 100000) (R : Rel x) (ih : ∀ y, Rel y → mG B c ad 4 2028 (Lx i) [] (hp KW y)) : mG B c ad 4 1824 (Lx i) [] (hp KW x) := by
  refine g_aload_n (M := mLw nm) (pc := 1824) X dL_law_1824 rfl ?_
  refine g_arg (pc := 1825) (j := 1) X S dL_law_1825 dL_law_1826 dL_law_1827 dL_law_1828 dL_law_1829 (by decide) (by omega) (by omega) ?_
  refine g_callV (M := mLw nm) mX7_rate (pc := 1830) (ci := 7) (a := 0) (st := []) (As := [.int (xs (i + 1))]) X dL_law_1830 lk_L_227 in_X7_rate mo_X7_rate k0 ⟨by decide, rfl⟩ ⟨Nat.le_of_ble_eq_true rfl, Nat.le_of_ble_eq_true rfl⟩ (Nat.le_of_ble_eq_true rfl) (mSp_mono (eq_rate _ x R) ?_)
  rintro _ _ ⟨r, y, rfl, rfl, q⟩
  refine g_pop (M := mLw nm) (pc := 1833) X dL_law_1833 rfl ?_
  refine g_aload_n (M := mLw nm) (pc := 1834) X dL_law_1834 rfl ?_
  refine g_arg (pc := 1835) (j := 1) X S dL_law_1835 dL_law_1836 dL_law_1837 dL_law_1838 dL_law_1839 (by decide) (by omega) (by omega) ?_
  refine g_callV (M := mLw nm) mX8_rate (pc := 1840) (ci := 8) (a := 717) (st := []) (As := [.int (xs (i + 1))]) X dL_law_1840 lk_L_230 in_X8_rate mo_X8_rate km ⟨by decide, rfl⟩ ⟨Nat.le_of_ble_eq_true rfl, Nat.le_of_ble_eq_true rfl⟩ (Nat.le_of_ble_eq_true rfl) (mSp_mono q ?_)
  rintro _ _ ⟨r', z, rfl, rfl, e, Rz⟩
  refine g_pop (M := mLw nm) (pc := 1843) X dL_law_1843 rfl ?_
  refine g_goto (M := mLw nm) (pc := 1844) (tgt := 2028) X dL_law_1844 (by decide) ?_
  exact ih z Rz
theorem lc_53 {nm : String} {B : BT} {c : Nat × Nat} {ad : Nat → Nat} {Ln i : Nat} {xs : Nat → Int32} {x : Cn} (X : mCx B c ad (mLw nm) FF) (S : SCR B ad Ln xs) (hi : i + 6 ≤ Ln) (hL : Ln < 100000) (R : Rel x) (ih : ∀ y, Rel y → mG B c ad 4 2028 (Lx i) [] (hp KW y)) : mG B c ad 4 1847 (Lx i) [] (hp KW x) := by
  refine g_aload_n (M := mLw nm) (pc := 1847) X dL_law_1847 rfl ?_
  refine g_arg (pc := 1848) (j := 1) X S dL_law_1848 dL_law_1849 dL_law_1850 dL_law_1851 dL_law_1852 (by decide) (by omega) (by omega) ?_
  refine g_callV (M := mLw nm) mX7_longest (pc := 1853) (ci := 7) (a := 0) (st := []) (As := [.int (xs (i + 1))]) X dL_law_1853 lk_L_231 in_X7_longest mo_X7_longest k0 ⟨by decide, rfl⟩ ⟨Nat.le_of_ble_eq_true rfl, Nat.le_of_ble_eq_true rfl⟩ (Nat.le_of_ble_eq_true rfl) (mSp_mono (eq_longest _ x R) ?_)
  rintro _ _ ⟨r, y, rfl, rfl, q⟩
  refine g_pop (M := mLw nm) (pc := 1856) X dL_law_1856 rfl ?_
  refine g_aload_n (M := mLw nm) (pc := 1857) X dL_law_1857 rfl ?_
  refine g_arg (pc := 1858) (j := 1) X S dL_law_1858 dL_law_1859 dL_law_1860 dL_law_1861 dL_law_1862 (by decide) (by omega) (by omega) ?_
  refine g_callV (M := mLw nm) mX8_longest (pc := 1863) (ci := 8) (a := 717) (st := []) (As := [.int (xs (i + 1))]) X dL_law_1863 lk_L_234 in_X8_longest mo_X8_longest km ⟨by decide, rfl⟩ ⟨Nat.le_of_ble_eq_true rfl, Nat.le_of_ble_eq_true rfl⟩ (Nat.le_of_ble_eq_true rfl) (mSp_mono q ?_)
  rintro _ _ ⟨r', z, rfl, rfl, e, Rz⟩
  refine g_pop (M := mLw nm) (pc := 1866) X dL_law_1866 rfl ?_
  refine g_goto (M := mLw nm) (pc := 1867) (tgt := 2028) X dL_law_1867 (by decide) ?_
  exact ih z Rz
theorem lc_54 {nm : String} {B : BT} {c : Nat × Nat} {ad : Nat → Nat} {Ln i : Nat} {xs : Nat → Int32} {x : Cn} (X : mCx B c ad (mLw nm) FF) (S : SCR B ad Ln xs) (hi : i + 6 ≤ Ln) (hL : Ln < 100000) (R : Rel x) (ih : ∀ y, Rel y → mG B c ad 4 2028 (Lx i) [] (hp KW y)) : mG B c ad 4 1870 (Lx i) [] (hp KW x) := by
  refine g_aload_n (M := mLw nm) (pc := 1870) X dL_law_1870 rfl ?_
  refine g_arg (pc := 1871) (j := 1) X S dL_law_1871 dL_law_1872 dL_law_1873 dL_law_1874 dL_law_1875 (by decide) (by omega) (by omega) ?_
  refine g_callV (M := mLw nm) mX7_movable (pc := 1876) (ci := 7) (a := 0) (st := []) (As := [.int (xs (i + 1))]) X dL_law_1876 lk_L_235 in_X7_movable mo_X7_movable k0 ⟨by decide, rfl⟩ ⟨Nat.le_of_ble_eq_true rfl, Nat.le_of_ble_eq_true rfl⟩ (Nat.le_of_ble_eq_true rfl) (mSp_mono (eq_movable _ x R) ?_)
  rintro _ _ ⟨r, y, rfl, rfl, q⟩
  refine g_pop (M := mLw nm) (pc := 1879) X dL_law_1879 rfl ?_
  refine g_aload_n (M := mLw nm) (pc := 1880) X dL_law_1880 rfl ?_
  refine g_arg (pc := 1881) (j := 1) X S dL_law_1881 dL_law_1882 dL_law_1883 dL_law_1884 dL_law_1885 (by decide) (by omega) (by omega) ?_
  refine g_callV (M := mLw nm) mX8_movable (pc := 1886) (ci := 8) (a := 717) (st := []) (As := [.int (xs (i + 1))]) X dL_law_1886 lk_L_238 in_X8_movable mo_X8_movable km ⟨by decide, rfl⟩ ⟨Nat.le_of_ble_eq_true rfl, Nat.le_of_ble_eq_true rfl⟩ (Nat.le_of_ble_eq_true rfl) (mSp_mono q ?_)
  rintro _ _ ⟨r', z, rfl, rfl, e, Rz⟩
  refine g_pop (M := mLw nm) (pc := 1889) X dL_law_1889 rfl ?_
  refine g_goto (M := mLw nm) (pc := 1890) (tgt := 2028) X dL_law_1890 (by decide) ?_
  exact ih z Rz
theorem lc_55 {nm : String} {B : BT} {c : Nat × Nat} {ad : Nat → Nat} {Ln i : Nat} {xs : Nat → Int32} {x : Cn} (X : mCx B c ad (mLw nm) FF) (S : SCR B ad Ln xs) (hi : i + 6 ≤ Ln) (hL : Ln < 100000) (R : Rel x) (ih : ∀ y, Rel y → mG B c ad 4 2028 (Lx i) [] (hp KW y)) : mG B c ad 4 1893 (Lx i) [] (hp KW x) := by
  refine g_aload_n (M := mLw nm) (pc := 1893) X dL_law_1893 rfl ?_
  refine g_arg (pc := 1894) (j := 1) X S dL_law_1894 dL_law_1895 dL_law_1896 dL_law_1897 dL_law_1898 (by decide) (by omega) (by omega) ?_
  refine g_callV (M := mLw nm) mX7_partners (pc := 1899) (ci := 7) (a := 0) (st := []) (As := [.int (xs (i + 1))]) X dL_law_1899 lk_L_239 in_X7_partners mo_X7_partners k0 ⟨by decide, rfl⟩ ⟨Nat.le_of_ble_eq_true rfl, Nat.le_of_ble_eq_true rfl⟩ (Nat.le_of_ble_eq_true rfl) (mSp_mono (eq_partners _ x R) ?_)
  rintro _ _ ⟨r, y, rfl, rfl, q⟩
  refine g_pop (M := mLw nm) (pc := 1902) X dL_law_1902 rfl ?_
  refine g_aload_n (M := mLw nm) (pc := 1903) X dL_law_1903 rfl ?_
  refine g_arg (pc := 1904) (j := 1) X S dL_law_1904 dL_law_1905 dL_law_1906 dL_law_1907 dL_law_1908 (by decide) (by omega) (by omega) ?_
  refine g_callV (M := mLw nm) mX8_partners (pc := 1909) (ci := 8) (a := 717) (st := []) (As := [.int (xs (i + 1))]) X dL_law_1909 lk_L_242 in_X8_partners mo_X8_partners km ⟨by decide, rfl⟩ ⟨Nat.le_of_ble_eq_true rfl, Nat.le_of_ble_eq_true rfl⟩ (Nat.le_of_ble_eq_true rfl) (mSp_mono q ?_)
  rintro _ _ ⟨r', z, rfl, rfl, e, Rz⟩
  refine g_pop (M := mLw nm) (pc := 1912) X dL_law_1912 rfl ?_
  refine g_goto (M := mLw nm) (pc := 1913) (tgt := 2028) X dL_law_1913 (by decide) ?_
  exact ih z Rz
theorem lc_56 {nm : String} {B : BT} {c : Nat × Nat} {ad : Nat → Nat} {Ln i : Nat} {xs : Nat → Int32} {x : Cn} (X : mCx B c ad (mLw nm) FF) (S : SCR B ad Ln xs) (hi : i + 6 ≤ Ln) (hL : Ln < 100000) (R : Rel x) (ih : ∀ y, Rel y → mG B c ad 4 2028 (Lx i) [] (hp KW y)) : mG B c ad 4 1916 (Lx i) [] (hp KW x) := by
  refine g_aload_n (M := mLw nm) (pc := 1916) X dL_law_1916 rfl ?_
  refine g_arg (pc := 1917) (j := 1) X S dL_law_1917 dL_law_1918 dL_law_1919 dL_law_1920 dL_law_1921 (by decide) (by omega) (by omega) ?_
  refine g_arg (pc := 1922) (j := 2) X S dL_law_1922 dL_law_1923 dL_law_1924 dL_law_1925 dL_law_1926 (by decide) (by omega) (by omega) ?_
  refine g_arg (pc := 1927) (j := 3) X S dL_law_1927 dL_law_1928 dL_law_1929 dL_law_1930 dL_law_1931 (by decide) (by omega) (by omega) ?_
  refine g_callV (M := mLw nm) mX7_pairs (pc := 1932) (ci := 7) (a := 0) (st := []) (As := [.int (xs (i + 1)), .int (xs (i + 2)), .int (xs (i + 3))]) X dL_law_1932 lk_L_243 in_X7_pairs mo_X7_pairs k0 ⟨by decide, rfl⟩ ⟨Nat.le_of_ble_eq_true rfl, Nat.le_of_ble_eq_true rfl⟩ (Nat.le_of_ble_eq_true rfl) (mSp_mono (eq_pairs _ _ _ x R) ?_)
  rintro _ _ ⟨r, y, rfl, rfl, q⟩
  refine g_pop (M := mLw nm) (pc := 1935) X dL_law_1935 rfl ?_
  refine g_aload_n (M := mLw nm) (pc := 1936) X dL_law_1936 rfl ?_
  refine g_arg (pc := 1937) (j := 1) X S dL_law_1937 dL_law_1938 dL_law_1939 dL_law_1940 dL_law_1941 (by decide) (by omega) (by omega) ?_
  refine g_arg (pc := 1942) (j := 2) X S dL_law_1942 dL_law_1943 dL_law_1944 dL_law_1945 dL_law_1946 (by decide) (by omega) (by omega) ?_
  refine g_arg (pc := 1947) (j := 3) X S dL_law_1947 dL_law_1948 dL_law_1949 dL_law_1950 dL_law_1951 (by decide) (by omega) (by omega) ?_
  refine g_callV (M := mLw nm) mX8_pairs (pc := 1952) (ci := 8) (a := 717) (st := []) (As := [.int (xs (i + 1)), .int (xs (i + 2)), .int (xs (i + 3))]) X dL_law_1952 lk_L_246 in_X8_pairs mo_X8_pairs km ⟨by decide, rfl⟩ ⟨Nat.le_of_ble_eq_true rfl, Nat.le_of_ble_eq_true rfl⟩ (Nat.le_of_ble_eq_true rfl) (mSp_mono q ?_)
  rintro _ _ ⟨r', z, rfl, rfl, e, Rz⟩
  refine g_pop (M := mLw nm) (pc := 1955) X dL_law_1955 rfl ?_
  refine g_goto (M := mLw nm) (pc := 1956) (tgt := 2028) X dL_law_1956 (by decide) ?_
  exact ih z Rz
theorem lc_57 {nm : String} {B : BT} {c : Nat × Nat} {ad : Nat → Nat} {Ln i : Nat} {xs : Nat → Int32} {x : Cn} (X : mCx B c ad (mLw nm) FF) (S : SCR B ad Ln xs) (hi : i + 6 ≤ Ln) (hL : Ln < 100000) (R : Rel x) (ih : ∀ y, Rel y → mG B c ad 4 2028 (Lx i) [] (hp KW y)) : mG B c ad 4 1959 (Lx i) [] (hp KW x) := by
  refine g_aload_n (M := mLw nm) (pc := 1959) X dL_law_1959 rfl ?_
  refine g_arg (pc := 1960) (j := 1) X S dL_law_1960 dL_law_1961 dL_law_1962 dL_law_1963 dL_law_1964 (by decide) (by omega) (by omega) ?_
  refine g_arg (pc := 1965) (j := 2) X S dL_law_1965 dL_law_1966 dL_law_1967 dL_law_1968 dL_law_1969 (by decide) (by omega) (by omega) ?_
  refine g_callV (M := mLw nm) mX7_most (pc := 1970) (ci := 7) (a := 0) (st := []) (As := [.int (xs (i + 1)), .int (xs (i + 2))]) X dL_law_1970 lk_L_247 in_X7_most mo_X7_most k0 ⟨by decide, rfl⟩ ⟨Nat.le_of_ble_eq_true rfl, Nat.le_of_ble_eq_true rfl⟩ (Nat.le_of_ble_eq_true rfl) (mSp_mono (eq_most _ _ x R) ?_)
  rintro _ _ ⟨r, y, rfl, rfl, q⟩
  refine g_pop (M := mLw nm) (pc := 1973) X dL_law_1973 rfl ?_
  refine g_aload_n (M := mLw nm) (pc := 1974) X dL_law_1974 rfl ?_
  refine g_arg (pc := 1975) (j := 1) X S dL_law_1975 dL_law_1976 dL_law_1977 dL_law_1978 dL_law_1979 (by decide) (by omega) (by omega) ?_
  refine g_arg (pc := 1980) (j := 2) X S dL_law_1980 dL_law_1981 dL_law_1982 dL_law_1983 dL_law_1984 (by decide) (by omega) (by omega) ?_
  refine g_callV (M := mLw nm) mX8_most (pc := 1985) (ci := 8) (a := 717) (st := []) (As := [.int (xs (i + 1)), .int (xs (i + 2))]) X dL_law_1985 lk_L_250 in_X8_most mo_X8_most km ⟨by decide, rfl⟩ ⟨Nat.le_of_ble_eq_true rfl, Nat.le_of_ble_eq_true rfl⟩ (Nat.le_of_ble_eq_true rfl) (mSp_mono q ?_)
  rintro _ _ ⟨r', z, rfl, rfl, e, Rz⟩
  refine g_pop (M := mLw nm) (pc := 1988) X dL_law_1988 rfl ?_
  refine g_goto (M := mLw nm) (pc := 1989) (tgt := 2028) X dL_law_1989 (by decide) ?_
  exact ih z Rz
theorem lc_58 {nm : String} {B : BT} {c : Nat × Nat} {ad : Nat → Nat} {Ln i : Nat} {xs : Nat → Int32} {x : Cn} (X : mCx B c ad (mLw nm) FF) (S : SCR B ad Ln xs) (hi : i + 6 ≤ Ln) (hL : Ln < 100000) (R : Rel x) (ih : ∀ y, Rel y → mG B c ad 4 2028 (Lx i) [] (hp KW y)) : mG B c ad 4 1992 (Lx i) [] (hp KW x) := by
  refine g_aload_n (M := mLw nm) (pc := 1992) X dL_law_1992 rfl ?_
  refine g_callV (M := mLw nm) mX7_tell (pc := 1993) (ci := 7) (a := 0) (st := []) (As := []) X dL_law_1993 lk_L_251 in_X7_tell mo_X7_tell k0 ⟨by decide, rfl⟩ ⟨Nat.le_of_ble_eq_true rfl, Nat.le_of_ble_eq_true rfl⟩ (Nat.le_of_ble_eq_true rfl) (mSp_mono (eq_tell x R) ?_)
  rintro _ _ ⟨r, y, rfl, rfl, q⟩
  refine g_pop (M := mLw nm) (pc := 1996) X dL_law_1996 rfl ?_
  refine g_aload_n (M := mLw nm) (pc := 1997) X dL_law_1997 rfl ?_
  refine g_callV (M := mLw nm) mX8_tell (pc := 1998) (ci := 8) (a := 717) (st := []) (As := []) X dL_law_1998 lk_L_254 in_X8_tell mo_X8_tell km ⟨by decide, rfl⟩ ⟨Nat.le_of_ble_eq_true rfl, Nat.le_of_ble_eq_true rfl⟩ (Nat.le_of_ble_eq_true rfl) (mSp_mono q ?_)
  rintro _ _ ⟨r', z, rfl, rfl, e, Rz⟩
  refine g_pop (M := mLw nm) (pc := 2001) X dL_law_2001 rfl ?_
  refine g_goto (M := mLw nm) (pc := 2002) (tgt := 2028) X dL_law_2002 (by decide) ?_
  exact ih z Rz
theorem lc_59 {nm : String} {B : BT} {c : Nat × Nat} {ad : Nat → Nat} {Ln i : Nat} {xs : Nat → Int32} {x : Cn} (X : mCx B c ad (mLw nm) FF) (S : SCR B ad Ln xs) (hi : i + 6 ≤ Ln) (hL : Ln < 100000) (R : Rel x) (ih : ∀ y, Rel y → mG B c ad 4 2028 (Lx i) [] (hp KW y)) : mG B c ad 4 2005 (Lx i) [] (hp KW x) := by
  refine g_aload_n (M := mLw nm) (pc := 2005) X dL_law_2005 rfl ?_
  refine g_arg (pc := 2006) (j := 1) X S dL_law_2006 dL_law_2007 dL_law_2008 dL_law_2009 dL_law_2010 (by decide) (by omega) (by omega) ?_
  refine g_callV (M := mLw nm) mX7_octet (pc := 2011) (ci := 7) (a := 0) (st := []) (As := [.int (xs (i + 1))]) X dL_law_2011 lk_L_255 in_X7_octet mo_X7_octet k0 ⟨by decide, rfl⟩ ⟨Nat.le_of_ble_eq_true rfl, Nat.le_of_ble_eq_true rfl⟩ (Nat.le_of_ble_eq_true rfl) (mSp_mono (eq_octet _ x R) ?_)
  rintro _ _ ⟨r, y, rfl, rfl, q⟩
  refine g_aload_n (M := mLw nm) (pc := 2014) X dL_law_2014 rfl ?_
  refine g_arg (pc := 2015) (j := 1) X S dL_law_2015 dL_law_2016 dL_law_2017 dL_law_2018 dL_law_2019 (by decide) (by omega) (by omega) ?_
  refine g_callV (M := mLw nm) mX8_octet (pc := 2020) (ci := 8) (a := 717) (st := [.int r]) (As := [.int (xs (i + 1))]) X dL_law_2020 lk_L_258 in_X8_octet mo_X8_octet km ⟨by decide, rfl⟩ ⟨Nat.le_of_ble_eq_true rfl, Nat.le_of_ble_eq_true rfl⟩ (Nat.le_of_ble_eq_true rfl) (mSp_mono q ?_)
  rintro _ _ ⟨r', z, rfl, rfl, e, Rz⟩
  refine g_icmp_eq (M := mLw nm) (pc := 2023) (tgt := 2028) X dL_law_2023 (by decide) (fun _ => ?_) (fun n9 => absurd e n9)
  exact ih z Rz
theorem law_step {nm : String} {B : BT} {c : Nat × Nat} {ad : Nat → Nat} {Ln i : Nat} {xs : Nat → Int32} {x : Cn} (X : mCx B c ad (mLw nm) FF) (S : SCR B ad Ln xs) (hi : i + 6 ≤ Ln) (hL : Ln < 100000) (R : Rel x) (ih : ∀ y, Rel y → mG B c ad 4 2028 (Lx i) [] (hp KW y)) (T : mSI mX7_text [.ref 0] KW x (fun r y => mSI mX8_text [.ref 717] KW y (fun r' z => mG B c ad 4 2028 (Lx i) [] (hp KW z)))) (Fq : mSI mX7_fault [.ref 0, .int (xs (i + 1))] KW x (fun r y => mSI mX8_fault [.ref 717, .int (xs (i + 1))] KW y (fun r' z => mG B c ad 4 2028 (Lx i) [] (hp KW z)))) (n0 : mG B c ad 4 2028 (Lx i) [] (hp KW x)) : mG B c ad 4 27 (Lx i) [] (hp KW x) := by
  refine g_aload_n (M := mLw nm) (pc := 27) X dL_law_27 rfl ?_
  refine g_iload_n (M := mLw nm) (pc := 28) X dL_law_28 rfl ?_
  refine g_scrld (M := mLw nm) (pc := 29) X S dL_law_29 (by omega) (by omega) ?_
  refine g_bipush (M := mLw nm) (v := 63) (pc := 30) X dL_law_30 (by decide) ?_
  refine g_iand (M := mLw nm) (pc := 32) X dL_law_32 ?_
  obtain ⟨k, hk, ek⟩ := and63 (xs i)
  rw [ek]
  by_cases q0 : k = 0
  · subst q0
    exact g_tabIn (M := mLw nm) (pc := 33) (off := 255) (tgt := 288) X dL_law_33 (by decide) (by decide) (by rfl) (by decide) (lc_0 X S hi hL R ih)
  by_cases q1 : k = 1
  · subst q1
    exact g_tabIn (M := mLw nm) (pc := 33) (off := 318) (tgt := 351) X dL_law_33 (by decide) (by decide) (by rfl) (by decide) (lc_1 X S hi hL R ih)
  by_cases q2 : k = 2
  · subst q2
    exact g_tabIn (M := mLw nm) (pc := 33) (off := 341) (tgt := 374) X dL_law_33 (by decide) (by decide) (by rfl) (by decide) (lc_2 X S hi hL T)
  by_cases q3 : k = 3
  · subst q3
    exact g_tabIn (M := mLw nm) (pc := 33) (off := 354) (tgt := 387) X dL_law_33 (by decide) (by decide) (by rfl) (by decide) (lc_3 X S hi hL Fq)
  by_cases q4 : k = 4
  · subst q4
    exact g_tabIn (M := mLw nm) (pc := 33) (off := 377) (tgt := 410) X dL_law_33 (by decide) (by decide) (by rfl) (by decide) (lc_4 X S hi hL R ih)
  by_cases q5 : k = 5
  · subst q5
    exact g_tabIn (M := mLw nm) (pc := 33) (off := 400) (tgt := 433) X dL_law_33 (by decide) (by decide) (by rfl) (by decide) (lc_5 X S hi hL R ih)
  by_cases q6 : k = 6
  · subst q6
    exact g_tabIn (M := mLw nm) (pc := 33) (off := 433) (tgt := 466) X dL_law_33 (by decide) (by decide) (by rfl) (by decide) (lc_6 X S hi hL R ih)
  by_cases q7 : k = 7
  · subst q7
    exact g_tabIn (M := mLw nm) (pc := 33) (off := 446) (tgt := 479) X dL_law_33 (by decide) (by decide) (by rfl) (by decide) (lc_7 X S hi hL R ih)
  by_cases q8 : k = 8
  · subst q8
    exact g_tabIn (M := mLw nm) (pc := 33) (off := 479) (tgt := 512) X dL_law_33 (by decide) (by decide) (by rfl) (by decide) (lc_8 X S hi hL R ih)
  by_cases q9 : k = 9
  · subst q9
    exact g_tabIn (M := mLw nm) (pc := 33) (off := 512) (tgt := 545) X dL_law_33 (by decide) (by decide) (by rfl) (by decide) (lc_9 X S hi hL R ih)
  by_cases q10 : k = 10
  · subst q10
    exact g_tabIn (M := mLw nm) (pc := 33) (off := 545) (tgt := 578) X dL_law_33 (by decide) (by decide) (by rfl) (by decide) (lc_10 X S hi hL R ih)
  by_cases q11 : k = 11
  · subst q11
    exact g_tabIn (M := mLw nm) (pc := 33) (off := 578) (tgt := 611) X dL_law_33 (by decide) (by decide) (by rfl) (by decide) (lc_11 X S hi hL R ih)
  by_cases q12 : k = 12
  · subst q12
    exact g_tabIn (M := mLw nm) (pc := 33) (off := 611) (tgt := 644) X dL_law_33 (by decide) (by decide) (by rfl) (by decide) (lc_12 X S hi hL R ih)
  by_cases q13 : k = 13
  · subst q13
    exact g_tabIn (M := mLw nm) (pc := 33) (off := 664) (tgt := 697) X dL_law_33 (by decide) (by decide) (by rfl) (by decide) (lc_13 X S hi hL R ih)
  by_cases q14 : k = 14
  · subst q14
    exact g_tabIn (M := mLw nm) (pc := 33) (off := 717) (tgt := 750) X dL_law_33 (by decide) (by decide) (by rfl) (by decide) (lc_14 X S hi hL R ih)
  by_cases q15 : k = 15
  · subst q15
    exact g_tabIn (M := mLw nm) (pc := 33) (off := 770) (tgt := 803) X dL_law_33 (by decide) (by decide) (by rfl) (by decide) (lc_15 X S hi hL R ih)
  by_cases q16 : k = 16
  · subst q16
    exact g_tabIn (M := mLw nm) (pc := 33) (off := 803) (tgt := 836) X dL_law_33 (by decide) (by decide) (by rfl) (by decide) (lc_16 X S hi hL R ih)
  by_cases q17 : k = 17
  · subst q17
    exact g_tabIn (M := mLw nm) (pc := 33) (off := 826) (tgt := 859) X dL_law_33 (by decide) (by decide) (by rfl) (by decide) (lc_17 X S hi hL R ih)
  by_cases q18 : k = 18
  · subst q18
    exact g_tabIn (M := mLw nm) (pc := 33) (off := 849) (tgt := 882) X dL_law_33 (by decide) (by decide) (by rfl) (by decide) (lc_18 X S hi hL R ih)
  by_cases q19 : k = 19
  · subst q19
    exact g_tabIn (M := mLw nm) (pc := 33) (off := 882) (tgt := 915) X dL_law_33 (by decide) (by decide) (by rfl) (by decide) (lc_19 X S hi hL R ih)
  by_cases q20 : k = 20
  · subst q20
    exact g_tabIn (M := mLw nm) (pc := 33) (off := 915) (tgt := 948) X dL_law_33 (by decide) (by decide) (by rfl) (by decide) (lc_20 X S hi hL R ih)
  by_cases q21 : k = 21
  · subst q21
    exact g_tabIn (M := mLw nm) (pc := 33) (off := 948) (tgt := 981) X dL_law_33 (by decide) (by decide) (by rfl) (by decide) (lc_21 X S hi hL R ih)
  by_cases q22 : k = 22
  · subst q22
    exact g_tabIn (M := mLw nm) (pc := 33) (off := 971) (tgt := 1004) X dL_law_33 (by decide) (by decide) (by rfl) (by decide) (lc_22 X S hi hL R ih)
  by_cases q23 : k = 23
  · subst q23
    exact g_tabIn (M := mLw nm) (pc := 33) (off := 994) (tgt := 1027) X dL_law_33 (by decide) (by decide) (by rfl) (by decide) (lc_23 X S hi hL R ih)
  by_cases q24 : k = 24
  · subst q24
    exact g_tabIn (M := mLw nm) (pc := 33) (off := 1017) (tgt := 1050) X dL_law_33 (by decide) (by decide) (by rfl) (by decide) (lc_24 X S hi hL R ih)
  by_cases q25 : k = 25
  · subst q25
    exact g_tabIn (M := mLw nm) (pc := 33) (off := 1070) (tgt := 1103) X dL_law_33 (by decide) (by decide) (by rfl) (by decide) (lc_25 X S hi hL R ih)
  by_cases q26 : k = 26
  · subst q26
    exact g_tabIn (M := mLw nm) (pc := 33) (off := 1093) (tgt := 1126) X dL_law_33 (by decide) (by decide) (by rfl) (by decide) (lc_26 X S hi hL R ih)
  by_cases q27 : k = 27
  · subst q27
    exact g_tabIn (M := mLw nm) (pc := 33) (off := 1116) (tgt := 1149) X dL_law_33 (by decide) (by decide) (by rfl) (by decide) (lc_27 X S hi hL R ih)
  by_cases q28 : k = 28
  · subst q28
    exact g_tabIn (M := mLw nm) (pc := 33) (off := 1139) (tgt := 1172) X dL_law_33 (by decide) (by decide) (by rfl) (by decide) (lc_28 X S hi hL R ih)
  by_cases q29 : k = 29
  · subst q29
    exact g_tabIn (M := mLw nm) (pc := 33) (off := 1152) (tgt := 1185) X dL_law_33 (by decide) (by decide) (by rfl) (by decide) (lc_29 X S hi hL R ih)
  by_cases q30 : k = 30
  · subst q30
    exact g_tabIn (M := mLw nm) (pc := 33) (off := 1165) (tgt := 1198) X dL_law_33 (by decide) (by decide) (by rfl) (by decide) (lc_30 X S hi hL R ih)
  by_cases q31 : k = 31
  · subst q31
    exact g_tabIn (M := mLw nm) (pc := 33) (off := 1188) (tgt := 1221) X dL_law_33 (by decide) (by decide) (by rfl) (by decide) (lc_31 X S hi hL R ih)
  by_cases q32 : k = 32
  · subst q32
    exact g_tabIn (M := mLw nm) (pc := 33) (off := 1211) (tgt := 1244) X dL_law_33 (by decide) (by decide) (by rfl) (by decide) (lc_32 X S hi hL R ih)
  by_cases q33 : k = 33
  · subst q33
    exact g_tabIn (M := mLw nm) (pc := 33) (off := 1244) (tgt := 1277) X dL_law_33 (by decide) (by decide) (by rfl) (by decide) (lc_33 X S hi hL R ih)
  by_cases q34 : k = 34
  · subst q34
    exact g_tabIn (M := mLw nm) (pc := 33) (off := 1267) (tgt := 1300) X dL_law_33 (by decide) (by decide) (by rfl) (by decide) (lc_34 X S hi hL R ih)
  by_cases q35 : k = 35
  · subst q35
    exact g_tabIn (M := mLw nm) (pc := 33) (off := 1300) (tgt := 1333) X dL_law_33 (by decide) (by decide) (by rfl) (by decide) (lc_35 X S hi hL R ih)
  by_cases q36 : k = 36
  · subst q36
    exact g_tabIn (M := mLw nm) (pc := 33) (off := 1333) (tgt := 1366) X dL_law_33 (by decide) (by decide) (by rfl) (by decide) (lc_36 X S hi hL R ih)
  by_cases q37 : k = 37
  · subst q37
    exact g_tabIn (M := mLw nm) (pc := 33) (off := 1366) (tgt := 1399) X dL_law_33 (by decide) (by decide) (by rfl) (by decide) (lc_37 X S hi hL R ih)
  by_cases q38 : k = 38
  · subst q38
    exact g_tabIn (M := mLw nm) (pc := 33) (off := 1399) (tgt := 1432) X dL_law_33 (by decide) (by decide) (by rfl) (by decide) (lc_38 X S hi hL R ih)
  by_cases q39 : k = 39
  · subst q39
    exact g_tabIn (M := mLw nm) (pc := 33) (off := 1432) (tgt := 1465) X dL_law_33 (by decide) (by decide) (by rfl) (by decide) (lc_39 X S hi hL R ih)
  by_cases q40 : k = 40
  · subst q40
    exact g_tabIn (M := mLw nm) (pc := 33) (off := 1445) (tgt := 1478) X dL_law_33 (by decide) (by decide) (by rfl) (by decide) (lc_40 X S hi hL R ih)
  by_cases q41 : k = 41
  · subst q41
    exact g_tabIn (M := mLw nm) (pc := 33) (off := 1458) (tgt := 1491) X dL_law_33 (by decide) (by decide) (by rfl) (by decide) (lc_41 X S hi hL R ih)
  by_cases q42 : k = 42
  · subst q42
    exact g_tabIn (M := mLw nm) (pc := 33) (off := 1491) (tgt := 1524) X dL_law_33 (by decide) (by decide) (by rfl) (by decide) (lc_42 X S hi hL R ih)
  by_cases q43 : k = 43
  · subst q43
    exact g_tabIn (M := mLw nm) (pc := 33) (off := 1524) (tgt := 1557) X dL_law_33 (by decide) (by decide) (by rfl) (by decide) (lc_43 X S hi hL R ih)
  by_cases q44 : k = 44
  · subst q44
    exact g_tabIn (M := mLw nm) (pc := 33) (off := 1557) (tgt := 1590) X dL_law_33 (by decide) (by decide) (by rfl) (by decide) (lc_44 X S hi hL R ih)
  by_cases q45 : k = 45
  · subst q45
    exact g_tabIn (M := mLw nm) (pc := 33) (off := 1600) (tgt := 1633) X dL_law_33 (by decide) (by decide) (by rfl) (by decide) (lc_45 X S hi hL R ih)
  by_cases q46 : k = 46
  · subst q46
    exact g_tabIn (M := mLw nm) (pc := 33) (off := 1663) (tgt := 1696) X dL_law_33 (by decide) (by decide) (by rfl) (by decide) (lc_46 X S hi hL R ih)
  by_cases q47 : k = 47
  · subst q47
    exact g_tabIn (M := mLw nm) (pc := 33) (off := 1686) (tgt := 1719) X dL_law_33 (by decide) (by decide) (by rfl) (by decide) (lc_47 X S hi hL R ih)
  by_cases q48 : k = 48
  · subst q48
    exact g_tabIn (M := mLw nm) (pc := 33) (off := 1699) (tgt := 1732) X dL_law_33 (by decide) (by decide) (by rfl) (by decide) (lc_48 X S hi hL R ih)
  by_cases q49 : k = 49
  · subst q49
    exact g_tabIn (M := mLw nm) (pc := 33) (off := 1712) (tgt := 1745) X dL_law_33 (by decide) (by decide) (by rfl) (by decide) (lc_49 X S hi hL R ih)
  by_cases q50 : k = 50
  · subst q50
    exact g_tabIn (M := mLw nm) (pc := 33) (off := 1735) (tgt := 1768) X dL_law_33 (by decide) (by decide) (by rfl) (by decide) (lc_50 X S hi hL R ih)
  by_cases q51 : k = 51
  · subst q51
    exact g_tabIn (M := mLw nm) (pc := 33) (off := 1758) (tgt := 1791) X dL_law_33 (by decide) (by decide) (by rfl) (by decide) (lc_51 X S hi hL R ih)
  by_cases q52 : k = 52
  · subst q52
    exact g_tabIn (M := mLw nm) (pc := 33) (off := 1791) (tgt := 1824) X dL_law_33 (by decide) (by decide) (by rfl) (by decide) (lc_52 X S hi hL R ih)
  by_cases q53 : k = 53
  · subst q53
    exact g_tabIn (M := mLw nm) (pc := 33) (off := 1814) (tgt := 1847) X dL_law_33 (by decide) (by decide) (by rfl) (by decide) (lc_53 X S hi hL R ih)
  by_cases q54 : k = 54
  · subst q54
    exact g_tabIn (M := mLw nm) (pc := 33) (off := 1837) (tgt := 1870) X dL_law_33 (by decide) (by decide) (by rfl) (by decide) (lc_54 X S hi hL R ih)
  by_cases q55 : k = 55
  · subst q55
    exact g_tabIn (M := mLw nm) (pc := 33) (off := 1860) (tgt := 1893) X dL_law_33 (by decide) (by decide) (by rfl) (by decide) (lc_55 X S hi hL R ih)
  by_cases q56 : k = 56
  · subst q56
    exact g_tabIn (M := mLw nm) (pc := 33) (off := 1883) (tgt := 1916) X dL_law_33 (by decide) (by decide) (by rfl) (by decide) (lc_56 X S hi hL R ih)
  by_cases q57 : k = 57
  · subst q57
    exact g_tabIn (M := mLw nm) (pc := 33) (off := 1926) (tgt := 1959) X dL_law_33 (by decide) (by decide) (by rfl) (by decide) (lc_57 X S hi hL R ih)
  by_cases q58 : k = 58
  · subst q58
    exact g_tabIn (M := mLw nm) (pc := 33) (off := 1959) (tgt := 1992) X dL_law_33 (by decide) (by decide) (by rfl) (by decide) (lc_58 X S hi hL R ih)
  by_cases q59 : k = 59
  · subst q59
    exact g_tabIn (M := mLw nm) (pc := 33) (off := 1972) (tgt := 2005) X dL_law_33 (by decide) (by decide) (by rfl) (by decide) (lc_59 X S hi hL R ih)
  have hr : (59 : Int) < (nI k).toInt := by
    rcases (show k = 60 ∨ k = 61 ∨ k = 62 ∨ k = 63 by omega) with rfl | rfl | rfl | rfl <;> decide
  exact g_tabOut (M := mLw nm) (pc := 33) (tgt := 2028) X dL_law_33 (Or.inr hr) (by decide) n0
