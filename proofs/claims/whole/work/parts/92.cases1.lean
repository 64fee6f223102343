/-! the law, case by case -/

theorem lc_0 {X : lX} (F : LF X) {i : Nat} {μ ν : j_M} (hi : i + 6 ≤ lL X) (hM : MI ν) (hR : Rel μ ν) (kk : ∀ μ2 ν2 : j_M, MI ν2 → Rel μ2 ν2 → LV X 1712 i [] μ2 ν2) : LV X 252 i [] μ ν := by
  refine lr_x F dL_law_252 ?_
  refine lr_ld (j := 1) F hi (by decide) dL_law_253 dL_law_254 dL_law_255 dL_law_256 dL_law_257 ?_
  refine lr_ld (j := 2) F hi (by decide) dL_law_258 dL_law_259 dL_law_260 dL_law_261 dL_law_262 ?_
  refine lr_ld (j := 3) F hi (by decide) dL_law_263 dL_law_264 dL_law_265 dL_law_266 dL_law_267 ?_
  refine lr_callxI (As := [.int (lxs X (i + 1)), .int (lxs X (i + 2)), .int (lxs X (i + 3))]) (rest := []) F mX9_row mlL_13 im_X9_row se_X9_row dL_law_268 rfl (c_X9_row _ _ _ μ ν hM hR) rfl (by decide) rfl (Nat.le_of_ble_eq_true rfl) (fun r1 μ2 h1 => ?_)
  refine lr_m F dL_law_271 ?_
  refine lr_ld (j := 1) F hi (by decide) dL_law_272 dL_law_273 dL_law_274 dL_law_275 dL_law_276 ?_
  refine lr_ld (j := 2) F hi (by decide) dL_law_277 dL_law_278 dL_law_279 dL_law_280 dL_law_281 ?_
  refine lr_ld (j := 3) F hi (by decide) dL_law_282 dL_law_283 dL_law_284 dL_law_285 dL_law_286 ?_
  refine lr_callmI (As := [.int (lxs X (i + 1)), .int (lxs X (i + 2)), .int (lxs X (i + 3))]) (rest := [.int r1]) F mX10_row mlL_17 im_X10_row se_X10_row dL_law_287 rfl (c_X10_row _ _ _ ν hM) rfl (by decide) rfl (Nat.le_of_ble_eq_true rfl) (fun r2 ν2 h2 => ?_)
  refine lr_eq (tgt := 1712) F dL_law_290 (by decide) (h1.1.trans h2.1.symm) ?_
  exact kk _ _ (MI.F (MI_s_row _ _ _ hM) h2.2) (Rel.F (MI_s_row _ _ _ hM) h1.2 h2.2)

theorem lc_1 {X : lX} (F : LF X) {i : Nat} {μ ν : j_M} (hi : i + 6 ≤ lL X) (hM : MI ν) (hR : Rel μ ν) (kk : ∀ μ2 ν2 : j_M, MI ν2 → Rel μ2 ν2 → LV X 1712 i [] μ2 ν2) : LV X 295 i [] μ ν := by
  refine lr_x F dL_law_295 ?_
  refine lr_ld (j := 1) F hi (by decide) dL_law_296 dL_law_297 dL_law_298 dL_law_299 dL_law_300 ?_
  refine lr_ld (j := 2) F hi (by decide) dL_law_301 dL_law_302 dL_law_303 dL_law_304 dL_law_305 ?_
  refine lr_ld (j := 3) F hi (by decide) dL_law_306 dL_law_307 dL_law_308 dL_law_309 dL_law_310 ?_
  refine lr_i2l F dL_law_311 ?_
  refine lr_bipush (v := 32) F dL_law_312 (by decide) ?_
  refine lr_lshl F dL_law_314 ?_
  refine lr_ld (j := 4) F hi (by decide) dL_law_315 dL_law_316 dL_law_317 dL_law_318 dL_law_319 ?_
  refine lr_i2l F dL_law_320 ?_
  refine lr_ldc2 F dL_law_321 kcL_18 ?_
  refine lr_land F dL_law_324 ?_
  refine lr_lor F dL_law_325 ?_
  refine lr_callxI (As := [.int (lxs X (i + 1)), .int (lxs X (i + 2)), .long ((((lxs X (i + 3))).toInt64 <<< ((32 : Int32).toInt64 &&& 63)) ||| (((lxs X (i + 4))).toInt64 &&& 4294967295))]) (rest := []) F mX9_set mlL_20 im_X9_set se_X9_set dL_law_326 rfl (c_X9_set _ _ _ μ ν hM hR) rfl (by decide) rfl (Nat.le_of_ble_eq_true rfl) (fun r1 μ2 h1 => ?_)
  refine lr_m F dL_law_329 ?_
  refine lr_ld (j := 1) F hi (by decide) dL_law_330 dL_law_331 dL_law_332 dL_law_333 dL_law_334 ?_
  refine lr_ld (j := 2) F hi (by decide) dL_law_335 dL_law_336 dL_law_337 dL_law_338 dL_law_339 ?_
  refine lr_ld (j := 3) F hi (by decide) dL_law_340 dL_law_341 dL_law_342 dL_law_343 dL_law_344 ?_
  refine lr_i2l F dL_law_345 ?_
  refine lr_bipush (v := 32) F dL_law_346 (by decide) ?_
  refine lr_lshl F dL_law_348 ?_
  refine lr_ld (j := 4) F hi (by decide) dL_law_349 dL_law_350 dL_law_351 dL_law_352 dL_law_353 ?_
  refine lr_i2l F dL_law_354 ?_
  refine lr_ldc2 F dL_law_355 kcL_18 ?_
  refine lr_land F dL_law_358 ?_
  refine lr_lor F dL_law_359 ?_
  refine lr_callmI (As := [.int (lxs X (i + 1)), .int (lxs X (i + 2)), .long ((((lxs X (i + 3))).toInt64 <<< ((32 : Int32).toInt64 &&& 63)) ||| (((lxs X (i + 4))).toInt64 &&& 4294967295))]) (rest := [.int r1]) F mX10_set mlL_24 im_X10_set se_X10_set dL_law_360 rfl (c_X10_set _ _ _ ν hM) rfl (by decide) rfl (Nat.le_of_ble_eq_true rfl) (fun r2 ν2 h2 => ?_)
  refine lr_eq (tgt := 1712) F dL_law_363 (by decide) (h1.1.trans h2.1.symm) ?_
  exact kk _ _ (MI.F (MI_s_set _ _ _ hM) h2.2) (Rel.F (MI_s_set _ _ _ hM) h1.2 h2.2)

theorem lc_2 {X : lX} (F : LF X) {i : Nat} {μ ν : j_M} (hi : i + 6 ≤ lL X) (hM : MI ν) (hR : Rel μ ν) (kk : ∀ μ2 ν2 : j_M, MI ν2 → Rel μ2 ν2 → LV X 1712 i [] μ2 ν2) : LV X 368 i [] μ ν := by
  refine lr_x F dL_law_368 ?_
  refine lr_ld (j := 1) F hi (by decide) dL_law_369 dL_law_370 dL_law_371 dL_law_372 dL_law_373 ?_
  refine lr_ld (j := 2) F hi (by decide) dL_law_374 dL_law_375 dL_law_376 dL_law_377 dL_law_378 ?_
  refine lr_ld (j := 3) F hi (by decide) dL_law_379 dL_law_380 dL_law_381 dL_law_382 dL_law_383 ?_
  refine lr_ld (j := 4) F hi (by decide) dL_law_384 dL_law_385 dL_law_386 dL_law_387 dL_law_388 ?_
  refine lr_ld (j := 5) F hi (by decide) dL_law_389 dL_law_390 dL_law_391 dL_law_392 dL_law_393 ?_
  refine lr_callxI (As := [.int (lxs X (i + 1)), .int (lxs X (i + 2)), .int (lxs X (i + 3)), .int (lxs X (i + 4)), .int (lxs X (i + 5))]) (rest := []) F mX9_copy mlL_25 im_X9_copy se_X9_copy dL_law_394 rfl (c_X9_copy _ _ _ _ _ μ ν hM hR) rfl (by decide) rfl (Nat.le_of_ble_eq_true rfl) (fun r1 μ2 h1 => ?_)
  refine lr_m F dL_law_397 ?_
  refine lr_ld (j := 1) F hi (by decide) dL_law_398 dL_law_399 dL_law_400 dL_law_401 dL_law_402 ?_
  refine lr_ld (j := 2) F hi (by decide) dL_law_403 dL_law_404 dL_law_405 dL_law_406 dL_law_407 ?_
  refine lr_ld (j := 3) F hi (by decide) dL_law_408 dL_law_409 dL_law_410 dL_law_411 dL_law_412 ?_
  refine lr_ld (j := 4) F hi (by decide) dL_law_413 dL_law_414 dL_law_415 dL_law_416 dL_law_417 ?_
  refine lr_ld (j := 5) F hi (by decide) dL_law_418 dL_law_419 dL_law_420 dL_law_421 dL_law_422 ?_
  refine lr_callmI (As := [.int (lxs X (i + 1)), .int (lxs X (i + 2)), .int (lxs X (i + 3)), .int (lxs X (i + 4)), .int (lxs X (i + 5))]) (rest := [.int r1]) F mX10_copy mlL_29 im_X10_copy se_X10_copy dL_law_423 rfl (c_X10_copy _ _ _ _ _ ν hM) rfl (by decide) rfl (Nat.le_of_ble_eq_true rfl) (fun r2 ν2 h2 => ?_)
  refine lr_eq (tgt := 1712) F dL_law_426 (by decide) (h1.1.trans h2.1.symm) ?_
  exact kk _ _ (MI.F (MI_s_copy _ _ _ _ _ hM) h2.2) (Rel.F (MI_s_copy _ _ _ _ _ hM) h1.2 h2.2)

theorem lc_3 {X : lX} (F : LF X) {i : Nat} {μ ν : j_M} (hi : i + 6 ≤ lL X) (hM : MI ν) (hR : Rel μ ν) (kk : ∀ μ2 ν2 : j_M, MI ν2 → Rel μ2 ν2 → LV X 1712 i [] μ2 ν2) : LV X 431 i [] μ ν := by
  refine lr_x F dL_law_431 ?_
  refine lr_ld (j := 1) F hi (by decide) dL_law_432 dL_law_433 dL_law_434 dL_law_435 dL_law_436 ?_
  refine lr_ld (j := 2) F hi (by decide) dL_law_437 dL_law_438 dL_law_439 dL_law_440 dL_law_441 ?_
  refine lr_callxJ (As := [.int (lxs X (i + 1)), .int (lxs X (i + 2))]) (rest := []) F mX9_element mlL_30 im_X9_element se_X9_element dL_law_442 rfl (c_X9_element _ _ μ ν hM hR) rfl (by decide) rfl (Nat.le_of_ble_eq_true rfl) (fun r1 μ2 h1 => ?_)
  refine lr_m F dL_law_445 ?_
  refine lr_ld (j := 1) F hi (by decide) dL_law_446 dL_law_447 dL_law_448 dL_law_449 dL_law_450 ?_
  refine lr_ld (j := 2) F hi (by decide) dL_law_451 dL_law_452 dL_law_453 dL_law_454 dL_law_455 ?_
  refine lr_callmJ (As := [.int (lxs X (i + 1)), .int (lxs X (i + 2))]) (rest := [.long r1]) F mX10_element mlL_34 im_X10_element se_X10_element dL_law_456 rfl (c_X10_element _ _ ν hM) rfl (by decide) rfl (Nat.le_of_ble_eq_true rfl) (fun r2 ν2 h2 => ?_)
  refine lr_leq (tgt := 1712) F dL_law_459 dL_law_460 (by decide) (h1.1.trans h2.1.symm) ?_
  exact kk _ _ (MI.F (MI_s_element _ _ hM) h2.2) (Rel.F (MI_s_element _ _ hM) h1.2 h2.2)

theorem lc_4 {X : lX} (F : LF X) {i : Nat} {μ ν : j_M} (hi : i + 6 ≤ lL X) (hM : MI ν) (hR : Rel μ ν) (kk : ∀ μ2 ν2 : j_M, MI ν2 → Rel μ2 ν2 → LV X 1712 i [] μ2 ν2) : LV X 465 i [] μ ν := by
  refine lr_x F dL_law_465 ?_
  refine lr_ld (j := 1) F hi (by decide) dL_law_466 dL_law_467 dL_law_468 dL_law_469 dL_law_470 ?_
  refine lr_callxI (As := [.int (lxs X (i + 1))]) (rest := []) F mX9_holds mlL_35 im_X9_holds se_X9_holds dL_law_471 rfl (c_X9_holds _ μ ν hM hR) rfl (by decide) rfl (Nat.le_of_ble_eq_true rfl) (fun r1 μ2 h1 => ?_)
  refine lr_m F dL_law_474 ?_
  refine lr_ld (j := 1) F hi (by decide) dL_law_475 dL_law_476 dL_law_477 dL_law_478 dL_law_479 ?_
  refine lr_callmI (As := [.int (lxs X (i + 1))]) (rest := [.int r1]) F mX10_holds mlL_39 im_X10_holds se_X10_holds dL_law_480 rfl (c_X10_holds _ ν hM) rfl (by decide) rfl (Nat.le_of_ble_eq_true rfl) (fun r2 ν2 h2 => ?_)
  refine lr_eq (tgt := 1712) F dL_law_483 (by decide) (h1.1.trans h2.1.symm) ?_
  exact kk _ _ (MI.F (MI_s_holds _ hM) h2.2) (Rel.F (MI_s_holds _ hM) h1.2 h2.2)

theorem lc_5 {X : lX} (F : LF X) {i : Nat} {μ ν : j_M} (hi : i + 6 ≤ lL X) (hM : MI ν) (hR : Rel μ ν) (kk : ∀ μ2 ν2 : j_M, MI ν2 → Rel μ2 ν2 → LV X 1712 i [] μ2 ν2) : LV X 488 i [] μ ν := by
  refine lr_x F dL_law_488 ?_
  refine lr_ld (j := 1) F hi (by decide) dL_law_489 dL_law_490 dL_law_491 dL_law_492 dL_law_493 ?_
  refine lr_ld (j := 2) F hi (by decide) dL_law_494 dL_law_495 dL_law_496 dL_law_497 dL_law_498 ?_
  refine lr_callxI (As := [.int (lxs X (i + 1)), .int (lxs X (i + 2))]) (rest := []) F mX9_show mlL_40 im_X9_show se_X9_show dL_law_499 rfl (c_X9_show _ _ μ ν hM hR) rfl (by decide) rfl (Nat.le_of_ble_eq_true rfl) (fun r1 μ2 h1 => ?_)
  refine lr_m F dL_law_502 ?_
  refine lr_ld (j := 1) F hi (by decide) dL_law_503 dL_law_504 dL_law_505 dL_law_506 dL_law_507 ?_
  refine lr_ld (j := 2) F hi (by decide) dL_law_508 dL_law_509 dL_law_510 dL_law_511 dL_law_512 ?_
  refine lr_callmI (As := [.int (lxs X (i + 1)), .int (lxs X (i + 2))]) (rest := [.int r1]) F mX10_show mlL_44 im_X10_show se_X10_show dL_law_513 rfl (c_X10_show _ _ ν hM) rfl (by decide) rfl (Nat.le_of_ble_eq_true rfl) (fun r2 ν2 h2 => ?_)
  refine lr_eq (tgt := 1712) F dL_law_516 (by decide) (h1.1.trans h2.1.symm) ?_
  exact kk _ _ (MI.F (MI_s_show _ _ hM) h2.2) (Rel.F (MI_s_show _ _ hM) h1.2 h2.2)

theorem lc_6 {X : lX} (F : LF X) {i : Nat} {μ ν : j_M} (hi : i + 6 ≤ lL X) (hM : MI ν) (hR : Rel μ ν) (kk : ∀ μ2 ν2 : j_M, MI ν2 → Rel μ2 ν2 → LV X 1712 i [] μ2 ν2) : LV X 521 i [] μ ν := by
  refine lr_x F dL_law_521 ?_
  refine lr_ld (j := 1) F hi (by decide) dL_law_522 dL_law_523 dL_law_524 dL_law_525 dL_law_526 ?_
  refine lr_ld (j := 2) F hi (by decide) dL_law_527 dL_law_528 dL_law_529 dL_law_530 dL_law_531 ?_
  refine lr_callxI (As := [.int (lxs X (i + 1)), .int (lxs X (i + 2))]) (rest := []) F mX9_says mlL_45 im_X9_says se_X9_says dL_law_532 rfl (c_X9_says _ _ μ ν hM hR) rfl (by decide) rfl (Nat.le_of_ble_eq_true rfl) (fun r1 μ2 h1 => ?_)
  refine lr_m F dL_law_535 ?_
  refine lr_ld (j := 1) F hi (by decide) dL_law_536 dL_law_537 dL_law_538 dL_law_539 dL_law_540 ?_
  refine lr_ld (j := 2) F hi (by decide) dL_law_541 dL_law_542 dL_law_543 dL_law_544 dL_law_545 ?_
  refine lr_callmI (As := [.int (lxs X (i + 1)), .int (lxs X (i + 2))]) (rest := [.int r1]) F mX10_says mlL_48 im_X10_says se_X10_says dL_law_546 rfl (c_X10_says _ _ ν hM) rfl (by decide) rfl (Nat.le_of_ble_eq_true rfl) (fun r2 ν2 h2 => ?_)
  refine lr_eq (tgt := 1712) F dL_law_549 (by decide) (h1.1.trans h2.1.symm) ?_
  exact kk _ _ (MI.F (MI_s_says _ _ hM) h2.2) (Rel.F (MI_s_says _ _ hM) h1.2 h2.2)

theorem lc_7 {X : lX} (F : LF X) {i : Nat} {μ ν : j_M} (hi : i + 6 ≤ lL X) (hM : MI ν) (hR : Rel μ ν) (kk : ∀ μ2 ν2 : j_M, MI ν2 → Rel μ2 ν2 → LV X 1712 i [] μ2 ν2) : LV X 554 i [] μ ν := by
  refine lr_x F dL_law_554 ?_
  refine lr_ld (j := 1) F hi (by decide) dL_law_555 dL_law_556 dL_law_557 dL_law_558 dL_law_559 ?_
  refine lr_ld (j := 2) F hi (by decide) dL_law_560 dL_law_561 dL_law_562 dL_law_563 dL_law_564 ?_
  refine lr_callxI (As := [.int (lxs X (i + 1)), .int (lxs X (i + 2))]) (rest := []) F mX9_place mlL_49 im_X9_place se_X9_place dL_law_565 rfl (c_X9_place _ _ μ ν hM hR) rfl (by decide) rfl (Nat.le_of_ble_eq_true rfl) (fun r1 μ2 h1 => ?_)
  refine lr_m F dL_law_568 ?_
  refine lr_ld (j := 1) F hi (by decide) dL_law_569 dL_law_570 dL_law_571 dL_law_572 dL_law_573 ?_
  refine lr_ld (j := 2) F hi (by decide) dL_law_574 dL_law_575 dL_law_576 dL_law_577 dL_law_578 ?_
  refine lr_callmI (As := [.int (lxs X (i + 1)), .int (lxs X (i + 2))]) (rest := [.int r1]) F mX10_place mlL_52 im_X10_place se_X10_place dL_law_579 rfl (c_X10_place _ _ ν hM) rfl (by decide) rfl (Nat.le_of_ble_eq_true rfl) (fun r2 ν2 h2 => ?_)
  refine lr_eq (tgt := 1712) F dL_law_582 (by decide) (h1.1.trans h2.1.symm) ?_
  exact kk _ _ (MI.F (MI_s_place _ _ hM) h2.2) (Rel.F (MI_s_place _ _ hM) h1.2 h2.2)

theorem lc_8 {X : lX} (F : LF X) {i : Nat} {μ ν : j_M} (hi : i + 6 ≤ lL X) (hM : MI ν) (hR : Rel μ ν) (kk : ∀ μ2 ν2 : j_M, MI ν2 → Rel μ2 ν2 → LV X 1712 i [] μ2 ν2) : LV X 587 i [] μ ν := by
  refine lr_x F dL_law_587 ?_
  refine lr_ld (j := 1) F hi (by decide) dL_law_588 dL_law_589 dL_law_590 dL_law_591 dL_law_592 ?_
  refine lr_ld (j := 2) F hi (by decide) dL_law_593 dL_law_594 dL_law_595 dL_law_596 dL_law_597 ?_
  refine lr_ld (j := 3) F hi (by decide) dL_law_598 dL_law_599 dL_law_600 dL_law_601 dL_law_602 ?_
  refine lr_callxI (As := [.int (lxs X (i + 1)), .int (lxs X (i + 2)), .int (lxs X (i + 3))]) (rest := []) F mX9_looker mlL_53 im_X9_looker se_X9_looker dL_law_603 rfl (c_X9_looker _ _ _ μ ν hM hR) rfl (by decide) rfl (Nat.le_of_ble_eq_true rfl) (fun r1 μ2 h1 => ?_)
  refine lr_m F dL_law_606 ?_
  refine lr_ld (j := 1) F hi (by decide) dL_law_607 dL_law_608 dL_law_609 dL_law_610 dL_law_611 ?_
  refine lr_ld (j := 2) F hi (by decide) dL_law_612 dL_law_613 dL_law_614 dL_law_615 dL_law_616 ?_
  refine lr_ld (j := 3) F hi (by decide) dL_law_617 dL_law_618 dL_law_619 dL_law_620 dL_law_621 ?_
  refine lr_callmI (As := [.int (lxs X (i + 1)), .int (lxs X (i + 2)), .int (lxs X (i + 3))]) (rest := [.int r1]) F mX10_looker mlL_56 im_X10_looker se_X10_looker dL_law_622 rfl (c_X10_looker _ _ _ ν hM) rfl (by decide) rfl (Nat.le_of_ble_eq_true rfl) (fun r2 ν2 h2 => ?_)
  refine lr_eq (tgt := 1712) F dL_law_625 (by decide) (h1.1.trans h2.1.symm) ?_
  exact kk _ _ (MI.F (MI_s_looker _ _ _ hM) h2.2) (Rel.F (MI_s_looker _ _ _ hM) h1.2 h2.2)

theorem lc_9 {X : lX} (F : LF X) {i : Nat} {μ ν : j_M} (hi : i + 6 ≤ lL X) (hM : MI ν) (hR : Rel μ ν) (kk : ∀ μ2 ν2 : j_M, MI ν2 → Rel μ2 ν2 → LV X 1712 i [] μ2 ν2) : LV X 630 i [] μ ν := by
  refine lr_x F dL_law_630 ?_
  refine lr_ld (j := 1) F hi (by decide) dL_law_631 dL_law_632 dL_law_633 dL_law_634 dL_law_635 ?_
  refine lr_ld (j := 2) F hi (by decide) dL_law_636 dL_law_637 dL_law_638 dL_law_639 dL_law_640 ?_
  refine lr_ld (j := 3) F hi (by decide) dL_law_641 dL_law_642 dL_law_643 dL_law_644 dL_law_645 ?_
  refine lr_bool (p1 := 653) (p2 := 654) F dL_law_646 (by decide) dL_law_649 dL_law_650 (by decide) dL_law_653 rfl ?_
  refine lr_callxI (As := [.int (lxs X (i + 1)), .int (lxs X (i + 2)), .int (if (lxs X (i + 3)) = 0 then 0 else 1)]) (rest := []) F mX9_likes mlL_57 im_X9_likes se_X9_likes dL_law_654 rfl (c_X9_likes _ _ _ μ ν hM hR) rfl (by decide) rfl (Nat.le_of_ble_eq_true rfl) (fun r1 μ2 h1 => ?_)
  refine lr_m F dL_law_657 ?_
  refine lr_ld (j := 1) F hi (by decide) dL_law_658 dL_law_659 dL_law_660 dL_law_661 dL_law_662 ?_
  refine lr_ld (j := 2) F hi (by decide) dL_law_663 dL_law_664 dL_law_665 dL_law_666 dL_law_667 ?_
  refine lr_ld (j := 3) F hi (by decide) dL_law_668 dL_law_669 dL_law_670 dL_law_671 dL_law_672 ?_
  refine lr_bool (p1 := 680) (p2 := 681) F dL_law_673 (by decide) dL_law_676 dL_law_677 (by decide) dL_law_680 rfl ?_
  refine lr_callmI (As := [.int (lxs X (i + 1)), .int (lxs X (i + 2)), .int (if (lxs X (i + 3)) = 0 then 0 else 1)]) (rest := [.int r1]) F mX10_likes mlL_61 im_X10_likes se_X10_likes dL_law_681 rfl (c_X10_likes _ _ _ ν hM) rfl (by decide) rfl (Nat.le_of_ble_eq_true rfl) (fun r2 ν2 h2 => ?_)
  refine lr_eq (tgt := 1712) F dL_law_684 (by decide) (h1.1.trans h2.1.symm) ?_
  exact kk _ _ (MI.F (MI_s_likes _ _ _ hM) h2.2) (Rel.F (MI_s_likes _ _ _ hM) h1.2 h2.2)

theorem lc_10 {X : lX} (F : LF X) {i : Nat} {μ ν : j_M} (hi : i + 6 ≤ lL X) (hM : MI ν) (hR : Rel μ ν) (kk : ∀ μ2 ν2 : j_M, MI ν2 → Rel μ2 ν2 → LV X 1712 i [] μ2 ν2) : LV X 689 i [] μ ν := by
  refine lr_x F dL_law_689 ?_
  refine lr_ld (j := 1) F hi (by decide) dL_law_690 dL_law_691 dL_law_692 dL_law_693 dL_law_694 ?_
  refine lr_ld (j := 2) F hi (by decide) dL_law_695 dL_law_696 dL_law_697 dL_law_698 dL_law_699 ?_
  refine lr_ld (j := 3) F hi (by decide) dL_law_700 dL_law_701 dL_law_702 dL_law_703 dL_law_704 ?_
  refine lr_callxI (As := [.int (lxs X (i + 1)), .int (lxs X (i + 2)), .int (lxs X (i + 3))]) (rest := []) F mX9_tell mlL_62 im_X9_tell se_X9_tell dL_law_705 rfl (c_X9_tell _ _ _ μ ν hM hR) rfl (by decide) rfl (Nat.le_of_ble_eq_true rfl) (fun r1 μ2 h1 => ?_)
  refine lr_m F dL_law_708 ?_
  refine lr_ld (j := 1) F hi (by decide) dL_law_709 dL_law_710 dL_law_711 dL_law_712 dL_law_713 ?_
  refine lr_ld (j := 2) F hi (by decide) dL_law_714 dL_law_715 dL_law_716 dL_law_717 dL_law_718 ?_
  refine lr_ld (j := 3) F hi (by decide) dL_law_719 dL_law_720 dL_law_721 dL_law_722 dL_law_723 ?_
  refine lr_callmI (As := [.int (lxs X (i + 1)), .int (lxs X (i + 2)), .int (lxs X (i + 3))]) (rest := [.int r1]) F mX10_tell mlL_65 im_X10_tell se_X10_tell dL_law_724 rfl (c_X10_tell _ _ _ ν hM) rfl (by decide) rfl (Nat.le_of_ble_eq_true rfl) (fun r2 ν2 h2 => ?_)
  refine lr_eq (tgt := 1712) F dL_law_727 (by decide) (h1.1.trans h2.1.symm) ?_
  exact kk _ _ (MI.F (MI_s_tell _ _ _ hM) h2.2) (Rel.F (MI_s_tell _ _ _ hM) h1.2 h2.2)

theorem lc_11 {X : lX} (F : LF X) {i : Nat} {μ ν : j_M} (hi : i + 6 ≤ lL X) (hM : MI ν) (hR : Rel μ ν) (kk : ∀ μ2 ν2 : j_M, MI ν2 → Rel μ2 ν2 → LV X 1712 i [] μ2 ν2) : LV X 732 i [] μ ν := by
  refine lr_x F dL_law_732 ?_
  refine lr_ld (j := 1) F hi (by decide) dL_law_733 dL_law_734 dL_law_735 dL_law_736 dL_law_737 ?_
  refine lr_callxI (As := [.int (lxs X (i + 1))]) (rest := []) F mX9_feed mlL_66 im_X9_feed se_X9_feed dL_law_738 rfl (c_X9_feed _ μ ν hM hR) rfl (by decide) rfl (Nat.le_of_ble_eq_true rfl) (fun r1 μ2 h1 => ?_)
  refine lr_m F dL_law_741 ?_
  refine lr_ld (j := 1) F hi (by decide) dL_law_742 dL_law_743 dL_law_744 dL_law_745 dL_law_746 ?_
  refine lr_callmI (As := [.int (lxs X (i + 1))]) (rest := [.int r1]) F mX10_feed mlL_69 im_X10_feed se_X10_feed dL_law_747 rfl (c_X10_feed _ ν hM) rfl (by decide) rfl (Nat.le_of_ble_eq_true rfl) (fun r2 ν2 h2 => ?_)
  refine lr_eq (tgt := 1712) F dL_law_750 (by decide) (h1.1.trans h2.1.symm) ?_
  exact kk _ _ (MI.F (MI_s_feed _ hM) h2.2) (Rel.F (MI_s_feed _ hM) h1.2 h2.2)

theorem lc_12 {X : lX} (F : LF X) {i : Nat} {μ ν : j_M} (hi : i + 6 ≤ lL X) (hM : MI ν) (hR : Rel μ ν) (kk : ∀ μ2 ν2 : j_M, MI ν2 → Rel μ2 ν2 → LV X 1712 i [] μ2 ν2) : LV X 755 i [] μ ν := by
  refine lr_x F dL_law_755 ?_
  refine lr_callxI (As := []) (rest := []) F mX9_wipe mlL_70 im_X9_wipe se_X9_wipe dL_law_756 rfl (c_X9_wipe  μ ν hM hR) rfl (by decide) rfl (Nat.le_of_ble_eq_true rfl) (fun r1 μ2 h1 => ?_)
  refine lr_m F dL_law_759 ?_
  refine lr_callmI (As := []) (rest := [.int r1]) F mX10_wipe mlL_74 im_X10_wipe se_X10_wipe dL_law_760 rfl (c_X10_wipe  ν hM) rfl (by decide) rfl (Nat.le_of_ble_eq_true rfl) (fun r2 ν2 h2 => ?_)
  refine lr_eq (tgt := 1712) F dL_law_763 (by decide) (h1.1.trans h2.1.symm) ?_
  exact kk _ _ (MI.F (MI_s_wipe  hM) h2.2) (Rel.F (MI_s_wipe  hM) h1.2 h2.2)

theorem lc_13 {X : lX} (F : LF X) {i : Nat} {μ ν : j_M} (hi : i + 6 ≤ lL X) (hM : MI ν) (hR : Rel μ ν) (kk : ∀ μ2 ν2 : j_M, MI ν2 → Rel μ2 ν2 → LV X 1712 i [] μ2 ν2) : LV X 768 i [] μ ν := by
  refine lr_x F dL_law_768 ?_
  refine lr_callxI (As := []) (rest := []) F mX9_window mlL_75 im_X9_window se_X9_window dL_law_769 rfl (c_X9_window  μ ν hM hR) rfl (by decide) rfl (Nat.le_of_ble_eq_true rfl) (fun r1 μ2 h1 => ?_)
  refine lr_m F dL_law_772 ?_
  refine lr_callmI (As := []) (rest := [.int r1]) F mX10_window mlL_78 im_X10_window se_X10_window dL_law_773 rfl (c_X10_window  ν hM) rfl (by decide) rfl (Nat.le_of_ble_eq_true rfl) (fun r2 ν2 h2 => ?_)
  refine lr_eq (tgt := 1712) F dL_law_776 (by decide) (h1.1.trans h2.1.symm) ?_
  exact kk _ _ (MI.F (MI_s_window  hM) h2.2) (Rel.F (MI_s_window  hM) h1.2 h2.2)

theorem lc_14 {X : lX} (F : LF X) {i : Nat} {μ ν : j_M} (hi : i + 6 ≤ lL X) (hM : MI ν) (hR : Rel μ ν) (kk : ∀ μ2 ν2 : j_M, MI ν2 → Rel μ2 ν2 → LV X 1712 i [] μ2 ν2) : LV X 781 i [] μ ν := by
  refine lr_x F dL_law_781 ?_
  refine lr_ld (j := 1) F hi (by decide) dL_law_782 dL_law_783 dL_law_784 dL_law_785 dL_law_786 ?_
  refine lr_callxI (As := [.int (lxs X (i + 1))]) (rest := []) F mX9_sortAt mlL_79 im_X9_sortAt se_X9_sortAt dL_law_787 rfl (c_X9_sortAt _ μ ν hM hR) rfl (by decide) rfl (Nat.le_of_ble_eq_true rfl) (fun r1 μ2 h1 => ?_)
  refine lr_m F dL_law_790 ?_
  refine lr_ld (j := 1) F hi (by decide) dL_law_791 dL_law_792 dL_law_793 dL_law_794 dL_law_795 ?_
  refine lr_callmI (As := [.int (lxs X (i + 1))]) (rest := [.int r1]) F mX10_sortAt mlL_82 im_X10_sortAt se_X10_sortAt dL_law_796 rfl (c_X10_sortAt _ ν hM) rfl (by decide) rfl (Nat.le_of_ble_eq_true rfl) (fun r2 ν2 h2 => ?_)
  refine lr_eq (tgt := 1712) F dL_law_799 (by decide) (h1.1.trans h2.1.symm) ?_
  exact kk _ _ (MI.F (MI_s_sortAt _ hM) h2.2) (Rel.F (MI_s_sortAt _ hM) h1.2 h2.2)

theorem lc_15 {X : lX} (F : LF X) {i : Nat} {μ ν : j_M} (hi : i + 6 ≤ lL X) (hM : MI ν) (hR : Rel μ ν) (kk : ∀ μ2 ν2 : j_M, MI ν2 → Rel μ2 ν2 → LV X 1712 i [] μ2 ν2) : LV X 804 i [] μ ν := by
  refine lr_x F dL_law_804 ?_
  refine lr_ld (j := 1) F hi (by decide) dL_law_805 dL_law_806 dL_law_807 dL_law_808 dL_law_809 ?_
  refine lr_ld (j := 2) F hi (by decide) dL_law_810 dL_law_811 dL_law_812 dL_law_813 dL_law_814 ?_
  refine lr_callxI (As := [.int (lxs X (i + 1)), .int (lxs X (i + 2))]) (rest := []) F mX9_lookerOf mlL_83 im_X9_lookerOf se_X9_lookerOf dL_law_815 rfl (c_X9_lookerOf _ _ μ ν hM hR) rfl (by decide) rfl (Nat.le_of_ble_eq_true rfl) (fun r1 μ2 h1 => ?_)
  refine lr_m F dL_law_818 ?_
  refine lr_ld (j := 1) F hi (by decide) dL_law_819 dL_law_820 dL_law_821 dL_law_822 dL_law_823 ?_
  refine lr_ld (j := 2) F hi (by decide) dL_law_824 dL_law_825 dL_law_826 dL_law_827 dL_law_828 ?_
  refine lr_callmI (As := [.int (lxs X (i + 1)), .int (lxs X (i + 2))]) (rest := [.int r1]) F mX10_lookerOf mlL_86 im_X10_lookerOf se_X10_lookerOf dL_law_829 rfl (c_X10_lookerOf _ _ ν hM) rfl (by decide) rfl (Nat.le_of_ble_eq_true rfl) (fun r2 ν2 h2 => ?_)
  refine lr_eq (tgt := 1712) F dL_law_832 (by decide) (h1.1.trans h2.1.symm) ?_
  exact kk _ _ (MI.F (MI_s_lookerOf _ _ hM) h2.2) (Rel.F (MI_s_lookerOf _ _ hM) h1.2 h2.2)

theorem lc_16 {X : lX} (F : LF X) {i : Nat} {μ ν : j_M} (hi : i + 6 ≤ lL X) (hM : MI ν) (hR : Rel μ ν) (kk : ∀ μ2 ν2 : j_M, MI ν2 → Rel μ2 ν2 → LV X 1712 i [] μ2 ν2) : LV X 837 i [] μ ν := by
  refine lr_x F dL_law_837 ?_
  refine lr_ld (j := 1) F hi (by decide) dL_law_838 dL_law_839 dL_law_840 dL_law_841 dL_law_842 ?_
  refine lr_callxI (As := [.int (lxs X (i + 1))]) (rest := []) F mX9_left mlL_87 im_X9_left se_X9_left dL_law_843 rfl (c_X9_left _ μ ν hM hR) rfl (by decide) rfl (Nat.le_of_ble_eq_true rfl) (fun r1 μ2 h1 => ?_)
  refine lr_m F dL_law_846 ?_
  refine lr_ld (j := 1) F hi (by decide) dL_law_847 dL_law_848 dL_law_849 dL_law_850 dL_law_851 ?_
  refine lr_callmI (As := [.int (lxs X (i + 1))]) (rest := [.int r1]) F mX10_left mlL_90 im_X10_left se_X10_left dL_law_852 rfl (c_X10_left _ ν hM) rfl (by decide) rfl (Nat.le_of_ble_eq_true rfl) (fun r2 ν2 h2 => ?_)
  refine lr_eq (tgt := 1712) F dL_law_855 (by decide) (h1.1.trans h2.1.symm) ?_
  exact kk _ _ (MI.F (MI_s_left _ hM) h2.2) (Rel.F (MI_s_left _ hM) h1.2 h2.2)

theorem lc_17 {X : lX} (F : LF X) {i : Nat} {μ ν : j_M} (hi : i + 6 ≤ lL X) (hM : MI ν) (hR : Rel μ ν) (kk : ∀ μ2 ν2 : j_M, MI ν2 → Rel μ2 ν2 → LV X 1712 i [] μ2 ν2) : LV X 860 i [] μ ν := by
  refine lr_x F dL_law_860 ?_
  refine lr_ld (j := 1) F hi (by decide) dL_law_861 dL_law_862 dL_law_863 dL_law_864 dL_law_865 ?_
  refine lr_ld (j := 2) F hi (by decide) dL_law_866 dL_law_867 dL_law_868 dL_law_869 dL_law_870 ?_
  refine lr_callxI (As := [.int (lxs X (i + 1)), .int (lxs X (i + 2))]) (rest := []) F mX9_taken mlL_91 im_X9_taken se_X9_taken dL_law_871 rfl (c_X9_taken _ _ μ ν hM hR) rfl (by decide) rfl (Nat.le_of_ble_eq_true rfl) (fun r1 μ2 h1 => ?_)
  refine lr_m F dL_law_874 ?_
  refine lr_ld (j := 1) F hi (by decide) dL_law_875 dL_law_876 dL_law_877 dL_law_878 dL_law_879 ?_
  refine lr_ld (j := 2) F hi (by decide) dL_law_880 dL_law_881 dL_law_882 dL_law_883 dL_law_884 ?_
  refine lr_callmI (As := [.int (lxs X (i + 1)), .int (lxs X (i + 2))]) (rest := [.int r1]) F mX10_taken mlL_94 im_X10_taken se_X10_taken dL_law_885 rfl (c_X10_taken _ _ ν hM) rfl (by decide) rfl (Nat.le_of_ble_eq_true rfl) (fun r2 ν2 h2 => ?_)
  refine lr_eq (tgt := 1712) F dL_law_888 (by decide) (h1.1.trans h2.1.symm) ?_
  exact kk _ _ (MI.F (MI_s_taken _ _ hM) h2.2) (Rel.F (MI_s_taken _ _ hM) h1.2 h2.2)

theorem lc_18 {X : lX} (F : LF X) {i : Nat} {μ ν : j_M} (hi : i + 6 ≤ lL X) (hM : MI ν) (hR : Rel μ ν) (kk : ∀ μ2 ν2 : j_M, MI ν2 → Rel μ2 ν2 → LV X 1712 i [] μ2 ν2) : LV X 893 i [] μ ν := by
  refine lr_x F dL_law_893 ?_
  refine lr_ld (j := 1) F hi (by decide) dL_law_894 dL_law_895 dL_law_896 dL_law_897 dL_law_898 ?_
  refine lr_ld (j := 2) F hi (by decide) dL_law_899 dL_law_900 dL_law_901 dL_law_902 dL_law_903 ?_
  refine lr_callxI (As := [.int (lxs X (i + 1)), .int (lxs X (i + 2))]) (rest := []) F mX9_glad mlL_95 im_X9_glad se_X9_glad dL_law_904 rfl (c_X9_glad _ _ μ ν hM hR) rfl (by decide) rfl (Nat.le_of_ble_eq_true rfl) (fun r1 μ2 h1 => ?_)
  refine lr_m F dL_law_907 ?_
  refine lr_ld (j := 1) F hi (by decide) dL_law_908 dL_law_909 dL_law_910 dL_law_911 dL_law_912 ?_
  refine lr_ld (j := 2) F hi (by decide) dL_law_913 dL_law_914 dL_law_915 dL_law_916 dL_law_917 ?_
  refine lr_callmI (As := [.int (lxs X (i + 1)), .int (lxs X (i + 2))]) (rest := [.int r1]) F mX10_glad mlL_98 im_X10_glad se_X10_glad dL_law_918 rfl (c_X10_glad _ _ ν hM) rfl (by decide) rfl (Nat.le_of_ble_eq_true rfl) (fun r2 ν2 h2 => ?_)
  refine lr_eq (tgt := 1712) F dL_law_921 (by decide) (h1.1.trans h2.1.symm) ?_
  exact kk _ _ (MI.F (MI_s_glad _ _ hM) h2.2) (Rel.F (MI_s_glad _ _ hM) h1.2 h2.2)

theorem lc_19 {X : lX} (F : LF X) {i : Nat} {μ ν : j_M} (hi : i + 6 ≤ lL X) (hM : MI ν) (hR : Rel μ ν) (kk : ∀ μ2 ν2 : j_M, MI ν2 → Rel μ2 ν2 → LV X 1712 i [] μ2 ν2) : LV X 926 i [] μ ν := by
  refine lr_x F dL_law_926 ?_
  refine lr_ld (j := 1) F hi (by decide) dL_law_927 dL_law_928 dL_law_929 dL_law_930 dL_law_931 ?_
  refine lr_ld (j := 2) F hi (by decide) dL_law_932 dL_law_933 dL_law_934 dL_law_935 dL_law_936 ?_
  refine lr_callxI (As := [.int (lxs X (i + 1)), .int (lxs X (i + 2))]) (rest := []) F mX9_order mlL_99 im_X9_order se_X9_order dL_law_937 rfl (c_X9_order _ _ μ ν hM hR) rfl (by decide) rfl (Nat.le_of_ble_eq_true rfl) (fun r1 μ2 h1 => ?_)
  refine lr_m F dL_law_940 ?_
  refine lr_ld (j := 1) F hi (by decide) dL_law_941 dL_law_942 dL_law_943 dL_law_944 dL_law_945 ?_
  refine lr_ld (j := 2) F hi (by decide) dL_law_946 dL_law_947 dL_law_948 dL_law_949 dL_law_950 ?_
  refine lr_callmI (As := [.int (lxs X (i + 1)), .int (lxs X (i + 2))]) (rest := [.int r1]) F mX10_order mlL_102 im_X10_order se_X10_order dL_law_951 rfl (c_X10_order _ _ ν hM) rfl (by decide) rfl (Nat.le_of_ble_eq_true rfl) (fun r2 ν2 h2 => ?_)
  refine lr_eq (tgt := 1712) F dL_law_954 (by decide) (h1.1.trans h2.1.symm) ?_
  exact kk _ _ (MI.F (MI_s_order _ _ hM) h2.2) (Rel.F (MI_s_order _ _ hM) h1.2 h2.2)

theorem lc_20 {X : lX} (F : LF X) {i : Nat} {μ ν : j_M} (hi : i + 6 ≤ lL X) (hM : MI ν) (hR : Rel μ ν) (kk : ∀ μ2 ν2 : j_M, MI ν2 → Rel μ2 ν2 → LV X 1712 i [] μ2 ν2) : LV X 959 i [] μ ν := by
  refine lr_x F dL_law_959 ?_
  refine lr_ld (j := 1) F hi (by decide) dL_law_960 dL_law_961 dL_law_962 dL_law_963 dL_law_964 ?_
  refine lr_ld (j := 2) F hi (by decide) dL_law_965 dL_law_966 dL_law_967 dL_law_968 dL_law_969 ?_
  refine lr_callxI (As := [.int (lxs X (i + 1)), .int (lxs X (i + 2))]) (rest := []) F mX9_away mlL_103 im_X9_away se_X9_away dL_law_970 rfl (c_X9_away _ _ μ ν hM hR) rfl (by decide) rfl (Nat.le_of_ble_eq_true rfl) (fun r1 μ2 h1 => ?_)
  refine lr_m F dL_law_973 ?_
  refine lr_ld (j := 1) F hi (by decide) dL_law_974 dL_law_975 dL_law_976 dL_law_977 dL_law_978 ?_
  refine lr_ld (j := 2) F hi (by decide) dL_law_979 dL_law_980 dL_law_981 dL_law_982 dL_law_983 ?_
  refine lr_callmI (As := [.int (lxs X (i + 1)), .int (lxs X (i + 2))]) (rest := [.int r1]) F mX10_away mlL_106 im_X10_away se_X10_away dL_law_984 rfl (c_X10_away _ _ ν hM) rfl (by decide) rfl (Nat.le_of_ble_eq_true rfl) (fun r2 ν2 h2 => ?_)
  refine lr_eq (tgt := 1712) F dL_law_987 (by decide) (h1.1.trans h2.1.symm) ?_
  exact kk _ _ (MI.F (MI_s_away _ _ hM) h2.2) (Rel.F (MI_s_away _ _ hM) h1.2 h2.2)

theorem lc_21 {X : lX} (F : LF X) {i : Nat} {μ ν : j_M} (hi : i + 6 ≤ lL X) (hM : MI ν) (hR : Rel μ ν) (kk : ∀ μ2 ν2 : j_M, MI ν2 → Rel μ2 ν2 → LV X 1712 i [] μ2 ν2) : LV X 992 i [] μ ν := by
  refine lr_x F dL_law_992 ?_
  refine lr_ld (j := 1) F hi (by decide) dL_law_993 dL_law_994 dL_law_995 dL_law_996 dL_law_997 ?_
  refine lr_ld (j := 2) F hi (by decide) dL_law_998 dL_law_999 dL_law_1000 dL_law_1001 dL_law_1002 ?_
  refine lr_callxI (As := [.int (lxs X (i + 1)), .int (lxs X (i + 2))]) (rest := []) F mX9_crowd mlL_107 im_X9_crowd se_X9_crowd dL_law_1003 rfl (c_X9_crowd _ _ μ ν hM hR) rfl (by decide) rfl (Nat.le_of_ble_eq_true rfl) (fun r1 μ2 h1 => ?_)
  refine lr_m F dL_law_1006 ?_
  refine lr_ld (j := 1) F hi (by decide) dL_law_1007 dL_law_1008 dL_law_1009 dL_law_1010 dL_law_1011 ?_
  refine lr_ld (j := 2) F hi (by decide) dL_law_1012 dL_law_1013 dL_law_1014 dL_law_1015 dL_law_1016 ?_
  refine lr_callmI (As := [.int (lxs X (i + 1)), .int (lxs X (i + 2))]) (rest := [.int r1]) F mX10_crowd mlL_110 im_X10_crowd se_X10_crowd dL_law_1017 rfl (c_X10_crowd _ _ ν hM) rfl (by decide) rfl (Nat.le_of_ble_eq_true rfl) (fun r2 ν2 h2 => ?_)
  refine lr_eq (tgt := 1712) F dL_law_1020 (by decide) (h1.1.trans h2.1.symm) ?_
  exact kk _ _ (MI.F (MI_s_crowd _ _ hM) h2.2) (Rel.F (MI_s_crowd _ _ hM) h1.2 h2.2)

theorem lc_22 {X : lX} (F : LF X) {i : Nat} {μ ν : j_M} (hi : i + 6 ≤ lL X) (hM : MI ν) (hR : Rel μ ν) (kk : ∀ μ2 ν2 : j_M, MI ν2 → Rel μ2 ν2 → LV X 1712 i [] μ2 ν2) : LV X 1025 i [] μ ν := by
  refine lr_x F dL_law_1025 ?_
  refine lr_ld (j := 1) F hi (by decide) dL_law_1026 dL_law_1027 dL_law_1028 dL_law_1029 dL_law_1030 ?_
  refine lr_ld (j := 2) F hi (by decide) dL_law_1031 dL_law_1032 dL_law_1033 dL_law_1034 dL_law_1035 ?_
  refine lr_callxI (As := [.int (lxs X (i + 1)), .int (lxs X (i + 2))]) (rest := []) F mX9_setOut mlL_111 im_X9_setOut se_X9_setOut dL_law_1036 rfl (c_X9_setOut _ _ μ ν hM hR) rfl (by decide) rfl (Nat.le_of_ble_eq_true rfl) (fun r1 μ2 h1 => ?_)
  refine lr_m F dL_law_1039 ?_
  refine lr_ld (j := 1) F hi (by decide) dL_law_1040 dL_law_1041 dL_law_1042 dL_law_1043 dL_law_1044 ?_
  refine lr_ld (j := 2) F hi (by decide) dL_law_1045 dL_law_1046 dL_law_1047 dL_law_1048 dL_law_1049 ?_
  refine lr_callmI (As := [.int (lxs X (i + 1)), .int (lxs X (i + 2))]) (rest := [.int r1]) F mX10_setOut mlL_114 im_X10_setOut se_X10_setOut dL_law_1050 rfl (c_X10_setOut _ _ ν hM) rfl (by decide) rfl (Nat.le_of_ble_eq_true rfl) (fun r2 ν2 h2 => ?_)
  refine lr_eq (tgt := 1712) F dL_law_1053 (by decide) (h1.1.trans h2.1.symm) ?_
  exact kk _ _ (MI.F (MI_s_setOut _ _ hM) h2.2) (Rel.F (MI_s_setOut _ _ hM) h1.2 h2.2)

theorem lc_23 {X : lX} (F : LF X) {i : Nat} {μ ν : j_M} (hi : i + 6 ≤ lL X) (hM : MI ν) (hR : Rel μ ν) (kk : ∀ μ2 ν2 : j_M, MI ν2 → Rel μ2 ν2 → LV X 1712 i [] μ2 ν2) : LV X 1058 i [] μ ν := by
  refine lr_x F dL_law_1058 ?_
  refine lr_ld (j := 1) F hi (by decide) dL_law_1059 dL_law_1060 dL_law_1061 dL_law_1062 dL_law_1063 ?_
  refine lr_ld (j := 2) F hi (by decide) dL_law_1064 dL_law_1065 dL_law_1066 dL_law_1067 dL_law_1068 ?_
  refine lr_callxI (As := [.int (lxs X (i + 1)), .int (lxs X (i + 2))]) (rest := []) F mX9_who mlL_115 im_X9_who se_X9_who dL_law_1069 rfl (c_X9_who _ _ μ ν hM hR) rfl (by decide) rfl (Nat.le_of_ble_eq_true rfl) (fun r1 μ2 h1 => ?_)
  refine lr_m F dL_law_1072 ?_
  refine lr_ld (j := 1) F hi (by decide) dL_law_1073 dL_law_1074 dL_law_1075 dL_law_1076 dL_law_1077 ?_
  refine lr_ld (j := 2) F hi (by decide) dL_law_1078 dL_law_1079 dL_law_1080 dL_law_1081 dL_law_1082 ?_
  refine lr_callmI (As := [.int (lxs X (i + 1)), .int (lxs X (i + 2))]) (rest := [.int r1]) F mX10_who mlL_118 im_X10_who se_X10_who dL_law_1083 rfl (c_X10_who _ _ ν hM) rfl (by decide) rfl (Nat.le_of_ble_eq_true rfl) (fun r2 ν2 h2 => ?_)
  refine lr_eq (tgt := 1712) F dL_law_1086 (by decide) (h1.1.trans h2.1.symm) ?_
  exact kk _ _ (MI.F (MI_s_who _ _ hM) h2.2) (Rel.F (MI_s_who _ _ hM) h1.2 h2.2)

theorem lc_24 {X : lX} (F : LF X) {i : Nat} {μ ν : j_M} (hi : i + 6 ≤ lL X) (hM : MI ν) (hR : Rel μ ν) (kk : ∀ μ2 ν2 : j_M, MI ν2 → Rel μ2 ν2 → LV X 1712 i [] μ2 ν2) : LV X 1091 i [] μ ν := by
  refine lr_x F dL_law_1091 ?_
  refine lr_ld (j := 1) F hi (by decide) dL_law_1092 dL_law_1093 dL_law_1094 dL_law_1095 dL_law_1096 ?_
  refine lr_ld (j := 2) F hi (by decide) dL_law_1097 dL_law_1098 dL_law_1099 dL_law_1100 dL_law_1101 ?_
  refine lr_ld (j := 3) F hi (by decide) dL_law_1102 dL_law_1103 dL_law_1104 dL_law_1105 dL_law_1106 ?_
  refine lr_ld (j := 4) F hi (by decide) dL_law_1107 dL_law_1108 dL_law_1109 dL_law_1110 dL_law_1111 ?_
  refine lr_callxI (As := [.int (lxs X (i + 1)), .int (lxs X (i + 2)), .int (lxs X (i + 3)), .int (lxs X (i + 4))]) (rest := []) F mX9_kinds mlL_119 im_X9_kinds se_X9_kinds dL_law_1112 rfl (c_X9_kinds _ _ _ _ μ ν hM hR) rfl (by decide) rfl (Nat.le_of_ble_eq_true rfl) (fun r1 μ2 h1 => ?_)
  refine lr_m F dL_law_1115 ?_
  refine lr_ld (j := 1) F hi (by decide) dL_law_1116 dL_law_1117 dL_law_1118 dL_law_1119 dL_law_1120 ?_
  refine lr_ld (j := 2) F hi (by decide) dL_law_1121 dL_law_1122 dL_law_1123 dL_law_1124 dL_law_1125 ?_
  refine lr_ld (j := 3) F hi (by decide) dL_law_1126 dL_law_1127 dL_law_1128 dL_law_1129 dL_law_1130 ?_
  refine lr_ld (j := 4) F hi (by decide) dL_law_1131 dL_law_1132 dL_law_1133 dL_law_1134 dL_law_1135 ?_
  refine lr_callmI (As := [.int (lxs X (i + 1)), .int (lxs X (i + 2)), .int (lxs X (i + 3)), .int (lxs X (i + 4))]) (rest := [.int r1]) F mX10_kinds mlL_123 im_X10_kinds se_X10_kinds dL_law_1136 rfl (c_X10_kinds _ _ _ _ ν hM) rfl (by decide) rfl (Nat.le_of_ble_eq_true rfl) (fun r2 ν2 h2 => ?_)
  refine lr_eq (tgt := 1712) F dL_law_1139 (by decide) (h1.1.trans h2.1.symm) ?_
  exact kk _ _ (MI.F (MI_s_kinds _ _ _ _ hM) h2.2) (Rel.F (MI_s_kinds _ _ _ _ hM) h1.2 h2.2)

theorem lc_25 {X : lX} (F : LF X) {i : Nat} {μ ν : j_M} (hi : i + 6 ≤ lL X) (hM : MI ν) (hR : Rel μ ν) (kk : ∀ μ2 ν2 : j_M, MI ν2 → Rel μ2 ν2 → LV X 1712 i [] μ2 ν2) : LV X 1144 i [] μ ν := by
  refine lr_x F dL_law_1144 ?_
  refine lr_ld (j := 1) F hi (by decide) dL_law_1145 dL_law_1146 dL_law_1147 dL_law_1148 dL_law_1149 ?_
  refine lr_callxI (As := [.int (lxs X (i + 1))]) (rest := []) F mX9_odds mlL_124 im_X9_odds se_X9_odds dL_law_1150 rfl (c_X9_odds _ μ ν hM hR) rfl (by decide) rfl (Nat.le_of_ble_eq_true rfl) (fun r1 μ2 h1 => ?_)
  refine lr_m F dL_law_1153 ?_
  refine lr_ld (j := 1) F hi (by decide) dL_law_1154 dL_law_1155 dL_law_1156 dL_law_1157 dL_law_1158 ?_
  refine lr_callmI (As := [.int (lxs X (i + 1))]) (rest := [.int r1]) F mX10_odds mlL_127 im_X10_odds se_X10_odds dL_law_1159 rfl (c_X10_odds _ ν hM) rfl (by decide) rfl (Nat.le_of_ble_eq_true rfl) (fun r2 ν2 h2 => ?_)
  refine lr_eq (tgt := 1712) F dL_law_1162 (by decide) (h1.1.trans h2.1.symm) ?_
  exact kk _ _ (MI.F (MI_s_odds _ hM) h2.2) (Rel.F (MI_s_odds _ hM) h1.2 h2.2)
