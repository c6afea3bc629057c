/-! ===== the law ===== -/
abbrev mL (nm : String) : sm_M := (⟨RL, nm, ""⟩, cL_law, 4, ret)
theorem wx_cnt {X : sm_X} {M : sm_M} {d mc ms mc1 ms1 pc : Nat} {lv st : List Value} {h : sm_H} {Q : Option Value → sm_H → Prop} (e1 : mc = mc1) (e2 : ms = ms1) (k : WpX X M d mc1 ms1 pc lv st h Q) : WpX X M d mc ms pc lv st h Q := by subst e1 e2; exact k
theorem lg_cmp_rf (x : Int64) : lg_cmp x x = 0 := by unfold lg_cmp; simp
theorem lw_c0 {X : sm_X} {nm : String} {i : Nat} {s : Sg} {F I : Nat → Nat → Int32} {J : Nat → Nat → Int64} {Q : Option Value → sm_H → Prop} (hL : X.2.2.2.1.2.1 ≤ 3072) (hi : i + 6 ≤ X.2.2.2.1.2.1) (hC : CR s F I J) (hM : MR s F I J) (ok : Ok s) (nx : ∀ s1 F1 I1 J1, Ok s1 → CR s1 F1 I1 J1 → MR s1 F1 I1 J1 → WpX X (mL nm) 20 0 0 1929 [.ref 900, .ref 0, .ref 40, .int (nI i)] [] (S0, F1, I1, J1) Q) : WpX X (mL nm) 20 0 0 288 [.ref 900, .ref 0, .ref 40, .int (nI i)] [] (S0, F, I, J) Q := by
  refine wx_aload_n (pc := 288) 1 dL_law_288 rfl rfl ?_
  refine wx_arg (i := i) (pc := 289) 1 (by omega) hL (by decide) dL_law_289 dL_law_290 dL_law_291 dL_law_292 dL_law_293 rfl rfl ?_
  refine wx_arg (i := i) (pc := 294) 2 (by omega) hL (by decide) dL_law_294 dL_law_295 dL_law_296 dL_law_297 dL_law_298 rfl rfl ?_
  refine wx_arg (i := i) (pc := 299) 3 (by omega) hL (by decide) dL_law_299 dL_law_300 dL_law_301 dL_law_302 dL_law_303 rfl rfl ?_
  refine wy_V_III (pc := 304) dL_law_304 lkL_13 (sm_Rc.o (ci := 5) s0_0 (by decide) (by decide)) (Nat.le_of_ble_eq_true rfl) (Nat.le_of_ble_eq_true rfl) ?_
  refine c_X6_row hC ok (fun F1 I1 J1 hC1 hh1 => ?_)
  show WpX _ _ _ _ _ _ _ [.int _] _ _
  refine wx_aload_n (pc := 307) 2 dL_law_307 rfl rfl ?_
  refine wx_arg (i := i) (pc := 308) 1 (by omega) hL (by decide) dL_law_308 dL_law_309 dL_law_310 dL_law_311 dL_law_312 rfl rfl ?_
  refine wx_arg (i := i) (pc := 313) 2 (by omega) hL (by decide) dL_law_313 dL_law_314 dL_law_315 dL_law_316 dL_law_317 rfl rfl ?_
  refine wx_arg (i := i) (pc := 318) 3 (by omega) hL (by decide) dL_law_318 dL_law_319 dL_law_320 dL_law_321 dL_law_322 rfl rfl ?_
  refine wy_V_III (pc := 323) dL_law_323 lkL_17 (sm_Rc.o (ci := 6) s0_40 (by decide) (by decide)) (Nat.le_of_ble_eq_true rfl) (Nat.le_of_ble_eq_true rfl) ?_
  refine c_X7_row (hM.hi hh1) ok (fun F2 I2 J2 hM2 hl2 => ?_)
  show WpX _ _ _ _ _ _ _ [.int _, .int _] _ _
  exact wx_icmp_eq (pc := 326) 1929 dL_law_326 (by decide) (fun _ => nx _ _ _ _ (ok_row ok _ _ _) (hC1.lo hl2) hM2) (fun z => absurd rfl z)
theorem lw_c1 {X : sm_X} {nm : String} {i : Nat} {s : Sg} {F I : Nat → Nat → Int32} {J : Nat → Nat → Int64} {Q : Option Value → sm_H → Prop} (hL : X.2.2.2.1.2.1 ≤ 3072) (hi : i + 6 ≤ X.2.2.2.1.2.1) (hC : CR s F I J) (hM : MR s F I J) (ok : Ok s) (nx : ∀ s1 F1 I1 J1, Ok s1 → CR s1 F1 I1 J1 → MR s1 F1 I1 J1 → WpX X (mL nm) 20 0 0 1929 [.ref 900, .ref 0, .ref 40, .int (nI i)] [] (S0, F1, I1, J1) Q) : WpX X (mL nm) 20 0 0 331 [.ref 900, .ref 0, .ref 40, .int (nI i)] [] (S0, F, I, J) Q := by
  refine wx_aload_n (pc := 331) 1 dL_law_331 rfl rfl ?_
  refine wx_arg (i := i) (pc := 332) 1 (by omega) hL (by decide) dL_law_332 dL_law_333 dL_law_334 dL_law_335 dL_law_336 rfl rfl ?_
  refine wx_arg (i := i) (pc := 337) 2 (by omega) hL (by decide) dL_law_337 dL_law_338 dL_law_339 dL_law_340 dL_law_341 rfl rfl ?_
  refine wx_arg (i := i) (pc := 342) 3 (by omega) hL (by decide) dL_law_342 dL_law_343 dL_law_344 dL_law_345 dL_law_346 rfl rfl ?_
  refine wx_i2l (pc := 347) dL_law_347 ?_
  refine wx_bipush (pc := 348) (32) dL_law_348 (by decide) ?_
  refine wx_lshl (pc := 350) dL_law_350 ?_
  refine wx_arg (i := i) (pc := 351) 4 (by omega) hL (by decide) dL_law_351 dL_law_352 dL_law_353 dL_law_354 dL_law_355 rfl rfl ?_
  refine wx_i2l (pc := 356) dL_law_356 ?_
  refine wx_ldc2 (pc := 357) (4294967295) dL_law_357 koL_18 ?_
  refine wx_land (pc := 360) dL_law_360 ?_
  refine wx_lor (pc := 361) dL_law_361 ?_
  refine wy_V_IIJ (pc := 362) dL_law_362 lkL_20 (sm_Rc.o (ci := 5) s0_0 (by decide) (by decide)) (Nat.le_of_ble_eq_true rfl) (Nat.le_of_ble_eq_true rfl) ?_
  refine c_X6_set hC ok (fun F1 I1 J1 hC1 hh1 => ?_)
  show WpX _ _ _ _ _ _ _ [.int _] _ _
  refine wx_aload_n (pc := 365) 2 dL_law_365 rfl rfl ?_
  refine wx_arg (i := i) (pc := 366) 1 (by omega) hL (by decide) dL_law_366 dL_law_367 dL_law_368 dL_law_369 dL_law_370 rfl rfl ?_
  refine wx_arg (i := i) (pc := 371) 2 (by omega) hL (by decide) dL_law_371 dL_law_372 dL_law_373 dL_law_374 dL_law_375 rfl rfl ?_
  refine wx_arg (i := i) (pc := 376) 3 (by omega) hL (by decide) dL_law_376 dL_law_377 dL_law_378 dL_law_379 dL_law_380 rfl rfl ?_
  refine wx_i2l (pc := 381) dL_law_381 ?_
  refine wx_bipush (pc := 382) (32) dL_law_382 (by decide) ?_
  refine wx_lshl (pc := 384) dL_law_384 ?_
  refine wx_arg (i := i) (pc := 385) 4 (by omega) hL (by decide) dL_law_385 dL_law_386 dL_law_387 dL_law_388 dL_law_389 rfl rfl ?_
  refine wx_i2l (pc := 390) dL_law_390 ?_
  refine wx_ldc2 (pc := 391) (4294967295) dL_law_391 koL_18 ?_
  refine wx_land (pc := 394) dL_law_394 ?_
  refine wx_lor (pc := 395) dL_law_395 ?_
  refine wy_V_IIJ (pc := 396) dL_law_396 lkL_24 (sm_Rc.o (ci := 6) s0_40 (by decide) (by decide)) (Nat.le_of_ble_eq_true rfl) (Nat.le_of_ble_eq_true rfl) ?_
  refine c_X7_set (hM.hi hh1) ok (fun F2 I2 J2 hM2 hl2 => ?_)
  show WpX _ _ _ _ _ _ _ [.int _, .int _] _ _
  exact wx_icmp_eq (pc := 399) 1929 dL_law_399 (by decide) (fun _ => nx _ _ _ _ (ok_set ok _ _ _) (hC1.lo hl2) hM2) (fun z => absurd rfl z)
theorem lw_c2 {X : sm_X} {nm : String} {i : Nat} {s : Sg} {F I : Nat → Nat → Int32} {J : Nat → Nat → Int64} {Q : Option Value → sm_H → Prop} (hL : X.2.2.2.1.2.1 ≤ 3072) (hi : i + 6 ≤ X.2.2.2.1.2.1) (hC : CR s F I J) (hM : MR s F I J) (ok : Ok s) (nx : ∀ s1 F1 I1 J1, Ok s1 → CR s1 F1 I1 J1 → MR s1 F1 I1 J1 → WpX X (mL nm) 20 0 0 1929 [.ref 900, .ref 0, .ref 40, .int (nI i)] [] (S0, F1, I1, J1) Q) : WpX X (mL nm) 20 0 0 404 [.ref 900, .ref 0, .ref 40, .int (nI i)] [] (S0, F, I, J) Q := by
  refine wx_aload_n (pc := 404) 1 dL_law_404 rfl rfl ?_
  refine wx_arg (i := i) (pc := 405) 1 (by omega) hL (by decide) dL_law_405 dL_law_406 dL_law_407 dL_law_408 dL_law_409 rfl rfl ?_
  refine wx_arg (i := i) (pc := 410) 2 (by omega) hL (by decide) dL_law_410 dL_law_411 dL_law_412 dL_law_413 dL_law_414 rfl rfl ?_
  refine wx_arg (i := i) (pc := 415) 3 (by omega) hL (by decide) dL_law_415 dL_law_416 dL_law_417 dL_law_418 dL_law_419 rfl rfl ?_
  refine wx_arg (i := i) (pc := 420) 4 (by omega) hL (by decide) dL_law_420 dL_law_421 dL_law_422 dL_law_423 dL_law_424 rfl rfl ?_
  refine wx_arg (i := i) (pc := 425) 5 (by omega) hL (by decide) dL_law_425 dL_law_426 dL_law_427 dL_law_428 dL_law_429 rfl rfl ?_
  refine wy_V_IIIII (pc := 430) dL_law_430 lkL_25 (sm_Rc.o (ci := 5) s0_0 (by decide) (by decide)) (Nat.le_of_ble_eq_true rfl) (Nat.le_of_ble_eq_true rfl) ?_
  refine c_X6_copy hC ok (fun F1 I1 J1 hC1 hh1 => ?_)
  show WpX _ _ _ _ _ _ _ [.int _] _ _
  refine wx_aload_n (pc := 433) 2 dL_law_433 rfl rfl ?_
  refine wx_arg (i := i) (pc := 434) 1 (by omega) hL (by decide) dL_law_434 dL_law_435 dL_law_436 dL_law_437 dL_law_438 rfl rfl ?_
  refine wx_arg (i := i) (pc := 439) 2 (by omega) hL (by decide) dL_law_439 dL_law_440 dL_law_441 dL_law_442 dL_law_443 rfl rfl ?_
  refine wx_arg (i := i) (pc := 444) 3 (by omega) hL (by decide) dL_law_444 dL_law_445 dL_law_446 dL_law_447 dL_law_448 rfl rfl ?_
  refine wx_arg (i := i) (pc := 449) 4 (by omega) hL (by decide) dL_law_449 dL_law_450 dL_law_451 dL_law_452 dL_law_453 rfl rfl ?_
  refine wx_arg (i := i) (pc := 454) 5 (by omega) hL (by decide) dL_law_454 dL_law_455 dL_law_456 dL_law_457 dL_law_458 rfl rfl ?_
  refine wy_V_IIIII (pc := 459) dL_law_459 lkL_29 (sm_Rc.o (ci := 6) s0_40 (by decide) (by decide)) (Nat.le_of_ble_eq_true rfl) (Nat.le_of_ble_eq_true rfl) ?_
  refine c_X7_copy (hM.hi hh1) ok (fun F2 I2 J2 hM2 hl2 => ?_)
  show WpX _ _ _ _ _ _ _ [.int _, .int _] _ _
  exact wx_icmp_eq (pc := 462) 1929 dL_law_462 (by decide) (fun _ => nx _ _ _ _ (ok_copy ok _ _ _ _ _) (hC1.lo hl2) hM2) (fun z => absurd rfl z)
theorem lw_c3 {X : sm_X} {nm : String} {i : Nat} {s : Sg} {F I : Nat → Nat → Int32} {J : Nat → Nat → Int64} {Q : Option Value → sm_H → Prop} (hL : X.2.2.2.1.2.1 ≤ 3072) (hi : i + 6 ≤ X.2.2.2.1.2.1) (hC : CR s F I J) (hM : MR s F I J) (ok : Ok s) (nx : ∀ s1 F1 I1 J1, Ok s1 → CR s1 F1 I1 J1 → MR s1 F1 I1 J1 → WpX X (mL nm) 20 0 0 1929 [.ref 900, .ref 0, .ref 40, .int (nI i)] [] (S0, F1, I1, J1) Q) : WpX X (mL nm) 20 0 0 467 [.ref 900, .ref 0, .ref 40, .int (nI i)] [] (S0, F, I, J) Q := by
  refine wx_aload_n (pc := 467) 1 dL_law_467 rfl rfl ?_
  refine wx_arg (i := i) (pc := 468) 1 (by omega) hL (by decide) dL_law_468 dL_law_469 dL_law_470 dL_law_471 dL_law_472 rfl rfl ?_
  refine wx_arg (i := i) (pc := 473) 2 (by omega) hL (by decide) dL_law_473 dL_law_474 dL_law_475 dL_law_476 dL_law_477 rfl rfl ?_
  refine wy_V_II (pc := 478) dL_law_478 lkL_30 (sm_Rc.o (ci := 5) s0_0 (by decide) (by decide)) (Nat.le_of_ble_eq_true rfl) (Nat.le_of_ble_eq_true rfl) ?_
  refine c_X6_element hC ok ?_
  show WpX _ _ _ _ _ _ _ [.long _] _ _
  refine wx_aload_n (pc := 481) 2 dL_law_481 rfl rfl ?_
  refine wx_arg (i := i) (pc := 482) 1 (by omega) hL (by decide) dL_law_482 dL_law_483 dL_law_484 dL_law_485 dL_law_486 rfl rfl ?_
  refine wx_arg (i := i) (pc := 487) 2 (by omega) hL (by decide) dL_law_487 dL_law_488 dL_law_489 dL_law_490 dL_law_491 rfl rfl ?_
  refine wy_V_II (pc := 492) dL_law_492 lkL_34 (sm_Rc.o (ci := 6) s0_40 (by decide) (by decide)) (Nat.le_of_ble_eq_true rfl) (Nat.le_of_ble_eq_true rfl) ?_
  refine c_X7_element hM ok ?_
  show WpX _ _ _ _ _ _ _ [.long _, .long _] _ _
  refine wx_lcmp (pc := 495) dL_law_495 ?_
  exact wx_ifeq (pc := 496) 1929 dL_law_496 (by decide) (fun _ => nx _ _ _ _ ok hC hM) (fun z => absurd (lg_cmp_rf _) z)
theorem lw_c4 {X : sm_X} {nm : String} {i : Nat} {s : Sg} {F I : Nat → Nat → Int32} {J : Nat → Nat → Int64} {Q : Option Value → sm_H → Prop} (hL : X.2.2.2.1.2.1 ≤ 3072) (hi : i + 6 ≤ X.2.2.2.1.2.1) (hC : CR s F I J) (hM : MR s F I J) (ok : Ok s) (nx : ∀ s1 F1 I1 J1, Ok s1 → CR s1 F1 I1 J1 → MR s1 F1 I1 J1 → WpX X (mL nm) 20 0 0 1929 [.ref 900, .ref 0, .ref 40, .int (nI i)] [] (S0, F1, I1, J1) Q) : WpX X (mL nm) 20 0 0 501 [.ref 900, .ref 0, .ref 40, .int (nI i)] [] (S0, F, I, J) Q := by
  refine wx_aload_n (pc := 501) 1 dL_law_501 rfl rfl ?_
  refine wx_arg (i := i) (pc := 502) 1 (by omega) hL (by decide) dL_law_502 dL_law_503 dL_law_504 dL_law_505 dL_law_506 rfl rfl ?_
  refine wy_V_I (pc := 507) dL_law_507 lkL_35 (sm_Rc.o (ci := 5) s0_0 (by decide) (by decide)) (Nat.le_of_ble_eq_true rfl) (Nat.le_of_ble_eq_true rfl) ?_
  refine c_X6_holds hC ok (fun F1 I1 J1 hC1 hh1 => ?_)
  show WpX _ _ _ _ _ _ _ [.int _] _ _
  refine wx_aload_n (pc := 510) 2 dL_law_510 rfl rfl ?_
  refine wx_arg (i := i) (pc := 511) 1 (by omega) hL (by decide) dL_law_511 dL_law_512 dL_law_513 dL_law_514 dL_law_515 rfl rfl ?_
  refine wy_V_I (pc := 516) dL_law_516 lkL_39 (sm_Rc.o (ci := 6) s0_40 (by decide) (by decide)) (Nat.le_of_ble_eq_true rfl) (Nat.le_of_ble_eq_true rfl) ?_
  refine c_X7_holds (hM.hi hh1) ok (fun F2 I2 J2 hM2 hl2 => ?_)
  show WpX _ _ _ _ _ _ _ [.int _, .int _] _ _
  exact wx_icmp_eq (pc := 519) 1929 dL_law_519 (by decide) (fun _ => nx _ _ _ _ ok (hC1.lo hl2) hM2) (fun z => absurd rfl z)
theorem lw_c5 {X : sm_X} {nm : String} {i : Nat} {s : Sg} {F I : Nat → Nat → Int32} {J : Nat → Nat → Int64} {Q : Option Value → sm_H → Prop} (hL : X.2.2.2.1.2.1 ≤ 3072) (hi : i + 6 ≤ X.2.2.2.1.2.1) (hC : CR s F I J) (hM : MR s F I J) (ok : Ok s) (nx : ∀ s1 F1 I1 J1, Ok s1 → CR s1 F1 I1 J1 → MR s1 F1 I1 J1 → WpX X (mL nm) 20 0 0 1929 [.ref 900, .ref 0, .ref 40, .int (nI i)] [] (S0, F1, I1, J1) Q) : WpX X (mL nm) 20 0 0 524 [.ref 900, .ref 0, .ref 40, .int (nI i)] [] (S0, F, I, J) Q := by
  refine wx_aload_n (pc := 524) 1 dL_law_524 rfl rfl ?_
  refine wx_arg (i := i) (pc := 525) 1 (by omega) hL (by decide) dL_law_525 dL_law_526 dL_law_527 dL_law_528 dL_law_529 rfl rfl ?_
  refine wx_arg (i := i) (pc := 530) 2 (by omega) hL (by decide) dL_law_530 dL_law_531 dL_law_532 dL_law_533 dL_law_534 rfl rfl ?_
  refine wy_V_II (pc := 535) dL_law_535 lkL_40 (sm_Rc.o (ci := 5) s0_0 (by decide) (by decide)) (Nat.le_of_ble_eq_true rfl) (Nat.le_of_ble_eq_true rfl) ?_
  refine c_X6_show hC ok (fun F1 I1 J1 hC1 hh1 => ?_)
  show WpX _ _ _ _ _ _ _ [.int _] _ _
  refine wx_aload_n (pc := 538) 2 dL_law_538 rfl rfl ?_
  refine wx_arg (i := i) (pc := 539) 1 (by omega) hL (by decide) dL_law_539 dL_law_540 dL_law_541 dL_law_542 dL_law_543 rfl rfl ?_
  refine wx_arg (i := i) (pc := 544) 2 (by omega) hL (by decide) dL_law_544 dL_law_545 dL_law_546 dL_law_547 dL_law_548 rfl rfl ?_
  refine wy_V_II (pc := 549) dL_law_549 lkL_44 (sm_Rc.o (ci := 6) s0_40 (by decide) (by decide)) (Nat.le_of_ble_eq_true rfl) (Nat.le_of_ble_eq_true rfl) ?_
  refine c_X7_show (hM.hi hh1) ok (fun F2 I2 J2 hM2 hl2 => ?_)
  show WpX _ _ _ _ _ _ _ [.int _, .int _] _ _
  exact wx_icmp_eq (pc := 552) 1929 dL_law_552 (by decide) (fun _ => nx _ _ _ _ (ok_show ok _ _) (hC1.lo hl2) hM2) (fun z => absurd rfl z)
theorem lw_c6 {X : sm_X} {nm : String} {i : Nat} {s : Sg} {F I : Nat → Nat → Int32} {J : Nat → Nat → Int64} {Q : Option Value → sm_H → Prop} (hL : X.2.2.2.1.2.1 ≤ 3072) (hi : i + 6 ≤ X.2.2.2.1.2.1) (hC : CR s F I J) (hM : MR s F I J) (ok : Ok s) (nx : ∀ s1 F1 I1 J1, Ok s1 → CR s1 F1 I1 J1 → MR s1 F1 I1 J1 → WpX X (mL nm) 20 0 0 1929 [.ref 900, .ref 0, .ref 40, .int (nI i)] [] (S0, F1, I1, J1) Q) : WpX X (mL nm) 20 0 0 557 [.ref 900, .ref 0, .ref 40, .int (nI i)] [] (S0, F, I, J) Q := by
  refine wx_aload_n (pc := 557) 1 dL_law_557 rfl rfl ?_
  refine wx_arg (i := i) (pc := 558) 1 (by omega) hL (by decide) dL_law_558 dL_law_559 dL_law_560 dL_law_561 dL_law_562 rfl rfl ?_
  refine wx_arg (i := i) (pc := 563) 2 (by omega) hL (by decide) dL_law_563 dL_law_564 dL_law_565 dL_law_566 dL_law_567 rfl rfl ?_
  refine wy_V_II (pc := 568) dL_law_568 lkL_45 (sm_Rc.o (ci := 5) s0_0 (by decide) (by decide)) (Nat.le_of_ble_eq_true rfl) (Nat.le_of_ble_eq_true rfl) ?_
  refine c_X6_says hC ok (fun F1 I1 J1 hC1 hh1 => ?_)
  show WpX _ _ _ _ _ _ _ [.int _] _ _
  refine wx_aload_n (pc := 571) 2 dL_law_571 rfl rfl ?_
  refine wx_arg (i := i) (pc := 572) 1 (by omega) hL (by decide) dL_law_572 dL_law_573 dL_law_574 dL_law_575 dL_law_576 rfl rfl ?_
  refine wx_arg (i := i) (pc := 577) 2 (by omega) hL (by decide) dL_law_577 dL_law_578 dL_law_579 dL_law_580 dL_law_581 rfl rfl ?_
  refine wy_V_II (pc := 582) dL_law_582 lkL_48 (sm_Rc.o (ci := 6) s0_40 (by decide) (by decide)) (Nat.le_of_ble_eq_true rfl) (Nat.le_of_ble_eq_true rfl) ?_
  refine c_X7_says (hM.hi hh1) ok (fun F2 I2 J2 hM2 hl2 => ?_)
  show WpX _ _ _ _ _ _ _ [.int _, .int _] _ _
  exact wx_icmp_eq (pc := 585) 1929 dL_law_585 (by decide) (fun _ => nx _ _ _ _ (ok_says ok _ _) (hC1.lo hl2) hM2) (fun z => absurd rfl z)
theorem lw_c7 {X : sm_X} {nm : String} {i : Nat} {s : Sg} {F I : Nat → Nat → Int32} {J : Nat → Nat → Int64} {Q : Option Value → sm_H → Prop} (hL : X.2.2.2.1.2.1 ≤ 3072) (hi : i + 6 ≤ X.2.2.2.1.2.1) (hC : CR s F I J) (hM : MR s F I J) (ok : Ok s) (nx : ∀ s1 F1 I1 J1, Ok s1 → CR s1 F1 I1 J1 → MR s1 F1 I1 J1 → WpX X (mL nm) 20 0 0 1929 [.ref 900, .ref 0, .ref 40, .int (nI i)] [] (S0, F1, I1, J1) Q) : WpX X (mL nm) 20 0 0 590 [.ref 900, .ref 0, .ref 40, .int (nI i)] [] (S0, F, I, J) Q := by
  refine wx_aload_n (pc := 590) 1 dL_law_590 rfl rfl ?_
  refine wx_arg (i := i) (pc := 591) 1 (by omega) hL (by decide) dL_law_591 dL_law_592 dL_law_593 dL_law_594 dL_law_595 rfl rfl ?_
  refine wx_arg (i := i) (pc := 596) 2 (by omega) hL (by decide) dL_law_596 dL_law_597 dL_law_598 dL_law_599 dL_law_600 rfl rfl ?_
  refine wy_V_II (pc := 601) dL_law_601 lkL_49 (sm_Rc.o (ci := 5) s0_0 (by decide) (by decide)) (Nat.le_of_ble_eq_true rfl) (Nat.le_of_ble_eq_true rfl) ?_
  refine c_X6_thing hC ok (fun F1 I1 J1 hC1 hh1 => ?_)
  show WpX _ _ _ _ _ _ _ [.int _] _ _
  refine wx_aload_n (pc := 604) 2 dL_law_604 rfl rfl ?_
  refine wx_arg (i := i) (pc := 605) 1 (by omega) hL (by decide) dL_law_605 dL_law_606 dL_law_607 dL_law_608 dL_law_609 rfl rfl ?_
  refine wx_arg (i := i) (pc := 610) 2 (by omega) hL (by decide) dL_law_610 dL_law_611 dL_law_612 dL_law_613 dL_law_614 rfl rfl ?_
  refine wy_V_II (pc := 615) dL_law_615 lkL_52 (sm_Rc.o (ci := 6) s0_40 (by decide) (by decide)) (Nat.le_of_ble_eq_true rfl) (Nat.le_of_ble_eq_true rfl) ?_
  refine c_X7_thing (hM.hi hh1) ok (fun F2 I2 J2 hM2 hl2 => ?_)
  show WpX _ _ _ _ _ _ _ [.int _, .int _] _ _
  exact wx_icmp_eq (pc := 618) 1929 dL_law_618 (by decide) (fun _ => nx _ _ _ _ (ok_thing ok _ _) (hC1.lo hl2) hM2) (fun z => absurd rfl z)
theorem lw_c8 {X : sm_X} {nm : String} {i : Nat} {s : Sg} {F I : Nat → Nat → Int32} {J : Nat → Nat → Int64} {Q : Option Value → sm_H → Prop} (hL : X.2.2.2.1.2.1 ≤ 3072) (hi : i + 6 ≤ X.2.2.2.1.2.1) (hC : CR s F I J) (hM : MR s F I J) (ok : Ok s) (nx : ∀ s1 F1 I1 J1, Ok s1 → CR s1 F1 I1 J1 → MR s1 F1 I1 J1 → WpX X (mL nm) 20 0 0 1929 [.ref 900, .ref 0, .ref 40, .int (nI i)] [] (S0, F1, I1, J1) Q) : WpX X (mL nm) 20 0 0 623 [.ref 900, .ref 0, .ref 40, .int (nI i)] [] (S0, F, I, J) Q := by
  refine wx_aload_n (pc := 623) 1 dL_law_623 rfl rfl ?_
  refine wx_arg (i := i) (pc := 624) 1 (by omega) hL (by decide) dL_law_624 dL_law_625 dL_law_626 dL_law_627 dL_law_628 rfl rfl ?_
  refine wx_arg (i := i) (pc := 629) 2 (by omega) hL (by decide) dL_law_629 dL_law_630 dL_law_631 dL_law_632 dL_law_633 rfl rfl ?_
  refine wx_arg (i := i) (pc := 634) 3 (by omega) hL (by decide) dL_law_634 dL_law_635 dL_law_636 dL_law_637 dL_law_638 rfl rfl ?_
  refine wy_V_III (pc := 639) dL_law_639 lkL_53 (sm_Rc.o (ci := 5) s0_0 (by decide) (by decide)) (Nat.le_of_ble_eq_true rfl) (Nat.le_of_ble_eq_true rfl) ?_
  refine c_X6_ringer hC ok (fun F1 I1 J1 hC1 hh1 => ?_)
  show WpX _ _ _ _ _ _ _ [.int _] _ _
  refine wx_aload_n (pc := 642) 2 dL_law_642 rfl rfl ?_
  refine wx_arg (i := i) (pc := 643) 1 (by omega) hL (by decide) dL_law_643 dL_law_644 dL_law_645 dL_law_646 dL_law_647 rfl rfl ?_
  refine wx_arg (i := i) (pc := 648) 2 (by omega) hL (by decide) dL_law_648 dL_law_649 dL_law_650 dL_law_651 dL_law_652 rfl rfl ?_
  refine wx_arg (i := i) (pc := 653) 3 (by omega) hL (by decide) dL_law_653 dL_law_654 dL_law_655 dL_law_656 dL_law_657 rfl rfl ?_
  refine wy_V_III (pc := 658) dL_law_658 lkL_56 (sm_Rc.o (ci := 6) s0_40 (by decide) (by decide)) (Nat.le_of_ble_eq_true rfl) (Nat.le_of_ble_eq_true rfl) ?_
  refine c_X7_ringer (hM.hi hh1) ok (fun F2 I2 J2 hM2 hl2 => ?_)
  show WpX _ _ _ _ _ _ _ [.int _, .int _] _ _
  exact wx_icmp_eq (pc := 661) 1929 dL_law_661 (by decide) (fun _ => nx _ _ _ _ (ok_ringer ok _ _ _) (hC1.lo hl2) hM2) (fun z => absurd rfl z)
theorem lw_c9 {X : sm_X} {nm : String} {i : Nat} {s : Sg} {F I : Nat → Nat → Int32} {J : Nat → Nat → Int64} {Q : Option Value → sm_H → Prop} (hL : X.2.2.2.1.2.1 ≤ 3072) (hi : i + 6 ≤ X.2.2.2.1.2.1) (hC : CR s F I J) (hM : MR s F I J) (ok : Ok s) (nx : ∀ s1 F1 I1 J1, Ok s1 → CR s1 F1 I1 J1 → MR s1 F1 I1 J1 → WpX X (mL nm) 20 0 0 1929 [.ref 900, .ref 0, .ref 40, .int (nI i)] [] (S0, F1, I1, J1) Q) : WpX X (mL nm) 20 0 0 666 [.ref 900, .ref 0, .ref 40, .int (nI i)] [] (S0, F, I, J) Q := by
  refine wx_aload_n (pc := 666) 1 dL_law_666 rfl rfl ?_
  refine wx_arg (i := i) (pc := 667) 1 (by omega) hL (by decide) dL_law_667 dL_law_668 dL_law_669 dL_law_670 dL_law_671 rfl rfl ?_
  refine wx_arg (i := i) (pc := 672) 2 (by omega) hL (by decide) dL_law_672 dL_law_673 dL_law_674 dL_law_675 dL_law_676 rfl rfl ?_
  refine wx_arg (i := i) (pc := 677) 3 (by omega) hL (by decide) dL_law_677 dL_law_678 dL_law_679 dL_law_680 dL_law_681 rfl rfl ?_
  refine wy_V_III (pc := 682) dL_law_682 lkL_57 (sm_Rc.o (ci := 5) s0_0 (by decide) (by decide)) (Nat.le_of_ble_eq_true rfl) (Nat.le_of_ble_eq_true rfl) ?_
  refine c_X6_hang hC ok (fun F1 I1 J1 hC1 hh1 => ?_)
  show WpX _ _ _ _ _ _ _ [.int _] _ _
  refine wx_aload_n (pc := 685) 2 dL_law_685 rfl rfl ?_
  refine wx_arg (i := i) (pc := 686) 1 (by omega) hL (by decide) dL_law_686 dL_law_687 dL_law_688 dL_law_689 dL_law_690 rfl rfl ?_
  refine wx_arg (i := i) (pc := 691) 2 (by omega) hL (by decide) dL_law_691 dL_law_692 dL_law_693 dL_law_694 dL_law_695 rfl rfl ?_
  refine wx_arg (i := i) (pc := 696) 3 (by omega) hL (by decide) dL_law_696 dL_law_697 dL_law_698 dL_law_699 dL_law_700 rfl rfl ?_
  refine wy_V_III (pc := 701) dL_law_701 lkL_60 (sm_Rc.o (ci := 6) s0_40 (by decide) (by decide)) (Nat.le_of_ble_eq_true rfl) (Nat.le_of_ble_eq_true rfl) ?_
  refine c_X7_hang (hM.hi hh1) ok (fun F2 I2 J2 hM2 hl2 => ?_)
  show WpX _ _ _ _ _ _ _ [.int _, .int _] _ _
  exact wx_icmp_eq (pc := 704) 1929 dL_law_704 (by decide) (fun _ => nx _ _ _ _ (ok_hang ok _ _ _) (hC1.lo hl2) hM2) (fun z => absurd rfl z)
theorem lw_c10 {X : sm_X} {nm : String} {i : Nat} {s : Sg} {F I : Nat → Nat → Int32} {J : Nat → Nat → Int64} {Q : Option Value → sm_H → Prop} (hL : X.2.2.2.1.2.1 ≤ 3072) (hi : i + 6 ≤ X.2.2.2.1.2.1) (hC : CR s F I J) (hM : MR s F I J) (ok : Ok s) (nx : ∀ s1 F1 I1 J1, Ok s1 → CR s1 F1 I1 J1 → MR s1 F1 I1 J1 → WpX X (mL nm) 20 0 0 1929 [.ref 900, .ref 0, .ref 40, .int (nI i)] [] (S0, F1, I1, J1) Q) : WpX X (mL nm) 20 0 0 709 [.ref 900, .ref 0, .ref 40, .int (nI i)] [] (S0, F, I, J) Q := by
  refine wx_aload_n (pc := 709) 1 dL_law_709 rfl rfl ?_
  refine wx_arg (i := i) (pc := 710) 1 (by omega) hL (by decide) dL_law_710 dL_law_711 dL_law_712 dL_law_713 dL_law_714 rfl rfl ?_
  refine wx_arg (i := i) (pc := 715) 2 (by omega) hL (by decide) dL_law_715 dL_law_716 dL_law_717 dL_law_718 dL_law_719 rfl rfl ?_
  refine wx_arg (i := i) (pc := 720) 3 (by omega) hL (by decide) dL_law_720 dL_law_721 dL_law_722 dL_law_723 dL_law_724 rfl rfl ?_
  refine wy_V_III (pc := 725) dL_law_725 lkL_61 (sm_Rc.o (ci := 5) s0_0 (by decide) (by decide)) (Nat.le_of_ble_eq_true rfl) (Nat.le_of_ble_eq_true rfl) ?_
  refine c_X6_give hC ok (fun F1 I1 J1 hC1 hh1 => ?_)
  show WpX _ _ _ _ _ _ _ [.int _] _ _
  refine wx_aload_n (pc := 728) 2 dL_law_728 rfl rfl ?_
  refine wx_arg (i := i) (pc := 729) 1 (by omega) hL (by decide) dL_law_729 dL_law_730 dL_law_731 dL_law_732 dL_law_733 rfl rfl ?_
  refine wx_arg (i := i) (pc := 734) 2 (by omega) hL (by decide) dL_law_734 dL_law_735 dL_law_736 dL_law_737 dL_law_738 rfl rfl ?_
  refine wx_arg (i := i) (pc := 739) 3 (by omega) hL (by decide) dL_law_739 dL_law_740 dL_law_741 dL_law_742 dL_law_743 rfl rfl ?_
  refine wy_V_III (pc := 744) dL_law_744 lkL_64 (sm_Rc.o (ci := 6) s0_40 (by decide) (by decide)) (Nat.le_of_ble_eq_true rfl) (Nat.le_of_ble_eq_true rfl) ?_
  refine c_X7_give (hM.hi hh1) ok (fun F2 I2 J2 hM2 hl2 => ?_)
  show WpX _ _ _ _ _ _ _ [.int _, .int _] _ _
  exact wx_icmp_eq (pc := 747) 1929 dL_law_747 (by decide) (fun _ => nx _ _ _ _ (ok_give ok _ _ _) (hC1.lo hl2) hM2) (fun z => absurd rfl z)
theorem lw_c11 {X : sm_X} {nm : String} {i : Nat} {s : Sg} {F I : Nat → Nat → Int32} {J : Nat → Nat → Int64} {Q : Option Value → sm_H → Prop} (hL : X.2.2.2.1.2.1 ≤ 3072) (hi : i + 6 ≤ X.2.2.2.1.2.1) (hC : CR s F I J) (hM : MR s F I J) (ok : Ok s) (nx : ∀ s1 F1 I1 J1, Ok s1 → CR s1 F1 I1 J1 → MR s1 F1 I1 J1 → WpX X (mL nm) 20 0 0 1929 [.ref 900, .ref 0, .ref 40, .int (nI i)] [] (S0, F1, I1, J1) Q) : WpX X (mL nm) 20 0 0 752 [.ref 900, .ref 0, .ref 40, .int (nI i)] [] (S0, F, I, J) Q := by
  refine wx_aload_n (pc := 752) 1 dL_law_752 rfl rfl ?_
  refine wx_arg (i := i) (pc := 753) 1 (by omega) hL (by decide) dL_law_753 dL_law_754 dL_law_755 dL_law_756 dL_law_757 rfl rfl ?_
  refine wx_arg (i := i) (pc := 758) 2 (by omega) hL (by decide) dL_law_758 dL_law_759 dL_law_760 dL_law_761 dL_law_762 rfl rfl ?_
  refine wy_V_II (pc := 763) dL_law_763 lkL_65 (sm_Rc.o (ci := 5) s0_0 (by decide) (by decide)) (Nat.le_of_ble_eq_true rfl) (Nat.le_of_ble_eq_true rfl) ?_
  refine c_X6_tell hC ok (fun F1 I1 J1 hC1 hh1 => ?_)
  show WpX _ _ _ _ _ _ _ [.int _] _ _
  refine wx_aload_n (pc := 766) 2 dL_law_766 rfl rfl ?_
  refine wx_arg (i := i) (pc := 767) 1 (by omega) hL (by decide) dL_law_767 dL_law_768 dL_law_769 dL_law_770 dL_law_771 rfl rfl ?_
  refine wx_arg (i := i) (pc := 772) 2 (by omega) hL (by decide) dL_law_772 dL_law_773 dL_law_774 dL_law_775 dL_law_776 rfl rfl ?_
  refine wy_V_II (pc := 777) dL_law_777 lkL_68 (sm_Rc.o (ci := 6) s0_40 (by decide) (by decide)) (Nat.le_of_ble_eq_true rfl) (Nat.le_of_ble_eq_true rfl) ?_
  refine c_X7_tell (hM.hi hh1) ok (fun F2 I2 J2 hM2 hl2 => ?_)
  show WpX _ _ _ _ _ _ _ [.int _, .int _] _ _
  exact wx_icmp_eq (pc := 780) 1929 dL_law_780 (by decide) (fun _ => nx _ _ _ _ (ok_tell ok _ _) (hC1.lo hl2) hM2) (fun z => absurd rfl z)
theorem lw_c12 {X : sm_X} {nm : String} {i : Nat} {s : Sg} {F I : Nat → Nat → Int32} {J : Nat → Nat → Int64} {Q : Option Value → sm_H → Prop} (hL : X.2.2.2.1.2.1 ≤ 3072) (hi : i + 6 ≤ X.2.2.2.1.2.1) (hC : CR s F I J) (hM : MR s F I J) (ok : Ok s) (nx : ∀ s1 F1 I1 J1, Ok s1 → CR s1 F1 I1 J1 → MR s1 F1 I1 J1 → WpX X (mL nm) 20 0 0 1929 [.ref 900, .ref 0, .ref 40, .int (nI i)] [] (S0, F1, I1, J1) Q) : WpX X (mL nm) 20 0 0 785 [.ref 900, .ref 0, .ref 40, .int (nI i)] [] (S0, F, I, J) Q := by
  refine wx_aload_n (pc := 785) 1 dL_law_785 rfl rfl ?_
  refine wx_arg (i := i) (pc := 786) 1 (by omega) hL (by decide) dL_law_786 dL_law_787 dL_law_788 dL_law_789 dL_law_790 rfl rfl ?_
  refine wy_V_I (pc := 791) dL_law_791 lkL_69 (sm_Rc.o (ci := 5) s0_0 (by decide) (by decide)) (Nat.le_of_ble_eq_true rfl) (Nat.le_of_ble_eq_true rfl) ?_
  refine c_X6_feed hC ok (fun F1 I1 J1 hC1 hh1 => ?_)
  show WpX _ _ _ _ _ _ _ [.int _] _ _
  refine wx_aload_n (pc := 794) 2 dL_law_794 rfl rfl ?_
  refine wx_arg (i := i) (pc := 795) 1 (by omega) hL (by decide) dL_law_795 dL_law_796 dL_law_797 dL_law_798 dL_law_799 rfl rfl ?_
  refine wy_V_I (pc := 800) dL_law_800 lkL_72 (sm_Rc.o (ci := 6) s0_40 (by decide) (by decide)) (Nat.le_of_ble_eq_true rfl) (Nat.le_of_ble_eq_true rfl) ?_
  refine c_X7_feed (hM.hi hh1) ok (fun F2 I2 J2 hM2 hl2 => ?_)
  show WpX _ _ _ _ _ _ _ [.int _, .int _] _ _
  exact wx_icmp_eq (pc := 803) 1929 dL_law_803 (by decide) (fun _ => nx _ _ _ _ (ok_feed ok _) (hC1.lo hl2) hM2) (fun z => absurd rfl z)
theorem lw_c13 {X : sm_X} {nm : String} {i : Nat} {s : Sg} {F I : Nat → Nat → Int32} {J : Nat → Nat → Int64} {Q : Option Value → sm_H → Prop} (hL : X.2.2.2.1.2.1 ≤ 3072) (hi : i + 6 ≤ X.2.2.2.1.2.1) (hC : CR s F I J) (hM : MR s F I J) (ok : Ok s) (nx : ∀ s1 F1 I1 J1, Ok s1 → CR s1 F1 I1 J1 → MR s1 F1 I1 J1 → WpX X (mL nm) 20 0 0 1929 [.ref 900, .ref 0, .ref 40, .int (nI i)] [] (S0, F1, I1, J1) Q) : WpX X (mL nm) 20 0 0 808 [.ref 900, .ref 0, .ref 40, .int (nI i)] [] (S0, F, I, J) Q := by
  refine wx_aload_n (pc := 808) 1 dL_law_808 rfl rfl ?_
  refine wy_V_ (pc := 809) dL_law_809 lkL_73 (sm_Rc.o (ci := 5) s0_0 (by decide) (by decide)) (Nat.le_of_ble_eq_true rfl) (Nat.le_of_ble_eq_true rfl) ?_
  refine c_X6_wipe hC ok (fun F1 I1 J1 hC1 hh1 => ?_)
  show WpX _ _ _ _ _ _ _ [.int _] _ _
  refine wx_aload_n (pc := 812) 2 dL_law_812 rfl rfl ?_
  refine wy_V_ (pc := 813) dL_law_813 lkL_77 (sm_Rc.o (ci := 6) s0_40 (by decide) (by decide)) (Nat.le_of_ble_eq_true rfl) (Nat.le_of_ble_eq_true rfl) ?_
  refine c_X7_wipe (hM.hi hh1) ok (fun F2 I2 J2 hM2 hl2 => ?_)
  show WpX _ _ _ _ _ _ _ [.int _, .int _] _ _
  exact wx_icmp_eq (pc := 816) 1929 dL_law_816 (by decide) (fun _ => nx _ _ _ _ (ok_wipe ok) (hC1.lo hl2) hM2) (fun z => absurd rfl z)
theorem lw_c14 {X : sm_X} {nm : String} {i : Nat} {s : Sg} {F I : Nat → Nat → Int32} {J : Nat → Nat → Int64} {Q : Option Value → sm_H → Prop} (hL : X.2.2.2.1.2.1 ≤ 3072) (hi : i + 6 ≤ X.2.2.2.1.2.1) (hC : CR s F I J) (hM : MR s F I J) (ok : Ok s) (nx : ∀ s1 F1 I1 J1, Ok s1 → CR s1 F1 I1 J1 → MR s1 F1 I1 J1 → WpX X (mL nm) 20 0 0 1929 [.ref 900, .ref 0, .ref 40, .int (nI i)] [] (S0, F1, I1, J1) Q) : WpX X (mL nm) 20 0 0 821 [.ref 900, .ref 0, .ref 40, .int (nI i)] [] (S0, F, I, J) Q := by
  refine wx_aload_n (pc := 821) 1 dL_law_821 rfl rfl ?_
  refine wy_V_ (pc := 822) dL_law_822 lkL_78 (sm_Rc.o (ci := 5) s0_0 (by decide) (by decide)) (Nat.le_of_ble_eq_true rfl) (Nat.le_of_ble_eq_true rfl) ?_
  refine c_X6_tower hC ok (fun F1 I1 J1 hC1 hh1 => ?_)
  show WpX _ _ _ _ _ _ _ [.int _] _ _
  refine wx_aload_n (pc := 825) 2 dL_law_825 rfl rfl ?_
  refine wy_V_ (pc := 826) dL_law_826 lkL_81 (sm_Rc.o (ci := 6) s0_40 (by decide) (by decide)) (Nat.le_of_ble_eq_true rfl) (Nat.le_of_ble_eq_true rfl) ?_
  refine c_X7_tower (hM.hi hh1) ok (fun F2 I2 J2 hM2 hl2 => ?_)
  show WpX _ _ _ _ _ _ _ [.int _, .int _] _ _
  exact wx_icmp_eq (pc := 829) 1929 dL_law_829 (by decide) (fun _ => nx _ _ _ _ (ok_tower ok) (hC1.lo hl2) hM2) (fun z => absurd rfl z)
theorem lw_c15 {X : sm_X} {nm : String} {i : Nat} {s : Sg} {F I : Nat → Nat → Int32} {J : Nat → Nat → Int64} {Q : Option Value → sm_H → Prop} (hL : X.2.2.2.1.2.1 ≤ 3072) (hi : i + 6 ≤ X.2.2.2.1.2.1) (hC : CR s F I J) (hM : MR s F I J) (ok : Ok s) (nx : ∀ s1 F1 I1 J1, Ok s1 → CR s1 F1 I1 J1 → MR s1 F1 I1 J1 → WpX X (mL nm) 20 0 0 1929 [.ref 900, .ref 0, .ref 40, .int (nI i)] [] (S0, F1, I1, J1) Q) : WpX X (mL nm) 20 0 0 834 [.ref 900, .ref 0, .ref 40, .int (nI i)] [] (S0, F, I, J) Q := by
  refine wx_aload_n (pc := 834) 1 dL_law_834 rfl rfl ?_
  refine wx_arg (i := i) (pc := 835) 1 (by omega) hL (by decide) dL_law_835 dL_law_836 dL_law_837 dL_law_838 dL_law_839 rfl rfl ?_
  refine wx_arg (i := i) (pc := 840) 2 (by omega) hL (by decide) dL_law_840 dL_law_841 dL_law_842 dL_law_843 dL_law_844 rfl rfl ?_
  refine wy_V_II (pc := 845) dL_law_845 lkL_82 (sm_Rc.o (ci := 5) s0_0 (by decide) (by decide)) (Nat.le_of_ble_eq_true rfl) (Nat.le_of_ble_eq_true rfl) ?_
  refine c_X6_thingOf hC ok (fun F1 I1 J1 hC1 hh1 => ?_)
  show WpX _ _ _ _ _ _ _ [.int _] _ _
  refine wx_aload_n (pc := 848) 2 dL_law_848 rfl rfl ?_
  refine wx_arg (i := i) (pc := 849) 1 (by omega) hL (by decide) dL_law_849 dL_law_850 dL_law_851 dL_law_852 dL_law_853 rfl rfl ?_
  refine wx_arg (i := i) (pc := 854) 2 (by omega) hL (by decide) dL_law_854 dL_law_855 dL_law_856 dL_law_857 dL_law_858 rfl rfl ?_
  refine wy_V_II (pc := 859) dL_law_859 lkL_85 (sm_Rc.o (ci := 6) s0_40 (by decide) (by decide)) (Nat.le_of_ble_eq_true rfl) (Nat.le_of_ble_eq_true rfl) ?_
  refine c_X7_thingOf (hM.hi hh1) ok (fun F2 I2 J2 hM2 hl2 => ?_)
  show WpX _ _ _ _ _ _ _ [.int _, .int _] _ _
  exact wx_icmp_eq (pc := 862) 1929 dL_law_862 (by decide) (fun _ => nx _ _ _ _ ok.q (hC1.lo hl2) hM2) (fun z => absurd rfl z)
theorem lw_c16 {X : sm_X} {nm : String} {i : Nat} {s : Sg} {F I : Nat → Nat → Int32} {J : Nat → Nat → Int64} {Q : Option Value → sm_H → Prop} (hL : X.2.2.2.1.2.1 ≤ 3072) (hi : i + 6 ≤ X.2.2.2.1.2.1) (hC : CR s F I J) (hM : MR s F I J) (ok : Ok s) (nx : ∀ s1 F1 I1 J1, Ok s1 → CR s1 F1 I1 J1 → MR s1 F1 I1 J1 → WpX X (mL nm) 20 0 0 1929 [.ref 900, .ref 0, .ref 40, .int (nI i)] [] (S0, F1, I1, J1) Q) : WpX X (mL nm) 20 0 0 867 [.ref 900, .ref 0, .ref 40, .int (nI i)] [] (S0, F, I, J) Q := by
  refine wx_aload_n (pc := 867) 1 dL_law_867 rfl rfl ?_
  refine wx_arg (i := i) (pc := 868) 1 (by omega) hL (by decide) dL_law_868 dL_law_869 dL_law_870 dL_law_871 dL_law_872 rfl rfl ?_
  refine wx_arg (i := i) (pc := 873) 2 (by omega) hL (by decide) dL_law_873 dL_law_874 dL_law_875 dL_law_876 dL_law_877 rfl rfl ?_
  refine wy_V_II (pc := 878) dL_law_878 lkL_86 (sm_Rc.o (ci := 5) s0_0 (by decide) (by decide)) (Nat.le_of_ble_eq_true rfl) (Nat.le_of_ble_eq_true rfl) ?_
  refine c_X6_ringerOf hC ok (fun F1 I1 J1 hC1 hh1 => ?_)
  show WpX _ _ _ _ _ _ _ [.int _] _ _
  refine wx_aload_n (pc := 881) 2 dL_law_881 rfl rfl ?_
  refine wx_arg (i := i) (pc := 882) 1 (by omega) hL (by decide) dL_law_882 dL_law_883 dL_law_884 dL_law_885 dL_law_886 rfl rfl ?_
  refine wx_arg (i := i) (pc := 887) 2 (by omega) hL (by decide) dL_law_887 dL_law_888 dL_law_889 dL_law_890 dL_law_891 rfl rfl ?_
  refine wy_V_II (pc := 892) dL_law_892 lkL_89 (sm_Rc.o (ci := 6) s0_40 (by decide) (by decide)) (Nat.le_of_ble_eq_true rfl) (Nat.le_of_ble_eq_true rfl) ?_
  refine c_X7_ringerOf (hM.hi hh1) ok (fun F2 I2 J2 hM2 hl2 => ?_)
  show WpX _ _ _ _ _ _ _ [.int _, .int _] _ _
  exact wx_icmp_eq (pc := 895) 1929 dL_law_895 (by decide) (fun _ => nx _ _ _ _ ok.q (hC1.lo hl2) hM2) (fun z => absurd rfl z)
theorem lw_c17 {X : sm_X} {nm : String} {i : Nat} {s : Sg} {F I : Nat → Nat → Int32} {J : Nat → Nat → Int64} {Q : Option Value → sm_H → Prop} (hL : X.2.2.2.1.2.1 ≤ 3072) (hi : i + 6 ≤ X.2.2.2.1.2.1) (hC : CR s F I J) (hM : MR s F I J) (ok : Ok s) (nx : ∀ s1 F1 I1 J1, Ok s1 → CR s1 F1 I1 J1 → MR s1 F1 I1 J1 → WpX X (mL nm) 20 0 0 1929 [.ref 900, .ref 0, .ref 40, .int (nI i)] [] (S0, F1, I1, J1) Q) : WpX X (mL nm) 20 0 0 900 [.ref 900, .ref 0, .ref 40, .int (nI i)] [] (S0, F, I, J) Q := by
  refine wx_aload_n (pc := 900) 1 dL_law_900 rfl rfl ?_
  refine wx_arg (i := i) (pc := 901) 1 (by omega) hL (by decide) dL_law_901 dL_law_902 dL_law_903 dL_law_904 dL_law_905 rfl rfl ?_
  refine wy_V_I (pc := 906) dL_law_906 lkL_90 (sm_Rc.o (ci := 5) s0_0 (by decide) (by decide)) (Nat.le_of_ble_eq_true rfl) (Nat.le_of_ble_eq_true rfl) ?_
  refine c_X6_well hC ok (fun F1 I1 J1 hC1 hh1 => ?_)
  show WpX _ _ _ _ _ _ _ [.int _] _ _
  refine wx_aload_n (pc := 909) 2 dL_law_909 rfl rfl ?_
  refine wx_arg (i := i) (pc := 910) 1 (by omega) hL (by decide) dL_law_910 dL_law_911 dL_law_912 dL_law_913 dL_law_914 rfl rfl ?_
  refine wy_V_I (pc := 915) dL_law_915 lkL_93 (sm_Rc.o (ci := 6) s0_40 (by decide) (by decide)) (Nat.le_of_ble_eq_true rfl) (Nat.le_of_ble_eq_true rfl) ?_
  refine c_X7_well (hM.hi hh1) ok (fun F2 I2 J2 hM2 hl2 => ?_)
  show WpX _ _ _ _ _ _ _ [.int _, .int _] _ _
  exact wx_icmp_eq (pc := 918) 1929 dL_law_918 (by decide) (fun _ => nx _ _ _ _ ok.q (hC1.lo hl2) hM2) (fun z => absurd rfl z)
theorem lw_c18 {X : sm_X} {nm : String} {i : Nat} {s : Sg} {F I : Nat → Nat → Int32} {J : Nat → Nat → Int64} {Q : Option Value → sm_H → Prop} (hL : X.2.2.2.1.2.1 ≤ 3072) (hi : i + 6 ≤ X.2.2.2.1.2.1) (hC : CR s F I J) (hM : MR s F I J) (ok : Ok s) (nx : ∀ s1 F1 I1 J1, Ok s1 → CR s1 F1 I1 J1 → MR s1 F1 I1 J1 → WpX X (mL nm) 20 0 0 1929 [.ref 900, .ref 0, .ref 40, .int (nI i)] [] (S0, F1, I1, J1) Q) : WpX X (mL nm) 20 0 0 923 [.ref 900, .ref 0, .ref 40, .int (nI i)] [] (S0, F, I, J) Q := by
  refine wx_aload_n (pc := 923) 1 dL_law_923 rfl rfl ?_
  refine wx_arg (i := i) (pc := 924) 1 (by omega) hL (by decide) dL_law_924 dL_law_925 dL_law_926 dL_law_927 dL_law_928 rfl rfl ?_
  refine wy_V_I (pc := 929) dL_law_929 lkL_94 (sm_Rc.o (ci := 5) s0_0 (by decide) (by decide)) (Nat.le_of_ble_eq_true rfl) (Nat.le_of_ble_eq_true rfl) ?_
  refine c_X6_all hC ok (fun F1 I1 J1 hC1 hh1 => ?_)
  show WpX _ _ _ _ _ _ _ [.int _] _ _
  refine wx_aload_n (pc := 932) 2 dL_law_932 rfl rfl ?_
  refine wx_arg (i := i) (pc := 933) 1 (by omega) hL (by decide) dL_law_933 dL_law_934 dL_law_935 dL_law_936 dL_law_937 rfl rfl ?_
  refine wy_V_I (pc := 938) dL_law_938 lkL_97 (sm_Rc.o (ci := 6) s0_40 (by decide) (by decide)) (Nat.le_of_ble_eq_true rfl) (Nat.le_of_ble_eq_true rfl) ?_
  refine c_X7_all (hM.hi hh1) ok (fun F2 I2 J2 hM2 hl2 => ?_)
  show WpX _ _ _ _ _ _ _ [.int _, .int _] _ _
  exact wx_icmp_eq (pc := 941) 1929 dL_law_941 (by decide) (fun _ => nx _ _ _ _ ok.q (hC1.lo hl2) hM2) (fun z => absurd rfl z)
theorem lw_c19 {X : sm_X} {nm : String} {i : Nat} {s : Sg} {F I : Nat → Nat → Int32} {J : Nat → Nat → Int64} {Q : Option Value → sm_H → Prop} (hL : X.2.2.2.1.2.1 ≤ 3072) (hi : i + 6 ≤ X.2.2.2.1.2.1) (hC : CR s F I J) (hM : MR s F I J) (ok : Ok s) (nx : ∀ s1 F1 I1 J1, Ok s1 → CR s1 F1 I1 J1 → MR s1 F1 I1 J1 → WpX X (mL nm) 20 0 0 1929 [.ref 900, .ref 0, .ref 40, .int (nI i)] [] (S0, F1, I1, J1) Q) : WpX X (mL nm) 20 0 0 946 [.ref 900, .ref 0, .ref 40, .int (nI i)] [] (S0, F, I, J) Q := by
  refine wx_aload_n (pc := 946) 1 dL_law_946 rfl rfl ?_
  refine wx_arg (i := i) (pc := 947) 1 (by omega) hL (by decide) dL_law_947 dL_law_948 dL_law_949 dL_law_950 dL_law_951 rfl rfl ?_
  refine wy_V_I (pc := 952) dL_law_952 lkL_98 (sm_Rc.o (ci := 5) s0_0 (by decide) (by decide)) (Nat.le_of_ble_eq_true rfl) (Nat.le_of_ble_eq_true rfl) ?_
  refine c_X6_off hC ok (fun F1 I1 J1 hC1 hh1 => ?_)
  show WpX _ _ _ _ _ _ _ [.int _] _ _
  refine wx_aload_n (pc := 955) 2 dL_law_955 rfl rfl ?_
  refine wx_arg (i := i) (pc := 956) 1 (by omega) hL (by decide) dL_law_956 dL_law_957 dL_law_958 dL_law_959 dL_law_960 rfl rfl ?_
  refine wy_V_I (pc := 961) dL_law_961 lkL_101 (sm_Rc.o (ci := 6) s0_40 (by decide) (by decide)) (Nat.le_of_ble_eq_true rfl) (Nat.le_of_ble_eq_true rfl) ?_
  refine c_X7_off (hM.hi hh1) ok (fun F2 I2 J2 hM2 hl2 => ?_)
  show WpX _ _ _ _ _ _ _ [.int _, .int _] _ _
  exact wx_icmp_eq (pc := 964) 1929 dL_law_964 (by decide) (fun _ => nx _ _ _ _ ok.q (hC1.lo hl2) hM2) (fun z => absurd rfl z)
theorem lw_c20 {X : sm_X} {nm : String} {i : Nat} {s : Sg} {F I : Nat → Nat → Int32} {J : Nat → Nat → Int64} {Q : Option Value → sm_H → Prop} (hL : X.2.2.2.1.2.1 ≤ 3072) (hi : i + 6 ≤ X.2.2.2.1.2.1) (hC : CR s F I J) (hM : MR s F I J) (ok : Ok s) (nx : ∀ s1 F1 I1 J1, Ok s1 → CR s1 F1 I1 J1 → MR s1 F1 I1 J1 → WpX X (mL nm) 20 0 0 1929 [.ref 900, .ref 0, .ref 40, .int (nI i)] [] (S0, F1, I1, J1) Q) : WpX X (mL nm) 20 0 0 969 [.ref 900, .ref 0, .ref 40, .int (nI i)] [] (S0, F, I, J) Q := by
  refine wx_aload_n (pc := 969) 1 dL_law_969 rfl rfl ?_
  refine wx_arg (i := i) (pc := 970) 1 (by omega) hL (by decide) dL_law_970 dL_law_971 dL_law_972 dL_law_973 dL_law_974 rfl rfl ?_
  refine wy_V_I (pc := 975) dL_law_975 lkL_102 (sm_Rc.o (ci := 5) s0_0 (by decide) (by decide)) (Nat.le_of_ble_eq_true rfl) (Nat.le_of_ble_eq_true rfl) ?_
  refine c_X6_down hC ok (fun F1 I1 J1 hC1 hh1 => ?_)
  show WpX _ _ _ _ _ _ _ [.int _] _ _
  refine wx_aload_n (pc := 978) 2 dL_law_978 rfl rfl ?_
  refine wx_arg (i := i) (pc := 979) 1 (by omega) hL (by decide) dL_law_979 dL_law_980 dL_law_981 dL_law_982 dL_law_983 rfl rfl ?_
  refine wy_V_I (pc := 984) dL_law_984 lkL_105 (sm_Rc.o (ci := 6) s0_40 (by decide) (by decide)) (Nat.le_of_ble_eq_true rfl) (Nat.le_of_ble_eq_true rfl) ?_
  refine c_X7_down (hM.hi hh1) ok (fun F2 I2 J2 hM2 hl2 => ?_)
  show WpX _ _ _ _ _ _ _ [.int _, .int _] _ _
  exact wx_icmp_eq (pc := 987) 1929 dL_law_987 (by decide) (fun _ => nx _ _ _ _ ok.q (hC1.lo hl2) hM2) (fun z => absurd rfl z)
theorem lw_c21 {X : sm_X} {nm : String} {i : Nat} {s : Sg} {F I : Nat → Nat → Int32} {J : Nat → Nat → Int64} {Q : Option Value → sm_H → Prop} (hL : X.2.2.2.1.2.1 ≤ 3072) (hi : i + 6 ≤ X.2.2.2.1.2.1) (hC : CR s F I J) (hM : MR s F I J) (ok : Ok s) (nx : ∀ s1 F1 I1 J1, Ok s1 → CR s1 F1 I1 J1 → MR s1 F1 I1 J1 → WpX X (mL nm) 20 0 0 1929 [.ref 900, .ref 0, .ref 40, .int (nI i)] [] (S0, F1, I1, J1) Q) : WpX X (mL nm) 20 0 0 992 [.ref 900, .ref 0, .ref 40, .int (nI i)] [] (S0, F, I, J) Q := by
  refine wx_aload_n (pc := 992) 1 dL_law_992 rfl rfl ?_
  refine wx_arg (i := i) (pc := 993) 1 (by omega) hL (by decide) dL_law_993 dL_law_994 dL_law_995 dL_law_996 dL_law_997 rfl rfl ?_
  refine wy_V_I (pc := 998) dL_law_998 lkL_106 (sm_Rc.o (ci := 5) s0_0 (by decide) (by decide)) (Nat.le_of_ble_eq_true rfl) (Nat.le_of_ble_eq_true rfl) ?_
  refine c_X6_up hC ok (fun F1 I1 J1 hC1 hh1 => ?_)
  show WpX _ _ _ _ _ _ _ [.int _] _ _
  refine wx_aload_n (pc := 1001) 2 dL_law_1001 rfl rfl ?_
  refine wx_arg (i := i) (pc := 1002) 1 (by omega) hL (by decide) dL_law_1002 dL_law_1003 dL_law_1004 dL_law_1005 dL_law_1006 rfl rfl ?_
  refine wy_V_I (pc := 1007) dL_law_1007 lkL_109 (sm_Rc.o (ci := 6) s0_40 (by decide) (by decide)) (Nat.le_of_ble_eq_true rfl) (Nat.le_of_ble_eq_true rfl) ?_
  refine c_X7_up (hM.hi hh1) ok (fun F2 I2 J2 hM2 hl2 => ?_)
  show WpX _ _ _ _ _ _ _ [.int _, .int _] _ _
  exact wx_icmp_eq (pc := 1010) 1929 dL_law_1010 (by decide) (fun _ => nx _ _ _ _ ok.q (hC1.lo hl2) hM2) (fun z => absurd rfl z)
theorem lw_c22 {X : sm_X} {nm : String} {i : Nat} {s : Sg} {F I : Nat → Nat → Int32} {J : Nat → Nat → Int64} {Q : Option Value → sm_H → Prop} (hL : X.2.2.2.1.2.1 ≤ 3072) (hi : i + 6 ≤ X.2.2.2.1.2.1) (hC : CR s F I J) (hM : MR s F I J) (ok : Ok s) (nx : ∀ s1 F1 I1 J1, Ok s1 → CR s1 F1 I1 J1 → MR s1 F1 I1 J1 → WpX X (mL nm) 20 0 0 1929 [.ref 900, .ref 0, .ref 40, .int (nI i)] [] (S0, F1, I1, J1) Q) : WpX X (mL nm) 20 0 0 1015 [.ref 900, .ref 0, .ref 40, .int (nI i)] [] (S0, F, I, J) Q := by
  refine wx_aload_n (pc := 1015) 1 dL_law_1015 rfl rfl ?_
  refine wx_arg (i := i) (pc := 1016) 1 (by omega) hL (by decide) dL_law_1016 dL_law_1017 dL_law_1018 dL_law_1019 dL_law_1020 rfl rfl ?_
  refine wy_V_I (pc := 1021) dL_law_1021 lkL_110 (sm_Rc.o (ci := 5) s0_0 (by decide) (by decide)) (Nat.le_of_ble_eq_true rfl) (Nat.le_of_ble_eq_true rfl) ?_
  refine c_X6_to hC ok (fun F1 I1 J1 hC1 hh1 => ?_)
  show WpX _ _ _ _ _ _ _ [.int _] _ _
  refine wx_aload_n (pc := 1024) 2 dL_law_1024 rfl rfl ?_
  refine wx_arg (i := i) (pc := 1025) 1 (by omega) hL (by decide) dL_law_1025 dL_law_1026 dL_law_1027 dL_law_1028 dL_law_1029 rfl rfl ?_
  refine wy_V_I (pc := 1030) dL_law_1030 lkL_113 (sm_Rc.o (ci := 6) s0_40 (by decide) (by decide)) (Nat.le_of_ble_eq_true rfl) (Nat.le_of_ble_eq_true rfl) ?_
  refine c_X7_to (hM.hi hh1) ok (fun F2 I2 J2 hM2 hl2 => ?_)
  show WpX _ _ _ _ _ _ _ [.int _, .int _] _ _
  exact wx_icmp_eq (pc := 1033) 1929 dL_law_1033 (by decide) (fun _ => nx _ _ _ _ ok.q (hC1.lo hl2) hM2) (fun z => absurd rfl z)
theorem lw_c23 {X : sm_X} {nm : String} {i : Nat} {s : Sg} {F I : Nat → Nat → Int32} {J : Nat → Nat → Int64} {Q : Option Value → sm_H → Prop} (hL : X.2.2.2.1.2.1 ≤ 3072) (hi : i + 6 ≤ X.2.2.2.1.2.1) (hC : CR s F I J) (hM : MR s F I J) (ok : Ok s) (nx : ∀ s1 F1 I1 J1, Ok s1 → CR s1 F1 I1 J1 → MR s1 F1 I1 J1 → WpX X (mL nm) 20 0 0 1929 [.ref 900, .ref 0, .ref 40, .int (nI i)] [] (S0, F1, I1, J1) Q) : WpX X (mL nm) 20 0 0 1038 [.ref 900, .ref 0, .ref 40, .int (nI i)] [] (S0, F, I, J) Q := by
  refine wx_aload_n (pc := 1038) 1 dL_law_1038 rfl rfl ?_
  refine wx_arg (i := i) (pc := 1039) 1 (by omega) hL (by decide) dL_law_1039 dL_law_1040 dL_law_1041 dL_law_1042 dL_law_1043 rfl rfl ?_
  refine wy_V_I (pc := 1044) dL_law_1044 lkL_114 (sm_Rc.o (ci := 5) s0_0 (by decide) (by decide)) (Nat.le_of_ble_eq_true rfl) (Nat.le_of_ble_eq_true rfl) ?_
  refine c_X6_unsay hC ok (fun F1 I1 J1 hC1 hh1 => ?_)
  show WpX _ _ _ _ _ _ _ [.int _] _ _
  refine wx_aload_n (pc := 1047) 2 dL_law_1047 rfl rfl ?_
  refine wx_arg (i := i) (pc := 1048) 1 (by omega) hL (by decide) dL_law_1048 dL_law_1049 dL_law_1050 dL_law_1051 dL_law_1052 rfl rfl ?_
  refine wy_V_I (pc := 1053) dL_law_1053 lkL_117 (sm_Rc.o (ci := 6) s0_40 (by decide) (by decide)) (Nat.le_of_ble_eq_true rfl) (Nat.le_of_ble_eq_true rfl) ?_
  refine c_X7_unsay (hM.hi hh1) ok (fun F2 I2 J2 hM2 hl2 => ?_)
  show WpX _ _ _ _ _ _ _ [.int _, .int _] _ _
  exact wx_icmp_eq (pc := 1056) 1929 dL_law_1056 (by decide) (fun _ => nx _ _ _ _ ok.q (hC1.lo hl2) hM2) (fun z => absurd rfl z)
theorem lw_c24 {X : sm_X} {nm : String} {i : Nat} {s : Sg} {F I : Nat → Nat → Int32} {J : Nat → Nat → Int64} {Q : Option Value → sm_H → Prop} (hL : X.2.2.2.1.2.1 ≤ 3072) (hi : i + 6 ≤ X.2.2.2.1.2.1) (hC : CR s F I J) (hM : MR s F I J) (ok : Ok s) (nx : ∀ s1 F1 I1 J1, Ok s1 → CR s1 F1 I1 J1 → MR s1 F1 I1 J1 → WpX X (mL nm) 20 0 0 1929 [.ref 900, .ref 0, .ref 40, .int (nI i)] [] (S0, F1, I1, J1) Q) : WpX X (mL nm) 20 0 0 1061 [.ref 900, .ref 0, .ref 40, .int (nI i)] [] (S0, F, I, J) Q := by
  refine wx_aload_n (pc := 1061) 1 dL_law_1061 rfl rfl ?_
  refine wx_arg (i := i) (pc := 1062) 1 (by omega) hL (by decide) dL_law_1062 dL_law_1063 dL_law_1064 dL_law_1065 dL_law_1066 rfl rfl ?_
  refine wy_V_I (pc := 1067) dL_law_1067 lkL_118 (sm_Rc.o (ci := 5) s0_0 (by decide) (by decide)) (Nat.le_of_ble_eq_true rfl) (Nat.le_of_ble_eq_true rfl) ?_
  refine c_X6_until hC ok (fun F1 I1 J1 hC1 hh1 => ?_)
  show WpX _ _ _ _ _ _ _ [.int _] _ _
  refine wx_aload_n (pc := 1070) 2 dL_law_1070 rfl rfl ?_
  refine wx_arg (i := i) (pc := 1071) 1 (by omega) hL (by decide) dL_law_1071 dL_law_1072 dL_law_1073 dL_law_1074 dL_law_1075 rfl rfl ?_
  refine wy_V_I (pc := 1076) dL_law_1076 lkL_121 (sm_Rc.o (ci := 6) s0_40 (by decide) (by decide)) (Nat.le_of_ble_eq_true rfl) (Nat.le_of_ble_eq_true rfl) ?_
  refine c_X7_until (hM.hi hh1) ok (fun F2 I2 J2 hM2 hl2 => ?_)
  show WpX _ _ _ _ _ _ _ [.int _, .int _] _ _
  exact wx_icmp_eq (pc := 1079) 1929 dL_law_1079 (by decide) (fun _ => nx _ _ _ _ ok.q (hC1.lo hl2) hM2) (fun z => absurd rfl z)
theorem lw_c25 {X : sm_X} {nm : String} {i : Nat} {s : Sg} {F I : Nat → Nat → Int32} {J : Nat → Nat → Int64} {Q : Option Value → sm_H → Prop} (hL : X.2.2.2.1.2.1 ≤ 3072) (hi : i + 6 ≤ X.2.2.2.1.2.1) (hC : CR s F I J) (hM : MR s F I J) (ok : Ok s) (nx : ∀ s1 F1 I1 J1, Ok s1 → CR s1 F1 I1 J1 → MR s1 F1 I1 J1 → WpX X (mL nm) 20 0 0 1929 [.ref 900, .ref 0, .ref 40, .int (nI i)] [] (S0, F1, I1, J1) Q) : WpX X (mL nm) 20 0 0 1084 [.ref 900, .ref 0, .ref 40, .int (nI i)] [] (S0, F, I, J) Q := by
  refine wx_aload_n (pc := 1084) 1 dL_law_1084 rfl rfl ?_
  refine wx_arg (i := i) (pc := 1085) 1 (by omega) hL (by decide) dL_law_1085 dL_law_1086 dL_law_1087 dL_law_1088 dL_law_1089 rfl rfl ?_
  refine wx_arg (i := i) (pc := 1090) 2 (by omega) hL (by decide) dL_law_1090 dL_law_1091 dL_law_1092 dL_law_1093 dL_law_1094 rfl rfl ?_
  refine wy_V_II (pc := 1095) dL_law_1095 lkL_122 (sm_Rc.o (ci := 5) s0_0 (by decide) (by decide)) (Nat.le_of_ble_eq_true rfl) (Nat.le_of_ble_eq_true rfl) ?_
  refine c_X6_slipped hC ok (fun F1 I1 J1 hC1 hh1 => ?_)
  show WpX _ _ _ _ _ _ _ [.int _] _ _
  refine wx_aload_n (pc := 1098) 2 dL_law_1098 rfl rfl ?_
  refine wx_arg (i := i) (pc := 1099) 1 (by omega) hL (by decide) dL_law_1099 dL_law_1100 dL_law_1101 dL_law_1102 dL_law_1103 rfl rfl ?_
  refine wx_arg (i := i) (pc := 1104) 2 (by omega) hL (by decide) dL_law_1104 dL_law_1105 dL_law_1106 dL_law_1107 dL_law_1108 rfl rfl ?_
  refine wy_V_II (pc := 1109) dL_law_1109 lkL_125 (sm_Rc.o (ci := 6) s0_40 (by decide) (by decide)) (Nat.le_of_ble_eq_true rfl) (Nat.le_of_ble_eq_true rfl) ?_
  refine c_X7_slipped (hM.hi hh1) ok (fun F2 I2 J2 hM2 hl2 => ?_)
  show WpX _ _ _ _ _ _ _ [.int _, .int _] _ _
  exact wx_icmp_eq (pc := 1112) 1929 dL_law_1112 (by decide) (fun _ => nx _ _ _ _ ok.q (hC1.lo hl2) hM2) (fun z => absurd rfl z)
theorem lw_c26 {X : sm_X} {nm : String} {i : Nat} {s : Sg} {F I : Nat → Nat → Int32} {J : Nat → Nat → Int64} {Q : Option Value → sm_H → Prop} (hL : X.2.2.2.1.2.1 ≤ 3072) (hi : i + 6 ≤ X.2.2.2.1.2.1) (hC : CR s F I J) (hM : MR s F I J) (ok : Ok s) (nx : ∀ s1 F1 I1 J1, Ok s1 → CR s1 F1 I1 J1 → MR s1 F1 I1 J1 → WpX X (mL nm) 20 0 0 1929 [.ref 900, .ref 0, .ref 40, .int (nI i)] [] (S0, F1, I1, J1) Q) : WpX X (mL nm) 20 0 0 1117 [.ref 900, .ref 0, .ref 40, .int (nI i)] [] (S0, F, I, J) Q := by
  refine wx_aload_n (pc := 1117) 1 dL_law_1117 rfl rfl ?_
  refine wx_arg (i := i) (pc := 1118) 1 (by omega) hL (by decide) dL_law_1118 dL_law_1119 dL_law_1120 dL_law_1121 dL_law_1122 rfl rfl ?_
  refine wy_V_I (pc := 1123) dL_law_1123 lkL_126 (sm_Rc.o (ci := 5) s0_0 (by decide) (by decide)) (Nat.le_of_ble_eq_true rfl) (Nat.le_of_ble_eq_true rfl) ?_
  refine c_X6_whose hC ok (fun F1 I1 J1 hC1 hh1 => ?_)
  show WpX _ _ _ _ _ _ _ [.int _] _ _
  refine wx_aload_n (pc := 1126) 2 dL_law_1126 rfl rfl ?_
  refine wx_arg (i := i) (pc := 1127) 1 (by omega) hL (by decide) dL_law_1127 dL_law_1128 dL_law_1129 dL_law_1130 dL_law_1131 rfl rfl ?_
  refine wy_V_I (pc := 1132) dL_law_1132 lkL_129 (sm_Rc.o (ci := 6) s0_40 (by decide) (by decide)) (Nat.le_of_ble_eq_true rfl) (Nat.le_of_ble_eq_true rfl) ?_
  refine c_X7_whose (hM.hi hh1) ok (fun F2 I2 J2 hM2 hl2 => ?_)
  show WpX _ _ _ _ _ _ _ [.int _, .int _] _ _
  exact wx_icmp_eq (pc := 1135) 1929 dL_law_1135 (by decide) (fun _ => nx _ _ _ _ ok.q (hC1.lo hl2) hM2) (fun z => absurd rfl z)
theorem lw_c27 {X : sm_X} {nm : String} {i : Nat} {s : Sg} {F I : Nat → Nat → Int32} {J : Nat → Nat → Int64} {Q : Option Value → sm_H → Prop} (hL : X.2.2.2.1.2.1 ≤ 3072) (hi : i + 6 ≤ X.2.2.2.1.2.1) (hC : CR s F I J) (hM : MR s F I J) (ok : Ok s) (nx : ∀ s1 F1 I1 J1, Ok s1 → CR s1 F1 I1 J1 → MR s1 F1 I1 J1 → WpX X (mL nm) 20 0 0 1929 [.ref 900, .ref 0, .ref 40, .int (nI i)] [] (S0, F1, I1, J1) Q) : WpX X (mL nm) 20 0 0 1140 [.ref 900, .ref 0, .ref 40, .int (nI i)] [] (S0, F, I, J) Q := by
  refine wx_aload_n (pc := 1140) 1 dL_law_1140 rfl rfl ?_
  refine wx_arg (i := i) (pc := 1141) 1 (by omega) hL (by decide) dL_law_1141 dL_law_1142 dL_law_1143 dL_law_1144 dL_law_1145 rfl rfl ?_
  refine wy_V_I (pc := 1146) dL_law_1146 lkL_130 (sm_Rc.o (ci := 5) s0_0 (by decide) (by decide)) (Nat.le_of_ble_eq_true rfl) (Nat.le_of_ble_eq_true rfl) ?_
  refine c_X6_crew hC ok (fun F1 I1 J1 hC1 hh1 => ?_)
  show WpX _ _ _ _ _ _ _ [.int _] _ _
  refine wx_aload_n (pc := 1149) 2 dL_law_1149 rfl rfl ?_
  refine wx_arg (i := i) (pc := 1150) 1 (by omega) hL (by decide) dL_law_1150 dL_law_1151 dL_law_1152 dL_law_1153 dL_law_1154 rfl rfl ?_
  refine wy_V_I (pc := 1155) dL_law_1155 lkL_133 (sm_Rc.o (ci := 6) s0_40 (by decide) (by decide)) (Nat.le_of_ble_eq_true rfl) (Nat.le_of_ble_eq_true rfl) ?_
  refine c_X7_crew (hM.hi hh1) ok (fun F2 I2 J2 hM2 hl2 => ?_)
  show WpX _ _ _ _ _ _ _ [.int _, .int _] _ _
  exact wx_icmp_eq (pc := 1158) 1929 dL_law_1158 (by decide) (fun _ => nx _ _ _ _ ok.q (hC1.lo hl2) hM2) (fun z => absurd rfl z)
theorem lw_c28 {X : sm_X} {nm : String} {i : Nat} {s : Sg} {F I : Nat → Nat → Int32} {J : Nat → Nat → Int64} {Q : Option Value → sm_H → Prop} (hL : X.2.2.2.1.2.1 ≤ 3072) (hi : i + 6 ≤ X.2.2.2.1.2.1) (hC : CR s F I J) (hM : MR s F I J) (ok : Ok s) (nx : ∀ s1 F1 I1 J1, Ok s1 → CR s1 F1 I1 J1 → MR s1 F1 I1 J1 → WpX X (mL nm) 20 0 0 1929 [.ref 900, .ref 0, .ref 40, .int (nI i)] [] (S0, F1, I1, J1) Q) : WpX X (mL nm) 20 0 0 1163 [.ref 900, .ref 0, .ref 40, .int (nI i)] [] (S0, F, I, J) Q := by
  refine wx_aload_n (pc := 1163) 1 dL_law_1163 rfl rfl ?_
  refine wx_arg (i := i) (pc := 1164) 1 (by omega) hL (by decide) dL_law_1164 dL_law_1165 dL_law_1166 dL_law_1167 dL_law_1168 rfl rfl ?_
  refine wy_V_I (pc := 1169) dL_law_1169 lkL_134 (sm_Rc.o (ci := 5) s0_0 (by decide) (by decide)) (Nat.le_of_ble_eq_true rfl) (Nat.le_of_ble_eq_true rfl) ?_
  refine c_X6_putBack hC ok (fun F1 I1 J1 hC1 hh1 => ?_)
  show WpX _ _ _ _ _ _ _ [.int _] _ _
  refine wx_aload_n (pc := 1172) 2 dL_law_1172 rfl rfl ?_
  refine wx_arg (i := i) (pc := 1173) 1 (by omega) hL (by decide) dL_law_1173 dL_law_1174 dL_law_1175 dL_law_1176 dL_law_1177 rfl rfl ?_
  refine wy_V_I (pc := 1178) dL_law_1178 lkL_137 (sm_Rc.o (ci := 6) s0_40 (by decide) (by decide)) (Nat.le_of_ble_eq_true rfl) (Nat.le_of_ble_eq_true rfl) ?_
  refine c_X7_putBack (hM.hi hh1) ok (fun F2 I2 J2 hM2 hl2 => ?_)
  show WpX _ _ _ _ _ _ _ [.int _, .int _] _ _
  exact wx_icmp_eq (pc := 1181) 1929 dL_law_1181 (by decide) (fun _ => nx _ _ _ _ ok.q (hC1.lo hl2) hM2) (fun z => absurd rfl z)
theorem lw_c29 {X : sm_X} {nm : String} {i : Nat} {s : Sg} {F I : Nat → Nat → Int32} {J : Nat → Nat → Int64} {Q : Option Value → sm_H → Prop} (hL : X.2.2.2.1.2.1 ≤ 3072) (hi : i + 6 ≤ X.2.2.2.1.2.1) (hC : CR s F I J) (hM : MR s F I J) (ok : Ok s) (nx : ∀ s1 F1 I1 J1, Ok s1 → CR s1 F1 I1 J1 → MR s1 F1 I1 J1 → WpX X (mL nm) 20 0 0 1929 [.ref 900, .ref 0, .ref 40, .int (nI i)] [] (S0, F1, I1, J1) Q) : WpX X (mL nm) 20 0 0 1186 [.ref 900, .ref 0, .ref 40, .int (nI i)] [] (S0, F, I, J) Q := by
  refine wx_aload_n (pc := 1186) 1 dL_law_1186 rfl rfl ?_
  refine wx_arg (i := i) (pc := 1187) 1 (by omega) hL (by decide) dL_law_1187 dL_law_1188 dL_law_1189 dL_law_1190 dL_law_1191 rfl rfl ?_
  refine wx_arg (i := i) (pc := 1192) 2 (by omega) hL (by decide) dL_law_1192 dL_law_1193 dL_law_1194 dL_law_1195 dL_law_1196 rfl rfl ?_
  refine wy_V_II (pc := 1197) dL_law_1197 lkL_138 (sm_Rc.o (ci := 5) s0_0 (by decide) (by decide)) (Nat.le_of_ble_eq_true rfl) (Nat.le_of_ble_eq_true rfl) ?_
  refine c_X6_parishes hC ok (fun F1 I1 J1 hC1 hh1 => ?_)
  show WpX _ _ _ _ _ _ _ [.int _] _ _
  refine wx_aload_n (pc := 1200) 2 dL_law_1200 rfl rfl ?_
  refine wx_arg (i := i) (pc := 1201) 1 (by omega) hL (by decide) dL_law_1201 dL_law_1202 dL_law_1203 dL_law_1204 dL_law_1205 rfl rfl ?_
  refine wx_arg (i := i) (pc := 1206) 2 (by omega) hL (by decide) dL_law_1206 dL_law_1207 dL_law_1208 dL_law_1209 dL_law_1210 rfl rfl ?_
  refine wy_V_II (pc := 1211) dL_law_1211 lkL_141 (sm_Rc.o (ci := 6) s0_40 (by decide) (by decide)) (Nat.le_of_ble_eq_true rfl) (Nat.le_of_ble_eq_true rfl) ?_
  refine c_X7_parishes (hM.hi hh1) ok (fun F2 I2 J2 hM2 hl2 => ?_)
  show WpX _ _ _ _ _ _ _ [.int _, .int _] _ _
  exact wx_icmp_eq (pc := 1214) 1929 dL_law_1214 (by decide) (fun _ => nx _ _ _ _ ok.q (hC1.lo hl2) hM2) (fun z => absurd rfl z)
theorem lw_c30 {X : sm_X} {nm : String} {i : Nat} {s : Sg} {F I : Nat → Nat → Int32} {J : Nat → Nat → Int64} {Q : Option Value → sm_H → Prop} (hL : X.2.2.2.1.2.1 ≤ 3072) (hi : i + 6 ≤ X.2.2.2.1.2.1) (hC : CR s F I J) (hM : MR s F I J) (ok : Ok s) (nx : ∀ s1 F1 I1 J1, Ok s1 → CR s1 F1 I1 J1 → MR s1 F1 I1 J1 → WpX X (mL nm) 20 0 0 1929 [.ref 900, .ref 0, .ref 40, .int (nI i)] [] (S0, F1, I1, J1) Q) : WpX X (mL nm) 20 0 0 1219 [.ref 900, .ref 0, .ref 40, .int (nI i)] [] (S0, F, I, J) Q := by
  refine wx_aload_n (pc := 1219) 1 dL_law_1219 rfl rfl ?_
  refine wx_arg (i := i) (pc := 1220) 1 (by omega) hL (by decide) dL_law_1220 dL_law_1221 dL_law_1222 dL_law_1223 dL_law_1224 rfl rfl ?_
  refine wx_arg (i := i) (pc := 1225) 2 (by omega) hL (by decide) dL_law_1225 dL_law_1226 dL_law_1227 dL_law_1228 dL_law_1229 rfl rfl ?_
  refine wy_V_II (pc := 1230) dL_law_1230 lkL_142 (sm_Rc.o (ci := 5) s0_0 (by decide) (by decide)) (Nat.le_of_ble_eq_true rfl) (Nat.le_of_ble_eq_true rfl) ?_
  refine c_X6_deaf hC ok (fun F1 I1 J1 hC1 hh1 => ?_)
  show WpX _ _ _ _ _ _ _ [.int _] _ _
  refine wx_aload_n (pc := 1233) 2 dL_law_1233 rfl rfl ?_
  refine wx_arg (i := i) (pc := 1234) 1 (by omega) hL (by decide) dL_law_1234 dL_law_1235 dL_law_1236 dL_law_1237 dL_law_1238 rfl rfl ?_
  refine wx_arg (i := i) (pc := 1239) 2 (by omega) hL (by decide) dL_law_1239 dL_law_1240 dL_law_1241 dL_law_1242 dL_law_1243 rfl rfl ?_
  refine wy_V_II (pc := 1244) dL_law_1244 lkL_145 (sm_Rc.o (ci := 6) s0_40 (by decide) (by decide)) (Nat.le_of_ble_eq_true rfl) (Nat.le_of_ble_eq_true rfl) ?_
  refine c_X7_deaf (hM.hi hh1) ok (fun F2 I2 J2 hM2 hl2 => ?_)
  show WpX _ _ _ _ _ _ _ [.int _, .int _] _ _
  exact wx_icmp_eq (pc := 1247) 1929 dL_law_1247 (by decide) (fun _ => nx _ _ _ _ ok.q (hC1.lo hl2) hM2) (fun z => absurd rfl z)
theorem lw_c31 {X : sm_X} {nm : String} {i : Nat} {s : Sg} {F I : Nat → Nat → Int32} {J : Nat → Nat → Int64} {Q : Option Value → sm_H → Prop} (hL : X.2.2.2.1.2.1 ≤ 3072) (hi : i + 6 ≤ X.2.2.2.1.2.1) (hC : CR s F I J) (hM : MR s F I J) (ok : Ok s) (nx : ∀ s1 F1 I1 J1, Ok s1 → CR s1 F1 I1 J1 → MR s1 F1 I1 J1 → WpX X (mL nm) 20 0 0 1929 [.ref 900, .ref 0, .ref 40, .int (nI i)] [] (S0, F1, I1, J1) Q) : WpX X (mL nm) 20 0 0 1252 [.ref 900, .ref 0, .ref 40, .int (nI i)] [] (S0, F, I, J) Q := by
  refine wx_aload_n (pc := 1252) 1 dL_law_1252 rfl rfl ?_
  refine wx_arg (i := i) (pc := 1253) 1 (by omega) hL (by decide) dL_law_1253 dL_law_1254 dL_law_1255 dL_law_1256 dL_law_1257 rfl rfl ?_
  refine wx_arg (i := i) (pc := 1258) 2 (by omega) hL (by decide) dL_law_1258 dL_law_1259 dL_law_1260 dL_law_1261 dL_law_1262 rfl rfl ?_
  refine wy_V_II (pc := 1263) dL_law_1263 lkL_146 (sm_Rc.o (ci := 5) s0_0 (by decide) (by decide)) (Nat.le_of_ble_eq_true rfl) (Nat.le_of_ble_eq_true rfl) ?_
  refine c_X6_kinds hC ok (fun F1 I1 J1 hC1 hh1 => ?_)
  show WpX _ _ _ _ _ _ _ [.int _] _ _
  refine wx_aload_n (pc := 1266) 2 dL_law_1266 rfl rfl ?_
  refine wx_arg (i := i) (pc := 1267) 1 (by omega) hL (by decide) dL_law_1267 dL_law_1268 dL_law_1269 dL_law_1270 dL_law_1271 rfl rfl ?_
  refine wx_arg (i := i) (pc := 1272) 2 (by omega) hL (by decide) dL_law_1272 dL_law_1273 dL_law_1274 dL_law_1275 dL_law_1276 rfl rfl ?_
  refine wy_V_II (pc := 1277) dL_law_1277 lkL_149 (sm_Rc.o (ci := 6) s0_40 (by decide) (by decide)) (Nat.le_of_ble_eq_true rfl) (Nat.le_of_ble_eq_true rfl) ?_
  refine c_X7_kinds (hM.hi hh1) ok (fun F2 I2 J2 hM2 hl2 => ?_)
  show WpX _ _ _ _ _ _ _ [.int _, .int _] _ _
  exact wx_icmp_eq (pc := 1280) 1929 dL_law_1280 (by decide) (fun _ => nx _ _ _ _ ok.q (hC1.lo hl2) hM2) (fun z => absurd rfl z)
theorem lw_c32 {X : sm_X} {nm : String} {i : Nat} {s : Sg} {F I : Nat → Nat → Int32} {J : Nat → Nat → Int64} {Q : Option Value → sm_H → Prop} (hL : X.2.2.2.1.2.1 ≤ 3072) (hi : i + 6 ≤ X.2.2.2.1.2.1) (hC : CR s F I J) (hM : MR s F I J) (ok : Ok s) (nx : ∀ s1 F1 I1 J1, Ok s1 → CR s1 F1 I1 J1 → MR s1 F1 I1 J1 → WpX X (mL nm) 20 0 0 1929 [.ref 900, .ref 0, .ref 40, .int (nI i)] [] (S0, F1, I1, J1) Q) : WpX X (mL nm) 20 0 0 1285 [.ref 900, .ref 0, .ref 40, .int (nI i)] [] (S0, F, I, J) Q := by
  refine wx_aload_n (pc := 1285) 1 dL_law_1285 rfl rfl ?_
  refine wx_arg (i := i) (pc := 1286) 1 (by omega) hL (by decide) dL_law_1286 dL_law_1287 dL_law_1288 dL_law_1289 dL_law_1290 rfl rfl ?_
  refine wy_V_I (pc := 1291) dL_law_1291 lkL_150 (sm_Rc.o (ci := 5) s0_0 (by decide) (by decide)) (Nat.le_of_ble_eq_true rfl) (Nat.le_of_ble_eq_true rfl) ?_
  refine c_X6_worst hC ok (fun F1 I1 J1 hC1 hh1 => ?_)
  show WpX _ _ _ _ _ _ _ [.int _] _ _
  refine wx_aload_n (pc := 1294) 2 dL_law_1294 rfl rfl ?_
  refine wx_arg (i := i) (pc := 1295) 1 (by omega) hL (by decide) dL_law_1295 dL_law_1296 dL_law_1297 dL_law_1298 dL_law_1299 rfl rfl ?_
  refine wy_V_I (pc := 1300) dL_law_1300 lkL_153 (sm_Rc.o (ci := 6) s0_40 (by decide) (by decide)) (Nat.le_of_ble_eq_true rfl) (Nat.le_of_ble_eq_true rfl) ?_
  refine c_X7_worst (hM.hi hh1) ok (fun F2 I2 J2 hM2 hl2 => ?_)
  show WpX _ _ _ _ _ _ _ [.int _, .int _] _ _
  exact wx_icmp_eq (pc := 1303) 1929 dL_law_1303 (by decide) (fun _ => nx _ _ _ _ ok.q (hC1.lo hl2) hM2) (fun z => absurd rfl z)
theorem lw_c33 {X : sm_X} {nm : String} {i : Nat} {s : Sg} {F I : Nat → Nat → Int32} {J : Nat → Nat → Int64} {Q : Option Value → sm_H → Prop} (hL : X.2.2.2.1.2.1 ≤ 3072) (hi : i + 6 ≤ X.2.2.2.1.2.1) (hC : CR s F I J) (hM : MR s F I J) (ok : Ok s) (nx : ∀ s1 F1 I1 J1, Ok s1 → CR s1 F1 I1 J1 → MR s1 F1 I1 J1 → WpX X (mL nm) 20 0 0 1929 [.ref 900, .ref 0, .ref 40, .int (nI i)] [] (S0, F1, I1, J1) Q) : WpX X (mL nm) 20 0 0 1308 [.ref 900, .ref 0, .ref 40, .int (nI i)] [] (S0, F, I, J) Q := by
  refine wx_aload_n (pc := 1308) 1 dL_law_1308 rfl rfl ?_
  refine wx_arg (i := i) (pc := 1309) 1 (by omega) hL (by decide) dL_law_1309 dL_law_1310 dL_law_1311 dL_law_1312 dL_law_1313 rfl rfl ?_
  refine wy_V_I (pc := 1314) dL_law_1314 lkL_154 (sm_Rc.o (ci := 5) s0_0 (by decide) (by decide)) (Nat.le_of_ble_eq_true rfl) (Nat.le_of_ble_eq_true rfl) ?_
  refine c_X6_best hC ok (fun F1 I1 J1 hC1 hh1 => ?_)
  show WpX _ _ _ _ _ _ _ [.int _] _ _
  refine wx_aload_n (pc := 1317) 2 dL_law_1317 rfl rfl ?_
  refine wx_arg (i := i) (pc := 1318) 1 (by omega) hL (by decide) dL_law_1318 dL_law_1319 dL_law_1320 dL_law_1321 dL_law_1322 rfl rfl ?_
  refine wy_V_I (pc := 1323) dL_law_1323 lkL_157 (sm_Rc.o (ci := 6) s0_40 (by decide) (by decide)) (Nat.le_of_ble_eq_true rfl) (Nat.le_of_ble_eq_true rfl) ?_
  refine c_X7_best (hM.hi hh1) ok (fun F2 I2 J2 hM2 hl2 => ?_)
  show WpX _ _ _ _ _ _ _ [.int _, .int _] _ _
  exact wx_icmp_eq (pc := 1326) 1929 dL_law_1326 (by decide) (fun _ => nx _ _ _ _ ok.q (hC1.lo hl2) hM2) (fun z => absurd rfl z)
theorem lw_c34 {X : sm_X} {nm : String} {i : Nat} {s : Sg} {F I : Nat → Nat → Int32} {J : Nat → Nat → Int64} {Q : Option Value → sm_H → Prop} (hL : X.2.2.2.1.2.1 ≤ 3072) (hi : i + 6 ≤ X.2.2.2.1.2.1) (hC : CR s F I J) (hM : MR s F I J) (ok : Ok s) (nx : ∀ s1 F1 I1 J1, Ok s1 → CR s1 F1 I1 J1 → MR s1 F1 I1 J1 → WpX X (mL nm) 20 0 0 1929 [.ref 900, .ref 0, .ref 40, .int (nI i)] [] (S0, F1, I1, J1) Q) : WpX X (mL nm) 20 0 0 1331 [.ref 900, .ref 0, .ref 40, .int (nI i)] [] (S0, F, I, J) Q := by
  refine wx_aload_n (pc := 1331) 1 dL_law_1331 rfl rfl ?_
  refine wx_arg (i := i) (pc := 1332) 1 (by omega) hL (by decide) dL_law_1332 dL_law_1333 dL_law_1334 dL_law_1335 dL_law_1336 rfl rfl ?_
  refine wy_V_I (pc := 1337) dL_law_1337 lkL_158 (sm_Rc.o (ci := 5) s0_0 (by decide) (by decide)) (Nat.le_of_ble_eq_true rfl) (Nat.le_of_ble_eq_true rfl) ?_
  refine c_X6_depth hC ok (fun F1 I1 J1 hC1 hh1 => ?_)
  show WpX _ _ _ _ _ _ _ [.int _] _ _
  refine wx_aload_n (pc := 1340) 2 dL_law_1340 rfl rfl ?_
  refine wx_arg (i := i) (pc := 1341) 1 (by omega) hL (by decide) dL_law_1341 dL_law_1342 dL_law_1343 dL_law_1344 dL_law_1345 rfl rfl ?_
  refine wy_V_I (pc := 1346) dL_law_1346 lkL_161 (sm_Rc.o (ci := 6) s0_40 (by decide) (by decide)) (Nat.le_of_ble_eq_true rfl) (Nat.le_of_ble_eq_true rfl) ?_
  refine c_X7_depth (hM.hi hh1) ok (fun F2 I2 J2 hM2 hl2 => ?_)
  show WpX _ _ _ _ _ _ _ [.int _, .int _] _ _
  exact wx_icmp_eq (pc := 1349) 1929 dL_law_1349 (by decide) (fun _ => nx _ _ _ _ ok.q (hC1.lo hl2) hM2) (fun z => absurd rfl z)
theorem lw_c35 {X : sm_X} {nm : String} {i : Nat} {s : Sg} {F I : Nat → Nat → Int32} {J : Nat → Nat → Int64} {Q : Option Value → sm_H → Prop} (hL : X.2.2.2.1.2.1 ≤ 3072) (hi : i + 6 ≤ X.2.2.2.1.2.1) (hC : CR s F I J) (hM : MR s F I J) (ok : Ok s) (nx : ∀ s1 F1 I1 J1, Ok s1 → CR s1 F1 I1 J1 → MR s1 F1 I1 J1 → WpX X (mL nm) 20 0 0 1929 [.ref 900, .ref 0, .ref 40, .int (nI i)] [] (S0, F1, I1, J1) Q) : WpX X (mL nm) 20 0 0 1354 [.ref 900, .ref 0, .ref 40, .int (nI i)] [] (S0, F, I, J) Q := by
  refine wx_aload_n (pc := 1354) 1 dL_law_1354 rfl rfl ?_
  refine wx_arg (i := i) (pc := 1355) 1 (by omega) hL (by decide) dL_law_1355 dL_law_1356 dL_law_1357 dL_law_1358 dL_law_1359 rfl rfl ?_
  refine wy_V_I (pc := 1360) dL_law_1360 lkL_162 (sm_Rc.o (ci := 5) s0_0 (by decide) (by decide)) (Nat.le_of_ble_eq_true rfl) (Nat.le_of_ble_eq_true rfl) ?_
  refine c_X6_ends hC ok (fun F1 I1 J1 hC1 hh1 => ?_)
  show WpX _ _ _ _ _ _ _ [.int _] _ _
  refine wx_aload_n (pc := 1363) 2 dL_law_1363 rfl rfl ?_
  refine wx_arg (i := i) (pc := 1364) 1 (by omega) hL (by decide) dL_law_1364 dL_law_1365 dL_law_1366 dL_law_1367 dL_law_1368 rfl rfl ?_
  refine wy_V_I (pc := 1369) dL_law_1369 lkL_165 (sm_Rc.o (ci := 6) s0_40 (by decide) (by decide)) (Nat.le_of_ble_eq_true rfl) (Nat.le_of_ble_eq_true rfl) ?_
  refine c_X7_ends (hM.hi hh1) ok (fun F2 I2 J2 hM2 hl2 => ?_)
  show WpX _ _ _ _ _ _ _ [.int _, .int _] _ _
  exact wx_icmp_eq (pc := 1372) 1929 dL_law_1372 (by decide) (fun _ => nx _ _ _ _ ok.q (hC1.lo hl2) hM2) (fun z => absurd rfl z)
theorem lw_c36 {X : sm_X} {nm : String} {i : Nat} {s : Sg} {F I : Nat → Nat → Int32} {J : Nat → Nat → Int64} {Q : Option Value → sm_H → Prop} (hL : X.2.2.2.1.2.1 ≤ 3072) (hi : i + 6 ≤ X.2.2.2.1.2.1) (hC : CR s F I J) (hM : MR s F I J) (ok : Ok s) (nx : ∀ s1 F1 I1 J1, Ok s1 → CR s1 F1 I1 J1 → MR s1 F1 I1 J1 → WpX X (mL nm) 20 0 0 1929 [.ref 900, .ref 0, .ref 40, .int (nI i)] [] (S0, F1, I1, J1) Q) : WpX X (mL nm) 20 0 0 1377 [.ref 900, .ref 0, .ref 40, .int (nI i)] [] (S0, F, I, J) Q := by
  refine wx_aload_n (pc := 1377) 1 dL_law_1377 rfl rfl ?_
  refine wx_arg (i := i) (pc := 1378) 1 (by omega) hL (by decide) dL_law_1378 dL_law_1379 dL_law_1380 dL_law_1381 dL_law_1382 rfl rfl ?_
  refine wx_arg (i := i) (pc := 1383) 2 (by omega) hL (by decide) dL_law_1383 dL_law_1384 dL_law_1385 dL_law_1386 dL_law_1387 rfl rfl ?_
  refine wy_V_II (pc := 1388) dL_law_1388 lkL_166 (sm_Rc.o (ci := 5) s0_0 (by decide) (by decide)) (Nat.le_of_ble_eq_true rfl) (Nat.le_of_ble_eq_true rfl) ?_
  refine c_X6_common hC ok (fun F1 I1 J1 hC1 hh1 => ?_)
  show WpX _ _ _ _ _ _ _ [.int _] _ _
  refine wx_aload_n (pc := 1391) 2 dL_law_1391 rfl rfl ?_
  refine wx_arg (i := i) (pc := 1392) 1 (by omega) hL (by decide) dL_law_1392 dL_law_1393 dL_law_1394 dL_law_1395 dL_law_1396 rfl rfl ?_
  refine wx_arg (i := i) (pc := 1397) 2 (by omega) hL (by decide) dL_law_1397 dL_law_1398 dL_law_1399 dL_law_1400 dL_law_1401 rfl rfl ?_
  refine wy_V_II (pc := 1402) dL_law_1402 lkL_169 (sm_Rc.o (ci := 6) s0_40 (by decide) (by decide)) (Nat.le_of_ble_eq_true rfl) (Nat.le_of_ble_eq_true rfl) ?_
  refine c_X7_common (hM.hi hh1) ok (fun F2 I2 J2 hM2 hl2 => ?_)
  show WpX _ _ _ _ _ _ _ [.int _, .int _] _ _
  exact wx_icmp_eq (pc := 1405) 1929 dL_law_1405 (by decide) (fun _ => nx _ _ _ _ ok.q (hC1.lo hl2) hM2) (fun z => absurd rfl z)
theorem lw_c37 {X : sm_X} {nm : String} {i : Nat} {s : Sg} {F I : Nat → Nat → Int32} {J : Nat → Nat → Int64} {Q : Option Value → sm_H → Prop} (hL : X.2.2.2.1.2.1 ≤ 3072) (hi : i + 6 ≤ X.2.2.2.1.2.1) (hC : CR s F I J) (hM : MR s F I J) (ok : Ok s) (nx : ∀ s1 F1 I1 J1, Ok s1 → CR s1 F1 I1 J1 → MR s1 F1 I1 J1 → WpX X (mL nm) 20 0 0 1929 [.ref 900, .ref 0, .ref 40, .int (nI i)] [] (S0, F1, I1, J1) Q) : WpX X (mL nm) 20 0 0 1410 [.ref 900, .ref 0, .ref 40, .int (nI i)] [] (S0, F, I, J) Q := by
  refine wx_aload_n (pc := 1410) 1 dL_law_1410 rfl rfl ?_
  refine wx_arg (i := i) (pc := 1411) 1 (by omega) hL (by decide) dL_law_1411 dL_law_1412 dL_law_1413 dL_law_1414 dL_law_1415 rfl rfl ?_
  refine wy_V_I (pc := 1416) dL_law_1416 lkL_170 (sm_Rc.o (ci := 5) s0_0 (by decide) (by decide)) (Nat.le_of_ble_eq_true rfl) (Nat.le_of_ble_eq_true rfl) ?_
  refine c_X6_weatherFor hC ok (fun F1 I1 J1 hC1 hh1 => ?_)
  show WpX _ _ _ _ _ _ _ [.int _] _ _
  refine wx_aload_n (pc := 1419) 2 dL_law_1419 rfl rfl ?_
  refine wx_arg (i := i) (pc := 1420) 1 (by omega) hL (by decide) dL_law_1420 dL_law_1421 dL_law_1422 dL_law_1423 dL_law_1424 rfl rfl ?_
  refine wy_V_I (pc := 1425) dL_law_1425 lkL_173 (sm_Rc.o (ci := 6) s0_40 (by decide) (by decide)) (Nat.le_of_ble_eq_true rfl) (Nat.le_of_ble_eq_true rfl) ?_
  refine c_X7_weatherFor (hM.hi hh1) ok (fun F2 I2 J2 hM2 hl2 => ?_)
  show WpX _ _ _ _ _ _ _ [.int _, .int _] _ _
  exact wx_icmp_eq (pc := 1428) 1929 dL_law_1428 (by decide) (fun _ => nx _ _ _ _ ok.q (hC1.lo hl2) hM2) (fun z => absurd rfl z)
theorem lw_c38 {X : sm_X} {nm : String} {i : Nat} {s : Sg} {F I : Nat → Nat → Int32} {J : Nat → Nat → Int64} {Q : Option Value → sm_H → Prop} (hL : X.2.2.2.1.2.1 ≤ 3072) (hi : i + 6 ≤ X.2.2.2.1.2.1) (hC : CR s F I J) (hM : MR s F I J) (ok : Ok s) (nx : ∀ s1 F1 I1 J1, Ok s1 → CR s1 F1 I1 J1 → MR s1 F1 I1 J1 → WpX X (mL nm) 20 0 0 1929 [.ref 900, .ref 0, .ref 40, .int (nI i)] [] (S0, F1, I1, J1) Q) : WpX X (mL nm) 20 0 0 1433 [.ref 900, .ref 0, .ref 40, .int (nI i)] [] (S0, F, I, J) Q := by
  refine wx_aload_n (pc := 1433) 1 dL_law_1433 rfl rfl ?_
  refine wx_arg (i := i) (pc := 1434) 1 (by omega) hL (by decide) dL_law_1434 dL_law_1435 dL_law_1436 dL_law_1437 dL_law_1438 rfl rfl ?_
  refine wy_V_I (pc := 1439) dL_law_1439 lkL_174 (sm_Rc.o (ci := 5) s0_0 (by decide) (by decide)) (Nat.le_of_ble_eq_true rfl) (Nat.le_of_ble_eq_true rfl) ?_
  refine c_X6_bell hC ok (fun F1 I1 J1 hC1 hh1 => ?_)
  show WpX _ _ _ _ _ _ _ [.int _] _ _
  refine wx_aload_n (pc := 1442) 2 dL_law_1442 rfl rfl ?_
  refine wx_arg (i := i) (pc := 1443) 1 (by omega) hL (by decide) dL_law_1443 dL_law_1444 dL_law_1445 dL_law_1446 dL_law_1447 rfl rfl ?_
  refine wy_V_I (pc := 1448) dL_law_1448 lkL_177 (sm_Rc.o (ci := 6) s0_40 (by decide) (by decide)) (Nat.le_of_ble_eq_true rfl) (Nat.le_of_ble_eq_true rfl) ?_
  refine c_X7_bell (hM.hi hh1) ok (fun F2 I2 J2 hM2 hl2 => ?_)
  show WpX _ _ _ _ _ _ _ [.int _, .int _] _ _
  exact wx_icmp_eq (pc := 1451) 1929 dL_law_1451 (by decide) (fun _ => nx _ _ _ _ ok.q (hC1.lo hl2) hM2) (fun z => absurd rfl z)
theorem lw_c39 {X : sm_X} {nm : String} {i : Nat} {s : Sg} {F I : Nat → Nat → Int32} {J : Nat → Nat → Int64} {Q : Option Value → sm_H → Prop} (hL : X.2.2.2.1.2.1 ≤ 3072) (hi : i + 6 ≤ X.2.2.2.1.2.1) (hC : CR s F I J) (hM : MR s F I J) (ok : Ok s) (nx : ∀ s1 F1 I1 J1, Ok s1 → CR s1 F1 I1 J1 → MR s1 F1 I1 J1 → WpX X (mL nm) 20 0 0 1929 [.ref 900, .ref 0, .ref 40, .int (nI i)] [] (S0, F1, I1, J1) Q) : WpX X (mL nm) 20 0 0 1456 [.ref 900, .ref 0, .ref 40, .int (nI i)] [] (S0, F, I, J) Q := by
  refine wx_aload_n (pc := 1456) 1 dL_law_1456 rfl rfl ?_
  refine wx_arg (i := i) (pc := 1457) 1 (by omega) hL (by decide) dL_law_1457 dL_law_1458 dL_law_1459 dL_law_1460 dL_law_1461 rfl rfl ?_
  refine wy_V_I (pc := 1462) dL_law_1462 lkL_178 (sm_Rc.o (ci := 5) s0_0 (by decide) (by decide)) (Nat.le_of_ble_eq_true rfl) (Nat.le_of_ble_eq_true rfl) ?_
  refine c_X6_pair hC ok (fun F1 I1 J1 hC1 hh1 => ?_)
  show WpX _ _ _ _ _ _ _ [.int _] _ _
  refine wx_aload_n (pc := 1465) 2 dL_law_1465 rfl rfl ?_
  refine wx_arg (i := i) (pc := 1466) 1 (by omega) hL (by decide) dL_law_1466 dL_law_1467 dL_law_1468 dL_law_1469 dL_law_1470 rfl rfl ?_
  refine wy_V_I (pc := 1471) dL_law_1471 lkL_181 (sm_Rc.o (ci := 6) s0_40 (by decide) (by decide)) (Nat.le_of_ble_eq_true rfl) (Nat.le_of_ble_eq_true rfl) ?_
  refine c_X7_pair (hM.hi hh1) ok (fun F2 I2 J2 hM2 hl2 => ?_)
  show WpX _ _ _ _ _ _ _ [.int _, .int _] _ _
  exact wx_icmp_eq (pc := 1474) 1929 dL_law_1474 (by decide) (fun _ => nx _ _ _ _ ok.q (hC1.lo hl2) hM2) (fun z => absurd rfl z)
theorem lw_c40 {X : sm_X} {nm : String} {i : Nat} {s : Sg} {F I : Nat → Nat → Int32} {J : Nat → Nat → Int64} {Q : Option Value → sm_H → Prop} (hL : X.2.2.2.1.2.1 ≤ 3072) (hi : i + 6 ≤ X.2.2.2.1.2.1) (hC : CR s F I J) (hM : MR s F I J) (ok : Ok s) (nx : ∀ s1 F1 I1 J1, Ok s1 → CR s1 F1 I1 J1 → MR s1 F1 I1 J1 → WpX X (mL nm) 20 0 0 1929 [.ref 900, .ref 0, .ref 40, .int (nI i)] [] (S0, F1, I1, J1) Q) : WpX X (mL nm) 20 0 0 1479 [.ref 900, .ref 0, .ref 40, .int (nI i)] [] (S0, F, I, J) Q := by
  refine wx_aload_n (pc := 1479) 1 dL_law_1479 rfl rfl ?_
  refine wx_arg (i := i) (pc := 1480) 1 (by omega) hL (by decide) dL_law_1480 dL_law_1481 dL_law_1482 dL_law_1483 dL_law_1484 rfl rfl ?_
  refine wy_V_I (pc := 1485) dL_law_1485 lkL_182 (sm_Rc.o (ci := 5) s0_0 (by decide) (by decide)) (Nat.le_of_ble_eq_true rfl) (Nat.le_of_ble_eq_true rfl) ?_
  refine c_X6_under hC ok (fun F1 I1 J1 hC1 hh1 => ?_)
  show WpX _ _ _ _ _ _ _ [.int _] _ _
  refine wx_aload_n (pc := 1488) 2 dL_law_1488 rfl rfl ?_
  refine wx_arg (i := i) (pc := 1489) 1 (by omega) hL (by decide) dL_law_1489 dL_law_1490 dL_law_1491 dL_law_1492 dL_law_1493 rfl rfl ?_
  refine wy_V_I (pc := 1494) dL_law_1494 lkL_185 (sm_Rc.o (ci := 6) s0_40 (by decide) (by decide)) (Nat.le_of_ble_eq_true rfl) (Nat.le_of_ble_eq_true rfl) ?_
  refine c_X7_under (hM.hi hh1) ok (fun F2 I2 J2 hM2 hl2 => ?_)
  show WpX _ _ _ _ _ _ _ [.int _, .int _] _ _
  exact wx_icmp_eq (pc := 1497) 1929 dL_law_1497 (by decide) (fun _ => nx _ _ _ _ ok.q (hC1.lo hl2) hM2) (fun z => absurd rfl z)
theorem lw_c41 {X : sm_X} {nm : String} {i : Nat} {s : Sg} {F I : Nat → Nat → Int32} {J : Nat → Nat → Int64} {Q : Option Value → sm_H → Prop} (hL : X.2.2.2.1.2.1 ≤ 3072) (hi : i + 6 ≤ X.2.2.2.1.2.1) (hC : CR s F I J) (hM : MR s F I J) (ok : Ok s) (nx : ∀ s1 F1 I1 J1, Ok s1 → CR s1 F1 I1 J1 → MR s1 F1 I1 J1 → WpX X (mL nm) 20 0 0 1929 [.ref 900, .ref 0, .ref 40, .int (nI i)] [] (S0, F1, I1, J1) Q) : WpX X (mL nm) 20 0 0 1502 [.ref 900, .ref 0, .ref 40, .int (nI i)] [] (S0, F, I, J) Q := by
  refine wx_aload_n (pc := 1502) 1 dL_law_1502 rfl rfl ?_
  refine wy_V_ (pc := 1503) dL_law_1503 lkL_186 (sm_Rc.o (ci := 5) s0_0 (by decide) (by decide)) (Nat.le_of_ble_eq_true rfl) (Nat.le_of_ble_eq_true rfl) ?_
  refine c_X6_pillar hC ok (fun F1 I1 J1 hC1 hh1 => ?_)
  show WpX _ _ _ _ _ _ _ [.int _] _ _
  refine wx_aload_n (pc := 1506) 2 dL_law_1506 rfl rfl ?_
  refine wy_V_ (pc := 1507) dL_law_1507 lkL_189 (sm_Rc.o (ci := 6) s0_40 (by decide) (by decide)) (Nat.le_of_ble_eq_true rfl) (Nat.le_of_ble_eq_true rfl) ?_
  refine c_X7_pillar (hM.hi hh1) ok (fun F2 I2 J2 hM2 hl2 => ?_)
  show WpX _ _ _ _ _ _ _ [.int _, .int _] _ _
  exact wx_icmp_eq (pc := 1510) 1929 dL_law_1510 (by decide) (fun _ => nx _ _ _ _ ok (hC1.lo hl2) hM2) (fun z => absurd rfl z)
theorem lw_c42 {X : sm_X} {nm : String} {i : Nat} {s : Sg} {F I : Nat → Nat → Int32} {J : Nat → Nat → Int64} {Q : Option Value → sm_H → Prop} (hL : X.2.2.2.1.2.1 ≤ 3072) (hi : i + 6 ≤ X.2.2.2.1.2.1) (hC : CR s F I J) (hM : MR s F I J) (ok : Ok s) (nx : ∀ s1 F1 I1 J1, Ok s1 → CR s1 F1 I1 J1 → MR s1 F1 I1 J1 → WpX X (mL nm) 20 0 0 1929 [.ref 900, .ref 0, .ref 40, .int (nI i)] [] (S0, F1, I1, J1) Q) : WpX X (mL nm) 20 0 0 1515 [.ref 900, .ref 0, .ref 40, .int (nI i)] [] (S0, F, I, J) Q := by
  refine wx_aload_n (pc := 1515) 1 dL_law_1515 rfl rfl ?_
  refine wx_arg (i := i) (pc := 1516) 1 (by omega) hL (by decide) dL_law_1516 dL_law_1517 dL_law_1518 dL_law_1519 dL_law_1520 rfl rfl ?_
  refine wy_V_I (pc := 1521) dL_law_1521 lkL_190 (sm_Rc.o (ci := 5) s0_0 (by decide) (by decide)) (Nat.le_of_ble_eq_true rfl) (Nat.le_of_ble_eq_true rfl) ?_
  refine c_X6_ways hC ok (fun F1 I1 J1 hC1 hh1 => ?_)
  show WpX _ _ _ _ _ _ _ [.int _] _ _
  refine wx_aload_n (pc := 1524) 2 dL_law_1524 rfl rfl ?_
  refine wx_arg (i := i) (pc := 1525) 1 (by omega) hL (by decide) dL_law_1525 dL_law_1526 dL_law_1527 dL_law_1528 dL_law_1529 rfl rfl ?_
  refine wy_V_I (pc := 1530) dL_law_1530 lkL_193 (sm_Rc.o (ci := 6) s0_40 (by decide) (by decide)) (Nat.le_of_ble_eq_true rfl) (Nat.le_of_ble_eq_true rfl) ?_
  refine c_X7_ways (hM.hi hh1) ok (fun F2 I2 J2 hM2 hl2 => ?_)
  show WpX _ _ _ _ _ _ _ [.int _, .int _] _ _
  exact wx_icmp_eq (pc := 1533) 1929 dL_law_1533 (by decide) (fun _ => nx _ _ _ _ ok.q (hC1.lo hl2) hM2) (fun z => absurd rfl z)
theorem lw_c43 {X : sm_X} {nm : String} {i : Nat} {s : Sg} {F I : Nat → Nat → Int32} {J : Nat → Nat → Int64} {Q : Option Value → sm_H → Prop} (hL : X.2.2.2.1.2.1 ≤ 3072) (hi : i + 6 ≤ X.2.2.2.1.2.1) (hC : CR s F I J) (hM : MR s F I J) (ok : Ok s) (nx : ∀ s1 F1 I1 J1, Ok s1 → CR s1 F1 I1 J1 → MR s1 F1 I1 J1 → WpX X (mL nm) 20 0 0 1929 [.ref 900, .ref 0, .ref 40, .int (nI i)] [] (S0, F1, I1, J1) Q) : WpX X (mL nm) 20 0 0 1538 [.ref 900, .ref 0, .ref 40, .int (nI i)] [] (S0, F, I, J) Q := by
  refine wx_aload_n (pc := 1538) 1 dL_law_1538 rfl rfl ?_
  refine wx_arg (i := i) (pc := 1539) 1 (by omega) hL (by decide) dL_law_1539 dL_law_1540 dL_law_1541 dL_law_1542 dL_law_1543 rfl rfl ?_
  refine wy_V_I (pc := 1544) dL_law_1544 lkL_194 (sm_Rc.o (ci := 5) s0_0 (by decide) (by decide)) (Nat.le_of_ble_eq_true rfl) (Nat.le_of_ble_eq_true rfl) ?_
  refine c_X6_oldest hC ok (fun F1 I1 J1 hC1 hh1 => ?_)
  show WpX _ _ _ _ _ _ _ [.int _] _ _
  refine wx_aload_n (pc := 1547) 2 dL_law_1547 rfl rfl ?_
  refine wx_arg (i := i) (pc := 1548) 1 (by omega) hL (by decide) dL_law_1548 dL_law_1549 dL_law_1550 dL_law_1551 dL_law_1552 rfl rfl ?_
  refine wy_V_I (pc := 1553) dL_law_1553 lkL_197 (sm_Rc.o (ci := 6) s0_40 (by decide) (by decide)) (Nat.le_of_ble_eq_true rfl) (Nat.le_of_ble_eq_true rfl) ?_
  refine c_X7_oldest (hM.hi hh1) ok (fun F2 I2 J2 hM2 hl2 => ?_)
  show WpX _ _ _ _ _ _ _ [.int _, .int _] _ _
  exact wx_icmp_eq (pc := 1556) 1929 dL_law_1556 (by decide) (fun _ => nx _ _ _ _ ok.q (hC1.lo hl2) hM2) (fun z => absurd rfl z)
theorem lw_c44 {X : sm_X} {nm : String} {i : Nat} {s : Sg} {F I : Nat → Nat → Int32} {J : Nat → Nat → Int64} {Q : Option Value → sm_H → Prop} (hL : X.2.2.2.1.2.1 ≤ 3072) (hi : i + 6 ≤ X.2.2.2.1.2.1) (hC : CR s F I J) (hM : MR s F I J) (ok : Ok s) (nx : ∀ s1 F1 I1 J1, Ok s1 → CR s1 F1 I1 J1 → MR s1 F1 I1 J1 → WpX X (mL nm) 20 0 0 1929 [.ref 900, .ref 0, .ref 40, .int (nI i)] [] (S0, F1, I1, J1) Q) : WpX X (mL nm) 20 0 0 1561 [.ref 900, .ref 0, .ref 40, .int (nI i)] [] (S0, F, I, J) Q := by
  refine wx_aload_n (pc := 1561) 1 dL_law_1561 rfl rfl ?_
  refine wx_arg (i := i) (pc := 1562) 1 (by omega) hL (by decide) dL_law_1562 dL_law_1563 dL_law_1564 dL_law_1565 dL_law_1566 rfl rfl ?_
  refine wy_V_I (pc := 1567) dL_law_1567 lkL_198 (sm_Rc.o (ci := 5) s0_0 (by decide) (by decide)) (Nat.le_of_ble_eq_true rfl) (Nat.le_of_ble_eq_true rfl) ?_
  refine c_X6_free hC ok (fun F1 I1 J1 hC1 hh1 => ?_)
  show WpX _ _ _ _ _ _ _ [.int _] _ _
  refine wx_aload_n (pc := 1570) 2 dL_law_1570 rfl rfl ?_
  refine wx_arg (i := i) (pc := 1571) 1 (by omega) hL (by decide) dL_law_1571 dL_law_1572 dL_law_1573 dL_law_1574 dL_law_1575 rfl rfl ?_
  refine wy_V_I (pc := 1576) dL_law_1576 lkL_201 (sm_Rc.o (ci := 6) s0_40 (by decide) (by decide)) (Nat.le_of_ble_eq_true rfl) (Nat.le_of_ble_eq_true rfl) ?_
  refine c_X7_free (hM.hi hh1) ok (fun F2 I2 J2 hM2 hl2 => ?_)
  show WpX _ _ _ _ _ _ _ [.int _, .int _] _ _
  exact wx_icmp_eq (pc := 1579) 1929 dL_law_1579 (by decide) (fun _ => nx _ _ _ _ (ok_free ok _) (hC1.lo hl2) hM2) (fun z => absurd rfl z)
theorem lw_c45 {X : sm_X} {nm : String} {i : Nat} {s : Sg} {F I : Nat → Nat → Int32} {J : Nat → Nat → Int64} {Q : Option Value → sm_H → Prop} (hL : X.2.2.2.1.2.1 ≤ 3072) (hi : i + 6 ≤ X.2.2.2.1.2.1) (hC : CR s F I J) (hM : MR s F I J) (ok : Ok s) (nx : ∀ s1 F1 I1 J1, Ok s1 → CR s1 F1 I1 J1 → MR s1 F1 I1 J1 → WpX X (mL nm) 20 0 0 1929 [.ref 900, .ref 0, .ref 40, .int (nI i)] [] (S0, F1, I1, J1) Q) : WpX X (mL nm) 20 0 0 1584 [.ref 900, .ref 0, .ref 40, .int (nI i)] [] (S0, F, I, J) Q := by
  refine wx_aload_n (pc := 1584) 1 dL_law_1584 rfl rfl ?_
  refine wx_arg (i := i) (pc := 1585) 1 (by omega) hL (by decide) dL_law_1585 dL_law_1586 dL_law_1587 dL_law_1588 dL_law_1589 rfl rfl ?_
  refine wy_V_I (pc := 1590) dL_law_1590 lkL_202 (sm_Rc.o (ci := 5) s0_0 (by decide) (by decide)) (Nat.le_of_ble_eq_true rfl) (Nat.le_of_ble_eq_true rfl) ?_
  refine c_X6_once hC ok (fun F1 I1 J1 hC1 hh1 => ?_)
  show WpX _ _ _ _ _ _ _ [.int _] _ _
  refine wx_aload_n (pc := 1593) 2 dL_law_1593 rfl rfl ?_
  refine wx_arg (i := i) (pc := 1594) 1 (by omega) hL (by decide) dL_law_1594 dL_law_1595 dL_law_1596 dL_law_1597 dL_law_1598 rfl rfl ?_
  refine wy_V_I (pc := 1599) dL_law_1599 lkL_205 (sm_Rc.o (ci := 6) s0_40 (by decide) (by decide)) (Nat.le_of_ble_eq_true rfl) (Nat.le_of_ble_eq_true rfl) ?_
  refine c_X7_once (hM.hi hh1) ok (fun F2 I2 J2 hM2 hl2 => ?_)
  show WpX _ _ _ _ _ _ _ [.int _, .int _] _ _
  exact wx_icmp_eq (pc := 1602) 1929 dL_law_1602 (by decide) (fun _ => nx _ _ _ _ ok.q (hC1.lo hl2) hM2) (fun z => absurd rfl z)
theorem lw_c46 {X : sm_X} {nm : String} {i : Nat} {s : Sg} {F I : Nat → Nat → Int32} {J : Nat → Nat → Int64} {Q : Option Value → sm_H → Prop} (hL : X.2.2.2.1.2.1 ≤ 3072) (hi : i + 6 ≤ X.2.2.2.1.2.1) (hC : CR s F I J) (hM : MR s F I J) (ok : Ok s) (nx : ∀ s1 F1 I1 J1, Ok s1 → CR s1 F1 I1 J1 → MR s1 F1 I1 J1 → WpX X (mL nm) 20 0 0 1929 [.ref 900, .ref 0, .ref 40, .int (nI i)] [] (S0, F1, I1, J1) Q) : WpX X (mL nm) 20 0 0 1607 [.ref 900, .ref 0, .ref 40, .int (nI i)] [] (S0, F, I, J) Q := by
  refine wx_aload_n (pc := 1607) 1 dL_law_1607 rfl rfl ?_
  refine wx_arg (i := i) (pc := 1608) 1 (by omega) hL (by decide) dL_law_1608 dL_law_1609 dL_law_1610 dL_law_1611 dL_law_1612 rfl rfl ?_
  refine wy_V_I (pc := 1613) dL_law_1613 lkL_206 (sm_Rc.o (ci := 5) s0_0 (by decide) (by decide)) (Nat.le_of_ble_eq_true rfl) (Nat.le_of_ble_eq_true rfl) ?_
  refine c_X6_soon hC ok (fun F1 I1 J1 hC1 hh1 => ?_)
  show WpX _ _ _ _ _ _ _ [.int _] _ _
  refine wx_aload_n (pc := 1616) 2 dL_law_1616 rfl rfl ?_
  refine wx_arg (i := i) (pc := 1617) 1 (by omega) hL (by decide) dL_law_1617 dL_law_1618 dL_law_1619 dL_law_1620 dL_law_1621 rfl rfl ?_
  refine wy_V_I (pc := 1622) dL_law_1622 lkL_209 (sm_Rc.o (ci := 6) s0_40 (by decide) (by decide)) (Nat.le_of_ble_eq_true rfl) (Nat.le_of_ble_eq_true rfl) ?_
  refine c_X7_soon (hM.hi hh1) ok (fun F2 I2 J2 hM2 hl2 => ?_)
  show WpX _ _ _ _ _ _ _ [.int _, .int _] _ _
  exact wx_icmp_eq (pc := 1625) 1929 dL_law_1625 (by decide) (fun _ => nx _ _ _ _ ok.q (hC1.lo hl2) hM2) (fun z => absurd rfl z)
theorem lw_c47 {X : sm_X} {nm : String} {i : Nat} {s : Sg} {F I : Nat → Nat → Int32} {J : Nat → Nat → Int64} {Q : Option Value → sm_H → Prop} (hL : X.2.2.2.1.2.1 ≤ 3072) (hi : i + 6 ≤ X.2.2.2.1.2.1) (hC : CR s F I J) (hM : MR s F I J) (ok : Ok s) (nx : ∀ s1 F1 I1 J1, Ok s1 → CR s1 F1 I1 J1 → MR s1 F1 I1 J1 → WpX X (mL nm) 20 0 0 1929 [.ref 900, .ref 0, .ref 40, .int (nI i)] [] (S0, F1, I1, J1) Q) : WpX X (mL nm) 20 0 0 1630 [.ref 900, .ref 0, .ref 40, .int (nI i)] [] (S0, F, I, J) Q := by
  refine wx_aload_n (pc := 1630) 1 dL_law_1630 rfl rfl ?_
  refine wx_arg (i := i) (pc := 1631) 1 (by omega) hL (by decide) dL_law_1631 dL_law_1632 dL_law_1633 dL_law_1634 dL_law_1635 rfl rfl ?_
  refine wy_V_I (pc := 1636) dL_law_1636 lkL_210 (sm_Rc.o (ci := 5) s0_0 (by decide) (by decide)) (Nat.le_of_ble_eq_true rfl) (Nat.le_of_ble_eq_true rfl) ?_
  refine c_X6_inWeather hC ok (fun F1 I1 J1 hC1 hh1 => ?_)
  show WpX _ _ _ _ _ _ _ [.int _] _ _
  refine wx_aload_n (pc := 1639) 2 dL_law_1639 rfl rfl ?_
  refine wx_arg (i := i) (pc := 1640) 1 (by omega) hL (by decide) dL_law_1640 dL_law_1641 dL_law_1642 dL_law_1643 dL_law_1644 rfl rfl ?_
  refine wy_V_I (pc := 1645) dL_law_1645 lkL_213 (sm_Rc.o (ci := 6) s0_40 (by decide) (by decide)) (Nat.le_of_ble_eq_true rfl) (Nat.le_of_ble_eq_true rfl) ?_
  refine c_X7_inWeather (hM.hi hh1) ok (fun F2 I2 J2 hM2 hl2 => ?_)
  show WpX _ _ _ _ _ _ _ [.int _, .int _] _ _
  exact wx_icmp_eq (pc := 1648) 1929 dL_law_1648 (by decide) (fun _ => nx _ _ _ _ ok.q (hC1.lo hl2) hM2) (fun z => absurd rfl z)
theorem lw_c48 {X : sm_X} {nm : String} {i : Nat} {s : Sg} {F I : Nat → Nat → Int32} {J : Nat → Nat → Int64} {Q : Option Value → sm_H → Prop} (hL : X.2.2.2.1.2.1 ≤ 3072) (hi : i + 6 ≤ X.2.2.2.1.2.1) (hC : CR s F I J) (hM : MR s F I J) (ok : Ok s) (nx : ∀ s1 F1 I1 J1, Ok s1 → CR s1 F1 I1 J1 → MR s1 F1 I1 J1 → WpX X (mL nm) 20 0 0 1929 [.ref 900, .ref 0, .ref 40, .int (nI i)] [] (S0, F1, I1, J1) Q) : WpX X (mL nm) 20 0 0 1653 [.ref 900, .ref 0, .ref 40, .int (nI i)] [] (S0, F, I, J) Q := by
  refine wx_aload_n (pc := 1653) 1 dL_law_1653 rfl rfl ?_
  refine wx_arg (i := i) (pc := 1654) 1 (by omega) hL (by decide) dL_law_1654 dL_law_1655 dL_law_1656 dL_law_1657 dL_law_1658 rfl rfl ?_
  refine wy_V_I (pc := 1659) dL_law_1659 lkL_214 (sm_Rc.o (ci := 5) s0_0 (by decide) (by decide)) (Nat.le_of_ble_eq_true rfl) (Nat.le_of_ble_eq_true rfl) ?_
  refine c_X6_chain hC ok (fun F1 I1 J1 hC1 hh1 => ?_)
  show WpX _ _ _ _ _ _ _ [.int _] _ _
  refine wx_aload_n (pc := 1662) 2 dL_law_1662 rfl rfl ?_
  refine wx_arg (i := i) (pc := 1663) 1 (by omega) hL (by decide) dL_law_1663 dL_law_1664 dL_law_1665 dL_law_1666 dL_law_1667 rfl rfl ?_
  refine wy_V_I (pc := 1668) dL_law_1668 lkL_217 (sm_Rc.o (ci := 6) s0_40 (by decide) (by decide)) (Nat.le_of_ble_eq_true rfl) (Nat.le_of_ble_eq_true rfl) ?_
  refine c_X7_chain (hM.hi hh1) ok (fun F2 I2 J2 hM2 hl2 => ?_)
  show WpX _ _ _ _ _ _ _ [.int _, .int _] _ _
  exact wx_icmp_eq (pc := 1671) 1929 dL_law_1671 (by decide) (fun _ => nx _ _ _ _ ok.q (hC1.lo hl2) hM2) (fun z => absurd rfl z)
theorem lw_c49 {X : sm_X} {nm : String} {i : Nat} {s : Sg} {F I : Nat → Nat → Int32} {J : Nat → Nat → Int64} {Q : Option Value → sm_H → Prop} (hL : X.2.2.2.1.2.1 ≤ 3072) (hi : i + 6 ≤ X.2.2.2.1.2.1) (hC : CR s F I J) (hM : MR s F I J) (ok : Ok s) (nx : ∀ s1 F1 I1 J1, Ok s1 → CR s1 F1 I1 J1 → MR s1 F1 I1 J1 → WpX X (mL nm) 20 0 0 1929 [.ref 900, .ref 0, .ref 40, .int (nI i)] [] (S0, F1, I1, J1) Q) : WpX X (mL nm) 20 0 0 1676 [.ref 900, .ref 0, .ref 40, .int (nI i)] [] (S0, F, I, J) Q := by
  refine wx_aload_n (pc := 1676) 1 dL_law_1676 rfl rfl ?_
  refine wx_arg (i := i) (pc := 1677) 1 (by omega) hL (by decide) dL_law_1677 dL_law_1678 dL_law_1679 dL_law_1680 dL_law_1681 rfl rfl ?_
  refine wy_V_I (pc := 1682) dL_law_1682 lkL_218 (sm_Rc.o (ci := 5) s0_0 (by decide) (by decide)) (Nat.le_of_ble_eq_true rfl) (Nat.le_of_ble_eq_true rfl) ?_
  refine c_X6_alone hC ok (fun F1 I1 J1 hC1 hh1 => ?_)
  show WpX _ _ _ _ _ _ _ [.int _] _ _
  refine wx_aload_n (pc := 1685) 2 dL_law_1685 rfl rfl ?_
  refine wx_arg (i := i) (pc := 1686) 1 (by omega) hL (by decide) dL_law_1686 dL_law_1687 dL_law_1688 dL_law_1689 dL_law_1690 rfl rfl ?_
  refine wy_V_I (pc := 1691) dL_law_1691 lkL_221 (sm_Rc.o (ci := 6) s0_40 (by decide) (by decide)) (Nat.le_of_ble_eq_true rfl) (Nat.le_of_ble_eq_true rfl) ?_
  refine c_X7_alone (hM.hi hh1) ok (fun F2 I2 J2 hM2 hl2 => ?_)
  show WpX _ _ _ _ _ _ _ [.int _, .int _] _ _
  exact wx_icmp_eq (pc := 1694) 1929 dL_law_1694 (by decide) (fun _ => nx _ _ _ _ ok.q (hC1.lo hl2) hM2) (fun z => absurd rfl z)
theorem lw_c50 {X : sm_X} {nm : String} {i : Nat} {s : Sg} {F I : Nat → Nat → Int32} {J : Nat → Nat → Int64} {Q : Option Value → sm_H → Prop} (hL : X.2.2.2.1.2.1 ≤ 3072) (hi : i + 6 ≤ X.2.2.2.1.2.1) (hC : CR s F I J) (hM : MR s F I J) (ok : Ok s) (nx : ∀ s1 F1 I1 J1, Ok s1 → CR s1 F1 I1 J1 → MR s1 F1 I1 J1 → WpX X (mL nm) 20 0 0 1929 [.ref 900, .ref 0, .ref 40, .int (nI i)] [] (S0, F1, I1, J1) Q) : WpX X (mL nm) 20 0 0 1699 [.ref 900, .ref 0, .ref 40, .int (nI i)] [] (S0, F, I, J) Q := by
  refine wx_aload_n (pc := 1699) 1 dL_law_1699 rfl rfl ?_
  refine wx_arg (i := i) (pc := 1700) 1 (by omega) hL (by decide) dL_law_1700 dL_law_1701 dL_law_1702 dL_law_1703 dL_law_1704 rfl rfl ?_
  refine wy_V_I (pc := 1705) dL_law_1705 lkL_222 (sm_Rc.o (ci := 5) s0_0 (by decide) (by decide)) (Nat.le_of_ble_eq_true rfl) (Nat.le_of_ble_eq_true rfl) ?_
  refine c_X6_ofKind hC ok (fun F1 I1 J1 hC1 hh1 => ?_)
  show WpX _ _ _ _ _ _ _ [.int _] _ _
  refine wx_aload_n (pc := 1708) 2 dL_law_1708 rfl rfl ?_
  refine wx_arg (i := i) (pc := 1709) 1 (by omega) hL (by decide) dL_law_1709 dL_law_1710 dL_law_1711 dL_law_1712 dL_law_1713 rfl rfl ?_
  refine wy_V_I (pc := 1714) dL_law_1714 lkL_225 (sm_Rc.o (ci := 6) s0_40 (by decide) (by decide)) (Nat.le_of_ble_eq_true rfl) (Nat.le_of_ble_eq_true rfl) ?_
  refine c_X7_ofKind (hM.hi hh1) ok (fun F2 I2 J2 hM2 hl2 => ?_)
  show WpX _ _ _ _ _ _ _ [.int _, .int _] _ _
  exact wx_icmp_eq (pc := 1717) 1929 dL_law_1717 (by decide) (fun _ => nx _ _ _ _ ok.q (hC1.lo hl2) hM2) (fun z => absurd rfl z)
theorem lw_c51 {X : sm_X} {nm : String} {i : Nat} {s : Sg} {F I : Nat → Nat → Int32} {J : Nat → Nat → Int64} {Q : Option Value → sm_H → Prop} (hL : X.2.2.2.1.2.1 ≤ 3072) (hi : i + 6 ≤ X.2.2.2.1.2.1) (hC : CR s F I J) (hM : MR s F I J) (ok : Ok s) (nx : ∀ s1 F1 I1 J1, Ok s1 → CR s1 F1 I1 J1 → MR s1 F1 I1 J1 → WpX X (mL nm) 20 0 0 1929 [.ref 900, .ref 0, .ref 40, .int (nI i)] [] (S0, F1, I1, J1) Q) : WpX X (mL nm) 20 0 0 1722 [.ref 900, .ref 0, .ref 40, .int (nI i)] [] (S0, F, I, J) Q := by
  refine wx_aload_n (pc := 1722) 1 dL_law_1722 rfl rfl ?_
  refine wx_arg (i := i) (pc := 1723) 1 (by omega) hL (by decide) dL_law_1723 dL_law_1724 dL_law_1725 dL_law_1726 dL_law_1727 rfl rfl ?_
  refine wx_arg (i := i) (pc := 1728) 2 (by omega) hL (by decide) dL_law_1728 dL_law_1729 dL_law_1730 dL_law_1731 dL_law_1732 rfl rfl ?_
  refine wy_V_II (pc := 1733) dL_law_1733 lkL_226 (sm_Rc.o (ci := 5) s0_0 (by decide) (by decide)) (Nat.le_of_ble_eq_true rfl) (Nat.le_of_ble_eq_true rfl) ?_
  refine c_X6_judge hC ok (fun F1 I1 J1 hC1 hh1 => ?_)
  show WpX _ _ _ _ _ _ _ [.int _] _ _
  refine wx_aload_n (pc := 1736) 2 dL_law_1736 rfl rfl ?_
  refine wx_arg (i := i) (pc := 1737) 1 (by omega) hL (by decide) dL_law_1737 dL_law_1738 dL_law_1739 dL_law_1740 dL_law_1741 rfl rfl ?_
  refine wx_arg (i := i) (pc := 1742) 2 (by omega) hL (by decide) dL_law_1742 dL_law_1743 dL_law_1744 dL_law_1745 dL_law_1746 rfl rfl ?_
  refine wy_V_II (pc := 1747) dL_law_1747 lkL_229 (sm_Rc.o (ci := 6) s0_40 (by decide) (by decide)) (Nat.le_of_ble_eq_true rfl) (Nat.le_of_ble_eq_true rfl) ?_
  refine c_X7_judge (hM.hi hh1) ok (fun F2 I2 J2 hM2 hl2 => ?_)
  show WpX _ _ _ _ _ _ _ [.int _, .int _] _ _
  exact wx_icmp_eq (pc := 1750) 1929 dL_law_1750 (by decide) (fun _ => nx _ _ _ _ (ok_judge ok _ _) (hC1.lo hl2) hM2) (fun z => absurd rfl z)
theorem lw_c52 {X : sm_X} {nm : String} {i : Nat} {s : Sg} {F I : Nat → Nat → Int32} {J : Nat → Nat → Int64} {Q : Option Value → sm_H → Prop} (hL : X.2.2.2.1.2.1 ≤ 3072) (hi : i + 6 ≤ X.2.2.2.1.2.1) (hC : CR s F I J) (hM : MR s F I J) (ok : Ok s) (nx : ∀ s1 F1 I1 J1, Ok s1 → CR s1 F1 I1 J1 → MR s1 F1 I1 J1 → WpX X (mL nm) 20 0 0 1929 [.ref 900, .ref 0, .ref 40, .int (nI i)] [] (S0, F1, I1, J1) Q) : WpX X (mL nm) 20 0 0 1755 [.ref 900, .ref 0, .ref 40, .int (nI i)] [] (S0, F, I, J) Q := by
  refine wx_aload_n (pc := 1755) 1 dL_law_1755 rfl rfl ?_
  refine wx_arg (i := i) (pc := 1756) 1 (by omega) hL (by decide) dL_law_1756 dL_law_1757 dL_law_1758 dL_law_1759 dL_law_1760 rfl rfl ?_
  refine wx_arg (i := i) (pc := 1761) 2 (by omega) hL (by decide) dL_law_1761 dL_law_1762 dL_law_1763 dL_law_1764 dL_law_1765 rfl rfl ?_
  refine wx_arg (i := i) (pc := 1766) 3 (by omega) hL (by decide) dL_law_1766 dL_law_1767 dL_law_1768 dL_law_1769 dL_law_1770 rfl rfl ?_
  refine wy_V_III (pc := 1771) dL_law_1771 lkL_230 (sm_Rc.o (ci := 5) s0_0 (by decide) (by decide)) (Nat.le_of_ble_eq_true rfl) (Nat.le_of_ble_eq_true rfl) ?_
  refine c_X6_behind hC ok (fun F1 I1 J1 hC1 hh1 => ?_)
  show WpX _ _ _ _ _ _ _ [.int _] _ _
  refine wx_aload_n (pc := 1774) 2 dL_law_1774 rfl rfl ?_
  refine wx_arg (i := i) (pc := 1775) 1 (by omega) hL (by decide) dL_law_1775 dL_law_1776 dL_law_1777 dL_law_1778 dL_law_1779 rfl rfl ?_
  refine wx_arg (i := i) (pc := 1780) 2 (by omega) hL (by decide) dL_law_1780 dL_law_1781 dL_law_1782 dL_law_1783 dL_law_1784 rfl rfl ?_
  refine wx_arg (i := i) (pc := 1785) 3 (by omega) hL (by decide) dL_law_1785 dL_law_1786 dL_law_1787 dL_law_1788 dL_law_1789 rfl rfl ?_
  refine wy_V_III (pc := 1790) dL_law_1790 lkL_233 (sm_Rc.o (ci := 6) s0_40 (by decide) (by decide)) (Nat.le_of_ble_eq_true rfl) (Nat.le_of_ble_eq_true rfl) ?_
  refine c_X7_behind (hM.hi hh1) ok (fun F2 I2 J2 hM2 hl2 => ?_)
  show WpX _ _ _ _ _ _ _ [.int _, .int _] _ _
  exact wx_icmp_eq (pc := 1793) 1929 dL_law_1793 (by decide) (fun _ => nx _ _ _ _ (ok_behind ok _ _ _) (hC1.lo hl2) hM2) (fun z => absurd rfl z)
theorem lw_c53 {X : sm_X} {nm : String} {i : Nat} {s : Sg} {F I : Nat → Nat → Int32} {J : Nat → Nat → Int64} {Q : Option Value → sm_H → Prop} (hL : X.2.2.2.1.2.1 ≤ 3072) (hi : i + 6 ≤ X.2.2.2.1.2.1) (hC : CR s F I J) (hM : MR s F I J) (ok : Ok s) (nx : ∀ s1 F1 I1 J1, Ok s1 → CR s1 F1 I1 J1 → MR s1 F1 I1 J1 → WpX X (mL nm) 20 0 0 1929 [.ref 900, .ref 0, .ref 40, .int (nI i)] [] (S0, F1, I1, J1) Q) : WpX X (mL nm) 20 0 0 1798 [.ref 900, .ref 0, .ref 40, .int (nI i)] [] (S0, F, I, J) Q := by
  refine wx_aload_n (pc := 1798) 1 dL_law_1798 rfl rfl ?_
  refine wx_arg (i := i) (pc := 1799) 1 (by omega) hL (by decide) dL_law_1799 dL_law_1800 dL_law_1801 dL_law_1802 dL_law_1803 rfl rfl ?_
  refine wy_V_I (pc := 1804) dL_law_1804 lkL_234 (sm_Rc.o (ci := 5) s0_0 (by decide) (by decide)) (Nat.le_of_ble_eq_true rfl) (Nat.le_of_ble_eq_true rfl) ?_
  refine c_X6_ring hC ok (fun F1 I1 J1 hC1 hh1 => ?_)
  show WpX _ _ _ _ _ _ _ [.int _] _ _
  refine wx_aload_n (pc := 1807) 2 dL_law_1807 rfl rfl ?_
  refine wx_arg (i := i) (pc := 1808) 1 (by omega) hL (by decide) dL_law_1808 dL_law_1809 dL_law_1810 dL_law_1811 dL_law_1812 rfl rfl ?_
  refine wy_V_I (pc := 1813) dL_law_1813 lkL_237 (sm_Rc.o (ci := 6) s0_40 (by decide) (by decide)) (Nat.le_of_ble_eq_true rfl) (Nat.le_of_ble_eq_true rfl) ?_
  refine c_X7_ring (hM.hi hh1) ok (fun F2 I2 J2 hM2 hl2 => ?_)
  show WpX _ _ _ _ _ _ _ [.int _, .int _] _ _
  exact wx_icmp_eq (pc := 1816) 1929 dL_law_1816 (by decide) (fun _ => nx _ _ _ _ (ok_ring ok _) (hC1.lo hl2) hM2) (fun z => absurd rfl z)
theorem lw_c54 {X : sm_X} {nm : String} {i : Nat} {s : Sg} {F I : Nat → Nat → Int32} {J : Nat → Nat → Int64} {Q : Option Value → sm_H → Prop} (hL : X.2.2.2.1.2.1 ≤ 3072) (hi : i + 6 ≤ X.2.2.2.1.2.1) (hC : CR s F I J) (hM : MR s F I J) (ok : Ok s) (nx : ∀ s1 F1 I1 J1, Ok s1 → CR s1 F1 I1 J1 → MR s1 F1 I1 J1 → WpX X (mL nm) 20 0 0 1929 [.ref 900, .ref 0, .ref 40, .int (nI i)] [] (S0, F1, I1, J1) Q) : WpX X (mL nm) 20 0 0 1821 [.ref 900, .ref 0, .ref 40, .int (nI i)] [] (S0, F, I, J) Q := by
  refine wx_aload_n (pc := 1821) 1 dL_law_1821 rfl rfl ?_
  refine wy_V_ (pc := 1822) dL_law_1822 lkL_238 (sm_Rc.o (ci := 5) s0_0 (by decide) (by decide)) (Nat.le_of_ble_eq_true rfl) (Nat.le_of_ble_eq_true rfl) ?_
  refine c_X6_day hC ok (fun F1 I1 J1 hC1 hh1 => ?_)
  show WpX _ _ _ _ _ _ _ [.int _] _ _
  refine wx_aload_n (pc := 1825) 2 dL_law_1825 rfl rfl ?_
  refine wy_V_ (pc := 1826) dL_law_1826 lkL_241 (sm_Rc.o (ci := 6) s0_40 (by decide) (by decide)) (Nat.le_of_ble_eq_true rfl) (Nat.le_of_ble_eq_true rfl) ?_
  refine c_X7_day (hM.hi hh1) ok (fun F2 I2 J2 hM2 hl2 => ?_)
  show WpX _ _ _ _ _ _ _ [.int _, .int _] _ _
  exact wx_icmp_eq (pc := 1829) 1929 dL_law_1829 (by decide) (fun _ => nx _ _ _ _ (ok_day ok) (hC1.lo hl2) hM2) (fun z => absurd rfl z)
theorem lw_c55 {X : sm_X} {nm : String} {i : Nat} {s : Sg} {F I : Nat → Nat → Int32} {J : Nat → Nat → Int64} {Q : Option Value → sm_H → Prop} (hL : X.2.2.2.1.2.1 ≤ 3072) (hi : i + 6 ≤ X.2.2.2.1.2.1) (hC : CR s F I J) (hM : MR s F I J) (ok : Ok s) (nx : ∀ s1 F1 I1 J1, Ok s1 → CR s1 F1 I1 J1 → MR s1 F1 I1 J1 → WpX X (mL nm) 20 0 0 1929 [.ref 900, .ref 0, .ref 40, .int (nI i)] [] (S0, F1, I1, J1) Q) : WpX X (mL nm) 20 0 0 1834 [.ref 900, .ref 0, .ref 40, .int (nI i)] [] (S0, F, I, J) Q := by
  refine wx_aload_n (pc := 1834) 1 dL_law_1834 rfl rfl ?_
  refine wx_arg (i := i) (pc := 1835) 1 (by omega) hL (by decide) dL_law_1835 dL_law_1836 dL_law_1837 dL_law_1838 dL_law_1839 rfl rfl ?_
  refine wy_V_I (pc := 1840) dL_law_1840 lkL_242 (sm_Rc.o (ci := 5) s0_0 (by decide) (by decide)) (Nat.le_of_ble_eq_true rfl) (Nat.le_of_ble_eq_true rfl) ?_
  refine c_X6_years hC ok (fun F1 I1 J1 hC1 hh1 => ?_)
  show WpX _ _ _ _ _ _ _ [.int _] _ _
  refine wx_aload_n (pc := 1843) 2 dL_law_1843 rfl rfl ?_
  refine wx_arg (i := i) (pc := 1844) 1 (by omega) hL (by decide) dL_law_1844 dL_law_1845 dL_law_1846 dL_law_1847 dL_law_1848 rfl rfl ?_
  refine wy_V_I (pc := 1849) dL_law_1849 lkL_245 (sm_Rc.o (ci := 6) s0_40 (by decide) (by decide)) (Nat.le_of_ble_eq_true rfl) (Nat.le_of_ble_eq_true rfl) ?_
  refine c_X7_years (hM.hi hh1) ok (fun F2 I2 J2 hM2 hl2 => ?_)
  show WpX _ _ _ _ _ _ _ [.int _, .int _] _ _
  exact wx_icmp_eq (pc := 1852) 1929 dL_law_1852 (by decide) (fun _ => nx _ _ _ _ (ok_years ok _) (hC1.lo hl2) hM2) (fun z => absurd rfl z)
theorem lw_c56 {X : sm_X} {nm : String} {i : Nat} {s : Sg} {F I : Nat → Nat → Int32} {J : Nat → Nat → Int64} {Q : Option Value → sm_H → Prop} (hL : X.2.2.2.1.2.1 ≤ 3072) (hi : i + 6 ≤ X.2.2.2.1.2.1) (hC : CR s F I J) (hM : MR s F I J) (ok : Ok s) (nx : ∀ s1 F1 I1 J1, Ok s1 → CR s1 F1 I1 J1 → MR s1 F1 I1 J1 → WpX X (mL nm) 20 0 0 1929 [.ref 900, .ref 0, .ref 40, .int (nI i)] [] (S0, F1, I1, J1) Q) : WpX X (mL nm) 20 0 0 1857 [.ref 900, .ref 0, .ref 40, .int (nI i)] [] (S0, F, I, J) Q := by
  refine wx_aload_n (pc := 1857) 1 dL_law_1857 rfl rfl ?_
  refine wx_arg (i := i) (pc := 1858) 1 (by omega) hL (by decide) dL_law_1858 dL_law_1859 dL_law_1860 dL_law_1861 dL_law_1862 rfl rfl ?_
  refine wy_V_I (pc := 1863) dL_law_1863 lkL_246 (sm_Rc.o (ci := 5) s0_0 (by decide) (by decide)) (Nat.le_of_ble_eq_true rfl) (Nat.le_of_ble_eq_true rfl) ?_
  refine c_X6_seed hC ok (fun F1 I1 J1 hC1 hh1 => ?_)
  show WpX _ _ _ _ _ _ _ [.int _] _ _
  refine wx_aload_n (pc := 1866) 2 dL_law_1866 rfl rfl ?_
  refine wx_arg (i := i) (pc := 1867) 1 (by omega) hL (by decide) dL_law_1867 dL_law_1868 dL_law_1869 dL_law_1870 dL_law_1871 rfl rfl ?_
  refine wy_V_I (pc := 1872) dL_law_1872 lkL_249 (sm_Rc.o (ci := 6) s0_40 (by decide) (by decide)) (Nat.le_of_ble_eq_true rfl) (Nat.le_of_ble_eq_true rfl) ?_
  refine c_X7_seed (hM.hi hh1) ok (fun F2 I2 J2 hM2 hl2 => ?_)
  show WpX _ _ _ _ _ _ _ [.int _, .int _] _ _
  exact wx_icmp_eq (pc := 1875) 1929 dL_law_1875 (by decide) (fun _ => nx _ _ _ _ (ok_seed ok _) (hC1.lo hl2) hM2) (fun z => absurd rfl z)
theorem lw_c57 {X : sm_X} {nm : String} {i : Nat} {s : Sg} {F I : Nat → Nat → Int32} {J : Nat → Nat → Int64} {Q : Option Value → sm_H → Prop} (hL : X.2.2.2.1.2.1 ≤ 3072) (hi : i + 6 ≤ X.2.2.2.1.2.1) (hC : CR s F I J) (hM : MR s F I J) (ok : Ok s) (nx : ∀ s1 F1 I1 J1, Ok s1 → CR s1 F1 I1 J1 → MR s1 F1 I1 J1 → WpX X (mL nm) 20 0 0 1929 [.ref 900, .ref 0, .ref 40, .int (nI i)] [] (S0, F1, I1, J1) Q) : WpX X (mL nm) 20 0 0 1880 [.ref 900, .ref 0, .ref 40, .int (nI i)] [] (S0, F, I, J) Q := by
  refine wx_aload_n (pc := 1880) 1 dL_law_1880 rfl rfl ?_
  refine wy_V_ (pc := 1881) dL_law_1881 lkL_250 (sm_Rc.o (ci := 5) s0_0 (by decide) (by decide)) (Nat.le_of_ble_eq_true rfl) (Nat.le_of_ble_eq_true rfl) ?_
  refine c_X6_image hC ok (fun F1 I1 J1 hC1 hh1 => ?_)
  show WpX _ _ _ _ _ _ _ [.int _] _ _
  refine wx_aload_n (pc := 1884) 2 dL_law_1884 rfl rfl ?_
  refine wy_V_ (pc := 1885) dL_law_1885 lkL_253 (sm_Rc.o (ci := 6) s0_40 (by decide) (by decide)) (Nat.le_of_ble_eq_true rfl) (Nat.le_of_ble_eq_true rfl) ?_
  refine c_X7_image (hM.hi hh1) ok (fun F2 I2 J2 hM2 hl2 => ?_)
  show WpX _ _ _ _ _ _ _ [.int _, .int _] _ _
  exact wx_icmp_eq (pc := 1888) 1929 dL_law_1888 (by decide) (fun _ => nx _ _ _ _ (ok_image ok) (hC1.lo hl2) hM2) (fun z => absurd rfl z)
theorem lw_c58 {X : sm_X} {nm : String} {i : Nat} {s : Sg} {F I : Nat → Nat → Int32} {J : Nat → Nat → Int64} {Q : Option Value → sm_H → Prop} (hL : X.2.2.2.1.2.1 ≤ 3072) (hi : i + 6 ≤ X.2.2.2.1.2.1) (hC : CR s F I J) (hM : MR s F I J) (ok : Ok s) (nx : ∀ s1 F1 I1 J1, Ok s1 → CR s1 F1 I1 J1 → MR s1 F1 I1 J1 → WpX X (mL nm) 20 0 0 1929 [.ref 900, .ref 0, .ref 40, .int (nI i)] [] (S0, F1, I1, J1) Q) : WpX X (mL nm) 20 0 0 1893 [.ref 900, .ref 0, .ref 40, .int (nI i)] [] (S0, F, I, J) Q := by
  refine wx_aload_n (pc := 1893) 1 dL_law_1893 rfl rfl ?_
  refine wy_V_ (pc := 1894) dL_law_1894 lkL_254 (sm_Rc.o (ci := 5) s0_0 (by decide) (by decide)) (Nat.le_of_ble_eq_true rfl) (Nat.le_of_ble_eq_true rfl) ?_
  refine c_X6_back hC ok (fun F1 I1 J1 hC1 hh1 => ?_)
  show WpX _ _ _ _ _ _ _ [.int _] _ _
  refine wx_aload_n (pc := 1897) 2 dL_law_1897 rfl rfl ?_
  refine wy_V_ (pc := 1898) dL_law_1898 lkL_257 (sm_Rc.o (ci := 6) s0_40 (by decide) (by decide)) (Nat.le_of_ble_eq_true rfl) (Nat.le_of_ble_eq_true rfl) ?_
  refine c_X7_back (hM.hi hh1) ok (fun F2 I2 J2 hM2 hl2 => ?_)
  show WpX _ _ _ _ _ _ _ [.int _, .int _] _ _
  exact wx_icmp_eq (pc := 1901) 1929 dL_law_1901 (by decide) (fun _ => nx _ _ _ _ (ok_back ok) (hC1.lo hl2) hM2) (fun z => absurd rfl z)
theorem lw_c59 {X : sm_X} {nm : String} {i : Nat} {s : Sg} {F I : Nat → Nat → Int32} {J : Nat → Nat → Int64} {Q : Option Value → sm_H → Prop} (hL : X.2.2.2.1.2.1 ≤ 3072) (hi : i + 6 ≤ X.2.2.2.1.2.1) (hC : CR s F I J) (hM : MR s F I J) (ok : Ok s) (nx : ∀ s1 F1 I1 J1, Ok s1 → CR s1 F1 I1 J1 → MR s1 F1 I1 J1 → WpX X (mL nm) 20 0 0 1929 [.ref 900, .ref 0, .ref 40, .int (nI i)] [] (S0, F1, I1, J1) Q) : WpX X (mL nm) 20 0 0 1906 [.ref 900, .ref 0, .ref 40, .int (nI i)] [] (S0, F, I, J) Q := by
  refine wx_aload_n (pc := 1906) 1 dL_law_1906 rfl rfl ?_
  refine wx_arg (i := i) (pc := 1907) 1 (by omega) hL (by decide) dL_law_1907 dL_law_1908 dL_law_1909 dL_law_1910 dL_law_1911 rfl rfl ?_
  refine wy_V_I (pc := 1912) dL_law_1912 lkL_258 (sm_Rc.o (ci := 5) s0_0 (by decide) (by decide)) (Nat.le_of_ble_eq_true rfl) (Nat.le_of_ble_eq_true rfl) ?_
  refine c_X6_status hC ok (fun F1 I1 J1 hC1 hh1 => ?_)
  show WpX _ _ _ _ _ _ _ [.int _] _ _
  refine wx_aload_n (pc := 1915) 2 dL_law_1915 rfl rfl ?_
  refine wx_arg (i := i) (pc := 1916) 1 (by omega) hL (by decide) dL_law_1916 dL_law_1917 dL_law_1918 dL_law_1919 dL_law_1920 rfl rfl ?_
  refine wy_V_I (pc := 1921) dL_law_1921 lkL_261 (sm_Rc.o (ci := 6) s0_40 (by decide) (by decide)) (Nat.le_of_ble_eq_true rfl) (Nat.le_of_ble_eq_true rfl) ?_
  refine c_X7_status (hM.hi hh1) ok (fun F2 I2 J2 hM2 hl2 => ?_)
  show WpX _ _ _ _ _ _ _ [.int _, .int _] _ _
  exact wx_icmp_eq (pc := 1924) 1929 dL_law_1924 (by decide) (fun _ => nx _ _ _ _ ok (hC1.lo hl2) hM2) (fun z => absurd rfl z)
theorem lw_sub {L : Nat} (h : 6 ≤ L) : nI L - 6 = nI (L - 6) := by
  have e : nI L = nI (L - 6) + 6 := by
    show nI L = nI (L - 6) + nI 6
    rw [show nI (L - 6) + nI 6 = nI (L - 6 + 6) from (Int32.ofNat_add (L - 6) 6).symm, Nat.sub_add_cancel h]
  rw [e, Int32.add_sub_cancel]
theorem lw_in {L i : Nat} (h : i + 6 ≤ L) (hL : L ≤ 3072) : ¬ nI L - 6 < nI i := by
  rw [lw_sub (by omega)]
  exact nI_nlt (by omega) (by omega)
theorem lw_out {L i : Nat} (h : L < i + 6) (hi : i ≤ L) (hL : L ≤ 3072) : nI L - 6 < nI i := by
  by_cases h6 : 6 ≤ L
  · rw [lw_sub h6]
    exact nI_lt (by omega) (by omega)
  · have h1 : nI L - 6 < nI 0 := by
      rcases (show L = 0 ∨ L = 1 ∨ L = 2 ∨ L = 3 ∨ L = 4 ∨ L = 5 by omega) with rfl | rfl | rfl | rfl | rfl | rfl <;> decide
    by_cases h0 : i = 0
    · subst h0; exact h1
    · exact Int32.lt_trans h1 (nI_lt (by omega) (by omega))
theorem lw_59 {j : Nat} (h : ¬ j < 60) (h2 : j < 2 ^ 6) : (59 : Int) < (nI j).toInt := by
  rcases (show j = 60 ∨ j = 61 ∨ j = 62 ∨ j = 63 by omega) with rfl | rfl | rfl | rfl <;> decide
set_option maxRecDepth 100000 in
theorem lw_sw {X : sm_X} {nm : String} {i j : Nat} {s : Sg} {F I : Nat → Nat → Int32} {J : Nat → Nat → Int64} {Q : Option Value → sm_H → Prop} (hj : j < 60) (hL : X.2.2.2.1.2.1 ≤ 3072) (hi : i + 6 ≤ X.2.2.2.1.2.1) (hC : CR s F I J) (hM : MR s F I J) (ok : Ok s) (nx : ∀ s1 F1 I1 J1, Ok s1 → CR s1 F1 I1 J1 → MR s1 F1 I1 J1 → WpX X (mL nm) 20 0 0 1929 [.ref 900, .ref 0, .ref 40, .int (nI i)] [] (S0, F1, I1, J1) Q) : WpX X (mL nm) 20 0 0 33 [.ref 900, .ref 0, .ref 40, .int (nI i)] [.int (nI j)] (S0, F, I, J) Q := by
  match j, hj with
  | 0, _ => exact wx_tswI (pc := 33) 0 288 dL_law_33 (by decide) (by decide) rfl (by decide) (lw_c0 hL hi hC hM ok nx)
  | 1, _ => exact wx_tswI (pc := 33) 1 331 dL_law_33 (by decide) (by decide) rfl (by decide) (lw_c1 hL hi hC hM ok nx)
  | 2, _ => exact wx_tswI (pc := 33) 2 404 dL_law_33 (by decide) (by decide) rfl (by decide) (lw_c2 hL hi hC hM ok nx)
  | 3, _ => exact wx_tswI (pc := 33) 3 467 dL_law_33 (by decide) (by decide) rfl (by decide) (lw_c3 hL hi hC hM ok nx)
  | 4, _ => exact wx_tswI (pc := 33) 4 501 dL_law_33 (by decide) (by decide) rfl (by decide) (lw_c4 hL hi hC hM ok nx)
  | 5, _ => exact wx_tswI (pc := 33) 5 524 dL_law_33 (by decide) (by decide) rfl (by decide) (lw_c5 hL hi hC hM ok nx)
  | 6, _ => exact wx_tswI (pc := 33) 6 557 dL_law_33 (by decide) (by decide) rfl (by decide) (lw_c6 hL hi hC hM ok nx)
  | 7, _ => exact wx_tswI (pc := 33) 7 590 dL_law_33 (by decide) (by decide) rfl (by decide) (lw_c7 hL hi hC hM ok nx)
  | 8, _ => exact wx_tswI (pc := 33) 8 623 dL_law_33 (by decide) (by decide) rfl (by decide) (lw_c8 hL hi hC hM ok nx)
  | 9, _ => exact wx_tswI (pc := 33) 9 666 dL_law_33 (by decide) (by decide) rfl (by decide) (lw_c9 hL hi hC hM ok nx)
  | 10, _ => exact wx_tswI (pc := 33) 10 709 dL_law_33 (by decide) (by decide) rfl (by decide) (lw_c10 hL hi hC hM ok nx)
  | 11, _ => exact wx_tswI (pc := 33) 11 752 dL_law_33 (by decide) (by decide) rfl (by decide) (lw_c11 hL hi hC hM ok nx)
  | 12, _ => exact wx_tswI (pc := 33) 12 785 dL_law_33 (by decide) (by decide) rfl (by decide) (lw_c12 hL hi hC hM ok nx)
  | 13, _ => exact wx_tswI (pc := 33) 13 808 dL_law_33 (by decide) (by decide) rfl (by decide) (lw_c13 hL hi hC hM ok nx)
  | 14, _ => exact wx_tswI (pc := 33) 14 821 dL_law_33 (by decide) (by decide) rfl (by decide) (lw_c14 hL hi hC hM ok nx)
  | 15, _ => exact wx_tswI (pc := 33) 15 834 dL_law_33 (by decide) (by decide) rfl (by decide) (lw_c15 hL hi hC hM ok nx)
  | 16, _ => exact wx_tswI (pc := 33) 16 867 dL_law_33 (by decide) (by decide) rfl (by decide) (lw_c16 hL hi hC hM ok nx)
  | 17, _ => exact wx_tswI (pc := 33) 17 900 dL_law_33 (by decide) (by decide) rfl (by decide) (lw_c17 hL hi hC hM ok nx)
  | 18, _ => exact wx_tswI (pc := 33) 18 923 dL_law_33 (by decide) (by decide) rfl (by decide) (lw_c18 hL hi hC hM ok nx)
  | 19, _ => exact wx_tswI (pc := 33) 19 946 dL_law_33 (by decide) (by decide) rfl (by decide) (lw_c19 hL hi hC hM ok nx)
  | 20, _ => exact wx_tswI (pc := 33) 20 969 dL_law_33 (by decide) (by decide) rfl (by decide) (lw_c20 hL hi hC hM ok nx)
  | 21, _ => exact wx_tswI (pc := 33) 21 992 dL_law_33 (by decide) (by decide) rfl (by decide) (lw_c21 hL hi hC hM ok nx)
  | 22, _ => exact wx_tswI (pc := 33) 22 1015 dL_law_33 (by decide) (by decide) rfl (by decide) (lw_c22 hL hi hC hM ok nx)
  | 23, _ => exact wx_tswI (pc := 33) 23 1038 dL_law_33 (by decide) (by decide) rfl (by decide) (lw_c23 hL hi hC hM ok nx)
  | 24, _ => exact wx_tswI (pc := 33) 24 1061 dL_law_33 (by decide) (by decide) rfl (by decide) (lw_c24 hL hi hC hM ok nx)
  | 25, _ => exact wx_tswI (pc := 33) 25 1084 dL_law_33 (by decide) (by decide) rfl (by decide) (lw_c25 hL hi hC hM ok nx)
  | 26, _ => exact wx_tswI (pc := 33) 26 1117 dL_law_33 (by decide) (by decide) rfl (by decide) (lw_c26 hL hi hC hM ok nx)
  | 27, _ => exact wx_tswI (pc := 33) 27 1140 dL_law_33 (by decide) (by decide) rfl (by decide) (lw_c27 hL hi hC hM ok nx)
  | 28, _ => exact wx_tswI (pc := 33) 28 1163 dL_law_33 (by decide) (by decide) rfl (by decide) (lw_c28 hL hi hC hM ok nx)
  | 29, _ => exact wx_tswI (pc := 33) 29 1186 dL_law_33 (by decide) (by decide) rfl (by decide) (lw_c29 hL hi hC hM ok nx)
  | 30, _ => exact wx_tswI (pc := 33) 30 1219 dL_law_33 (by decide) (by decide) rfl (by decide) (lw_c30 hL hi hC hM ok nx)
  | 31, _ => exact wx_tswI (pc := 33) 31 1252 dL_law_33 (by decide) (by decide) rfl (by decide) (lw_c31 hL hi hC hM ok nx)
  | 32, _ => exact wx_tswI (pc := 33) 32 1285 dL_law_33 (by decide) (by decide) rfl (by decide) (lw_c32 hL hi hC hM ok nx)
  | 33, _ => exact wx_tswI (pc := 33) 33 1308 dL_law_33 (by decide) (by decide) rfl (by decide) (lw_c33 hL hi hC hM ok nx)
  | 34, _ => exact wx_tswI (pc := 33) 34 1331 dL_law_33 (by decide) (by decide) rfl (by decide) (lw_c34 hL hi hC hM ok nx)
  | 35, _ => exact wx_tswI (pc := 33) 35 1354 dL_law_33 (by decide) (by decide) rfl (by decide) (lw_c35 hL hi hC hM ok nx)
  | 36, _ => exact wx_tswI (pc := 33) 36 1377 dL_law_33 (by decide) (by decide) rfl (by decide) (lw_c36 hL hi hC hM ok nx)
  | 37, _ => exact wx_tswI (pc := 33) 37 1410 dL_law_33 (by decide) (by decide) rfl (by decide) (lw_c37 hL hi hC hM ok nx)
  | 38, _ => exact wx_tswI (pc := 33) 38 1433 dL_law_33 (by decide) (by decide) rfl (by decide) (lw_c38 hL hi hC hM ok nx)
  | 39, _ => exact wx_tswI (pc := 33) 39 1456 dL_law_33 (by decide) (by decide) rfl (by decide) (lw_c39 hL hi hC hM ok nx)
  | 40, _ => exact wx_tswI (pc := 33) 40 1479 dL_law_33 (by decide) (by decide) rfl (by decide) (lw_c40 hL hi hC hM ok nx)
  | 41, _ => exact wx_tswI (pc := 33) 41 1502 dL_law_33 (by decide) (by decide) rfl (by decide) (lw_c41 hL hi hC hM ok nx)
  | 42, _ => exact wx_tswI (pc := 33) 42 1515 dL_law_33 (by decide) (by decide) rfl (by decide) (lw_c42 hL hi hC hM ok nx)
  | 43, _ => exact wx_tswI (pc := 33) 43 1538 dL_law_33 (by decide) (by decide) rfl (by decide) (lw_c43 hL hi hC hM ok nx)
  | 44, _ => exact wx_tswI (pc := 33) 44 1561 dL_law_33 (by decide) (by decide) rfl (by decide) (lw_c44 hL hi hC hM ok nx)
  | 45, _ => exact wx_tswI (pc := 33) 45 1584 dL_law_33 (by decide) (by decide) rfl (by decide) (lw_c45 hL hi hC hM ok nx)
  | 46, _ => exact wx_tswI (pc := 33) 46 1607 dL_law_33 (by decide) (by decide) rfl (by decide) (lw_c46 hL hi hC hM ok nx)
  | 47, _ => exact wx_tswI (pc := 33) 47 1630 dL_law_33 (by decide) (by decide) rfl (by decide) (lw_c47 hL hi hC hM ok nx)
  | 48, _ => exact wx_tswI (pc := 33) 48 1653 dL_law_33 (by decide) (by decide) rfl (by decide) (lw_c48 hL hi hC hM ok nx)
  | 49, _ => exact wx_tswI (pc := 33) 49 1676 dL_law_33 (by decide) (by decide) rfl (by decide) (lw_c49 hL hi hC hM ok nx)
  | 50, _ => exact wx_tswI (pc := 33) 50 1699 dL_law_33 (by decide) (by decide) rfl (by decide) (lw_c50 hL hi hC hM ok nx)
  | 51, _ => exact wx_tswI (pc := 33) 51 1722 dL_law_33 (by decide) (by decide) rfl (by decide) (lw_c51 hL hi hC hM ok nx)
  | 52, _ => exact wx_tswI (pc := 33) 52 1755 dL_law_33 (by decide) (by decide) rfl (by decide) (lw_c52 hL hi hC hM ok nx)
  | 53, _ => exact wx_tswI (pc := 33) 53 1798 dL_law_33 (by decide) (by decide) rfl (by decide) (lw_c53 hL hi hC hM ok nx)
  | 54, _ => exact wx_tswI (pc := 33) 54 1821 dL_law_33 (by decide) (by decide) rfl (by decide) (lw_c54 hL hi hC hM ok nx)
  | 55, _ => exact wx_tswI (pc := 33) 55 1834 dL_law_33 (by decide) (by decide) rfl (by decide) (lw_c55 hL hi hC hM ok nx)
  | 56, _ => exact wx_tswI (pc := 33) 56 1857 dL_law_33 (by decide) (by decide) rfl (by decide) (lw_c56 hL hi hC hM ok nx)
  | 57, _ => exact wx_tswI (pc := 33) 57 1880 dL_law_33 (by decide) (by decide) rfl (by decide) (lw_c57 hL hi hC hM ok nx)
  | 58, _ => exact wx_tswI (pc := 33) 58 1893 dL_law_33 (by decide) (by decide) rfl (by decide) (lw_c58 hL hi hC hM ok nx)
  | 59, _ => exact wx_tswI (pc := 33) 59 1906 dL_law_33 (by decide) (by decide) rfl (by decide) (lw_c59 hL hi hC hM ok nx)
  | k + 60, h => exact absurd h (by omega)
theorem lw_loop {X : sm_X} {nm : String} {s : Sg} {F I : Nat → Nat → Int32} {J : Nat → Nat → Int64} (hL : X.2.2.2.1.2.1 ≤ 3072) (hC : CR s F I J) (hM : MR s F I J) (ok : Ok s) : WpX X (mL nm) 20 0 0 18 [.ref 900, .ref 0, .ref 40, .int 0] [] (S0, F, I, J) (fun v _ => v = some (.int 1)) := by
  refine wx_loopS (σ := Sg × (Nat → Nat → Int32) × (Nat → Nat → Int32) × (Nat → Nat → Int64)) (fun t _ => [.ref 900, .ref 0, .ref 40, .int (nI (6 * t))]) (fun _ u => (S0, u.2.1, u.2.2.1, u.2.2.2)) (fun _ u => Ok u.1 ∧ CR u.1 u.2.1 u.2.2.1 u.2.2.2 ∧ MR u.1 u.2.1 u.2.2.1 u.2.2.2) (X.2.2.2.1.2.1 / 6) (fun t u ht hu nx => ?_) (fun u hu => ?_) 0 (s, F, I, J) (Nat.zero_le _) ⟨ok, hC, hM⟩
  · obtain ⟨s, F, I, J⟩ := u
    obtain ⟨ok, hC, hM⟩ := hu
    simp only at ok hC hM
    have hi : 6 * t + 6 ≤ X.2.2.2.1.2.1 := by omega
    refine wx_iload_n (pc := 18) 3 dL_law_18 rfl rfl ?_
    refine wx_aload_n (pc := 19) 0 dL_law_19 rfl rfl ?_
    refine wx_slen (pc := 20) dL_law_20 ?_
    refine wx_bipush (pc := 21) 6 dL_law_21 (by decide) ?_
    refine wx_isub (pc := 23) dL_law_23 ?_
    refine wx_icmp_gt (pc := 24) 1935 dL_law_24 (by decide) (fun c => absurd c (lw_in hi hL)) (fun _ => ?_)
    refine wx_arg0 (i := 6 * t) (pc := 27) (by omega) hL dL_law_27 dL_law_28 dL_law_29 rfl rfl ?_
    refine wx_bipush (pc := 30) 63 dL_law_30 (by decide) ?_
    refine wx_iand (pc := 32) dL_law_32 ?_
    obtain ⟨j, hj, e⟩ := pk_andE (X.2.2.2.1.2.2 (6 * t)) (m := 63) 6 (by decide)
    rw [e]
    have nx1 : ∀ s1 F1 I1 J1, Ok s1 → CR s1 F1 I1 J1 → MR s1 F1 I1 J1 → WpX X (mL nm) 20 0 0 1929 [.ref 900, .ref 0, .ref 40, .int (nI (6 * t))] [] (S0, F1, I1, J1) (fun v _ => v = some (.int 1)) := fun s1 F1 I1 J1 h1 h2 h3 => by
      refine wx_iinc (pc := 1929) 3 (nI (6 * (t + 1))) dL_law_1929 rfl (Int32.ofNat_add (6 * t) 6).symm (show (3 : Nat) < 4 by decide) rfl ?_
      refine wx_goto (pc := 1932) 18 dL_law_1932 (by decide) ?_
      exact nx (s1, F1, I1, J1) ⟨h1, h2, h3⟩
    by_cases h60 : j < 60
    · exact lw_sw h60 hL hi hC hM ok nx1
    · exact wx_tswO (pc := 33) 1929 dL_law_33 (Or.inr (lw_59 h60 hj)) (by decide) (nx1 _ _ _ _ ok hC hM)
  · refine wx_iload_n (pc := 18) 3 dL_law_18 rfl rfl ?_
    refine wx_aload_n (pc := 19) 0 dL_law_19 rfl rfl ?_
    refine wx_slen (pc := 20) dL_law_20 ?_
    refine wx_bipush (pc := 21) 6 dL_law_21 (by decide) ?_
    refine wx_isub (pc := 23) dL_law_23 ?_
    refine wx_icmp_gt (pc := 24) 1935 dL_law_24 (by decide) (fun _ => ?_) (fun c => absurd (lw_out (by omega) (by omega) hL) c)
    refine wx_iconst (pc := 1935) 1 dL_law_1935 (by decide) ?_
    exact wx_iret (pc := 1936) dL_law_1936 ⟨_, rfl, narrow_b1⟩ rfl
theorem lw_start {X : sm_X} {nm : String} {F I : Nat → Nat → Int32} {J : Nat → Nat → Int64} (hL : X.2.2.2.1.2.1 ≤ 3072) : WpX X (mL nm) 20 52 1814 0 [.ref 900, .null, .null, .null] [] ([], F, I, J) (fun v _ => v = some (.int 1)) := by
  refine wx_cnt (mc1 := 51 + 1) (ms1 := 1806 + sm_N 5) (by decide) (by decide) (wx_new (pc := 0) (ci := 5) dL_law_0 (by decide) clL_7 nw5 inRX6 (show ([] : sm_S).length < 900 by decide) df_5 ?_)
  refine wx_to (st' := [.ref 0]) (h' := (Z_0, sm_ups F 0 (fun _ => 0), I, J)) ?_ rfl rfl rfl
  refine wx_dup (pc := 3) dL_law_3 rfl ?_
  refine wx_callI (pc := 4) (k := 0) (as := []) (st := [.ref 0]) (mc1 := 39) (ms1 := 857) (mc2 := 12) (ms2 := 949) dL_law_4 lkL_9 rfl rfl (by decide) (by decide) (by decide) (by decide) ?_
  refine i_X6 (fun F1 I1 J1 hC => ?_)
  show WpX _ _ _ _ _ _ _ [.ref 0] _ _
  refine wx_astore_n (pc := 7) 1 dL_law_7 rfl (show (1 : Nat) < 4 by decide) rfl ?_
  refine wx_to (lv' := [.ref 900, .ref 0, .null, .null]) ?_ rfl rfl rfl
  refine wx_cnt (mc1 := 11 + 1) (ms1 := 931 + sm_N 6) (by decide) (by decide) (wx_new (pc := 8) (ci := 6) dL_law_8 (by decide) clL_10 nw6 inRX7 (show Z_78.length < 900 by decide) df_6 ?_)
  refine wx_to (st' := [.ref 40]) (h' := (Z_79, sm_ups F1 40 (fun _ => 0), I1, J1)) ?_ rfl rfl rfl
  refine wx_dup (pc := 11) dL_law_11 rfl ?_
  refine wx_callI (pc := 12) (k := 40) (as := []) (st := [.ref 40]) (mc1 := 11) (ms1 := 931) (mc2 := 0) (ms2 := 0) dL_law_12 lkL_12 rfl rfl (by decide) (by decide) (by decide) (by decide) ?_
  refine i_X7 (fun j => by simp [sm_ups]) (fun F2 I2 J2 hM hl => ?_)
  show WpX _ _ _ _ _ _ _ [.ref 40] _ _
  refine wx_astore_n (pc := 15) 2 dL_law_15 rfl (show (2 : Nat) < 4 by decide) rfl ?_
  refine wx_iconst (pc := 16) 0 dL_law_16 (by decide) ?_
  refine wx_istore_n (pc := 17) 3 dL_law_17 rfl (show (3 : Nat) < 4 by decide) rfl ?_
  refine wx_to (lv' := [.ref 900, .ref 0, .ref 40, .int 0]) (h' := (S0, F2, I2, J2)) ?_ rfl rfl rfl
  exact lw_loop hL ((hC.lo (fun a ha => ⟨sm_ups_ne (by omega), rfl, rfl⟩)).lo hl) hM ok_s0
