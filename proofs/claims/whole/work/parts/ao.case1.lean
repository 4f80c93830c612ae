/-! part ao: the law's cases 6 to 11 -/
theorem dL_law_404 : decode cL_law 404 = .ok (.aload_n 1, 1) := by decide +kernel
theorem dL_law_405 : decode cL_law 405 = .ok (.aload_n 0, 1) := by decide +kernel
theorem dL_law_406 : decode cL_law 406 = .ok (.iload_n 3, 1) := by decide +kernel
theorem dL_law_407 : decode cL_law 407 = .ok (.iconst 1, 1) := by decide +kernel
theorem dL_law_408 : decode cL_law 408 = .ok (.iadd, 1) := by decide +kernel
theorem dL_law_409 : decode cL_law 409 = .ok (.iaload, 1) := by decide +kernel
theorem dL_law_410 : decode cL_law 410 = .ok (.invokevirtual 41, 3) := by decide +kernel
theorem dL_law_413 : decode cL_law 413 = .ok (.aload_n 2, 1) := by decide +kernel
theorem dL_law_414 : decode cL_law 414 = .ok (.aload_n 0, 1) := by decide +kernel
theorem dL_law_415 : decode cL_law 415 = .ok (.iload_n 3, 1) := by decide +kernel
theorem dL_law_416 : decode cL_law 416 = .ok (.iconst 1, 1) := by decide +kernel
theorem dL_law_417 : decode cL_law 417 = .ok (.iadd, 1) := by decide +kernel
theorem dL_law_418 : decode cL_law 418 = .ok (.iaload, 1) := by decide +kernel
theorem dL_law_419 : decode cL_law 419 = .ok (.invokevirtual 44, 3) := by decide +kernel
theorem dL_law_422 : decode cL_law 422 = .ok (.if_icmp .eq 1062, 3) := by decide +kernel
set_option maxHeartbeats 4000000 in
set_option maxRecDepth 100000 in
/-- heats -/
theorem lc_6 {p : Program} {l : Launch} {e : Env} {s : State} {m : MethodId} {below : List Frame} {meth : Method} {c : Code} {b L : Nat} {xs : Nat → Int32} {D : va_G} {cy : Nat → ClassId} {z a a' : Nat → Nat} {ls : Array Slot} {x3 : Int32} {Q : State → Prop} (B : lwB p s m meth c b L xs D cy z a a' ls x3) (kk : lwC p l e s m below meth c b D cy a a' ls Q 1484) : lwC p l e s m below meth c b D cy a a' ls Q 404 := by
  intro SX SM H locs hRR hP hS
  obtain ⟨η, gn, hR⟩ := hRR
  obtain ⟨⟨hx, hb, hr, hml, hown, hts, hX, hbl, hlocks, hgv⟩, hK, hIx, hIm, hEx, hDD, hl, hj⟩ := id B
  have hts' : ∀ w ∈ xTB, w.before #[Value.ref b] s = true := fun w hw => hts w (List.mem_filter.mp hw).1
  have hbA : ¬ (fun q : Nat => s.heap.size ≤ q) b := Nat.not_le.mpr hbl
  refine lv_aload_n hx hb dL_law_404 rfl (lv_at hl 1 rfl) ?_
  refine lw_ld hx hb hX hbl hbA hS hl rfl rfl (1 : Int32) (by decide) (hj _ (by decide)) dL_law_405 dL_law_406 dL_law_407 dL_law_408 dL_law_409 ?_
  obtain ⟨v, SX', SM', e1, e2, hR'⟩ := q_heats hR (xs (x3 + 1).toNatClampNeg)
  refine lx_i B hP hS (rest := []) (n := 1) ⟨xw_mem 624 (by decide +kernel) rfl, xw_mem 98 (by decide +kernel) rfl, xw_mem 621 (by decide +kernel) rfl, by decide +kernel⟩ (xw_mem 622 (by decide +kernel) rfl) (xw_mem 623 (by decide +kernel) rfl) [.int (xs (x3 + 1).toNatClampNeg)] (c_X11_heats (z := z) hIx e1 H.size) (by decide) rfl rfl (Nat.le_of_ble_eq_true rfl) dL_law_410 (fun H locs hP hS => ?_)
  refine lv_aload_n hx hb dL_law_413 rfl (lv_at hl 2 rfl) ?_
  refine lw_ld hx hb hX hbl hbA hS hl rfl rfl (1 : Int32) (by decide) (hj _ (by decide)) dL_law_414 dL_law_415 dL_law_416 dL_law_417 dL_law_418 ?_
  refine lm_i B hP hS (rest := [.int v]) (n := 1) ⟨xw_mem 1405 (by decide +kernel) rfl, xw_mem 110 (by decide +kernel) rfl, xw_mem 1402 (by decide +kernel) rfl, by decide +kernel⟩ (xw_mem 1403 (by decide +kernel) rfl) (xw_mem 1404 (by decide +kernel) rfl) [.int (xs (x3 + 1).toNatClampNeg)] (c_X12_heats (z := z) hIm e2 H.size) (by decide) rfl rfl (Nat.le_of_ble_eq_true rfl) dL_law_419 (fun H locs hP hS => ?_)
  refine lv_icmp_eq (tgt := 1484) hx hb dL_law_422 (by decide) (fun _ => ?_) (fun cq => absurd rfl cq)
  exact kk _ _ _ _ hR' hP hS
theorem dL_law_427 : decode cL_law 427 = .ok (.aload_n 1, 1) := by decide +kernel
theorem dL_law_428 : decode cL_law 428 = .ok (.aload_n 0, 1) := by decide +kernel
theorem dL_law_429 : decode cL_law 429 = .ok (.iload_n 3, 1) := by decide +kernel
theorem dL_law_430 : decode cL_law 430 = .ok (.iconst 1, 1) := by decide +kernel
theorem dL_law_431 : decode cL_law 431 = .ok (.iadd, 1) := by decide +kernel
theorem dL_law_432 : decode cL_law 432 = .ok (.iaload, 1) := by decide +kernel
theorem dL_law_433 : decode cL_law 433 = .ok (.aload_n 0, 1) := by decide +kernel
theorem dL_law_434 : decode cL_law 434 = .ok (.iload_n 3, 1) := by decide +kernel
theorem dL_law_435 : decode cL_law 435 = .ok (.iconst 2, 1) := by decide +kernel
theorem dL_law_436 : decode cL_law 436 = .ok (.iadd, 1) := by decide +kernel
theorem dL_law_437 : decode cL_law 437 = .ok (.iaload, 1) := by decide +kernel
theorem dL_law_438 : decode cL_law 438 = .ok (.aload_n 0, 1) := by decide +kernel
theorem dL_law_439 : decode cL_law 439 = .ok (.iload_n 3, 1) := by decide +kernel
theorem dL_law_440 : decode cL_law 440 = .ok (.iconst 3, 1) := by decide +kernel
theorem dL_law_441 : decode cL_law 441 = .ok (.iadd, 1) := by decide +kernel
theorem dL_law_442 : decode cL_law 442 = .ok (.iaload, 1) := by decide +kernel
theorem dL_law_443 : decode cL_law 443 = .ok (.invokevirtual 45, 3) := by decide +kernel
theorem dL_law_446 : decode cL_law 446 = .ok (.aload_n 2, 1) := by decide +kernel
theorem dL_law_447 : decode cL_law 447 = .ok (.aload_n 0, 1) := by decide +kernel
theorem dL_law_448 : decode cL_law 448 = .ok (.iload_n 3, 1) := by decide +kernel
theorem dL_law_449 : decode cL_law 449 = .ok (.iconst 1, 1) := by decide +kernel
theorem dL_law_450 : decode cL_law 450 = .ok (.iadd, 1) := by decide +kernel
theorem dL_law_451 : decode cL_law 451 = .ok (.iaload, 1) := by decide +kernel
theorem dL_law_452 : decode cL_law 452 = .ok (.aload_n 0, 1) := by decide +kernel
theorem dL_law_453 : decode cL_law 453 = .ok (.iload_n 3, 1) := by decide +kernel
theorem dL_law_454 : decode cL_law 454 = .ok (.iconst 2, 1) := by decide +kernel
theorem dL_law_455 : decode cL_law 455 = .ok (.iadd, 1) := by decide +kernel
theorem dL_law_456 : decode cL_law 456 = .ok (.iaload, 1) := by decide +kernel
theorem dL_law_457 : decode cL_law 457 = .ok (.aload_n 0, 1) := by decide +kernel
theorem dL_law_458 : decode cL_law 458 = .ok (.iload_n 3, 1) := by decide +kernel
theorem dL_law_459 : decode cL_law 459 = .ok (.iconst 3, 1) := by decide +kernel
theorem dL_law_460 : decode cL_law 460 = .ok (.iadd, 1) := by decide +kernel
theorem dL_law_461 : decode cL_law 461 = .ok (.iaload, 1) := by decide +kernel
theorem dL_law_462 : decode cL_law 462 = .ok (.invokevirtual 48, 3) := by decide +kernel
theorem dL_law_465 : decode cL_law 465 = .ok (.if_icmp .eq 1019, 3) := by decide +kernel
set_option maxHeartbeats 4000000 in
set_option maxRecDepth 100000 in
/-- later -/
theorem lc_7 {p : Program} {l : Launch} {e : Env} {s : State} {m : MethodId} {below : List Frame} {meth : Method} {c : Code} {b L : Nat} {xs : Nat → Int32} {D : va_G} {cy : Nat → ClassId} {z a a' : Nat → Nat} {ls : Array Slot} {x3 : Int32} {Q : State → Prop} (B : lwB p s m meth c b L xs D cy z a a' ls x3) (kk : lwC p l e s m below meth c b D cy a a' ls Q 1484) : lwC p l e s m below meth c b D cy a a' ls Q 427 := by
  intro SX SM H locs hRR hP hS
  obtain ⟨η, gn, hR⟩ := hRR
  obtain ⟨⟨hx, hb, hr, hml, hown, hts, hX, hbl, hlocks, hgv⟩, hK, hIx, hIm, hEx, hDD, hl, hj⟩ := id B
  have hts' : ∀ w ∈ xTB, w.before #[Value.ref b] s = true := fun w hw => hts w (List.mem_filter.mp hw).1
  have hbA : ¬ (fun q : Nat => s.heap.size ≤ q) b := Nat.not_le.mpr hbl
  refine lv_aload_n hx hb dL_law_427 rfl (lv_at hl 1 rfl) ?_
  refine lw_ld hx hb hX hbl hbA hS hl rfl rfl (1 : Int32) (by decide) (hj _ (by decide)) dL_law_428 dL_law_429 dL_law_430 dL_law_431 dL_law_432 ?_
  refine lw_ld hx hb hX hbl hbA hS hl rfl rfl (2 : Int32) (by decide) (hj _ (by decide)) dL_law_433 dL_law_434 dL_law_435 dL_law_436 dL_law_437 ?_
  refine lw_ld hx hb hX hbl hbA hS hl rfl rfl (3 : Int32) (by decide) (hj _ (by decide)) dL_law_438 dL_law_439 dL_law_440 dL_law_441 dL_law_442 ?_
  obtain ⟨v, SX', SM', e1, e2, hR'⟩ := q_later hR (xs (x3 + 1).toNatClampNeg) (xs (x3 + 2).toNatClampNeg) (xs (x3 + 3).toNatClampNeg)
  refine lx_i B hP hS (rest := []) (n := 3) ⟨xw_mem 663 (by decide +kernel) rfl, xw_mem 98 (by decide +kernel) rfl, xw_mem 660 (by decide +kernel) rfl, by decide +kernel⟩ (xw_mem 661 (by decide +kernel) rfl) (xw_mem 662 (by decide +kernel) rfl) [.int (xs (x3 + 1).toNatClampNeg), .int (xs (x3 + 2).toNatClampNeg), .int (xs (x3 + 3).toNatClampNeg)] (c_X11_later (z := z) hIx e1 H.size) (by decide) rfl rfl (Nat.le_of_ble_eq_true rfl) dL_law_443 (fun H locs hP hS => ?_)
  refine lv_aload_n hx hb dL_law_446 rfl (lv_at hl 2 rfl) ?_
  refine lw_ld hx hb hX hbl hbA hS hl rfl rfl (1 : Int32) (by decide) (hj _ (by decide)) dL_law_447 dL_law_448 dL_law_449 dL_law_450 dL_law_451 ?_
  refine lw_ld hx hb hX hbl hbA hS hl rfl rfl (2 : Int32) (by decide) (hj _ (by decide)) dL_law_452 dL_law_453 dL_law_454 dL_law_455 dL_law_456 ?_
  refine lw_ld hx hb hX hbl hbA hS hl rfl rfl (3 : Int32) (by decide) (hj _ (by decide)) dL_law_457 dL_law_458 dL_law_459 dL_law_460 dL_law_461 ?_
  refine lm_i B hP hS (rest := [.int v]) (n := 3) ⟨xw_mem 1445 (by decide +kernel) rfl, xw_mem 110 (by decide +kernel) rfl, xw_mem 1442 (by decide +kernel) rfl, by decide +kernel⟩ (xw_mem 1443 (by decide +kernel) rfl) (xw_mem 1444 (by decide +kernel) rfl) [.int (xs (x3 + 1).toNatClampNeg), .int (xs (x3 + 2).toNatClampNeg), .int (xs (x3 + 3).toNatClampNeg)] (c_X12_later (z := z) hIm e2 H.size) (by decide) rfl rfl (Nat.le_of_ble_eq_true rfl) dL_law_462 (fun H locs hP hS => ?_)
  refine lv_icmp_eq (tgt := 1484) hx hb dL_law_465 (by decide) (fun _ => ?_) (fun cq => absurd rfl cq)
  exact kk _ _ _ _ hR' hP hS
theorem dL_law_470 : decode cL_law 470 = .ok (.aload_n 1, 1) := by decide +kernel
theorem dL_law_471 : decode cL_law 471 = .ok (.aload_n 0, 1) := by decide +kernel
theorem dL_law_472 : decode cL_law 472 = .ok (.iload_n 3, 1) := by decide +kernel
theorem dL_law_473 : decode cL_law 473 = .ok (.iconst 1, 1) := by decide +kernel
theorem dL_law_474 : decode cL_law 474 = .ok (.iadd, 1) := by decide +kernel
theorem dL_law_475 : decode cL_law 475 = .ok (.iaload, 1) := by decide +kernel
theorem dL_law_476 : decode cL_law 476 = .ok (.aload_n 0, 1) := by decide +kernel
theorem dL_law_477 : decode cL_law 477 = .ok (.iload_n 3, 1) := by decide +kernel
theorem dL_law_478 : decode cL_law 478 = .ok (.iconst 2, 1) := by decide +kernel
theorem dL_law_479 : decode cL_law 479 = .ok (.iadd, 1) := by decide +kernel
theorem dL_law_480 : decode cL_law 480 = .ok (.iaload, 1) := by decide +kernel
theorem dL_law_481 : decode cL_law 481 = .ok (.invokevirtual 49, 3) := by decide +kernel
theorem dL_law_484 : decode cL_law 484 = .ok (.aload_n 2, 1) := by decide +kernel
theorem dL_law_485 : decode cL_law 485 = .ok (.aload_n 0, 1) := by decide +kernel
theorem dL_law_486 : decode cL_law 486 = .ok (.iload_n 3, 1) := by decide +kernel
theorem dL_law_487 : decode cL_law 487 = .ok (.iconst 1, 1) := by decide +kernel
theorem dL_law_488 : decode cL_law 488 = .ok (.iadd, 1) := by decide +kernel
theorem dL_law_489 : decode cL_law 489 = .ok (.iaload, 1) := by decide +kernel
theorem dL_law_490 : decode cL_law 490 = .ok (.aload_n 0, 1) := by decide +kernel
theorem dL_law_491 : decode cL_law 491 = .ok (.iload_n 3, 1) := by decide +kernel
theorem dL_law_492 : decode cL_law 492 = .ok (.iconst 2, 1) := by decide +kernel
theorem dL_law_493 : decode cL_law 493 = .ok (.iadd, 1) := by decide +kernel
theorem dL_law_494 : decode cL_law 494 = .ok (.iaload, 1) := by decide +kernel
theorem dL_law_495 : decode cL_law 495 = .ok (.invokevirtual 52, 3) := by decide +kernel
theorem dL_law_498 : decode cL_law 498 = .ok (.if_icmp .eq 986, 3) := by decide +kernel
set_option maxHeartbeats 4000000 in
set_option maxRecDepth 100000 in
/-- stack -/
theorem lc_8 {p : Program} {l : Launch} {e : Env} {s : State} {m : MethodId} {below : List Frame} {meth : Method} {c : Code} {b L : Nat} {xs : Nat → Int32} {D : va_G} {cy : Nat → ClassId} {z a a' : Nat → Nat} {ls : Array Slot} {x3 : Int32} {Q : State → Prop} (B : lwB p s m meth c b L xs D cy z a a' ls x3) (kk : lwC p l e s m below meth c b D cy a a' ls Q 1484) : lwC p l e s m below meth c b D cy a a' ls Q 470 := by
  intro SX SM H locs hRR hP hS
  obtain ⟨η, gn, hR⟩ := hRR
  obtain ⟨⟨hx, hb, hr, hml, hown, hts, hX, hbl, hlocks, hgv⟩, hK, hIx, hIm, hEx, hDD, hl, hj⟩ := id B
  have hts' : ∀ w ∈ xTB, w.before #[Value.ref b] s = true := fun w hw => hts w (List.mem_filter.mp hw).1
  have hbA : ¬ (fun q : Nat => s.heap.size ≤ q) b := Nat.not_le.mpr hbl
  refine lv_aload_n hx hb dL_law_470 rfl (lv_at hl 1 rfl) ?_
  refine lw_ld hx hb hX hbl hbA hS hl rfl rfl (1 : Int32) (by decide) (hj _ (by decide)) dL_law_471 dL_law_472 dL_law_473 dL_law_474 dL_law_475 ?_
  refine lw_ld hx hb hX hbl hbA hS hl rfl rfl (2 : Int32) (by decide) (hj _ (by decide)) dL_law_476 dL_law_477 dL_law_478 dL_law_479 dL_law_480 ?_
  obtain ⟨v, SX', SM', e1, e2, hR'⟩ := q_stack hR (xs (x3 + 1).toNatClampNeg) (xs (x3 + 2).toNatClampNeg)
  refine lx_i B hP hS (rest := []) (n := 2) ⟨xw_mem 693 (by decide +kernel) rfl, xw_mem 98 (by decide +kernel) rfl, xw_mem 690 (by decide +kernel) rfl, by decide +kernel⟩ (xw_mem 691 (by decide +kernel) rfl) (xw_mem 692 (by decide +kernel) rfl) [.int (xs (x3 + 1).toNatClampNeg), .int (xs (x3 + 2).toNatClampNeg)] (c_X11_stack (z := z) hIx e1 H.size) (by decide) rfl rfl (Nat.le_of_ble_eq_true rfl) dL_law_481 (fun H locs hP hS => ?_)
  refine lv_aload_n hx hb dL_law_484 rfl (lv_at hl 2 rfl) ?_
  refine lw_ld hx hb hX hbl hbA hS hl rfl rfl (1 : Int32) (by decide) (hj _ (by decide)) dL_law_485 dL_law_486 dL_law_487 dL_law_488 dL_law_489 ?_
  refine lw_ld hx hb hX hbl hbA hS hl rfl rfl (2 : Int32) (by decide) (hj _ (by decide)) dL_law_490 dL_law_491 dL_law_492 dL_law_493 dL_law_494 ?_
  refine lm_i B hP hS (rest := [.int v]) (n := 2) ⟨xw_mem 1464 (by decide +kernel) rfl, xw_mem 110 (by decide +kernel) rfl, xw_mem 1461 (by decide +kernel) rfl, by decide +kernel⟩ (xw_mem 1462 (by decide +kernel) rfl) (xw_mem 1463 (by decide +kernel) rfl) [.int (xs (x3 + 1).toNatClampNeg), .int (xs (x3 + 2).toNatClampNeg)] (c_X12_stack (z := z) hIm e2 H.size) (by decide) rfl rfl (Nat.le_of_ble_eq_true rfl) dL_law_495 (fun H locs hP hS => ?_)
  refine lv_icmp_eq (tgt := 1484) hx hb dL_law_498 (by decide) (fun _ => ?_) (fun cq => absurd rfl cq)
  exact kk _ _ _ _ hR' hP hS
theorem dL_law_503 : decode cL_law 503 = .ok (.aload_n 1, 1) := by decide +kernel
theorem dL_law_504 : decode cL_law 504 = .ok (.aload_n 0, 1) := by decide +kernel
theorem dL_law_505 : decode cL_law 505 = .ok (.iload_n 3, 1) := by decide +kernel
theorem dL_law_506 : decode cL_law 506 = .ok (.iconst 1, 1) := by decide +kernel
theorem dL_law_507 : decode cL_law 507 = .ok (.iadd, 1) := by decide +kernel
theorem dL_law_508 : decode cL_law 508 = .ok (.iaload, 1) := by decide +kernel
theorem dL_law_509 : decode cL_law 509 = .ok (.aload_n 0, 1) := by decide +kernel
theorem dL_law_510 : decode cL_law 510 = .ok (.iload_n 3, 1) := by decide +kernel
theorem dL_law_511 : decode cL_law 511 = .ok (.iconst 2, 1) := by decide +kernel
theorem dL_law_512 : decode cL_law 512 = .ok (.iadd, 1) := by decide +kernel
theorem dL_law_513 : decode cL_law 513 = .ok (.iaload, 1) := by decide +kernel
theorem dL_law_514 : decode cL_law 514 = .ok (.invokevirtual 53, 3) := by decide +kernel
theorem dL_law_517 : decode cL_law 517 = .ok (.aload_n 2, 1) := by decide +kernel
theorem dL_law_518 : decode cL_law 518 = .ok (.aload_n 0, 1) := by decide +kernel
theorem dL_law_519 : decode cL_law 519 = .ok (.iload_n 3, 1) := by decide +kernel
theorem dL_law_520 : decode cL_law 520 = .ok (.iconst 1, 1) := by decide +kernel
theorem dL_law_521 : decode cL_law 521 = .ok (.iadd, 1) := by decide +kernel
theorem dL_law_522 : decode cL_law 522 = .ok (.iaload, 1) := by decide +kernel
theorem dL_law_523 : decode cL_law 523 = .ok (.aload_n 0, 1) := by decide +kernel
theorem dL_law_524 : decode cL_law 524 = .ok (.iload_n 3, 1) := by decide +kernel
theorem dL_law_525 : decode cL_law 525 = .ok (.iconst 2, 1) := by decide +kernel
theorem dL_law_526 : decode cL_law 526 = .ok (.iadd, 1) := by decide +kernel
theorem dL_law_527 : decode cL_law 527 = .ok (.iaload, 1) := by decide +kernel
theorem dL_law_528 : decode cL_law 528 = .ok (.invokevirtual 56, 3) := by decide +kernel
theorem dL_law_531 : decode cL_law 531 = .ok (.if_icmp .eq 953, 3) := by decide +kernel
set_option maxHeartbeats 4000000 in
set_option maxRecDepth 100000 in
/-- first -/
theorem lc_9 {p : Program} {l : Launch} {e : Env} {s : State} {m : MethodId} {below : List Frame} {meth : Method} {c : Code} {b L : Nat} {xs : Nat → Int32} {D : va_G} {cy : Nat → ClassId} {z a a' : Nat → Nat} {ls : Array Slot} {x3 : Int32} {Q : State → Prop} (B : lwB p s m meth c b L xs D cy z a a' ls x3) (kk : lwC p l e s m below meth c b D cy a a' ls Q 1484) : lwC p l e s m below meth c b D cy a a' ls Q 503 := by
  intro SX SM H locs hRR hP hS
  obtain ⟨η, gn, hR⟩ := hRR
  obtain ⟨⟨hx, hb, hr, hml, hown, hts, hX, hbl, hlocks, hgv⟩, hK, hIx, hIm, hEx, hDD, hl, hj⟩ := id B
  have hts' : ∀ w ∈ xTB, w.before #[Value.ref b] s = true := fun w hw => hts w (List.mem_filter.mp hw).1
  have hbA : ¬ (fun q : Nat => s.heap.size ≤ q) b := Nat.not_le.mpr hbl
  refine lv_aload_n hx hb dL_law_503 rfl (lv_at hl 1 rfl) ?_
  refine lw_ld hx hb hX hbl hbA hS hl rfl rfl (1 : Int32) (by decide) (hj _ (by decide)) dL_law_504 dL_law_505 dL_law_506 dL_law_507 dL_law_508 ?_
  refine lw_ld hx hb hX hbl hbA hS hl rfl rfl (2 : Int32) (by decide) (hj _ (by decide)) dL_law_509 dL_law_510 dL_law_511 dL_law_512 dL_law_513 ?_
  obtain ⟨v, SX', SM', e1, e2, hR'⟩ := q_first hR (xs (x3 + 1).toNatClampNeg) (xs (x3 + 2).toNatClampNeg)
  refine lx_i B hP hS (rest := []) (n := 2) ⟨xw_mem 714 (by decide +kernel) rfl, xw_mem 98 (by decide +kernel) rfl, xw_mem 711 (by decide +kernel) rfl, by decide +kernel⟩ (xw_mem 712 (by decide +kernel) rfl) (xw_mem 713 (by decide +kernel) rfl) [.int (xs (x3 + 1).toNatClampNeg), .int (xs (x3 + 2).toNatClampNeg)] (c_X11_first (z := z) hIx e1 H.size) (by decide) rfl rfl (Nat.le_of_ble_eq_true rfl) dL_law_514 (fun H locs hP hS => ?_)
  refine lv_aload_n hx hb dL_law_517 rfl (lv_at hl 2 rfl) ?_
  refine lw_ld hx hb hX hbl hbA hS hl rfl rfl (1 : Int32) (by decide) (hj _ (by decide)) dL_law_518 dL_law_519 dL_law_520 dL_law_521 dL_law_522 ?_
  refine lw_ld hx hb hX hbl hbA hS hl rfl rfl (2 : Int32) (by decide) (hj _ (by decide)) dL_law_523 dL_law_524 dL_law_525 dL_law_526 dL_law_527 ?_
  refine lm_i B hP hS (rest := [.int v]) (n := 2) ⟨xw_mem 1484 (by decide +kernel) rfl, xw_mem 110 (by decide +kernel) rfl, xw_mem 1481 (by decide +kernel) rfl, by decide +kernel⟩ (xw_mem 1482 (by decide +kernel) rfl) (xw_mem 1483 (by decide +kernel) rfl) [.int (xs (x3 + 1).toNatClampNeg), .int (xs (x3 + 2).toNatClampNeg)] (c_X12_first (z := z) hIm e2 H.size) (by decide) rfl rfl (Nat.le_of_ble_eq_true rfl) dL_law_528 (fun H locs hP hS => ?_)
  refine lv_icmp_eq (tgt := 1484) hx hb dL_law_531 (by decide) (fun _ => ?_) (fun cq => absurd rfl cq)
  exact kk _ _ _ _ hR' hP hS
theorem dL_law_536 : decode cL_law 536 = .ok (.aload_n 1, 1) := by decide +kernel
theorem dL_law_537 : decode cL_law 537 = .ok (.aload_n 0, 1) := by decide +kernel
theorem dL_law_538 : decode cL_law 538 = .ok (.iload_n 3, 1) := by decide +kernel
theorem dL_law_539 : decode cL_law 539 = .ok (.iconst 1, 1) := by decide +kernel
theorem dL_law_540 : decode cL_law 540 = .ok (.iadd, 1) := by decide +kernel
theorem dL_law_541 : decode cL_law 541 = .ok (.iaload, 1) := by decide +kernel
theorem dL_law_542 : decode cL_law 542 = .ok (.invokevirtual 57, 3) := by decide +kernel
theorem dL_law_545 : decode cL_law 545 = .ok (.aload_n 2, 1) := by decide +kernel
theorem dL_law_546 : decode cL_law 546 = .ok (.aload_n 0, 1) := by decide +kernel
theorem dL_law_547 : decode cL_law 547 = .ok (.iload_n 3, 1) := by decide +kernel
theorem dL_law_548 : decode cL_law 548 = .ok (.iconst 1, 1) := by decide +kernel
theorem dL_law_549 : decode cL_law 549 = .ok (.iadd, 1) := by decide +kernel
theorem dL_law_550 : decode cL_law 550 = .ok (.iaload, 1) := by decide +kernel
theorem dL_law_551 : decode cL_law 551 = .ok (.invokevirtual 60, 3) := by decide +kernel
theorem dL_law_554 : decode cL_law 554 = .ok (.if_icmp .eq 930, 3) := by decide +kernel
set_option maxHeartbeats 4000000 in
set_option maxRecDepth 100000 in
/-- rods -/
theorem lc_10 {p : Program} {l : Launch} {e : Env} {s : State} {m : MethodId} {below : List Frame} {meth : Method} {c : Code} {b L : Nat} {xs : Nat → Int32} {D : va_G} {cy : Nat → ClassId} {z a a' : Nat → Nat} {ls : Array Slot} {x3 : Int32} {Q : State → Prop} (B : lwB p s m meth c b L xs D cy z a a' ls x3) (kk : lwC p l e s m below meth c b D cy a a' ls Q 1484) : lwC p l e s m below meth c b D cy a a' ls Q 536 := by
  intro SX SM H locs hRR hP hS
  obtain ⟨η, gn, hR⟩ := hRR
  obtain ⟨⟨hx, hb, hr, hml, hown, hts, hX, hbl, hlocks, hgv⟩, hK, hIx, hIm, hEx, hDD, hl, hj⟩ := id B
  have hts' : ∀ w ∈ xTB, w.before #[Value.ref b] s = true := fun w hw => hts w (List.mem_filter.mp hw).1
  have hbA : ¬ (fun q : Nat => s.heap.size ≤ q) b := Nat.not_le.mpr hbl
  refine lv_aload_n hx hb dL_law_536 rfl (lv_at hl 1 rfl) ?_
  refine lw_ld hx hb hX hbl hbA hS hl rfl rfl (1 : Int32) (by decide) (hj _ (by decide)) dL_law_537 dL_law_538 dL_law_539 dL_law_540 dL_law_541 ?_
  obtain ⟨v, SX', SM', e1, e2, hR'⟩ := q_rods hR (xs (x3 + 1).toNatClampNeg)
  refine lx_i B hP hS (rest := []) (n := 1) ⟨xw_mem 723 (by decide +kernel) rfl, xw_mem 98 (by decide +kernel) rfl, xw_mem 720 (by decide +kernel) rfl, by decide +kernel⟩ (xw_mem 721 (by decide +kernel) rfl) (xw_mem 722 (by decide +kernel) rfl) [.int (xs (x3 + 1).toNatClampNeg)] (c_X11_rods (z := z) hIx e1 H.size) (by decide) rfl rfl (Nat.le_of_ble_eq_true rfl) dL_law_542 (fun H locs hP hS => ?_)
  refine lv_aload_n hx hb dL_law_545 rfl (lv_at hl 2 rfl) ?_
  refine lw_ld hx hb hX hbl hbA hS hl rfl rfl (1 : Int32) (by decide) (hj _ (by decide)) dL_law_546 dL_law_547 dL_law_548 dL_law_549 dL_law_550 ?_
  refine lm_i B hP hS (rest := [.int v]) (n := 1) ⟨xw_mem 1488 (by decide +kernel) rfl, xw_mem 110 (by decide +kernel) rfl, xw_mem 1485 (by decide +kernel) rfl, by decide +kernel⟩ (xw_mem 1486 (by decide +kernel) rfl) (xw_mem 1487 (by decide +kernel) rfl) [.int (xs (x3 + 1).toNatClampNeg)] (c_X12_rods (z := z) hIm e2 H.size) (by decide) rfl rfl (Nat.le_of_ble_eq_true rfl) dL_law_551 (fun H locs hP hS => ?_)
  refine lv_icmp_eq (tgt := 1484) hx hb dL_law_554 (by decide) (fun _ => ?_) (fun cq => absurd rfl cq)
  exact kk _ _ _ _ hR' hP hS
theorem dL_law_559 : decode cL_law 559 = .ok (.aload_n 1, 1) := by decide +kernel
theorem dL_law_560 : decode cL_law 560 = .ok (.aload_n 0, 1) := by decide +kernel
theorem dL_law_561 : decode cL_law 561 = .ok (.iload_n 3, 1) := by decide +kernel
theorem dL_law_562 : decode cL_law 562 = .ok (.iconst 1, 1) := by decide +kernel
theorem dL_law_563 : decode cL_law 563 = .ok (.iadd, 1) := by decide +kernel
theorem dL_law_564 : decode cL_law 564 = .ok (.iaload, 1) := by decide +kernel
theorem dL_law_565 : decode cL_law 565 = .ok (.invokevirtual 61, 3) := by decide +kernel
theorem dL_law_568 : decode cL_law 568 = .ok (.aload_n 2, 1) := by decide +kernel
theorem dL_law_569 : decode cL_law 569 = .ok (.aload_n 0, 1) := by decide +kernel
theorem dL_law_570 : decode cL_law 570 = .ok (.iload_n 3, 1) := by decide +kernel
theorem dL_law_571 : decode cL_law 571 = .ok (.iconst 1, 1) := by decide +kernel
theorem dL_law_572 : decode cL_law 572 = .ok (.iadd, 1) := by decide +kernel
theorem dL_law_573 : decode cL_law 573 = .ok (.iaload, 1) := by decide +kernel
theorem dL_law_574 : decode cL_law 574 = .ok (.invokevirtual 65, 3) := by decide +kernel
theorem dL_law_577 : decode cL_law 577 = .ok (.lcmp, 1) := by decide +kernel
theorem dL_law_578 : decode cL_law 578 = .ok (.ifCond .eq 906, 3) := by decide +kernel
set_option maxHeartbeats 4000000 in
set_option maxRecDepth 100000 in
/-- rodsAt -/
theorem lc_11 {p : Program} {l : Launch} {e : Env} {s : State} {m : MethodId} {below : List Frame} {meth : Method} {c : Code} {b L : Nat} {xs : Nat → Int32} {D : va_G} {cy : Nat → ClassId} {z a a' : Nat → Nat} {ls : Array Slot} {x3 : Int32} {Q : State → Prop} (B : lwB p s m meth c b L xs D cy z a a' ls x3) (kk : lwC p l e s m below meth c b D cy a a' ls Q 1484) : lwC p l e s m below meth c b D cy a a' ls Q 559 := by
  intro SX SM H locs hRR hP hS
  obtain ⟨η, gn, hR⟩ := hRR
  obtain ⟨⟨hx, hb, hr, hml, hown, hts, hX, hbl, hlocks, hgv⟩, hK, hIx, hIm, hEx, hDD, hl, hj⟩ := id B
  have hts' : ∀ w ∈ xTB, w.before #[Value.ref b] s = true := fun w hw => hts w (List.mem_filter.mp hw).1
  have hbA : ¬ (fun q : Nat => s.heap.size ≤ q) b := Nat.not_le.mpr hbl
  refine lv_aload_n hx hb dL_law_559 rfl (lv_at hl 1 rfl) ?_
  refine lw_ld hx hb hX hbl hbA hS hl rfl rfl (1 : Int32) (by decide) (hj _ (by decide)) dL_law_560 dL_law_561 dL_law_562 dL_law_563 dL_law_564 ?_
  obtain ⟨v, SX', SM', e1, e2, hR'⟩ := q_rodsAt hR (xs (x3 + 1).toNatClampNeg)
  refine lx_l B hP hS (rest := []) (n := 1) ⟨xw_mem 749 (by decide +kernel) rfl, xw_mem 98 (by decide +kernel) rfl, xw_mem 746 (by decide +kernel) rfl, by decide +kernel⟩ (xw_mem 747 (by decide +kernel) rfl) (xw_mem 748 (by decide +kernel) rfl) [.int (xs (x3 + 1).toNatClampNeg)] (c_X11_rodsAt (z := z) hIx e1 H.size) (by decide) rfl rfl (Nat.le_of_ble_eq_true rfl) dL_law_565 (fun H locs hP hS => ?_)
  refine lv_aload_n hx hb dL_law_568 rfl (lv_at hl 2 rfl) ?_
  refine lw_ld hx hb hX hbl hbA hS hl rfl rfl (1 : Int32) (by decide) (hj _ (by decide)) dL_law_569 dL_law_570 dL_law_571 dL_law_572 dL_law_573 ?_
  refine lm_l B hP hS (rest := [.long v]) (n := 1) ⟨xw_mem 1505 (by decide +kernel) rfl, xw_mem 110 (by decide +kernel) rfl, xw_mem 1502 (by decide +kernel) rfl, by decide +kernel⟩ (xw_mem 1503 (by decide +kernel) rfl) (xw_mem 1504 (by decide +kernel) rfl) [.int (xs (x3 + 1).toNatClampNeg)] (c_X12_rodsAt (z := z) hIm e2 H.size) (by decide) rfl rfl (Nat.le_of_ble_eq_true rfl) dL_law_574 (fun H locs hP hS => ?_)
  refine W.lcmp hx hb dL_law_577 ?_
  rw [lcmp_self]
  refine lv_if_eq (tgt := 1484) hx hb dL_law_578 (by decide) (fun _ => ?_) (fun cq => absurd rfl cq)
  exact kk _ _ _ _ hR' hP hS
