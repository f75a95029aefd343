theorem dL_law_447 : decode cL_law 447 = .ok (.aload_n 1, 1) := dc1_43 (by decide +kernel)
theorem dL_law_448 : decode cL_law 448 = .ok (.aload_n 0, 1) := dc1_42 (by decide +kernel)
theorem dL_law_449 : decode cL_law 449 = .ok (.iload_n 3, 1) := dc1_29 (by decide +kernel)
theorem dL_law_450 : decode cL_law 450 = .ok (.iconst 1, 1) := dc1_4 (by decide +kernel)
theorem dL_law_451 : decode cL_law 451 = .ok (.iadd, 1) := dc1_96 (by decide +kernel)
theorem dL_law_452 : decode cL_law 452 = .ok (.iaload, 1) := dc1_46 (by decide +kernel)
theorem dL_law_453 : decode cL_law 453 = .ok (.aload_n 0, 1) := dc1_42 (by decide +kernel)
theorem dL_law_454 : decode cL_law 454 = .ok (.iload_n 3, 1) := dc1_29 (by decide +kernel)
theorem dL_law_455 : decode cL_law 455 = .ok (.iconst 2, 1) := dc1_5 (by decide +kernel)
theorem dL_law_456 : decode cL_law 456 = .ok (.iadd, 1) := dc1_96 (by decide +kernel)
theorem dL_law_457 : decode cL_law 457 = .ok (.iaload, 1) := dc1_46 (by decide +kernel)
theorem dL_law_458 : decode cL_law 458 = .ok (.aload_n 0, 1) := dc1_42 (by decide +kernel)
theorem dL_law_459 : decode cL_law 459 = .ok (.iload_n 3, 1) := dc1_29 (by decide +kernel)
theorem dL_law_460 : decode cL_law 460 = .ok (.iconst 3, 1) := dc1_6 (by decide +kernel)
theorem dL_law_461 : decode cL_law 461 = .ok (.iadd, 1) := dc1_96 (by decide +kernel)
theorem dL_law_462 : decode cL_law 462 = .ok (.iaload, 1) := dc1_46 (by decide +kernel)
theorem dL_law_463 : decode cL_law 463 = .ok (.invokevirtual 45, 3) := dcw_182 (by decide +kernel)
theorem dL_law_466 : decode cL_law 466 = .ok (.pop, 1) := dc1_87 (by decide +kernel)
theorem dL_law_467 : decode cL_law 467 = .ok (.aload_n 2, 1) := dc1_44 (by decide +kernel)
theorem dL_law_468 : decode cL_law 468 = .ok (.aload_n 0, 1) := dc1_42 (by decide +kernel)
theorem dL_law_469 : decode cL_law 469 = .ok (.iload_n 3, 1) := dc1_29 (by decide +kernel)
theorem dL_law_470 : decode cL_law 470 = .ok (.iconst 1, 1) := dc1_4 (by decide +kernel)
theorem dL_law_471 : decode cL_law 471 = .ok (.iadd, 1) := dc1_96 (by decide +kernel)
theorem dL_law_472 : decode cL_law 472 = .ok (.iaload, 1) := dc1_46 (by decide +kernel)
theorem dL_law_473 : decode cL_law 473 = .ok (.aload_n 0, 1) := dc1_42 (by decide +kernel)
theorem dL_law_474 : decode cL_law 474 = .ok (.iload_n 3, 1) := dc1_29 (by decide +kernel)
theorem dL_law_475 : decode cL_law 475 = .ok (.iconst 2, 1) := dc1_5 (by decide +kernel)
theorem dL_law_476 : decode cL_law 476 = .ok (.iadd, 1) := dc1_96 (by decide +kernel)
theorem dL_law_477 : decode cL_law 477 = .ok (.iaload, 1) := dc1_46 (by decide +kernel)
theorem dL_law_478 : decode cL_law 478 = .ok (.aload_n 0, 1) := dc1_42 (by decide +kernel)
theorem dL_law_479 : decode cL_law 479 = .ok (.iload_n 3, 1) := dc1_29 (by decide +kernel)
theorem dL_law_480 : decode cL_law 480 = .ok (.iconst 3, 1) := dc1_6 (by decide +kernel)
theorem dL_law_481 : decode cL_law 481 = .ok (.iadd, 1) := dc1_96 (by decide +kernel)
theorem dL_law_482 : decode cL_law 482 = .ok (.iaload, 1) := dc1_46 (by decide +kernel)
theorem dL_law_483 : decode cL_law 483 = .ok (.invokevirtual 49, 3) := dcw_182 (by decide +kernel)
theorem dL_law_486 : decode cL_law 486 = .ok (.pop, 1) := dc1_87 (by decide +kernel)
theorem dL_law_487 : decode cL_law 487 = .ok (.goto 1002, 3) := dcs_167 (n := 1002) (by decide +kernel)
theorem dL_law_490 : decode cL_law 490 = .ok (.aload_n 1, 1) := dc1_43 (by decide +kernel)
theorem dL_law_491 : decode cL_law 491 = .ok (.aload_n 0, 1) := dc1_42 (by decide +kernel)
theorem dL_law_492 : decode cL_law 492 = .ok (.iload_n 3, 1) := dc1_29 (by decide +kernel)
theorem dL_law_493 : decode cL_law 493 = .ok (.iconst 1, 1) := dc1_4 (by decide +kernel)
theorem dL_law_494 : decode cL_law 494 = .ok (.iadd, 1) := dc1_96 (by decide +kernel)
theorem dL_law_495 : decode cL_law 495 = .ok (.iaload, 1) := dc1_46 (by decide +kernel)
theorem dL_law_496 : decode cL_law 496 = .ok (.aload_n 0, 1) := dc1_42 (by decide +kernel)
theorem dL_law_497 : decode cL_law 497 = .ok (.iload_n 3, 1) := dc1_29 (by decide +kernel)
theorem dL_law_498 : decode cL_law 498 = .ok (.iconst 2, 1) := dc1_5 (by decide +kernel)
theorem dL_law_499 : decode cL_law 499 = .ok (.iadd, 1) := dc1_96 (by decide +kernel)
theorem dL_law_500 : decode cL_law 500 = .ok (.iaload, 1) := dc1_46 (by decide +kernel)
theorem dL_law_501 : decode cL_law 501 = .ok (.invokevirtual 50, 3) := dcw_182 (by decide +kernel)
theorem dL_law_504 : decode cL_law 504 = .ok (.pop, 1) := dc1_87 (by decide +kernel)
theorem dL_law_505 : decode cL_law 505 = .ok (.aload_n 2, 1) := dc1_44 (by decide +kernel)
theorem dL_law_506 : decode cL_law 506 = .ok (.aload_n 0, 1) := dc1_42 (by decide +kernel)
theorem dL_law_507 : decode cL_law 507 = .ok (.iload_n 3, 1) := dc1_29 (by decide +kernel)
theorem dL_law_508 : decode cL_law 508 = .ok (.iconst 1, 1) := dc1_4 (by decide +kernel)
theorem dL_law_509 : decode cL_law 509 = .ok (.iadd, 1) := dc1_96 (by decide +kernel)
theorem dL_law_510 : decode cL_law 510 = .ok (.iaload, 1) := dc1_46 (by decide +kernel)
theorem dL_law_511 : decode cL_law 511 = .ok (.aload_n 0, 1) := dc1_42 (by decide +kernel)
theorem dL_law_512 : decode cL_law 512 = .ok (.iload_n 3, 1) := dc1_29 (by decide +kernel)
theorem dL_law_513 : decode cL_law 513 = .ok (.iconst 2, 1) := dc1_5 (by decide +kernel)
theorem dL_law_514 : decode cL_law 514 = .ok (.iadd, 1) := dc1_96 (by decide +kernel)
theorem dL_law_515 : decode cL_law 515 = .ok (.iaload, 1) := dc1_46 (by decide +kernel)
theorem dL_law_516 : decode cL_law 516 = .ok (.invokevirtual 53, 3) := dcw_182 (by decide +kernel)
theorem dL_law_519 : decode cL_law 519 = .ok (.pop, 1) := dc1_87 (by decide +kernel)
theorem dL_law_520 : decode cL_law 520 = .ok (.goto 969, 3) := dcs_167 (n := 969) (by decide +kernel)
theorem dL_law_523 : decode cL_law 523 = .ok (.aload_n 1, 1) := dc1_43 (by decide +kernel)
theorem dL_law_524 : decode cL_law 524 = .ok (.aload_n 0, 1) := dc1_42 (by decide +kernel)
theorem dL_law_525 : decode cL_law 525 = .ok (.iload_n 3, 1) := dc1_29 (by decide +kernel)
theorem dL_law_526 : decode cL_law 526 = .ok (.iconst 1, 1) := dc1_4 (by decide +kernel)
theorem dL_law_527 : decode cL_law 527 = .ok (.iadd, 1) := dc1_96 (by decide +kernel)
theorem dL_law_528 : decode cL_law 528 = .ok (.iaload, 1) := dc1_46 (by decide +kernel)
theorem dL_law_529 : decode cL_law 529 = .ok (.aload_n 0, 1) := dc1_42 (by decide +kernel)
theorem dL_law_530 : decode cL_law 530 = .ok (.iload_n 3, 1) := dc1_29 (by decide +kernel)
theorem dL_law_531 : decode cL_law 531 = .ok (.iconst 2, 1) := dc1_5 (by decide +kernel)
theorem dL_law_532 : decode cL_law 532 = .ok (.iadd, 1) := dc1_96 (by decide +kernel)
theorem dL_law_533 : decode cL_law 533 = .ok (.iaload, 1) := dc1_46 (by decide +kernel)
theorem dL_law_534 : decode cL_law 534 = .ok (.aload_n 0, 1) := dc1_42 (by decide +kernel)
theorem dL_law_535 : decode cL_law 535 = .ok (.iload_n 3, 1) := dc1_29 (by decide +kernel)
theorem dL_law_536 : decode cL_law 536 = .ok (.iconst 3, 1) := dc1_6 (by decide +kernel)
theorem dL_law_537 : decode cL_law 537 = .ok (.iadd, 1) := dc1_96 (by decide +kernel)
theorem dL_law_538 : decode cL_law 538 = .ok (.iaload, 1) := dc1_46 (by decide +kernel)
theorem dL_law_539 : decode cL_law 539 = .ok (.ifCond .eq 7, 3) := dcs_153 (n := 7) (by decide +kernel)
theorem dL_law_542 : decode cL_law 542 = .ok (.iconst 1, 1) := dc1_4 (by decide +kernel)
theorem dL_law_543 : decode cL_law 543 = .ok (.goto 4, 3) := dcs_167 (n := 4) (by decide +kernel)
theorem dL_law_546 : decode cL_law 546 = .ok (.iconst 0, 1) := dc1_3 (by decide +kernel)
theorem dL_law_547 : decode cL_law 547 = .ok (.invokevirtual 54, 3) := dcw_182 (by decide +kernel)
theorem dL_law_550 : decode cL_law 550 = .ok (.pop, 1) := dc1_87 (by decide +kernel)
theorem dL_law_551 : decode cL_law 551 = .ok (.aload_n 2, 1) := dc1_44 (by decide +kernel)
theorem dL_law_552 : decode cL_law 552 = .ok (.aload_n 0, 1) := dc1_42 (by decide +kernel)
theorem dL_law_553 : decode cL_law 553 = .ok (.iload_n 3, 1) := dc1_29 (by decide +kernel)
theorem dL_law_554 : decode cL_law 554 = .ok (.iconst 1, 1) := dc1_4 (by decide +kernel)
theorem dL_law_555 : decode cL_law 555 = .ok (.iadd, 1) := dc1_96 (by decide +kernel)
theorem dL_law_556 : decode cL_law 556 = .ok (.iaload, 1) := dc1_46 (by decide +kernel)
theorem dL_law_557 : decode cL_law 557 = .ok (.aload_n 0, 1) := dc1_42 (by decide +kernel)
theorem dL_law_558 : decode cL_law 558 = .ok (.iload_n 3, 1) := dc1_29 (by decide +kernel)
theorem dL_law_559 : decode cL_law 559 = .ok (.iconst 2, 1) := dc1_5 (by decide +kernel)
theorem dL_law_560 : decode cL_law 560 = .ok (.iadd, 1) := dc1_96 (by decide +kernel)
theorem dL_law_561 : decode cL_law 561 = .ok (.iaload, 1) := dc1_46 (by decide +kernel)
theorem dL_law_562 : decode cL_law 562 = .ok (.aload_n 0, 1) := dc1_42 (by decide +kernel)
theorem dL_law_563 : decode cL_law 563 = .ok (.iload_n 3, 1) := dc1_29 (by decide +kernel)
theorem dL_law_564 : decode cL_law 564 = .ok (.iconst 3, 1) := dc1_6 (by decide +kernel)
theorem dL_law_565 : decode cL_law 565 = .ok (.iadd, 1) := dc1_96 (by decide +kernel)
theorem dL_law_566 : decode cL_law 566 = .ok (.iaload, 1) := dc1_46 (by decide +kernel)
theorem dL_law_567 : decode cL_law 567 = .ok (.ifCond .eq 7, 3) := dcs_153 (n := 7) (by decide +kernel)
theorem dL_law_570 : decode cL_law 570 = .ok (.iconst 1, 1) := dc1_4 (by decide +kernel)
theorem dL_law_571 : decode cL_law 571 = .ok (.goto 4, 3) := dcs_167 (n := 4) (by decide +kernel)
theorem dL_law_574 : decode cL_law 574 = .ok (.iconst 0, 1) := dc1_3 (by decide +kernel)
theorem dL_law_575 : decode cL_law 575 = .ok (.invokevirtual 58, 3) := dcw_182 (by decide +kernel)
theorem dL_law_578 : decode cL_law 578 = .ok (.pop, 1) := dc1_87 (by decide +kernel)
theorem dL_law_579 : decode cL_law 579 = .ok (.goto 910, 3) := dcs_167 (n := 910) (by decide +kernel)
theorem dL_law_582 : decode cL_law 582 = .ok (.aload_n 1, 1) := dc1_43 (by decide +kernel)
theorem dL_law_583 : decode cL_law 583 = .ok (.aload_n 0, 1) := dc1_42 (by decide +kernel)
theorem dL_law_584 : decode cL_law 584 = .ok (.iload_n 3, 1) := dc1_29 (by decide +kernel)
theorem dL_law_585 : decode cL_law 585 = .ok (.iconst 1, 1) := dc1_4 (by decide +kernel)
theorem dL_law_586 : decode cL_law 586 = .ok (.iadd, 1) := dc1_96 (by decide +kernel)
theorem dL_law_587 : decode cL_law 587 = .ok (.iaload, 1) := dc1_46 (by decide +kernel)
theorem dL_law_588 : decode cL_law 588 = .ok (.invokevirtual 59, 3) := dcw_182 (by decide +kernel)
theorem dL_law_591 : decode cL_law 591 = .ok (.pop, 1) := dc1_87 (by decide +kernel)
theorem dL_law_592 : decode cL_law 592 = .ok (.aload_n 2, 1) := dc1_44 (by decide +kernel)
theorem dL_law_593 : decode cL_law 593 = .ok (.aload_n 0, 1) := dc1_42 (by decide +kernel)
theorem dL_law_594 : decode cL_law 594 = .ok (.iload_n 3, 1) := dc1_29 (by decide +kernel)
theorem dL_law_595 : decode cL_law 595 = .ok (.iconst 1, 1) := dc1_4 (by decide +kernel)
theorem dL_law_596 : decode cL_law 596 = .ok (.iadd, 1) := dc1_96 (by decide +kernel)
theorem dL_law_597 : decode cL_law 597 = .ok (.iaload, 1) := dc1_46 (by decide +kernel)
theorem dL_law_598 : decode cL_law 598 = .ok (.invokevirtual 63, 3) := dcw_182 (by decide +kernel)
theorem dL_law_601 : decode cL_law 601 = .ok (.pop, 1) := dc1_87 (by decide +kernel)
theorem dL_law_602 : decode cL_law 602 = .ok (.goto 887, 3) := dcs_167 (n := 887) (by decide +kernel)
theorem dL_law_605 : decode cL_law 605 = .ok (.aload_n 1, 1) := dc1_43 (by decide +kernel)
theorem dL_law_606 : decode cL_law 606 = .ok (.aload_n 0, 1) := dc1_42 (by decide +kernel)
theorem dL_law_607 : decode cL_law 607 = .ok (.iload_n 3, 1) := dc1_29 (by decide +kernel)
theorem dL_law_608 : decode cL_law 608 = .ok (.iconst 1, 1) := dc1_4 (by decide +kernel)
theorem dL_law_609 : decode cL_law 609 = .ok (.iadd, 1) := dc1_96 (by decide +kernel)
theorem dL_law_610 : decode cL_law 610 = .ok (.iaload, 1) := dc1_46 (by decide +kernel)
theorem dL_law_611 : decode cL_law 611 = .ok (.invokevirtual 64, 3) := dcw_182 (by decide +kernel)
theorem dL_law_614 : decode cL_law 614 = .ok (.pop, 1) := dc1_87 (by decide +kernel)
theorem dL_law_615 : decode cL_law 615 = .ok (.aload_n 2, 1) := dc1_44 (by decide +kernel)
theorem dL_law_616 : decode cL_law 616 = .ok (.aload_n 0, 1) := dc1_42 (by decide +kernel)
theorem dL_law_617 : decode cL_law 617 = .ok (.iload_n 3, 1) := dc1_29 (by decide +kernel)
theorem dL_law_618 : decode cL_law 618 = .ok (.iconst 1, 1) := dc1_4 (by decide +kernel)
theorem dL_law_619 : decode cL_law 619 = .ok (.iadd, 1) := dc1_96 (by decide +kernel)
theorem dL_law_620 : decode cL_law 620 = .ok (.iaload, 1) := dc1_46 (by decide +kernel)
theorem dL_law_621 : decode cL_law 621 = .ok (.invokevirtual 67, 3) := dcw_182 (by decide +kernel)
theorem dL_law_624 : decode cL_law 624 = .ok (.pop, 1) := dc1_87 (by decide +kernel)
theorem dL_law_625 : decode cL_law 625 = .ok (.goto 864, 3) := dcs_167 (n := 864) (by decide +kernel)
theorem dL_law_628 : decode cL_law 628 = .ok (.aload_n 1, 1) := dc1_43 (by decide +kernel)
theorem dL_law_629 : decode cL_law 629 = .ok (.invokevirtual 68, 3) := dcw_182 (by decide +kernel)
theorem dL_law_632 : decode cL_law 632 = .ok (.pop, 1) := dc1_87 (by decide +kernel)
theorem dL_law_633 : decode cL_law 633 = .ok (.aload_n 2, 1) := dc1_44 (by decide +kernel)
theorem dL_law_634 : decode cL_law 634 = .ok (.invokevirtual 72, 3) := dcw_182 (by decide +kernel)
theorem dL_law_637 : decode cL_law 637 = .ok (.pop, 1) := dc1_87 (by decide +kernel)
theorem dL_law_638 : decode cL_law 638 = .ok (.goto 851, 3) := dcs_167 (n := 851) (by decide +kernel)
theorem dL_law_641 : decode cL_law 641 = .ok (.aload_n 1, 1) := dc1_43 (by decide +kernel)
theorem dL_law_642 : decode cL_law 642 = .ok (.invokevirtual 73, 3) := dcw_182 (by decide +kernel)
theorem dL_law_645 : decode cL_law 645 = .ok (.pop, 1) := dc1_87 (by decide +kernel)
theorem dL_law_646 : decode cL_law 646 = .ok (.aload_n 2, 1) := dc1_44 (by decide +kernel)
theorem dL_law_647 : decode cL_law 647 = .ok (.invokevirtual 76, 3) := dcw_182 (by decide +kernel)
theorem dL_law_650 : decode cL_law 650 = .ok (.pop, 1) := dc1_87 (by decide +kernel)
theorem dL_law_651 : decode cL_law 651 = .ok (.goto 838, 3) := dcs_167 (n := 838) (by decide +kernel)
set_option maxHeartbeats 4000000 in
set_option maxRecDepth 100000 in
theorem law_case_7 {p : Program} {e : Env} {s : State} {m : MethodId} {below : List Frame} {meth : Method} {c : Code} (l : Launch) {b L : Nat} {xs : Nat → Int32} (hL : L ≤ 3072) (C0 : lw_At p s m meth c b L xs) (dC : Nat → ClassId) (dI : Nat → Nat → Nat) (cB cI cJ cZ cS : ClassId) (hK : va_K (dC, dI) vwCl (tysA cB cI cJ cZ cS) s) (hN : nw_ok s) (ak av : Nat) (hXS : xS ak av (fun q : Nat => s.heap.size ≤ q) s s.heap) (a b1 b2 c0 : Nat → Nat) (bb : Nat → Nat → Nat) (hm : Nat) (a9 : Nat → Nat) (i : Nat) (hi : i + 6 ≤ L) (kk : ∀ (y : YS) (z : RS) (H : Heap) (locs : List Loc) (ls : Array Slot), InvK y.x.k → InvG y.x.g → InvR z → Big z → TP y z → va_P (dC, dI) vwCl (mwS cB cI cJ cZ hm a9 z ++ wY cB cI cJ cZ cS a b1 b2 c0 bb y) H → va_D (fun q : Nat => s.heap.size ≤ q) (mwS cB cI cJ cZ hm a9 z ++ wY cB cI cJ cZ cS a b1 b2 c0 bb y) → va_S (fun q : Nat => s.heap.size ≤ q) s.heap H locs → lv_has ls 4 [(3, .int (nI i)), (2, .ref hm), (1, .ref (c0 0)), (0, .ref b)] → W p l e room_1 s m #[Value.ref b] below meth c H locs 361 24806 (lw_Z below #[Value.ref b] s) (F0 m 1489 ls [])) : ∀ (y : YS) (z : RS) (H : Heap) (locs : List Loc) (ls : Array Slot), InvK y.x.k → InvG y.x.g → InvR z → Big z → TP y z → va_P (dC, dI) vwCl (mwS cB cI cJ cZ hm a9 z ++ wY cB cI cJ cZ cS a b1 b2 c0 bb y) H → va_D (fun q : Nat => s.heap.size ≤ q) (mwS cB cI cJ cZ hm a9 z ++ wY cB cI cJ cZ cS a b1 b2 c0 bb y) → va_S (fun q : Nat => s.heap.size ≤ q) s.heap H locs → lv_has ls 4 [(3, .int (nI i)), (2, .ref hm), (1, .ref (c0 0)), (0, .ref b)] → W p l e room_1 s m #[Value.ref b] below meth c H locs 361 24806 (lw_Z below #[Value.ref b] s) (F0 m 447 ls []) := by
  obtain ⟨hx, hb, hr, hml, hown, hts, hX, hbl, hlocks, hgv⟩ := id C0
  have C : CallFix p m c code 4 s #[Value.ref b] lw_tbl R_law := ⟨hx, hb, hml, hown, hts⟩
  have hA : ∀ q : Nat, s.heap.size ≤ q → (fun q : Nat => s.heap.size ≤ q) q := fun _ h => h
  have hbA : ¬ (fun q : Nat => s.heap.size ≤ q) b := Nat.not_le.mpr hbl
  intro y z H locs ls hIK hIG hIR hBG hTP hP hD hS hl
  refine lv_aload_n hx hb dL_law_447 rfl (lv_at hl 2 rfl) ?_
  refine lv_aload_n hx hb dL_law_448 rfl (lv_at hl 3 rfl) ?_
  refine lv_iload_n hx hb dL_law_449 rfl (lv_at hl 0 rfl) ?_
  refine lv_iconst (v := 1) hx hb dL_law_450 (by decide) ?_
  refine lv_iadd hx hb dL_law_451 ?_
  refine q_top (y := nI (i + 1)) (nI_add i 1) ?_
  refine va_sld hx hb hX hbl hbA hS (vp_in_nI (by omega) (by omega)) dL_law_452 ?_
  refine lv_aload_n hx hb dL_law_453 rfl (lv_at hl 3 rfl) ?_
  refine lv_iload_n hx hb dL_law_454 rfl (lv_at hl 0 rfl) ?_
  refine lv_iconst (v := 2) hx hb dL_law_455 (by decide) ?_
  refine lv_iadd hx hb dL_law_456 ?_
  refine q_top (y := nI (i + 2)) (nI_add i 2) ?_
  refine va_sld hx hb hX hbl hbA hS (vp_in_nI (by omega) (by omega)) dL_law_457 ?_
  refine lv_aload_n hx hb dL_law_458 rfl (lv_at hl 3 rfl) ?_
  refine lv_iload_n hx hb dL_law_459 rfl (lv_at hl 0 rfl) ?_
  refine lv_iconst (v := 3) hx hb dL_law_460 (by decide) ?_
  refine lv_iadd hx hb dL_law_461 ?_
  refine q_top (y := nI (i + 3)) (nI_add i 3) ?_
  refine va_sld hx hb hX hbl hbA hS (vp_in_nI (by omega) (by omega)) dL_law_462 ?_
  obtain ⟨⟨r1, y1⟩, hB1, hq1⟩ := ok_kX10_needs y.x (xs (Int32.toNatClampNeg (nI (i + 1)))) (xs (Int32.toNatClampNeg (nI (i + 2)))) (xs (Int32.toNatClampNeg (nI (i + 3)))) (hIK) (hIG)
  have hP1 : va_P (dC, dI) vwCl (wX cB cI cJ cZ cS a b1 b2 c0 (rgP bb) (slP bb) y.x ++ (wPool cI bb y.r 43 ++ mwS cB cI cJ cZ hm a9 z)) H := sw1P hP
  have hD1 : va_D (fun q : Nat => s.heap.size ≤ q) (wX cB cI cJ cZ cS a b1 b2 c0 (rgP bb) (slP bb) y.x ++ (wPool cI bb y.r 43 ++ mwS cB cI cJ cZ hm a9 z)) := sw1D hD
  refine q_goiW (va_runV (As := [.int (xs (Int32.toNatClampNeg (nI (i + 1)))), .int (xs (Int32.toNatClampNeg (nI (i + 2)))), .int (xs (Int32.toNatClampNeg (nI (i + 3))))]) (rest := []) C (ckX10_needs hB1 _) (cwV 3 hts glv_X10_needs rfl rfl rfl (by decide +kernel) ⟨Nat.le_of_ble_eq_true rfl, Nat.le_of_ble_eq_true rfl⟩) (q_preV hK (P_left hP1) (ci := 10) (q0 := 0) rfl rfl rfl (q_preF hN hK (P_left hP1) (D_left hD1))) rfl rfl hl.1 rfl (lv_room (Nat.le_of_ble_eq_true rfl)) dL_law_463 ⟨Nat.le_of_ble_eq_true rfl, Nat.le_of_ble_eq_true rfl⟩) hP1 hD1 hS hA (fun q1 w1 H locs hw hP hD hS => ?_)
  obtain ⟨hr1, hw⟩ := hw
  subst hw
  have hP : va_P (dC, dI) vwCl (mwS cB cI cJ cZ hm a9 z ++ wY cB cI cJ cZ cS a b1 b2 c0 bb (YS.mk y1 y.r)) H := sw3P hP
  have hD : va_D (fun q : Nat => s.heap.size ≤ q) (mwS cB cI cJ cZ hm a9 z ++ wY cB cI cJ cZ cS a b1 b2 c0 bb (YS.mk y1 y.r)) := sw3D hD
  refine lv_pop hx hb dL_law_466 rfl ?_
  refine lv_aload_n hx hb dL_law_467 rfl (lv_at hl 1 rfl) ?_
  refine lv_aload_n hx hb dL_law_468 rfl (lv_at hl 3 rfl) ?_
  refine lv_iload_n hx hb dL_law_469 rfl (lv_at hl 0 rfl) ?_
  refine lv_iconst (v := 1) hx hb dL_law_470 (by decide) ?_
  refine lv_iadd hx hb dL_law_471 ?_
  refine q_top (y := nI (i + 1)) (nI_add i 1) ?_
  refine va_sld hx hb hX hbl hbA hS (vp_in_nI (by omega) (by omega)) dL_law_472 ?_
  refine lv_aload_n hx hb dL_law_473 rfl (lv_at hl 3 rfl) ?_
  refine lv_iload_n hx hb dL_law_474 rfl (lv_at hl 0 rfl) ?_
  refine lv_iconst (v := 2) hx hb dL_law_475 (by decide) ?_
  refine lv_iadd hx hb dL_law_476 ?_
  refine q_top (y := nI (i + 2)) (nI_add i 2) ?_
  refine va_sld hx hb hX hbl hbA hS (vp_in_nI (by omega) (by omega)) dL_law_477 ?_
  refine lv_aload_n hx hb dL_law_478 rfl (lv_at hl 3 rfl) ?_
  refine lv_iload_n hx hb dL_law_479 rfl (lv_at hl 0 rfl) ?_
  refine lv_iconst (v := 3) hx hb dL_law_480 (by decide) ?_
  refine lv_iadd hx hb dL_law_481 ?_
  refine q_top (y := nI (i + 3)) (nI_add i 3) ?_
  refine va_sld hx hb hX hbl hbA hS (vp_in_nI (by omega) (by omega)) dL_law_482 ?_
  obtain ⟨⟨r2, z2⟩, hB2, hq2⟩ := ok_r_needs z (xs (Int32.toNatClampNeg (nI (i + 1)))) (xs (Int32.toNatClampNeg (nI (i + 2)))) (xs (Int32.toNatClampNeg (nI (i + 3)))) (hIR) (hBG)
  refine q_goiW (va_runV (As := [.int (xs (Int32.toNatClampNeg (nI (i + 1)))), .int (xs (Int32.toNatClampNeg (nI (i + 2)))), .int (xs (Int32.toNatClampNeg (nI (i + 3))))]) (rest := []) C (cr_needs hB2 _) (cwV 3 hts glv_X11_needs rfl rfl rfl (by decide +kernel) ⟨Nat.le_of_ble_eq_true rfl, Nat.le_of_ble_eq_true rfl⟩) (q_preV hK (P_left hP) (ci := 11) (q0 := 0) rfl rfl rfl (q_preF hN hK (P_left hP) (D_left hD))) rfl rfl hl.1 rfl (lv_room (Nat.le_of_ble_eq_true rfl)) dL_law_483 ⟨Nat.le_of_ble_eq_true rfl, Nat.le_of_ble_eq_true rfl⟩) hP hD hS hA (fun q2 w2 H locs hw hP hD hS => ?_)
  obtain ⟨hr2, hw⟩ := hw
  subst hw
  refine lv_pop hx hb dL_law_486 rfl ?_
  refine lv_goto (tgt := 1489) hx hb dL_law_487 (by decide) ?_
  exact kk (YS.mk y1 y.r) z2 H locs ls (hq1.1) (hq1.2.2.1) (hq2.1) ((hBG).fr (hq2.2.1) (by decide)) ⟨tpr_keep (hq1.2.1) (hq2.2.1) (by decide) (by decide) hTP.1, REL.keep hTP.2 (fr_kX10_needs _ _ _ _ _ _ ⟨rfl, rfl⟩ _ hB1).1 (fr_kX10_needs _ _ _ _ _ _ ⟨rfl, rfl⟩ _ hB1).2 (hq1.2.1) (hq2.2.1) ⟨by decide, by decide⟩ ⟨by decide, by decide⟩⟩ hP hD hS hl

set_option maxHeartbeats 4000000 in
set_option maxRecDepth 100000 in
theorem law_case_8 {p : Program} {e : Env} {s : State} {m : MethodId} {below : List Frame} {meth : Method} {c : Code} (l : Launch) {b L : Nat} {xs : Nat → Int32} (hL : L ≤ 3072) (C0 : lw_At p s m meth c b L xs) (dC : Nat → ClassId) (dI : Nat → Nat → Nat) (cB cI cJ cZ cS : ClassId) (hK : va_K (dC, dI) vwCl (tysA cB cI cJ cZ cS) s) (hN : nw_ok s) (ak av : Nat) (hXS : xS ak av (fun q : Nat => s.heap.size ≤ q) s s.heap) (a b1 b2 c0 : Nat → Nat) (bb : Nat → Nat → Nat) (hm : Nat) (a9 : Nat → Nat) (i : Nat) (hi : i + 6 ≤ L) (kk : ∀ (y : YS) (z : RS) (H : Heap) (locs : List Loc) (ls : Array Slot), InvK y.x.k → InvG y.x.g → InvR z → Big z → TP y z → va_P (dC, dI) vwCl (mwS cB cI cJ cZ hm a9 z ++ wY cB cI cJ cZ cS a b1 b2 c0 bb y) H → va_D (fun q : Nat => s.heap.size ≤ q) (mwS cB cI cJ cZ hm a9 z ++ wY cB cI cJ cZ cS a b1 b2 c0 bb y) → va_S (fun q : Nat => s.heap.size ≤ q) s.heap H locs → lv_has ls 4 [(3, .int (nI i)), (2, .ref hm), (1, .ref (c0 0)), (0, .ref b)] → W p l e room_1 s m #[Value.ref b] below meth c H locs 361 24806 (lw_Z below #[Value.ref b] s) (F0 m 1489 ls [])) : ∀ (y : YS) (z : RS) (H : Heap) (locs : List Loc) (ls : Array Slot), InvK y.x.k → InvG y.x.g → InvR z → Big z → TP y z → va_P (dC, dI) vwCl (mwS cB cI cJ cZ hm a9 z ++ wY cB cI cJ cZ cS a b1 b2 c0 bb y) H → va_D (fun q : Nat => s.heap.size ≤ q) (mwS cB cI cJ cZ hm a9 z ++ wY cB cI cJ cZ cS a b1 b2 c0 bb y) → va_S (fun q : Nat => s.heap.size ≤ q) s.heap H locs → lv_has ls 4 [(3, .int (nI i)), (2, .ref hm), (1, .ref (c0 0)), (0, .ref b)] → W p l e room_1 s m #[Value.ref b] below meth c H locs 361 24806 (lw_Z below #[Value.ref b] s) (F0 m 490 ls []) := by
  obtain ⟨hx, hb, hr, hml, hown, hts, hX, hbl, hlocks, hgv⟩ := id C0
  have C : CallFix p m c code 4 s #[Value.ref b] lw_tbl R_law := ⟨hx, hb, hml, hown, hts⟩
  have hA : ∀ q : Nat, s.heap.size ≤ q → (fun q : Nat => s.heap.size ≤ q) q := fun _ h => h
  have hbA : ¬ (fun q : Nat => s.heap.size ≤ q) b := Nat.not_le.mpr hbl
  intro y z H locs ls hIK hIG hIR hBG hTP hP hD hS hl
  refine lv_aload_n hx hb dL_law_490 rfl (lv_at hl 2 rfl) ?_
  refine lv_aload_n hx hb dL_law_491 rfl (lv_at hl 3 rfl) ?_
  refine lv_iload_n hx hb dL_law_492 rfl (lv_at hl 0 rfl) ?_
  refine lv_iconst (v := 1) hx hb dL_law_493 (by decide) ?_
  refine lv_iadd hx hb dL_law_494 ?_
  refine q_top (y := nI (i + 1)) (nI_add i 1) ?_
  refine va_sld hx hb hX hbl hbA hS (vp_in_nI (by omega) (by omega)) dL_law_495 ?_
  refine lv_aload_n hx hb dL_law_496 rfl (lv_at hl 3 rfl) ?_
  refine lv_iload_n hx hb dL_law_497 rfl (lv_at hl 0 rfl) ?_
  refine lv_iconst (v := 2) hx hb dL_law_498 (by decide) ?_
  refine lv_iadd hx hb dL_law_499 ?_
  refine q_top (y := nI (i + 2)) (nI_add i 2) ?_
  refine va_sld hx hb hX hbl hbA hS (vp_in_nI (by omega) (by omega)) dL_law_500 ?_
  obtain ⟨⟨r1, y1⟩, hB1, hq1⟩ := ok_kX10_go y (xs (Int32.toNatClampNeg (nI (i + 1)))) (xs (Int32.toNatClampNeg (nI (i + 2)))) (hIK) (hIG)
  have hP1 : va_P (dC, dI) vwCl (wY cB cI cJ cZ cS a b1 b2 c0 bb y ++ mwS cB cI cJ cZ hm a9 z) H := sw2P hP
  have hD1 : va_D (fun q : Nat => s.heap.size ≤ q) (wY cB cI cJ cZ cS a b1 b2 c0 bb y ++ mwS cB cI cJ cZ hm a9 z) := sw2D hD
  refine q_goiW (va_runV (As := [.int (xs (Int32.toNatClampNeg (nI (i + 1)))), .int (xs (Int32.toNatClampNeg (nI (i + 2))))]) (rest := []) C (ckX10_go hB1 _) (cwV 2 hts glv_X10_go rfl rfl rfl (by decide +kernel) ⟨Nat.le_of_ble_eq_true rfl, Nat.le_of_ble_eq_true rfl⟩) (q_preV hK (P_left hP1) (ci := 10) (q0 := 0) rfl rfl rfl (q_preF hN hK (P_left hP1) (D_left hD1))) rfl rfl hl.1 rfl (lv_room (Nat.le_of_ble_eq_true rfl)) dL_law_501 ⟨Nat.le_of_ble_eq_true rfl, Nat.le_of_ble_eq_true rfl⟩) hP1 hD1 hS hA (fun q1 w1 H locs hw hP hD hS => ?_)
  obtain ⟨hr1, hw⟩ := hw
  subst hw
  have hP : va_P (dC, dI) vwCl (mwS cB cI cJ cZ hm a9 z ++ wY cB cI cJ cZ cS a b1 b2 c0 bb y1) H := sw2P hP
  have hD : va_D (fun q : Nat => s.heap.size ≤ q) (mwS cB cI cJ cZ hm a9 z ++ wY cB cI cJ cZ cS a b1 b2 c0 bb y1) := sw2D hD
  refine lv_pop hx hb dL_law_504 rfl ?_
  refine lv_aload_n hx hb dL_law_505 rfl (lv_at hl 1 rfl) ?_
  refine lv_aload_n hx hb dL_law_506 rfl (lv_at hl 3 rfl) ?_
  refine lv_iload_n hx hb dL_law_507 rfl (lv_at hl 0 rfl) ?_
  refine lv_iconst (v := 1) hx hb dL_law_508 (by decide) ?_
  refine lv_iadd hx hb dL_law_509 ?_
  refine q_top (y := nI (i + 1)) (nI_add i 1) ?_
  refine va_sld hx hb hX hbl hbA hS (vp_in_nI (by omega) (by omega)) dL_law_510 ?_
  refine lv_aload_n hx hb dL_law_511 rfl (lv_at hl 3 rfl) ?_
  refine lv_iload_n hx hb dL_law_512 rfl (lv_at hl 0 rfl) ?_
  refine lv_iconst (v := 2) hx hb dL_law_513 (by decide) ?_
  refine lv_iadd hx hb dL_law_514 ?_
  refine q_top (y := nI (i + 2)) (nI_add i 2) ?_
  refine va_sld hx hb hX hbl hbA hS (vp_in_nI (by omega) (by omega)) dL_law_515 ?_
  obtain ⟨⟨r2, z2⟩, hB2, hq2⟩ := ok_r_go z (xs (Int32.toNatClampNeg (nI (i + 1)))) (xs (Int32.toNatClampNeg (nI (i + 2)))) (hIR) (hBG)
  refine q_goiW (va_runV (As := [.int (xs (Int32.toNatClampNeg (nI (i + 1)))), .int (xs (Int32.toNatClampNeg (nI (i + 2))))]) (rest := []) C (cr_go hB2 _) (cwV 2 hts glv_X11_go rfl rfl rfl (by decide +kernel) ⟨Nat.le_of_ble_eq_true rfl, Nat.le_of_ble_eq_true rfl⟩) (q_preV hK (P_left hP) (ci := 11) (q0 := 0) rfl rfl rfl (q_preF hN hK (P_left hP) (D_left hD))) rfl rfl hl.1 rfl (lv_room (Nat.le_of_ble_eq_true rfl)) dL_law_516 ⟨Nat.le_of_ble_eq_true rfl, Nat.le_of_ble_eq_true rfl⟩) hP hD hS hA (fun q2 w2 H locs hw hP hD hS => ?_)
  obtain ⟨hr2, hw⟩ := hw
  subst hw
  refine lv_pop hx hb dL_law_519 rfl ?_
  refine lv_goto (tgt := 1489) hx hb dL_law_520 (by decide) ?_
  exact kk y1 z2 H locs ls (hq1.1) (hq1.2.2.1) (hq2.1) ((hBG).fr (hq2.2.1) (by decide)) ⟨tpr_keep (hq1.2.1) (hq2.2.1) (by decide) (by decide) hTP.1, (go_same hTP.2 hIK hIR hBG hIG hB1 hB2).2⟩ hP hD hS hl

set_option maxHeartbeats 4000000 in
set_option maxRecDepth 100000 in
theorem law_case_9 {p : Program} {e : Env} {s : State} {m : MethodId} {below : List Frame} {meth : Method} {c : Code} (l : Launch) {b L : Nat} {xs : Nat → Int32} (hL : L ≤ 3072) (C0 : lw_At p s m meth c b L xs) (dC : Nat → ClassId) (dI : Nat → Nat → Nat) (cB cI cJ cZ cS : ClassId) (hK : va_K (dC, dI) vwCl (tysA cB cI cJ cZ cS) s) (hN : nw_ok s) (ak av : Nat) (hXS : xS ak av (fun q : Nat => s.heap.size ≤ q) s s.heap) (a b1 b2 c0 : Nat → Nat) (bb : Nat → Nat → Nat) (hm : Nat) (a9 : Nat → Nat) (i : Nat) (hi : i + 6 ≤ L) (kk : ∀ (y : YS) (z : RS) (H : Heap) (locs : List Loc) (ls : Array Slot), InvK y.x.k → InvG y.x.g → InvR z → Big z → TP y z → va_P (dC, dI) vwCl (mwS cB cI cJ cZ hm a9 z ++ wY cB cI cJ cZ cS a b1 b2 c0 bb y) H → va_D (fun q : Nat => s.heap.size ≤ q) (mwS cB cI cJ cZ hm a9 z ++ wY cB cI cJ cZ cS a b1 b2 c0 bb y) → va_S (fun q : Nat => s.heap.size ≤ q) s.heap H locs → lv_has ls 4 [(3, .int (nI i)), (2, .ref hm), (1, .ref (c0 0)), (0, .ref b)] → W p l e room_1 s m #[Value.ref b] below meth c H locs 361 24806 (lw_Z below #[Value.ref b] s) (F0 m 1489 ls [])) : ∀ (y : YS) (z : RS) (H : Heap) (locs : List Loc) (ls : Array Slot), InvK y.x.k → InvG y.x.g → InvR z → Big z → TP y z → va_P (dC, dI) vwCl (mwS cB cI cJ cZ hm a9 z ++ wY cB cI cJ cZ cS a b1 b2 c0 bb y) H → va_D (fun q : Nat => s.heap.size ≤ q) (mwS cB cI cJ cZ hm a9 z ++ wY cB cI cJ cZ cS a b1 b2 c0 bb y) → va_S (fun q : Nat => s.heap.size ≤ q) s.heap H locs → lv_has ls 4 [(3, .int (nI i)), (2, .ref hm), (1, .ref (c0 0)), (0, .ref b)] → W p l e room_1 s m #[Value.ref b] below meth c H locs 361 24806 (lw_Z below #[Value.ref b] s) (F0 m 523 ls []) := by
  obtain ⟨hx, hb, hr, hml, hown, hts, hX, hbl, hlocks, hgv⟩ := id C0
  have C : CallFix p m c code 4 s #[Value.ref b] lw_tbl R_law := ⟨hx, hb, hml, hown, hts⟩
  have hA : ∀ q : Nat, s.heap.size ≤ q → (fun q : Nat => s.heap.size ≤ q) q := fun _ h => h
  have hbA : ¬ (fun q : Nat => s.heap.size ≤ q) b := Nat.not_le.mpr hbl
  intro y z H locs ls hIK hIG hIR hBG hTP hP hD hS hl
  refine lv_aload_n hx hb dL_law_523 rfl (lv_at hl 2 rfl) ?_
  refine lv_aload_n hx hb dL_law_524 rfl (lv_at hl 3 rfl) ?_
  refine lv_iload_n hx hb dL_law_525 rfl (lv_at hl 0 rfl) ?_
  refine lv_iconst (v := 1) hx hb dL_law_526 (by decide) ?_
  refine lv_iadd hx hb dL_law_527 ?_
  refine q_top (y := nI (i + 1)) (nI_add i 1) ?_
  refine va_sld hx hb hX hbl hbA hS (vp_in_nI (by omega) (by omega)) dL_law_528 ?_
  refine lv_aload_n hx hb dL_law_529 rfl (lv_at hl 3 rfl) ?_
  refine lv_iload_n hx hb dL_law_530 rfl (lv_at hl 0 rfl) ?_
  refine lv_iconst (v := 2) hx hb dL_law_531 (by decide) ?_
  refine lv_iadd hx hb dL_law_532 ?_
  refine q_top (y := nI (i + 2)) (nI_add i 2) ?_
  refine va_sld hx hb hX hbl hbA hS (vp_in_nI (by omega) (by omega)) dL_law_533 ?_
  refine lv_aload_n hx hb dL_law_534 rfl (lv_at hl 3 rfl) ?_
  refine lv_iload_n hx hb dL_law_535 rfl (lv_at hl 0 rfl) ?_
  refine lv_iconst (v := 3) hx hb dL_law_536 (by decide) ?_
  refine lv_iadd hx hb dL_law_537 ?_
  refine q_top (y := nI (i + 3)) (nI_add i 3) ?_
  refine va_sld hx hb hX hbl hbA hS (vp_in_nI (by omega) (by omega)) dL_law_538 ?_
  refine lv_if_eq (tgt := 546) hx hb dL_law_539 (by decide) (fun c1 => ?_) (fun c1 => ?_)
  · skip
    refine lv_iconst (v := 0) hx hb dL_law_546 (by decide) ?_
    obtain ⟨⟨r2, y2⟩, hB2, hq2⟩ := ok_kX10_buoy y (xs (Int32.toNatClampNeg (nI (i + 1)))) (xs (Int32.toNatClampNeg (nI (i + 2)))) 0 (hIK) (hIG)
    have hP2 : va_P (dC, dI) vwCl (wY cB cI cJ cZ cS a b1 b2 c0 bb y ++ mwS cB cI cJ cZ hm a9 z) H := sw2P hP
    have hD2 : va_D (fun q : Nat => s.heap.size ≤ q) (wY cB cI cJ cZ cS a b1 b2 c0 bb y ++ mwS cB cI cJ cZ hm a9 z) := sw2D hD
    refine q_goiW (va_runV (As := [.int (xs (Int32.toNatClampNeg (nI (i + 1)))), .int (xs (Int32.toNatClampNeg (nI (i + 2)))), .int 0]) (rest := []) C (ckX10_buoy hB2 _) (cwV 3 hts glv_X10_buoy rfl rfl rfl (by decide +kernel) ⟨Nat.le_of_ble_eq_true rfl, Nat.le_of_ble_eq_true rfl⟩) (q_preV hK (P_left hP2) (ci := 10) (q0 := 0) rfl rfl rfl (q_preF hN hK (P_left hP2) (D_left hD2))) rfl rfl hl.1 rfl (lv_room (Nat.le_of_ble_eq_true rfl)) dL_law_547 ⟨Nat.le_of_ble_eq_true rfl, Nat.le_of_ble_eq_true rfl⟩) hP2 hD2 hS hA (fun q2 w2 H locs hw hP hD hS => ?_)
    obtain ⟨hr2, hw⟩ := hw
    subst hw
    have hP : va_P (dC, dI) vwCl (mwS cB cI cJ cZ hm a9 z ++ wY cB cI cJ cZ cS a b1 b2 c0 bb y2) H := sw2P hP
    have hD : va_D (fun q : Nat => s.heap.size ≤ q) (mwS cB cI cJ cZ hm a9 z ++ wY cB cI cJ cZ cS a b1 b2 c0 bb y2) := sw2D hD
    refine lv_pop hx hb dL_law_550 rfl ?_
    refine lv_aload_n hx hb dL_law_551 rfl (lv_at hl 1 rfl) ?_
    refine lv_aload_n hx hb dL_law_552 rfl (lv_at hl 3 rfl) ?_
    refine lv_iload_n hx hb dL_law_553 rfl (lv_at hl 0 rfl) ?_
    refine lv_iconst (v := 1) hx hb dL_law_554 (by decide) ?_
    refine lv_iadd hx hb dL_law_555 ?_
    refine q_top (y := nI (i + 1)) (nI_add i 1) ?_
    refine va_sld hx hb hX hbl hbA hS (vp_in_nI (by omega) (by omega)) dL_law_556 ?_
    refine lv_aload_n hx hb dL_law_557 rfl (lv_at hl 3 rfl) ?_
    refine lv_iload_n hx hb dL_law_558 rfl (lv_at hl 0 rfl) ?_
    refine lv_iconst (v := 2) hx hb dL_law_559 (by decide) ?_
    refine lv_iadd hx hb dL_law_560 ?_
    refine q_top (y := nI (i + 2)) (nI_add i 2) ?_
    refine va_sld hx hb hX hbl hbA hS (vp_in_nI (by omega) (by omega)) dL_law_561 ?_
    refine lv_aload_n hx hb dL_law_562 rfl (lv_at hl 3 rfl) ?_
    refine lv_iload_n hx hb dL_law_563 rfl (lv_at hl 0 rfl) ?_
    refine lv_iconst (v := 3) hx hb dL_law_564 (by decide) ?_
    refine lv_iadd hx hb dL_law_565 ?_
    refine q_top (y := nI (i + 3)) (nI_add i 3) ?_
    refine va_sld hx hb hX hbl hbA hS (vp_in_nI (by omega) (by omega)) dL_law_566 ?_
    refine lv_if_eq (tgt := 574) hx hb dL_law_567 (by decide) (fun c3 => ?_) (fun c3 => ?_)
    · skip
      refine lv_iconst (v := 0) hx hb dL_law_574 (by decide) ?_
      obtain ⟨⟨r4, z4⟩, hB4, hq4⟩ := ok_r_buoy z (xs (Int32.toNatClampNeg (nI (i + 1)))) (xs (Int32.toNatClampNeg (nI (i + 2)))) 0 (hIR)
      refine q_goiW (va_runV (As := [.int (xs (Int32.toNatClampNeg (nI (i + 1)))), .int (xs (Int32.toNatClampNeg (nI (i + 2)))), .int 0]) (rest := []) C (cr_buoy hB4 _) (cwV 3 hts glv_X11_buoy rfl rfl rfl (by decide +kernel) ⟨Nat.le_of_ble_eq_true rfl, Nat.le_of_ble_eq_true rfl⟩) (q_preV hK (P_left hP) (ci := 11) (q0 := 0) rfl rfl rfl (q_preF hN hK (P_left hP) (D_left hD))) rfl rfl hl.1 rfl (lv_room (Nat.le_of_ble_eq_true rfl)) dL_law_575 ⟨Nat.le_of_ble_eq_true rfl, Nat.le_of_ble_eq_true rfl⟩) hP hD hS hA (fun q4 w4 H locs hw hP hD hS => ?_)
      obtain ⟨hr4, hw⟩ := hw
      subst hw
      refine lv_pop hx hb dL_law_578 rfl ?_
      refine lv_goto (tgt := 1489) hx hb dL_law_579 (by decide) ?_
      exact kk y2 z4 H locs ls (hq2.1) (hq2.2.2.1) (hq4.1) ((hBG).fr (hq4.2.1) (by decide)) ⟨tpr_keep (hq2.2.1) (hq4.2.1) (by decide) (by decide) hTP.1, (buoy_same hTP.2 hIK hIR hBG hIG hB2 hB4).2⟩ hP hD hS hl
    · skip
      first | exact absurd c3 c1 | exact absurd c1 c3
  · skip
    refine lv_iconst (v := 1) hx hb dL_law_542 (by decide) ?_
    refine lv_goto (tgt := 547) hx hb dL_law_543 (by decide) ?_
    obtain ⟨⟨r5, y5⟩, hB5, hq5⟩ := ok_kX10_buoy y (xs (Int32.toNatClampNeg (nI (i + 1)))) (xs (Int32.toNatClampNeg (nI (i + 2)))) 1 (hIK) (hIG)
    have hP5 : va_P (dC, dI) vwCl (wY cB cI cJ cZ cS a b1 b2 c0 bb y ++ mwS cB cI cJ cZ hm a9 z) H := sw2P hP
    have hD5 : va_D (fun q : Nat => s.heap.size ≤ q) (wY cB cI cJ cZ cS a b1 b2 c0 bb y ++ mwS cB cI cJ cZ hm a9 z) := sw2D hD
    refine q_goiW (va_runV (As := [.int (xs (Int32.toNatClampNeg (nI (i + 1)))), .int (xs (Int32.toNatClampNeg (nI (i + 2)))), .int 1]) (rest := []) C (ckX10_buoy hB5 _) (cwV 3 hts glv_X10_buoy rfl rfl rfl (by decide +kernel) ⟨Nat.le_of_ble_eq_true rfl, Nat.le_of_ble_eq_true rfl⟩) (q_preV hK (P_left hP5) (ci := 10) (q0 := 0) rfl rfl rfl (q_preF hN hK (P_left hP5) (D_left hD5))) rfl rfl hl.1 rfl (lv_room (Nat.le_of_ble_eq_true rfl)) dL_law_547 ⟨Nat.le_of_ble_eq_true rfl, Nat.le_of_ble_eq_true rfl⟩) hP5 hD5 hS hA (fun q5 w5 H locs hw hP hD hS => ?_)
    obtain ⟨hr5, hw⟩ := hw
    subst hw
    have hP : va_P (dC, dI) vwCl (mwS cB cI cJ cZ hm a9 z ++ wY cB cI cJ cZ cS a b1 b2 c0 bb y5) H := sw2P hP
    have hD : va_D (fun q : Nat => s.heap.size ≤ q) (mwS cB cI cJ cZ hm a9 z ++ wY cB cI cJ cZ cS a b1 b2 c0 bb y5) := sw2D hD
    refine lv_pop hx hb dL_law_550 rfl ?_
    refine lv_aload_n hx hb dL_law_551 rfl (lv_at hl 1 rfl) ?_
    refine lv_aload_n hx hb dL_law_552 rfl (lv_at hl 3 rfl) ?_
    refine lv_iload_n hx hb dL_law_553 rfl (lv_at hl 0 rfl) ?_
    refine lv_iconst (v := 1) hx hb dL_law_554 (by decide) ?_
    refine lv_iadd hx hb dL_law_555 ?_
    refine q_top (y := nI (i + 1)) (nI_add i 1) ?_
    refine va_sld hx hb hX hbl hbA hS (vp_in_nI (by omega) (by omega)) dL_law_556 ?_
    refine lv_aload_n hx hb dL_law_557 rfl (lv_at hl 3 rfl) ?_
    refine lv_iload_n hx hb dL_law_558 rfl (lv_at hl 0 rfl) ?_
    refine lv_iconst (v := 2) hx hb dL_law_559 (by decide) ?_
    refine lv_iadd hx hb dL_law_560 ?_
    refine q_top (y := nI (i + 2)) (nI_add i 2) ?_
    refine va_sld hx hb hX hbl hbA hS (vp_in_nI (by omega) (by omega)) dL_law_561 ?_
    refine lv_aload_n hx hb dL_law_562 rfl (lv_at hl 3 rfl) ?_
    refine lv_iload_n hx hb dL_law_563 rfl (lv_at hl 0 rfl) ?_
    refine lv_iconst (v := 3) hx hb dL_law_564 (by decide) ?_
    refine lv_iadd hx hb dL_law_565 ?_
    refine q_top (y := nI (i + 3)) (nI_add i 3) ?_
    refine va_sld hx hb hX hbl hbA hS (vp_in_nI (by omega) (by omega)) dL_law_566 ?_
    refine lv_if_eq (tgt := 574) hx hb dL_law_567 (by decide) (fun c6 => ?_) (fun c6 => ?_)
    · skip
      first | exact absurd c6 c1 | exact absurd c1 c6
    · skip
      refine lv_iconst (v := 1) hx hb dL_law_570 (by decide) ?_
      refine lv_goto (tgt := 575) hx hb dL_law_571 (by decide) ?_
      obtain ⟨⟨r7, z7⟩, hB7, hq7⟩ := ok_r_buoy z (xs (Int32.toNatClampNeg (nI (i + 1)))) (xs (Int32.toNatClampNeg (nI (i + 2)))) 1 (hIR)
      refine q_goiW (va_runV (As := [.int (xs (Int32.toNatClampNeg (nI (i + 1)))), .int (xs (Int32.toNatClampNeg (nI (i + 2)))), .int 1]) (rest := []) C (cr_buoy hB7 _) (cwV 3 hts glv_X11_buoy rfl rfl rfl (by decide +kernel) ⟨Nat.le_of_ble_eq_true rfl, Nat.le_of_ble_eq_true rfl⟩) (q_preV hK (P_left hP) (ci := 11) (q0 := 0) rfl rfl rfl (q_preF hN hK (P_left hP) (D_left hD))) rfl rfl hl.1 rfl (lv_room (Nat.le_of_ble_eq_true rfl)) dL_law_575 ⟨Nat.le_of_ble_eq_true rfl, Nat.le_of_ble_eq_true rfl⟩) hP hD hS hA (fun q7 w7 H locs hw hP hD hS => ?_)
      obtain ⟨hr7, hw⟩ := hw
      subst hw
      refine lv_pop hx hb dL_law_578 rfl ?_
      refine lv_goto (tgt := 1489) hx hb dL_law_579 (by decide) ?_
      exact kk y5 z7 H locs ls (hq5.1) (hq5.2.2.1) (hq7.1) ((hBG).fr (hq7.2.1) (by decide)) ⟨tpr_keep (hq5.2.1) (hq7.2.1) (by decide) (by decide) hTP.1, (buoy_same hTP.2 hIK hIR hBG hIG hB5 hB7).2⟩ hP hD hS hl

set_option maxHeartbeats 4000000 in
set_option maxRecDepth 100000 in
theorem law_case_10 {p : Program} {e : Env} {s : State} {m : MethodId} {below : List Frame} {meth : Method} {c : Code} (l : Launch) {b L : Nat} {xs : Nat → Int32} (hL : L ≤ 3072) (C0 : lw_At p s m meth c b L xs) (dC : Nat → ClassId) (dI : Nat → Nat → Nat) (cB cI cJ cZ cS : ClassId) (hK : va_K (dC, dI) vwCl (tysA cB cI cJ cZ cS) s) (hN : nw_ok s) (ak av : Nat) (hXS : xS ak av (fun q : Nat => s.heap.size ≤ q) s s.heap) (a b1 b2 c0 : Nat → Nat) (bb : Nat → Nat → Nat) (hm : Nat) (a9 : Nat → Nat) (i : Nat) (hi : i + 6 ≤ L) (kk : ∀ (y : YS) (z : RS) (H : Heap) (locs : List Loc) (ls : Array Slot), InvK y.x.k → InvG y.x.g → InvR z → Big z → TP y z → va_P (dC, dI) vwCl (mwS cB cI cJ cZ hm a9 z ++ wY cB cI cJ cZ cS a b1 b2 c0 bb y) H → va_D (fun q : Nat => s.heap.size ≤ q) (mwS cB cI cJ cZ hm a9 z ++ wY cB cI cJ cZ cS a b1 b2 c0 bb y) → va_S (fun q : Nat => s.heap.size ≤ q) s.heap H locs → lv_has ls 4 [(3, .int (nI i)), (2, .ref hm), (1, .ref (c0 0)), (0, .ref b)] → W p l e room_1 s m #[Value.ref b] below meth c H locs 361 24806 (lw_Z below #[Value.ref b] s) (F0 m 1489 ls [])) : ∀ (y : YS) (z : RS) (H : Heap) (locs : List Loc) (ls : Array Slot), InvK y.x.k → InvG y.x.g → InvR z → Big z → TP y z → va_P (dC, dI) vwCl (mwS cB cI cJ cZ hm a9 z ++ wY cB cI cJ cZ cS a b1 b2 c0 bb y) H → va_D (fun q : Nat => s.heap.size ≤ q) (mwS cB cI cJ cZ hm a9 z ++ wY cB cI cJ cZ cS a b1 b2 c0 bb y) → va_S (fun q : Nat => s.heap.size ≤ q) s.heap H locs → lv_has ls 4 [(3, .int (nI i)), (2, .ref hm), (1, .ref (c0 0)), (0, .ref b)] → W p l e room_1 s m #[Value.ref b] below meth c H locs 361 24806 (lw_Z below #[Value.ref b] s) (F0 m 582 ls []) := by
  obtain ⟨hx, hb, hr, hml, hown, hts, hX, hbl, hlocks, hgv⟩ := id C0
  have C : CallFix p m c code 4 s #[Value.ref b] lw_tbl R_law := ⟨hx, hb, hml, hown, hts⟩
  have hA : ∀ q : Nat, s.heap.size ≤ q → (fun q : Nat => s.heap.size ≤ q) q := fun _ h => h
  have hbA : ¬ (fun q : Nat => s.heap.size ≤ q) b := Nat.not_le.mpr hbl
  intro y z H locs ls hIK hIG hIR hBG hTP hP hD hS hl
  refine lv_aload_n hx hb dL_law_582 rfl (lv_at hl 2 rfl) ?_
  refine lv_aload_n hx hb dL_law_583 rfl (lv_at hl 3 rfl) ?_
  refine lv_iload_n hx hb dL_law_584 rfl (lv_at hl 0 rfl) ?_
  refine lv_iconst (v := 1) hx hb dL_law_585 (by decide) ?_
  refine lv_iadd hx hb dL_law_586 ?_
  refine q_top (y := nI (i + 1)) (nI_add i 1) ?_
  refine va_sld hx hb hX hbl hbA hS (vp_in_nI (by omega) (by omega)) dL_law_587 ?_
  obtain ⟨⟨r1, y1⟩, hB1, hq1⟩ := ok_kX10_fetch y (xs (Int32.toNatClampNeg (nI (i + 1)))) (hIK) (hIG)
  have hP1 : va_P (dC, dI) vwCl (wY cB cI cJ cZ cS a b1 b2 c0 bb y ++ mwS cB cI cJ cZ hm a9 z) H := sw2P hP
  have hD1 : va_D (fun q : Nat => s.heap.size ≤ q) (wY cB cI cJ cZ cS a b1 b2 c0 bb y ++ mwS cB cI cJ cZ hm a9 z) := sw2D hD
  refine q_goiW (va_runV (As := [.int (xs (Int32.toNatClampNeg (nI (i + 1))))]) (rest := []) C (ckX10_fetch hB1 _) (cwV 1 hts glv_X10_fetch rfl rfl rfl (by decide +kernel) ⟨Nat.le_of_ble_eq_true rfl, Nat.le_of_ble_eq_true rfl⟩) (q_preV hK (P_left hP1) (ci := 10) (q0 := 0) rfl rfl rfl (q_preF hN hK (P_left hP1) (D_left hD1))) rfl rfl hl.1 rfl (lv_room (Nat.le_of_ble_eq_true rfl)) dL_law_588 ⟨Nat.le_of_ble_eq_true rfl, Nat.le_of_ble_eq_true rfl⟩) hP1 hD1 hS hA (fun q1 w1 H locs hw hP hD hS => ?_)
  obtain ⟨hr1, hw⟩ := hw
  subst hw
  have hP : va_P (dC, dI) vwCl (mwS cB cI cJ cZ hm a9 z ++ wY cB cI cJ cZ cS a b1 b2 c0 bb y1) H := sw2P hP
  have hD : va_D (fun q : Nat => s.heap.size ≤ q) (mwS cB cI cJ cZ hm a9 z ++ wY cB cI cJ cZ cS a b1 b2 c0 bb y1) := sw2D hD
  refine lv_pop hx hb dL_law_591 rfl ?_
  refine lv_aload_n hx hb dL_law_592 rfl (lv_at hl 1 rfl) ?_
  refine lv_aload_n hx hb dL_law_593 rfl (lv_at hl 3 rfl) ?_
  refine lv_iload_n hx hb dL_law_594 rfl (lv_at hl 0 rfl) ?_
  refine lv_iconst (v := 1) hx hb dL_law_595 (by decide) ?_
  refine lv_iadd hx hb dL_law_596 ?_
  refine q_top (y := nI (i + 1)) (nI_add i 1) ?_
  refine va_sld hx hb hX hbl hbA hS (vp_in_nI (by omega) (by omega)) dL_law_597 ?_
  obtain ⟨⟨r2, z2⟩, hB2, hq2⟩ := ok_r_fetch z (xs (Int32.toNatClampNeg (nI (i + 1)))) (hIR)
  refine q_goiW (va_runV (As := [.int (xs (Int32.toNatClampNeg (nI (i + 1))))]) (rest := []) C (cr_fetch hB2 _) (cwV 1 hts glv_X11_fetch rfl rfl rfl (by decide +kernel) ⟨Nat.le_of_ble_eq_true rfl, Nat.le_of_ble_eq_true rfl⟩) (q_preV hK (P_left hP) (ci := 11) (q0 := 0) rfl rfl rfl (q_preF hN hK (P_left hP) (D_left hD))) rfl rfl hl.1 rfl (lv_room (Nat.le_of_ble_eq_true rfl)) dL_law_598 ⟨Nat.le_of_ble_eq_true rfl, Nat.le_of_ble_eq_true rfl⟩) hP hD hS hA (fun q2 w2 H locs hw hP hD hS => ?_)
  obtain ⟨hr2, hw⟩ := hw
  subst hw
  refine lv_pop hx hb dL_law_601 rfl ?_
  refine lv_goto (tgt := 1489) hx hb dL_law_602 (by decide) ?_
  exact kk y1 z2 H locs ls (hq1.1) (hq1.2.2.1) (hq2.1) ((hBG).fr (hq2.2.1) (by decide)) ⟨tpr_keep (hq1.2.1) (hq2.2.1) (by decide) (by decide) hTP.1, (fetch_same hTP.2 hIK hIR hBG hIG hB1 hB2).2⟩ hP hD hS hl

set_option maxHeartbeats 4000000 in
set_option maxRecDepth 100000 in
theorem law_case_11 {p : Program} {e : Env} {s : State} {m : MethodId} {below : List Frame} {meth : Method} {c : Code} (l : Launch) {b L : Nat} {xs : Nat → Int32} (hL : L ≤ 3072) (C0 : lw_At p s m meth c b L xs) (dC : Nat → ClassId) (dI : Nat → Nat → Nat) (cB cI cJ cZ cS : ClassId) (hK : va_K (dC, dI) vwCl (tysA cB cI cJ cZ cS) s) (hN : nw_ok s) (ak av : Nat) (hXS : xS ak av (fun q : Nat => s.heap.size ≤ q) s s.heap) (a b1 b2 c0 : Nat → Nat) (bb : Nat → Nat → Nat) (hm : Nat) (a9 : Nat → Nat) (i : Nat) (hi : i + 6 ≤ L) (kk : ∀ (y : YS) (z : RS) (H : Heap) (locs : List Loc) (ls : Array Slot), InvK y.x.k → InvG y.x.g → InvR z → Big z → TP y z → va_P (dC, dI) vwCl (mwS cB cI cJ cZ hm a9 z ++ wY cB cI cJ cZ cS a b1 b2 c0 bb y) H → va_D (fun q : Nat => s.heap.size ≤ q) (mwS cB cI cJ cZ hm a9 z ++ wY cB cI cJ cZ cS a b1 b2 c0 bb y) → va_S (fun q : Nat => s.heap.size ≤ q) s.heap H locs → lv_has ls 4 [(3, .int (nI i)), (2, .ref hm), (1, .ref (c0 0)), (0, .ref b)] → W p l e room_1 s m #[Value.ref b] below meth c H locs 361 24806 (lw_Z below #[Value.ref b] s) (F0 m 1489 ls [])) : ∀ (y : YS) (z : RS) (H : Heap) (locs : List Loc) (ls : Array Slot), InvK y.x.k → InvG y.x.g → InvR z → Big z → TP y z → va_P (dC, dI) vwCl (mwS cB cI cJ cZ hm a9 z ++ wY cB cI cJ cZ cS a b1 b2 c0 bb y) H → va_D (fun q : Nat => s.heap.size ≤ q) (mwS cB cI cJ cZ hm a9 z ++ wY cB cI cJ cZ cS a b1 b2 c0 bb y) → va_S (fun q : Nat => s.heap.size ≤ q) s.heap H locs → lv_has ls 4 [(3, .int (nI i)), (2, .ref hm), (1, .ref (c0 0)), (0, .ref b)] → W p l e room_1 s m #[Value.ref b] below meth c H locs 361 24806 (lw_Z below #[Value.ref b] s) (F0 m 605 ls []) := by
  obtain ⟨hx, hb, hr, hml, hown, hts, hX, hbl, hlocks, hgv⟩ := id C0
  have C : CallFix p m c code 4 s #[Value.ref b] lw_tbl R_law := ⟨hx, hb, hml, hown, hts⟩
  have hA : ∀ q : Nat, s.heap.size ≤ q → (fun q : Nat => s.heap.size ≤ q) q := fun _ h => h
  have hbA : ¬ (fun q : Nat => s.heap.size ≤ q) b := Nat.not_le.mpr hbl
  intro y z H locs ls hIK hIG hIR hBG hTP hP hD hS hl
  refine lv_aload_n hx hb dL_law_605 rfl (lv_at hl 2 rfl) ?_
  refine lv_aload_n hx hb dL_law_606 rfl (lv_at hl 3 rfl) ?_
  refine lv_iload_n hx hb dL_law_607 rfl (lv_at hl 0 rfl) ?_
  refine lv_iconst (v := 1) hx hb dL_law_608 (by decide) ?_
  refine lv_iadd hx hb dL_law_609 ?_
  refine q_top (y := nI (i + 1)) (nI_add i 1) ?_
  refine va_sld hx hb hX hbl hbA hS (vp_in_nI (by omega) (by omega)) dL_law_610 ?_
  obtain ⟨⟨r1, y1⟩, hB1, hq1⟩ := ok_kX10_years y (xs (Int32.toNatClampNeg (nI (i + 1)))) (hIK) (hIG)
  have hP1 : va_P (dC, dI) vwCl (wY cB cI cJ cZ cS a b1 b2 c0 bb y ++ mwS cB cI cJ cZ hm a9 z) H := sw2P hP
  have hD1 : va_D (fun q : Nat => s.heap.size ≤ q) (wY cB cI cJ cZ cS a b1 b2 c0 bb y ++ mwS cB cI cJ cZ hm a9 z) := sw2D hD
  refine q_goiW (va_runV (As := [.int (xs (Int32.toNatClampNeg (nI (i + 1))))]) (rest := []) C (ckX10_years hB1 _) (cwV 1 hts glv_X10_years rfl rfl rfl (by decide +kernel) ⟨Nat.le_of_ble_eq_true rfl, Nat.le_of_ble_eq_true rfl⟩) (q_preV hK (P_left hP1) (ci := 10) (q0 := 0) rfl rfl rfl (q_preF hN hK (P_left hP1) (D_left hD1))) rfl rfl hl.1 rfl (lv_room (Nat.le_of_ble_eq_true rfl)) dL_law_611 ⟨Nat.le_of_ble_eq_true rfl, Nat.le_of_ble_eq_true rfl⟩) hP1 hD1 hS hA (fun q1 w1 H locs hw hP hD hS => ?_)
  obtain ⟨hr1, hw⟩ := hw
  subst hw
  have hP : va_P (dC, dI) vwCl (mwS cB cI cJ cZ hm a9 z ++ wY cB cI cJ cZ cS a b1 b2 c0 bb y1) H := sw2P hP
  have hD : va_D (fun q : Nat => s.heap.size ≤ q) (mwS cB cI cJ cZ hm a9 z ++ wY cB cI cJ cZ cS a b1 b2 c0 bb y1) := sw2D hD
  refine lv_pop hx hb dL_law_614 rfl ?_
  refine lv_aload_n hx hb dL_law_615 rfl (lv_at hl 1 rfl) ?_
  refine lv_aload_n hx hb dL_law_616 rfl (lv_at hl 3 rfl) ?_
  refine lv_iload_n hx hb dL_law_617 rfl (lv_at hl 0 rfl) ?_
  refine lv_iconst (v := 1) hx hb dL_law_618 (by decide) ?_
  refine lv_iadd hx hb dL_law_619 ?_
  refine q_top (y := nI (i + 1)) (nI_add i 1) ?_
  refine va_sld hx hb hX hbl hbA hS (vp_in_nI (by omega) (by omega)) dL_law_620 ?_
  obtain ⟨⟨r2, z2⟩, hB2, hq2⟩ := ok_r_years z (xs (Int32.toNatClampNeg (nI (i + 1)))) (hIR) (hBG)
  refine q_goiW (va_runV (As := [.int (xs (Int32.toNatClampNeg (nI (i + 1))))]) (rest := []) C (cr_years hB2 _) (cwV 1 hts glv_X11_years rfl rfl rfl (by decide +kernel) ⟨Nat.le_of_ble_eq_true rfl, Nat.le_of_ble_eq_true rfl⟩) (q_preV hK (P_left hP) (ci := 11) (q0 := 0) rfl rfl rfl (q_preF hN hK (P_left hP) (D_left hD))) rfl rfl hl.1 rfl (lv_room (Nat.le_of_ble_eq_true rfl)) dL_law_621 ⟨Nat.le_of_ble_eq_true rfl, Nat.le_of_ble_eq_true rfl⟩) hP hD hS hA (fun q2 w2 H locs hw hP hD hS => ?_)
  obtain ⟨hr2, hw⟩ := hw
  subst hw
  refine lv_pop hx hb dL_law_624 rfl ?_
  refine lv_goto (tgt := 1489) hx hb dL_law_625 (by decide) ?_
  exact kk y1 z2 H locs ls (hq1.1) (hq1.2.2.1) (hq2.1) ((hBG).fr (hq2.2.1) (by decide)) ⟨tpr_keep (hq1.2.1) (hq2.2.1) (by decide) (by decide) hTP.1, (years2_same hTP.2 hIK hIR hBG hIG hB1 hB2).2⟩ hP hD hS hl

set_option maxHeartbeats 4000000 in
set_option maxRecDepth 100000 in
theorem law_case_12 {p : Program} {e : Env} {s : State} {m : MethodId} {below : List Frame} {meth : Method} {c : Code} (l : Launch) {b L : Nat} {xs : Nat → Int32} (hL : L ≤ 3072) (C0 : lw_At p s m meth c b L xs) (dC : Nat → ClassId) (dI : Nat → Nat → Nat) (cB cI cJ cZ cS : ClassId) (hK : va_K (dC, dI) vwCl (tysA cB cI cJ cZ cS) s) (hN : nw_ok s) (ak av : Nat) (hXS : xS ak av (fun q : Nat => s.heap.size ≤ q) s s.heap) (a b1 b2 c0 : Nat → Nat) (bb : Nat → Nat → Nat) (hm : Nat) (a9 : Nat → Nat) (i : Nat) (hi : i + 6 ≤ L) (kk : ∀ (y : YS) (z : RS) (H : Heap) (locs : List Loc) (ls : Array Slot), InvK y.x.k → InvG y.x.g → InvR z → Big z → TP y z → va_P (dC, dI) vwCl (mwS cB cI cJ cZ hm a9 z ++ wY cB cI cJ cZ cS a b1 b2 c0 bb y) H → va_D (fun q : Nat => s.heap.size ≤ q) (mwS cB cI cJ cZ hm a9 z ++ wY cB cI cJ cZ cS a b1 b2 c0 bb y) → va_S (fun q : Nat => s.heap.size ≤ q) s.heap H locs → lv_has ls 4 [(3, .int (nI i)), (2, .ref hm), (1, .ref (c0 0)), (0, .ref b)] → W p l e room_1 s m #[Value.ref b] below meth c H locs 361 24806 (lw_Z below #[Value.ref b] s) (F0 m 1489 ls [])) : ∀ (y : YS) (z : RS) (H : Heap) (locs : List Loc) (ls : Array Slot), InvK y.x.k → InvG y.x.g → InvR z → Big z → TP y z → va_P (dC, dI) vwCl (mwS cB cI cJ cZ hm a9 z ++ wY cB cI cJ cZ cS a b1 b2 c0 bb y) H → va_D (fun q : Nat => s.heap.size ≤ q) (mwS cB cI cJ cZ hm a9 z ++ wY cB cI cJ cZ cS a b1 b2 c0 bb y) → va_S (fun q : Nat => s.heap.size ≤ q) s.heap H locs → lv_has ls 4 [(3, .int (nI i)), (2, .ref hm), (1, .ref (c0 0)), (0, .ref b)] → W p l e room_1 s m #[Value.ref b] below meth c H locs 361 24806 (lw_Z below #[Value.ref b] s) (F0 m 628 ls []) := by
  obtain ⟨hx, hb, hr, hml, hown, hts, hX, hbl, hlocks, hgv⟩ := id C0
  have C : CallFix p m c code 4 s #[Value.ref b] lw_tbl R_law := ⟨hx, hb, hml, hown, hts⟩
  have hA : ∀ q : Nat, s.heap.size ≤ q → (fun q : Nat => s.heap.size ≤ q) q := fun _ h => h
  have hbA : ¬ (fun q : Nat => s.heap.size ≤ q) b := Nat.not_le.mpr hbl
  intro y z H locs ls hIK hIG hIR hBG hTP hP hD hS hl
  refine lv_aload_n hx hb dL_law_628 rfl (lv_at hl 2 rfl) ?_
  obtain ⟨⟨r1, y1⟩, hB1, hq1⟩ := ok_kX10_undo y (hIK) (hIG)
  have hP1 : va_P (dC, dI) vwCl (wY cB cI cJ cZ cS a b1 b2 c0 bb y ++ mwS cB cI cJ cZ hm a9 z) H := sw2P hP
  have hD1 : va_D (fun q : Nat => s.heap.size ≤ q) (wY cB cI cJ cZ cS a b1 b2 c0 bb y ++ mwS cB cI cJ cZ hm a9 z) := sw2D hD
  refine q_goiW (va_runV (As := []) (rest := []) C (ckX10_undo hB1 _) (cwV 0 hts glv_X10_undo rfl rfl rfl (by decide +kernel) ⟨Nat.le_of_ble_eq_true rfl, Nat.le_of_ble_eq_true rfl⟩) (q_preV hK (P_left hP1) (ci := 10) (q0 := 0) rfl rfl rfl (q_preF hN hK (P_left hP1) (D_left hD1))) rfl rfl hl.1 rfl (lv_room (Nat.le_of_ble_eq_true rfl)) dL_law_629 ⟨Nat.le_of_ble_eq_true rfl, Nat.le_of_ble_eq_true rfl⟩) hP1 hD1 hS hA (fun q1 w1 H locs hw hP hD hS => ?_)
  obtain ⟨hr1, hw⟩ := hw
  subst hw
  have hP : va_P (dC, dI) vwCl (mwS cB cI cJ cZ hm a9 z ++ wY cB cI cJ cZ cS a b1 b2 c0 bb y1) H := sw2P hP
  have hD : va_D (fun q : Nat => s.heap.size ≤ q) (mwS cB cI cJ cZ hm a9 z ++ wY cB cI cJ cZ cS a b1 b2 c0 bb y1) := sw2D hD
  refine lv_pop hx hb dL_law_632 rfl ?_
  refine lv_aload_n hx hb dL_law_633 rfl (lv_at hl 1 rfl) ?_
  obtain ⟨⟨r2, z2⟩, hB2, hq2⟩ := ok_r_undo z (hIR)
  refine q_goiW (va_runV (As := []) (rest := []) C (cr_undo hB2 _) (cwV 0 hts glv_X11_undo rfl rfl rfl (by decide +kernel) ⟨Nat.le_of_ble_eq_true rfl, Nat.le_of_ble_eq_true rfl⟩) (q_preV hK (P_left hP) (ci := 11) (q0 := 0) rfl rfl rfl (q_preF hN hK (P_left hP) (D_left hD))) rfl rfl hl.1 rfl (lv_room (Nat.le_of_ble_eq_true rfl)) dL_law_634 ⟨Nat.le_of_ble_eq_true rfl, Nat.le_of_ble_eq_true rfl⟩) hP hD hS hA (fun q2 w2 H locs hw hP hD hS => ?_)
  obtain ⟨hr2, hw⟩ := hw
  subst hw
  refine lv_pop hx hb dL_law_637 rfl ?_
  refine lv_goto (tgt := 1489) hx hb dL_law_638 (by decide) ?_
  exact kk y1 z2 H locs ls (hq1.1) (hq1.2.2.1) (hq2.1) ((hBG).fr (hq2.2.1) (by decide)) ⟨tpr_keep (hq1.2.1) (hq2.2.1) (by decide) (by decide) hTP.1, (undo_same hTP.2 hIK hIR hB1 hB2).2⟩ hP hD hS hl

set_option maxHeartbeats 4000000 in
set_option maxRecDepth 100000 in
theorem law_case_13 {p : Program} {e : Env} {s : State} {m : MethodId} {below : List Frame} {meth : Method} {c : Code} (l : Launch) {b L : Nat} {xs : Nat → Int32} (hL : L ≤ 3072) (C0 : lw_At p s m meth c b L xs) (dC : Nat → ClassId) (dI : Nat → Nat → Nat) (cB cI cJ cZ cS : ClassId) (hK : va_K (dC, dI) vwCl (tysA cB cI cJ cZ cS) s) (hN : nw_ok s) (ak av : Nat) (hXS : xS ak av (fun q : Nat => s.heap.size ≤ q) s s.heap) (a b1 b2 c0 : Nat → Nat) (bb : Nat → Nat → Nat) (hm : Nat) (a9 : Nat → Nat) (i : Nat) (hi : i + 6 ≤ L) (kk : ∀ (y : YS) (z : RS) (H : Heap) (locs : List Loc) (ls : Array Slot), InvK y.x.k → InvG y.x.g → InvR z → Big z → TP y z → va_P (dC, dI) vwCl (mwS cB cI cJ cZ hm a9 z ++ wY cB cI cJ cZ cS a b1 b2 c0 bb y) H → va_D (fun q : Nat => s.heap.size ≤ q) (mwS cB cI cJ cZ hm a9 z ++ wY cB cI cJ cZ cS a b1 b2 c0 bb y) → va_S (fun q : Nat => s.heap.size ≤ q) s.heap H locs → lv_has ls 4 [(3, .int (nI i)), (2, .ref hm), (1, .ref (c0 0)), (0, .ref b)] → W p l e room_1 s m #[Value.ref b] below meth c H locs 361 24806 (lw_Z below #[Value.ref b] s) (F0 m 1489 ls [])) : ∀ (y : YS) (z : RS) (H : Heap) (locs : List Loc) (ls : Array Slot), InvK y.x.k → InvG y.x.g → InvR z → Big z → TP y z → va_P (dC, dI) vwCl (mwS cB cI cJ cZ hm a9 z ++ wY cB cI cJ cZ cS a b1 b2 c0 bb y) H → va_D (fun q : Nat => s.heap.size ≤ q) (mwS cB cI cJ cZ hm a9 z ++ wY cB cI cJ cZ cS a b1 b2 c0 bb y) → va_S (fun q : Nat => s.heap.size ≤ q) s.heap H locs → lv_has ls 4 [(3, .int (nI i)), (2, .ref hm), (1, .ref (c0 0)), (0, .ref b)] → W p l e room_1 s m #[Value.ref b] below meth c H locs 361 24806 (lw_Z below #[Value.ref b] s) (F0 m 641 ls []) := by
  obtain ⟨hx, hb, hr, hml, hown, hts, hX, hbl, hlocks, hgv⟩ := id C0
  have C : CallFix p m c code 4 s #[Value.ref b] lw_tbl R_law := ⟨hx, hb, hml, hown, hts⟩
  have hA : ∀ q : Nat, s.heap.size ≤ q → (fun q : Nat => s.heap.size ≤ q) q := fun _ h => h
  have hbA : ¬ (fun q : Nat => s.heap.size ≤ q) b := Nat.not_le.mpr hbl
  intro y z H locs ls hIK hIG hIR hBG hTP hP hD hS hl
  refine lv_aload_n hx hb dL_law_641 rfl (lv_at hl 2 rfl) ?_
  obtain ⟨⟨r1, y1⟩, hB1, hq1⟩ := ok_kX10_cases y.x (hIK) (hIG)
  have hP1 : va_P (dC, dI) vwCl (wX cB cI cJ cZ cS a b1 b2 c0 (rgP bb) (slP bb) y.x ++ (wPool cI bb y.r 43 ++ mwS cB cI cJ cZ hm a9 z)) H := sw1P hP
  have hD1 : va_D (fun q : Nat => s.heap.size ≤ q) (wX cB cI cJ cZ cS a b1 b2 c0 (rgP bb) (slP bb) y.x ++ (wPool cI bb y.r 43 ++ mwS cB cI cJ cZ hm a9 z)) := sw1D hD
  refine q_goiW (va_runV (As := []) (rest := []) C (ckX10_cases hB1 _) (cwV 0 hts glv_X10_cases rfl rfl rfl (by decide +kernel) ⟨Nat.le_of_ble_eq_true rfl, Nat.le_of_ble_eq_true rfl⟩) (q_preV hK (P_left hP1) (ci := 10) (q0 := 0) rfl rfl rfl (q_preF hN hK (P_left hP1) (D_left hD1))) rfl rfl hl.1 rfl (lv_room (Nat.le_of_ble_eq_true rfl)) dL_law_642 ⟨Nat.le_of_ble_eq_true rfl, Nat.le_of_ble_eq_true rfl⟩) hP1 hD1 hS hA (fun q1 w1 H locs hw hP hD hS => ?_)
  obtain ⟨hr1, hw⟩ := hw
  subst hw
  have hP : va_P (dC, dI) vwCl (mwS cB cI cJ cZ hm a9 z ++ wY cB cI cJ cZ cS a b1 b2 c0 bb (YS.mk y1 y.r)) H := sw3P hP
  have hD : va_D (fun q : Nat => s.heap.size ≤ q) (mwS cB cI cJ cZ hm a9 z ++ wY cB cI cJ cZ cS a b1 b2 c0 bb (YS.mk y1 y.r)) := sw3D hD
  refine lv_pop hx hb dL_law_645 rfl ?_
  refine lv_aload_n hx hb dL_law_646 rfl (lv_at hl 1 rfl) ?_
  obtain ⟨⟨r2, z2⟩, hB2, hq2⟩ := ok_r_cases z (hIR)
  refine q_goiW (va_runV (As := []) (rest := []) C (cr_cases hB2 _) (cwV 0 hts glv_X11_cases rfl rfl rfl (by decide +kernel) ⟨Nat.le_of_ble_eq_true rfl, Nat.le_of_ble_eq_true rfl⟩) (q_preV hK (P_left hP) (ci := 11) (q0 := 0) rfl rfl rfl (q_preF hN hK (P_left hP) (D_left hD))) rfl rfl hl.1 rfl (lv_room (Nat.le_of_ble_eq_true rfl)) dL_law_647 ⟨Nat.le_of_ble_eq_true rfl, Nat.le_of_ble_eq_true rfl⟩) hP hD hS hA (fun q2 w2 H locs hw hP hD hS => ?_)
  obtain ⟨hr2, hw⟩ := hw
  subst hw
  refine lv_pop hx hb dL_law_650 rfl ?_
  refine lv_goto (tgt := 1489) hx hb dL_law_651 (by decide) ?_
  exact kk (YS.mk y1 y.r) z2 H locs ls (hq1.1) (hq1.2.2.1) (hq2.1) ((hBG).fr (hq2.2.1) (by decide)) ⟨tpr_keep (hq1.2.1) (hq2.2.1) (by decide) (by decide) hTP.1, REL.keep hTP.2 (fr_kX10_cases _ _ _ ⟨rfl, rfl⟩ _ hB1).1 (fr_kX10_cases _ _ _ ⟨rfl, rfl⟩ _ hB1).2 (hq1.2.1) (hq2.2.1) ⟨by decide, by decide⟩ ⟨by decide, by decide⟩⟩ hP hD hS hl
