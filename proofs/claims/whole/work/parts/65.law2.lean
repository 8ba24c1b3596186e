theorem dL_law_420 : decode cL_law 420 = .ok (.aload_n 1, 1) := by decide +kernel
theorem dL_law_421 : decode cL_law 421 = .ok (.invokevirtual 49, 3) := by decide +kernel
theorem dL_law_424 : decode cL_law 424 = .ok (.aload_n 2, 1) := by decide +kernel
theorem dL_law_425 : decode cL_law 425 = .ok (.invokevirtual 52, 3) := by decide +kernel
theorem dL_law_428 : decode cL_law 428 = .ok (.if_icmp .eq 731, 3) := by decide +kernel
theorem dL_law_431 : decode cL_law 431 = .ok (.iconst 0, 1) := by decide +kernel
theorem dL_law_432 : decode cL_law 432 = .ok (.ireturn, 1) := by decide +kernel
theorem dL_law_433 : decode cL_law 433 = .ok (.aload_n 1, 1) := by decide +kernel
theorem dL_law_434 : decode cL_law 434 = .ok (.invokevirtual 53, 3) := by decide +kernel
theorem dL_law_437 : decode cL_law 437 = .ok (.aload_n 2, 1) := by decide +kernel
theorem dL_law_438 : decode cL_law 438 = .ok (.invokevirtual 56, 3) := by decide +kernel
theorem dL_law_441 : decode cL_law 441 = .ok (.if_icmp .eq 718, 3) := by decide +kernel
theorem dL_law_444 : decode cL_law 444 = .ok (.iconst 0, 1) := by decide +kernel
theorem dL_law_445 : decode cL_law 445 = .ok (.ireturn, 1) := by decide +kernel
theorem dL_law_446 : decode cL_law 446 = .ok (.aload_n 1, 1) := by decide +kernel
theorem dL_law_447 : decode cL_law 447 = .ok (.aload_n 0, 1) := by decide +kernel
theorem dL_law_448 : decode cL_law 448 = .ok (.iload_n 3, 1) := by decide +kernel
theorem dL_law_449 : decode cL_law 449 = .ok (.iconst 1, 1) := by decide +kernel
theorem dL_law_450 : decode cL_law 450 = .ok (.iadd, 1) := by decide +kernel
theorem dL_law_451 : decode cL_law 451 = .ok (.iaload, 1) := by decide +kernel
theorem dL_law_452 : decode cL_law 452 = .ok (.invokevirtual 57, 3) := by decide +kernel
theorem dL_law_455 : decode cL_law 455 = .ok (.aload_n 2, 1) := by decide +kernel
theorem dL_law_456 : decode cL_law 456 = .ok (.aload_n 0, 1) := by decide +kernel
theorem dL_law_457 : decode cL_law 457 = .ok (.iload_n 3, 1) := by decide +kernel
theorem dL_law_458 : decode cL_law 458 = .ok (.iconst 1, 1) := by decide +kernel
theorem dL_law_459 : decode cL_law 459 = .ok (.iadd, 1) := by decide +kernel
theorem dL_law_460 : decode cL_law 460 = .ok (.iaload, 1) := by decide +kernel
theorem dL_law_461 : decode cL_law 461 = .ok (.invokevirtual 60, 3) := by decide +kernel
theorem dL_law_464 : decode cL_law 464 = .ok (.if_icmp .eq 695, 3) := by decide +kernel
theorem dL_law_467 : decode cL_law 467 = .ok (.iconst 0, 1) := by decide +kernel
theorem dL_law_468 : decode cL_law 468 = .ok (.ireturn, 1) := by decide +kernel
theorem dL_law_469 : decode cL_law 469 = .ok (.aload_n 1, 1) := by decide +kernel
theorem dL_law_470 : decode cL_law 470 = .ok (.invokevirtual 61, 3) := by decide +kernel
theorem dL_law_473 : decode cL_law 473 = .ok (.aload_n 2, 1) := by decide +kernel
theorem dL_law_474 : decode cL_law 474 = .ok (.invokevirtual 64, 3) := by decide +kernel
theorem dL_law_477 : decode cL_law 477 = .ok (.if_icmp .eq 682, 3) := by decide +kernel
theorem dL_law_480 : decode cL_law 480 = .ok (.iconst 0, 1) := by decide +kernel
theorem dL_law_481 : decode cL_law 481 = .ok (.ireturn, 1) := by decide +kernel
theorem dL_law_482 : decode cL_law 482 = .ok (.aload_n 1, 1) := by decide +kernel
theorem dL_law_483 : decode cL_law 483 = .ok (.aload_n 0, 1) := by decide +kernel
theorem dL_law_484 : decode cL_law 484 = .ok (.iload_n 3, 1) := by decide +kernel
theorem dL_law_485 : decode cL_law 485 = .ok (.iconst 1, 1) := by decide +kernel
theorem dL_law_486 : decode cL_law 486 = .ok (.iadd, 1) := by decide +kernel
theorem dL_law_487 : decode cL_law 487 = .ok (.iaload, 1) := by decide +kernel
theorem dL_law_488 : decode cL_law 488 = .ok (.aload_n 0, 1) := by decide +kernel
theorem dL_law_489 : decode cL_law 489 = .ok (.iload_n 3, 1) := by decide +kernel
theorem dL_law_490 : decode cL_law 490 = .ok (.iconst 2, 1) := by decide +kernel
theorem dL_law_491 : decode cL_law 491 = .ok (.iadd, 1) := by decide +kernel
theorem dL_law_492 : decode cL_law 492 = .ok (.iaload, 1) := by decide +kernel
theorem dL_law_493 : decode cL_law 493 = .ok (.aload_n 0, 1) := by decide +kernel
theorem dL_law_494 : decode cL_law 494 = .ok (.iload_n 3, 1) := by decide +kernel
theorem dL_law_495 : decode cL_law 495 = .ok (.iconst 3, 1) := by decide +kernel
theorem dL_law_496 : decode cL_law 496 = .ok (.iadd, 1) := by decide +kernel
theorem dL_law_497 : decode cL_law 497 = .ok (.iaload, 1) := by decide +kernel
theorem dL_law_498 : decode cL_law 498 = .ok (.invokevirtual 65, 3) := by decide +kernel
theorem dL_law_501 : decode cL_law 501 = .ok (.aload_n 2, 1) := by decide +kernel
theorem dL_law_502 : decode cL_law 502 = .ok (.aload_n 0, 1) := by decide +kernel
theorem dL_law_503 : decode cL_law 503 = .ok (.iload_n 3, 1) := by decide +kernel
theorem dL_law_504 : decode cL_law 504 = .ok (.iconst 1, 1) := by decide +kernel
theorem dL_law_505 : decode cL_law 505 = .ok (.iadd, 1) := by decide +kernel
theorem dL_law_506 : decode cL_law 506 = .ok (.iaload, 1) := by decide +kernel
theorem dL_law_507 : decode cL_law 507 = .ok (.aload_n 0, 1) := by decide +kernel
theorem dL_law_508 : decode cL_law 508 = .ok (.iload_n 3, 1) := by decide +kernel
theorem dL_law_509 : decode cL_law 509 = .ok (.iconst 2, 1) := by decide +kernel
theorem dL_law_510 : decode cL_law 510 = .ok (.iadd, 1) := by decide +kernel
theorem dL_law_511 : decode cL_law 511 = .ok (.iaload, 1) := by decide +kernel
theorem dL_law_512 : decode cL_law 512 = .ok (.aload_n 0, 1) := by decide +kernel
theorem dL_law_513 : decode cL_law 513 = .ok (.iload_n 3, 1) := by decide +kernel
theorem dL_law_514 : decode cL_law 514 = .ok (.iconst 3, 1) := by decide +kernel
theorem dL_law_515 : decode cL_law 515 = .ok (.iadd, 1) := by decide +kernel
theorem dL_law_516 : decode cL_law 516 = .ok (.iaload, 1) := by decide +kernel
theorem dL_law_517 : decode cL_law 517 = .ok (.invokevirtual 68, 3) := by decide +kernel
theorem dL_law_520 : decode cL_law 520 = .ok (.if_icmp .eq 639, 3) := by decide +kernel
theorem dL_law_523 : decode cL_law 523 = .ok (.iconst 0, 1) := by decide +kernel
theorem dL_law_524 : decode cL_law 524 = .ok (.ireturn, 1) := by decide +kernel
theorem dL_law_525 : decode cL_law 525 = .ok (.aload_n 1, 1) := by decide +kernel
theorem dL_law_526 : decode cL_law 526 = .ok (.invokevirtual 69, 3) := by decide +kernel
theorem dL_law_529 : decode cL_law 529 = .ok (.aload_n 2, 1) := by decide +kernel
theorem dL_law_530 : decode cL_law 530 = .ok (.invokevirtual 72, 3) := by decide +kernel
theorem dL_law_533 : decode cL_law 533 = .ok (.if_icmp .eq 626, 3) := by decide +kernel
theorem dL_law_536 : decode cL_law 536 = .ok (.iconst 0, 1) := by decide +kernel
theorem dL_law_537 : decode cL_law 537 = .ok (.ireturn, 1) := by decide +kernel
theorem dL_law_538 : decode cL_law 538 = .ok (.aload_n 1, 1) := by decide +kernel
theorem dL_law_539 : decode cL_law 539 = .ok (.invokevirtual 73, 3) := by decide +kernel
theorem dL_law_542 : decode cL_law 542 = .ok (.aload_n 2, 1) := by decide +kernel
theorem dL_law_543 : decode cL_law 543 = .ok (.invokevirtual 76, 3) := by decide +kernel
theorem dL_law_546 : decode cL_law 546 = .ok (.if_icmp .eq 613, 3) := by decide +kernel
theorem dL_law_549 : decode cL_law 549 = .ok (.iconst 0, 1) := by decide +kernel
theorem dL_law_550 : decode cL_law 550 = .ok (.ireturn, 1) := by decide +kernel
theorem dL_law_551 : decode cL_law 551 = .ok (.aload_n 1, 1) := by decide +kernel
theorem dL_law_552 : decode cL_law 552 = .ok (.invokevirtual 77, 3) := by decide +kernel
theorem dL_law_555 : decode cL_law 555 = .ok (.aload_n 2, 1) := by decide +kernel
theorem dL_law_556 : decode cL_law 556 = .ok (.invokevirtual 80, 3) := by decide +kernel
theorem dL_law_559 : decode cL_law 559 = .ok (.if_icmp .eq 600, 3) := by decide +kernel
theorem dL_law_562 : decode cL_law 562 = .ok (.iconst 0, 1) := by decide +kernel
theorem dL_law_563 : decode cL_law 563 = .ok (.ireturn, 1) := by decide +kernel
theorem dL_law_564 : decode cL_law 564 = .ok (.aload_n 1, 1) := by decide +kernel
theorem dL_law_565 : decode cL_law 565 = .ok (.aload_n 0, 1) := by decide +kernel
theorem dL_law_566 : decode cL_law 566 = .ok (.iload_n 3, 1) := by decide +kernel
theorem dL_law_567 : decode cL_law 567 = .ok (.iconst 1, 1) := by decide +kernel
theorem dL_law_568 : decode cL_law 568 = .ok (.iadd, 1) := by decide +kernel
theorem dL_law_569 : decode cL_law 569 = .ok (.iaload, 1) := by decide +kernel
theorem dL_law_570 : decode cL_law 570 = .ok (.invokevirtual 81, 3) := by decide +kernel
theorem dL_law_573 : decode cL_law 573 = .ok (.aload_n 2, 1) := by decide +kernel
theorem dL_law_574 : decode cL_law 574 = .ok (.aload_n 0, 1) := by decide +kernel
theorem dL_law_575 : decode cL_law 575 = .ok (.iload_n 3, 1) := by decide +kernel
theorem dL_law_576 : decode cL_law 576 = .ok (.iconst 1, 1) := by decide +kernel
theorem dL_law_577 : decode cL_law 577 = .ok (.iadd, 1) := by decide +kernel
theorem dL_law_578 : decode cL_law 578 = .ok (.iaload, 1) := by decide +kernel
theorem dL_law_579 : decode cL_law 579 = .ok (.invokevirtual 84, 3) := by decide +kernel
theorem dL_law_582 : decode cL_law 582 = .ok (.if_icmp .eq 577, 3) := by decide +kernel
theorem dL_law_585 : decode cL_law 585 = .ok (.iconst 0, 1) := by decide +kernel
theorem dL_law_586 : decode cL_law 586 = .ok (.ireturn, 1) := by decide +kernel
section LAW1
variable {nm : String} {xl : Nat} {xs : Nat → Int32} {n i : Nat} {I S : Nat → Nat → Int32} {J T : Nat → Nat → Int64} {X : Nat → Option Nat} {Q : QT}
theorem lw_fault (hx : xl ≤ 320) (hi : i + 5 ≤ xl) (hG : GI n I J X) (k : ∀ I S J T, GI n I J X → Ev xl xs 7 169 (65 - n) ((65 - n) * 12) (mLn nm) 1159 [some (.ref 1004), some (.ref 0), some (.ref 33), some (.int (nI i))] [] n (sysH (ov I S) (ovJ J T) X) Q) : Ev xl xs 7 169 (65 - n) ((65 - n) * 12) (mLn nm) 420 [some (.ref 1004), some (.ref 0), some (.ref 33), some (.int (nI i))] [] n (sysH (ov I S) (ovJ J T) X) Q := by
  have hn := GI_n hG
  obtain ⟨r, hB⟩ := st_fault (xl := xl) (xs := xs)  hG
  refine ev_aload_n (q := 421) dL_law_420 rfl rfl ?_
  refine ev_callV0iX (q := 424) dL_law_421 ca_L_49 (hB _ _) rfl (lt_n hn (by decide)) rfl rfl (Nat.le_of_ble_eq_true rfl) (Nat.le_of_ble_eq_true rfl) (by decide) (by decide) rfl (fun I2 S J2 T hp_421 => ?_)
  refine ev_aload_n (q := 425) dL_law_424 rfl rfl ?_
  refine ev_callV0iX (q := 428) dL_law_425 ca_L_52 (hp_421 _ _) rfl (lt_n hn (by decide)) rfl rfl (Nat.le_of_ble_eq_true rfl) (Nat.le_of_ble_eq_true rfl) (by decide) (by decide) rfl (fun I2 S J2 T hp_425 => ?_)
  refine ev_icmp_eq (q := 431) 1159 dL_law_428 (by decide) rfl (fun c_428 => ?_) (fun c_428 => ?_)
  · exact k _ _ _ _ hp_425
  · exact absurd rfl c_428
theorem lw_enact (hx : xl ≤ 320) (hi : i + 5 ≤ xl) (hG : GI n I J X) (k : ∀ I S J T, GI n I J X → Ev xl xs 7 169 (65 - n) ((65 - n) * 12) (mLn nm) 1159 [some (.ref 1004), some (.ref 0), some (.ref 33), some (.int (nI i))] [] n (sysH (ov I S) (ovJ J T) X) Q) : Ev xl xs 7 169 (65 - n) ((65 - n) * 12) (mLn nm) 433 [some (.ref 1004), some (.ref 0), some (.ref 33), some (.int (nI i))] [] n (sysH (ov I S) (ovJ J T) X) Q := by
  have hn := GI_n hG
  obtain ⟨r, hB⟩ := st_enact (xl := xl) (xs := xs)  hG
  refine ev_aload_n (q := 434) dL_law_433 rfl rfl ?_
  refine ev_callV0iX (q := 437) dL_law_434 ca_L_53 (hB _ _) rfl (lt_n hn (by decide)) rfl rfl (Nat.le_of_ble_eq_true rfl) (Nat.le_of_ble_eq_true rfl) (by decide) (by decide) rfl (fun I2 S J2 T hp_434 => ?_)
  refine ev_aload_n (q := 438) dL_law_437 rfl rfl ?_
  refine ev_callV0iX (q := 441) dL_law_438 ca_L_56 (hp_434 _ _) rfl (lt_n hn (by decide)) rfl rfl (Nat.le_of_ble_eq_true rfl) (Nat.le_of_ble_eq_true rfl) (by decide) (by decide) rfl (fun I2 S J2 T hp_438 => ?_)
  refine ev_icmp_eq (q := 444) 1159 dL_law_441 (by decide) rfl (fun c_441 => ?_) (fun c_441 => ?_)
  · exact k _ _ _ _ hp_438
  · exact absurd rfl c_441
theorem lw_kept (hx : xl ≤ 320) (hi : i + 5 ≤ xl) (hG : GI n I J X) (k : ∀ I S J T, GI n I J X → Ev xl xs 7 169 (65 - n) ((65 - n) * 12) (mLn nm) 1159 [some (.ref 1004), some (.ref 0), some (.ref 33), some (.int (nI i))] [] n (sysH (ov I S) (ovJ J T) X) Q) : Ev xl xs 7 169 (65 - n) ((65 - n) * 12) (mLn nm) 446 [some (.ref 1004), some (.ref 0), some (.ref 33), some (.int (nI i))] [] n (sysH (ov I S) (ovJ J T) X) Q := by
  have hn := GI_n hG
  obtain ⟨r, hB⟩ := st_kept (xl := xl) (xs := xs) (xs (nI i + 1).toNatClampNeg) hG
  refine ev_aload_n (q := 447) dL_law_446 rfl rfl ?_
  refine ev_aload_n (q := 448) dL_law_447 rfl rfl ?_
  refine ev_iload_n (q := 449) dL_law_448 rfl rfl ?_
  refine ev_iconst (q := 450) (1) dL_law_449 (by decide) rfl ?_
  refine ev_iadd (q := 451) dL_law_450 rfl ?_
  refine ev_sald (q := 452) dL_law_451 (sc_in (k := 1) (by omega) hx) rfl ?_
  refine ev_callV1iX (q := 455) dL_law_452 ca_L_57 (hB _ _) rfl (lt_n hn (by decide)) rfl rfl (Nat.le_of_ble_eq_true rfl) (Nat.le_of_ble_eq_true rfl) (by decide) (by decide) rfl (fun I2 S J2 T hp_452 => ?_)
  refine ev_aload_n (q := 456) dL_law_455 rfl rfl ?_
  refine ev_aload_n (q := 457) dL_law_456 rfl rfl ?_
  refine ev_iload_n (q := 458) dL_law_457 rfl rfl ?_
  refine ev_iconst (q := 459) (1) dL_law_458 (by decide) rfl ?_
  refine ev_iadd (q := 460) dL_law_459 rfl ?_
  refine ev_sald (q := 461) dL_law_460 (sc_in (k := 1) (by omega) hx) rfl ?_
  refine ev_callV1iX (q := 464) dL_law_461 ca_L_60 (hp_452 _ _) rfl (lt_n hn (by decide)) rfl rfl (Nat.le_of_ble_eq_true rfl) (Nat.le_of_ble_eq_true rfl) (by decide) (by decide) rfl (fun I2 S J2 T hp_461 => ?_)
  refine ev_icmp_eq (q := 467) 1159 dL_law_464 (by decide) rfl (fun c_464 => ?_) (fun c_464 => ?_)
  · exact k _ _ _ _ hp_461
  · exact absurd rfl c_464
theorem lw_makes (hx : xl ≤ 320) (hi : i + 5 ≤ xl) (hG : GI n I J X) (k : ∀ I S J T, GI n I J X → Ev xl xs 7 169 (65 - n) ((65 - n) * 12) (mLn nm) 1159 [some (.ref 1004), some (.ref 0), some (.ref 33), some (.int (nI i))] [] n (sysH (ov I S) (ovJ J T) X) Q) : Ev xl xs 7 169 (65 - n) ((65 - n) * 12) (mLn nm) 469 [some (.ref 1004), some (.ref 0), some (.ref 33), some (.int (nI i))] [] n (sysH (ov I S) (ovJ J T) X) Q := by
  have hn := GI_n hG
  obtain ⟨r, hB⟩ := st_makes (xl := xl) (xs := xs)  hG
  refine ev_aload_n (q := 470) dL_law_469 rfl rfl ?_
  refine ev_callV0iX (q := 473) dL_law_470 ca_L_61 (hB _ _) rfl (lt_n hn (by decide)) rfl rfl (Nat.le_of_ble_eq_true rfl) (Nat.le_of_ble_eq_true rfl) (by decide) (by decide) rfl (fun I2 S J2 T hp_470 => ?_)
  refine ev_aload_n (q := 474) dL_law_473 rfl rfl ?_
  refine ev_callV0iX (q := 477) dL_law_474 ca_L_64 (hp_470 _ _) rfl (lt_n hn (by decide)) rfl rfl (Nat.le_of_ble_eq_true rfl) (Nat.le_of_ble_eq_true rfl) (by decide) (by decide) rfl (fun I2 S J2 T hp_474 => ?_)
  refine ev_icmp_eq (q := 480) 1159 dL_law_477 (by decide) rfl (fun c_477 => ?_) (fun c_477 => ?_)
  · exact k _ _ _ _ hp_474
  · exact absurd rfl c_477
theorem lw_extreme (hx : xl ≤ 320) (hi : i + 5 ≤ xl) (hG : GI n I J X) (k : ∀ I S J T, GI n I J X → Ev xl xs 7 169 (65 - n) ((65 - n) * 12) (mLn nm) 1159 [some (.ref 1004), some (.ref 0), some (.ref 33), some (.int (nI i))] [] n (sysH (ov I S) (ovJ J T) X) Q) : Ev xl xs 7 169 (65 - n) ((65 - n) * 12) (mLn nm) 482 [some (.ref 1004), some (.ref 0), some (.ref 33), some (.int (nI i))] [] n (sysH (ov I S) (ovJ J T) X) Q := by
  have hn := GI_n hG
  obtain ⟨r, hB⟩ := st_extreme (xl := xl) (xs := xs) (xs (nI i + 1).toNatClampNeg) (xs (nI i + 2).toNatClampNeg) (xs (nI i + 3).toNatClampNeg) hG
  refine ev_aload_n (q := 483) dL_law_482 rfl rfl ?_
  refine ev_aload_n (q := 484) dL_law_483 rfl rfl ?_
  refine ev_iload_n (q := 485) dL_law_484 rfl rfl ?_
  refine ev_iconst (q := 486) (1) dL_law_485 (by decide) rfl ?_
  refine ev_iadd (q := 487) dL_law_486 rfl ?_
  refine ev_sald (q := 488) dL_law_487 (sc_in (k := 1) (by omega) hx) rfl ?_
  refine ev_aload_n (q := 489) dL_law_488 rfl rfl ?_
  refine ev_iload_n (q := 490) dL_law_489 rfl rfl ?_
  refine ev_iconst (q := 491) (2) dL_law_490 (by decide) rfl ?_
  refine ev_iadd (q := 492) dL_law_491 rfl ?_
  refine ev_sald (q := 493) dL_law_492 (sc_in (k := 2) (by omega) hx) rfl ?_
  refine ev_aload_n (q := 494) dL_law_493 rfl rfl ?_
  refine ev_iload_n (q := 495) dL_law_494 rfl rfl ?_
  refine ev_iconst (q := 496) (3) dL_law_495 (by decide) rfl ?_
  refine ev_iadd (q := 497) dL_law_496 rfl ?_
  refine ev_sald (q := 498) dL_law_497 (sc_in (k := 3) (by omega) hx) rfl ?_
  refine ev_callV3iX (q := 501) dL_law_498 ca_L_65 (hB _ _) rfl (lt_n hn (by decide)) rfl rfl (Nat.le_of_ble_eq_true rfl) (Nat.le_of_ble_eq_true rfl) (by decide) (by decide) rfl (fun I2 S J2 T hp_498 => ?_)
  refine ev_aload_n (q := 502) dL_law_501 rfl rfl ?_
  refine ev_aload_n (q := 503) dL_law_502 rfl rfl ?_
  refine ev_iload_n (q := 504) dL_law_503 rfl rfl ?_
  refine ev_iconst (q := 505) (1) dL_law_504 (by decide) rfl ?_
  refine ev_iadd (q := 506) dL_law_505 rfl ?_
  refine ev_sald (q := 507) dL_law_506 (sc_in (k := 1) (by omega) hx) rfl ?_
  refine ev_aload_n (q := 508) dL_law_507 rfl rfl ?_
  refine ev_iload_n (q := 509) dL_law_508 rfl rfl ?_
  refine ev_iconst (q := 510) (2) dL_law_509 (by decide) rfl ?_
  refine ev_iadd (q := 511) dL_law_510 rfl ?_
  refine ev_sald (q := 512) dL_law_511 (sc_in (k := 2) (by omega) hx) rfl ?_
  refine ev_aload_n (q := 513) dL_law_512 rfl rfl ?_
  refine ev_iload_n (q := 514) dL_law_513 rfl rfl ?_
  refine ev_iconst (q := 515) (3) dL_law_514 (by decide) rfl ?_
  refine ev_iadd (q := 516) dL_law_515 rfl ?_
  refine ev_sald (q := 517) dL_law_516 (sc_in (k := 3) (by omega) hx) rfl ?_
  refine ev_callV3iX (q := 520) dL_law_517 ca_L_68 (hp_498 _ _) rfl (lt_n hn (by decide)) rfl rfl (Nat.le_of_ble_eq_true rfl) (Nat.le_of_ble_eq_true rfl) (by decide) (by decide) rfl (fun I2 S J2 T hp_517 => ?_)
  refine ev_icmp_eq (q := 523) 1159 dL_law_520 (by decide) rfl (fun c_520 => ?_) (fun c_520 => ?_)
  · exact k _ _ _ _ hp_517
  · exact absurd rfl c_520
theorem lw_harmed (hx : xl ≤ 320) (hi : i + 5 ≤ xl) (hG : GI n I J X) (k : ∀ I S J T, GI n I J X → Ev xl xs 7 169 (65 - n) ((65 - n) * 12) (mLn nm) 1159 [some (.ref 1004), some (.ref 0), some (.ref 33), some (.int (nI i))] [] n (sysH (ov I S) (ovJ J T) X) Q) : Ev xl xs 7 169 (65 - n) ((65 - n) * 12) (mLn nm) 525 [some (.ref 1004), some (.ref 0), some (.ref 33), some (.int (nI i))] [] n (sysH (ov I S) (ovJ J T) X) Q := by
  have hn := GI_n hG
  obtain ⟨r, hB⟩ := st_harmed (xl := xl) (xs := xs)  hG
  refine ev_aload_n (q := 526) dL_law_525 rfl rfl ?_
  refine ev_callV0iX (q := 529) dL_law_526 ca_L_69 (hB _ _) rfl (lt_n hn (by decide)) rfl rfl (Nat.le_of_ble_eq_true rfl) (Nat.le_of_ble_eq_true rfl) (by decide) (by decide) rfl (fun I2 S J2 T hp_526 => ?_)
  refine ev_aload_n (q := 530) dL_law_529 rfl rfl ?_
  refine ev_callV0iX (q := 533) dL_law_530 ca_L_72 (hp_526 _ _) rfl (lt_n hn (by decide)) rfl rfl (Nat.le_of_ble_eq_true rfl) (Nat.le_of_ble_eq_true rfl) (by decide) (by decide) rfl (fun I2 S J2 T hp_530 => ?_)
  refine ev_icmp_eq (q := 536) 1159 dL_law_533 (by decide) rfl (fun c_533 => ?_) (fun c_533 => ?_)
  · exact k _ _ _ _ hp_530
  · exact absurd rfl c_533
theorem lw_grant (hx : xl ≤ 320) (hi : i + 5 ≤ xl) (hG : GI n I J X) (k : ∀ I S J T, GI n I J X → Ev xl xs 7 169 (65 - n) ((65 - n) * 12) (mLn nm) 1159 [some (.ref 1004), some (.ref 0), some (.ref 33), some (.int (nI i))] [] n (sysH (ov I S) (ovJ J T) X) Q) : Ev xl xs 7 169 (65 - n) ((65 - n) * 12) (mLn nm) 538 [some (.ref 1004), some (.ref 0), some (.ref 33), some (.int (nI i))] [] n (sysH (ov I S) (ovJ J T) X) Q := by
  have hn := GI_n hG
  obtain ⟨r, hB⟩ := st_grant (xl := xl) (xs := xs)  hG
  refine ev_aload_n (q := 539) dL_law_538 rfl rfl ?_
  refine ev_callV0iX (q := 542) dL_law_539 ca_L_73 (hB _ _) rfl (lt_n hn (by decide)) rfl rfl (Nat.le_of_ble_eq_true rfl) (Nat.le_of_ble_eq_true rfl) (by decide) (by decide) rfl (fun I2 S J2 T hp_539 => ?_)
  refine ev_aload_n (q := 543) dL_law_542 rfl rfl ?_
  refine ev_callV0iX (q := 546) dL_law_543 ca_L_76 (hp_539 _ _) rfl (lt_n hn (by decide)) rfl rfl (Nat.le_of_ble_eq_true rfl) (Nat.le_of_ble_eq_true rfl) (by decide) (by decide) rfl (fun I2 S J2 T hp_543 => ?_)
  refine ev_icmp_eq (q := 549) 1159 dL_law_546 (by decide) rfl (fun c_546 => ?_) (fun c_546 => ?_)
  · exact k _ _ _ _ hp_543
  · exact absurd rfl c_546
theorem lw_undo (hx : xl ≤ 320) (hi : i + 5 ≤ xl) (hG : GI n I J X) (k : ∀ I S J T, GI n I J X → Ev xl xs 7 169 (65 - n) ((65 - n) * 12) (mLn nm) 1159 [some (.ref 1004), some (.ref 0), some (.ref 33), some (.int (nI i))] [] n (sysH (ov I S) (ovJ J T) X) Q) : Ev xl xs 7 169 (65 - n) ((65 - n) * 12) (mLn nm) 551 [some (.ref 1004), some (.ref 0), some (.ref 33), some (.int (nI i))] [] n (sysH (ov I S) (ovJ J T) X) Q := by
  have hn := GI_n hG
  obtain ⟨r, hB⟩ := st_undo (xl := xl) (xs := xs)  hG
  refine ev_aload_n (q := 552) dL_law_551 rfl rfl ?_
  refine ev_callV0iX (q := 555) dL_law_552 ca_L_77 (hB _ _) rfl (lt_n hn (by decide)) rfl rfl (Nat.le_of_ble_eq_true rfl) (Nat.le_of_ble_eq_true rfl) (by decide) (by decide) rfl (fun I2 S J2 T hp_552 => ?_)
  refine ev_aload_n (q := 556) dL_law_555 rfl rfl ?_
  refine ev_callV0iX (q := 559) dL_law_556 ca_L_80 (hp_552 _ _) rfl (lt_n hn (by decide)) rfl rfl (Nat.le_of_ble_eq_true rfl) (Nat.le_of_ble_eq_true rfl) (by decide) (by decide) rfl (fun I2 S J2 T hp_556 => ?_)
  refine ev_icmp_eq (q := 562) 1159 dL_law_559 (by decide) rfl (fun c_559 => ?_) (fun c_559 => ?_)
  · exact k _ _ _ _ hp_556
  · exact absurd rfl c_559
theorem lw_comma (hx : xl ≤ 320) (hi : i + 5 ≤ xl) (hG : GI n I J X) (k : ∀ I S J T, GI n I J X → Ev xl xs 7 169 (65 - n) ((65 - n) * 12) (mLn nm) 1159 [some (.ref 1004), some (.ref 0), some (.ref 33), some (.int (nI i))] [] n (sysH (ov I S) (ovJ J T) X) Q) : Ev xl xs 7 169 (65 - n) ((65 - n) * 12) (mLn nm) 564 [some (.ref 1004), some (.ref 0), some (.ref 33), some (.int (nI i))] [] n (sysH (ov I S) (ovJ J T) X) Q := by
  have hn := GI_n hG
  obtain ⟨r, hB⟩ := st_comma (xl := xl) (xs := xs) (xs (nI i + 1).toNatClampNeg) hG
  refine ev_aload_n (q := 565) dL_law_564 rfl rfl ?_
  refine ev_aload_n (q := 566) dL_law_565 rfl rfl ?_
  refine ev_iload_n (q := 567) dL_law_566 rfl rfl ?_
  refine ev_iconst (q := 568) (1) dL_law_567 (by decide) rfl ?_
  refine ev_iadd (q := 569) dL_law_568 rfl ?_
  refine ev_sald (q := 570) dL_law_569 (sc_in (k := 1) (by omega) hx) rfl ?_
  refine ev_callV1iX (q := 573) dL_law_570 ca_L_81 (hB _ _) rfl (lt_n hn (by decide)) rfl rfl (Nat.le_of_ble_eq_true rfl) (Nat.le_of_ble_eq_true rfl) (by decide) (by decide) rfl (fun I2 S J2 T hp_570 => ?_)
  refine ev_aload_n (q := 574) dL_law_573 rfl rfl ?_
  refine ev_aload_n (q := 575) dL_law_574 rfl rfl ?_
  refine ev_iload_n (q := 576) dL_law_575 rfl rfl ?_
  refine ev_iconst (q := 577) (1) dL_law_576 (by decide) rfl ?_
  refine ev_iadd (q := 578) dL_law_577 rfl ?_
  refine ev_sald (q := 579) dL_law_578 (sc_in (k := 1) (by omega) hx) rfl ?_
  refine ev_callV1iX (q := 582) dL_law_579 ca_L_84 (hp_570 _ _) rfl (lt_n hn (by decide)) rfl rfl (Nat.le_of_ble_eq_true rfl) (Nat.le_of_ble_eq_true rfl) (by decide) (by decide) rfl (fun I2 S J2 T hp_579 => ?_)
  refine ev_icmp_eq (q := 585) 1159 dL_law_582 (by decide) rfl (fun c_582 => ?_) (fun c_582 => ?_)
  · exact k _ _ _ _ hp_579
  · exact absurd rfl c_582
end LAW1
