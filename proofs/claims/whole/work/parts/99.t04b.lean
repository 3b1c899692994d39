theorem law_7 {Z : VZ} {z1 z2 : Nat → Nat} {b L : Nat} {xs : Nat → Int32} {n k i : Nat} {X : XS} {M : MS} (hL : L ≤ 3584) (hi : i + 7 ≤ L) (h : Rel X M) (hn : n + 100 ≤ 624007) (hk : k + 1000 ≤ 7230226) (kk : ∀ X' M', Rel X' M' → VL Z b L xs (n + 16) (k + 96) 1542 [(3, .int (nI i)), (2, .ref (z2 99)), (1, .ref (z1 99)), (0, .ref b)] [] (MW (zz Z z2) M' ++ XW (zz Z z1) X')) : VL Z b L xs n k 439 [(3, .int (nI i)), (2, .ref (z2 99)), (1, .ref (z1 99)), (0, .ref b)] [] (MW (zz Z z2) M ++ XW (zz Z z1) X) := by
  refine L_aload_n (pc := 439) (st := []) dL_law_439 2 rfl rfl ?_
  refine L_arg (i := i) (j := 1) (q0 := 3) (q1 := 0) (pc := 440) (st := [.ref (z1 99)]) hL (by omega) rfl rfl (by decide) dL_law_440 dL_law_441 dL_law_442 dL_law_443 dL_law_444 ?_
  refine L_arg (i := i) (j := 2) (q0 := 3) (q1 := 0) (pc := 445) (st := [.int (xs (i + 1)), .ref (z1 99)]) hL (by omega) rfl rfl (by decide) dL_law_445 dL_law_446 dL_law_447 dL_law_448 dL_law_449 ?_
  refine L_arg (i := i) (j := 3) (q0 := 3) (q1 := 0) (pc := 450) (st := [.int (xs (i + 2)), .int (xs (i + 1)), .ref (z1 99)]) hL (by omega) rfl rfl (by decide) dL_law_450 dL_law_451 dL_law_452 dL_law_453 dL_law_454 ?_
  refine L_call (z := z1) (St' := XS) (Wd' := XW) (wr := MW (zz Z z2) M) (S' := X) (q0 := 0) (ci := 10) (na := 3) (av := [.int (xs (i + 1)), .int (xs (i + 2)), .int (xs (i + 3))]) (st := []) (pc := 455) dL_law_455 (c_X10_film (zz Z z1) X (xs (i + 1)) (xs (i + 2)) (xs (i + 3)) (Rel_xOK h)) ⟨tw_412, tw_413, tw_414, tw_415, tw_1, by decide +kernel⟩ rfl rfl rfl rfl rfl (Nat.le_of_ble_eq_true rfl) (Nat.le_of_ble_eq_true rfl) (Nat.le_of_ble_eq_true rfl) (by omega) (by omega) (fun v X' hpx => ?_)
  obtain ⟨r, rfl⟩ := w_film hpx
  refine L_swap (A := MW (zz Z z2) M) (B := XW (zz Z z1) X') ?_
  refine L_aload_n (pc := 458) (st := [.int r]) dL_law_458 1 rfl rfl ?_
  refine L_arg (i := i) (j := 1) (q0 := 3) (q1 := 0) (pc := 459) (st := [.ref (z2 99), .int r]) hL (by omega) rfl rfl (by decide) dL_law_459 dL_law_460 dL_law_461 dL_law_462 dL_law_463 ?_
  refine L_arg (i := i) (j := 2) (q0 := 3) (q1 := 0) (pc := 464) (st := [.int (xs (i + 1)), .ref (z2 99), .int r]) hL (by omega) rfl rfl (by decide) dL_law_464 dL_law_465 dL_law_466 dL_law_467 dL_law_468 ?_
  refine L_arg (i := i) (j := 3) (q0 := 3) (q1 := 0) (pc := 469) (st := [.int (xs (i + 2)), .int (xs (i + 1)), .ref (z2 99), .int r]) hL (by omega) rfl rfl (by decide) dL_law_469 dL_law_470 dL_law_471 dL_law_472 dL_law_473 ?_
  refine L_call (z := z2) (St' := MS) (Wd' := MW) (wr := XW (zz Z z1) X') (S' := M) (q0 := 0) (ci := 11) (na := 3) (av := [.int (xs (i + 1)), .int (xs (i + 2)), .int (xs (i + 3))]) (st := [.int r]) (pc := 474) dL_law_474 (cM_film (zz Z z2) M (xs (i + 1)) (xs (i + 2)) (xs (i + 3)) (Rel_mOK h)) ⟨tw_1056, tw_1057, tw_1058, tw_1059, tw_6, by decide +kernel⟩ rfl rfl rfl rfl rfl (Nat.le_of_ble_eq_true rfl) (Nat.le_of_ble_eq_true rfl) (Nat.le_of_ble_eq_true rfl) (by omega) (by omega) (fun v' M' hpm => ?_)
  obtain ⟨r', e1, rfl, hR⟩ := q_film h hpx hpm
  cases e1
  refine L_swap (A := XW (zz Z z1) X') (B := MW (zz Z z2) M') ?_
  refine L_icmp_eq (x := r) (y := r) (st := []) (tgt := 1542) (pc := 477) dL_law_477 (by decide) (fun _ => ?_) (fun hz => absurd rfl hz)
  exact L_widen (by omega) (by omega) (kk X' M' hR)
theorem law_8 {Z : VZ} {z1 z2 : Nat → Nat} {b L : Nat} {xs : Nat → Int32} {n k i : Nat} {X : XS} {M : MS} (hL : L ≤ 3584) (hi : i + 7 ≤ L) (h : Rel X M) (hn : n + 100 ≤ 624007) (hk : k + 1000 ≤ 7230226) (kk : ∀ X' M', Rel X' M' → VL Z b L xs (n + 16) (k + 96) 1542 [(3, .int (nI i)), (2, .ref (z2 99)), (1, .ref (z1 99)), (0, .ref b)] [] (MW (zz Z z2) M' ++ XW (zz Z z1) X')) : VL Z b L xs n k 482 [(3, .int (nI i)), (2, .ref (z2 99)), (1, .ref (z1 99)), (0, .ref b)] [] (MW (zz Z z2) M ++ XW (zz Z z1) X) := by
  refine L_aload_n (pc := 482) (st := []) dL_law_482 2 rfl rfl ?_
  refine L_arg (i := i) (j := 1) (q0 := 3) (q1 := 0) (pc := 483) (st := [.ref (z1 99)]) hL (by omega) rfl rfl (by decide) dL_law_483 dL_law_484 dL_law_485 dL_law_486 dL_law_487 ?_
  refine L_arg (i := i) (j := 2) (q0 := 3) (q1 := 0) (pc := 488) (st := [.int (xs (i + 1)), .ref (z1 99)]) hL (by omega) rfl rfl (by decide) dL_law_488 dL_law_489 dL_law_490 dL_law_491 dL_law_492 ?_
  refine L_arg (i := i) (j := 3) (q0 := 3) (q1 := 0) (pc := 493) (st := [.int (xs (i + 2)), .int (xs (i + 1)), .ref (z1 99)]) hL (by omega) rfl rfl (by decide) dL_law_493 dL_law_494 dL_law_495 dL_law_496 dL_law_497 ?_
  refine L_arg (i := i) (j := 4) (q0 := 3) (q1 := 0) (pc := 498) (st := [.int (xs (i + 3)), .int (xs (i + 2)), .int (xs (i + 1)), .ref (z1 99)]) hL (by omega) rfl rfl (by decide) dL_law_498 dL_law_499 dL_law_500 dL_law_501 dL_law_502 ?_
  refine L_call (z := z1) (St' := XS) (Wd' := XW) (wr := MW (zz Z z2) M) (S' := X) (q0 := 0) (ci := 10) (na := 4) (av := [.int (xs (i + 1)), .int (xs (i + 2)), .int (xs (i + 3)), .int (xs (i + 4))]) (st := []) (pc := 503) dL_law_503 (c_X10_mix (zz Z z1) X (xs (i + 1)) (xs (i + 2)) (xs (i + 3)) (xs (i + 4)) (Rel_xOK h)) ⟨tw_429, tw_430, tw_431, tw_432, tw_1, by decide +kernel⟩ rfl rfl rfl rfl rfl (Nat.le_of_ble_eq_true rfl) (Nat.le_of_ble_eq_true rfl) (Nat.le_of_ble_eq_true rfl) (by omega) (by omega) (fun v X' hpx => ?_)
  obtain ⟨r, rfl⟩ := w_mix hpx
  refine L_swap (A := MW (zz Z z2) M) (B := XW (zz Z z1) X') ?_
  refine L_aload_n (pc := 506) (st := [.int r]) dL_law_506 1 rfl rfl ?_
  refine L_arg (i := i) (j := 1) (q0 := 3) (q1 := 0) (pc := 507) (st := [.ref (z2 99), .int r]) hL (by omega) rfl rfl (by decide) dL_law_507 dL_law_508 dL_law_509 dL_law_510 dL_law_511 ?_
  refine L_arg (i := i) (j := 2) (q0 := 3) (q1 := 0) (pc := 512) (st := [.int (xs (i + 1)), .ref (z2 99), .int r]) hL (by omega) rfl rfl (by decide) dL_law_512 dL_law_513 dL_law_514 dL_law_515 dL_law_516 ?_
  refine L_arg (i := i) (j := 3) (q0 := 3) (q1 := 0) (pc := 517) (st := [.int (xs (i + 2)), .int (xs (i + 1)), .ref (z2 99), .int r]) hL (by omega) rfl rfl (by decide) dL_law_517 dL_law_518 dL_law_519 dL_law_520 dL_law_521 ?_
  refine L_arg (i := i) (j := 4) (q0 := 3) (q1 := 0) (pc := 522) (st := [.int (xs (i + 3)), .int (xs (i + 2)), .int (xs (i + 1)), .ref (z2 99), .int r]) hL (by omega) rfl rfl (by decide) dL_law_522 dL_law_523 dL_law_524 dL_law_525 dL_law_526 ?_
  refine L_call (z := z2) (St' := MS) (Wd' := MW) (wr := XW (zz Z z1) X') (S' := M) (q0 := 0) (ci := 11) (na := 4) (av := [.int (xs (i + 1)), .int (xs (i + 2)), .int (xs (i + 3)), .int (xs (i + 4))]) (st := [.int r]) (pc := 527) dL_law_527 (cM_mix (zz Z z2) M (xs (i + 1)) (xs (i + 2)) (xs (i + 3)) (xs (i + 4)) (Rel_mOK h)) ⟨tw_1071, tw_1072, tw_1073, tw_1074, tw_6, by decide +kernel⟩ rfl rfl rfl rfl rfl (Nat.le_of_ble_eq_true rfl) (Nat.le_of_ble_eq_true rfl) (Nat.le_of_ble_eq_true rfl) (by omega) (by omega) (fun v' M' hpm => ?_)
  obtain ⟨r', e1, rfl, hR⟩ := q_mix h hpx hpm
  cases e1
  refine L_swap (A := XW (zz Z z1) X') (B := MW (zz Z z2) M') ?_
  refine L_icmp_eq (x := r) (y := r) (st := []) (tgt := 1542) (pc := 530) dL_law_530 (by decide) (fun _ => ?_) (fun hz => absurd rfl hz)
  exact L_widen (by omega) (by omega) (kk X' M' hR)
theorem law_9 {Z : VZ} {z1 z2 : Nat → Nat} {b L : Nat} {xs : Nat → Int32} {n k i : Nat} {X : XS} {M : MS} (hL : L ≤ 3584) (hi : i + 7 ≤ L) (h : Rel X M) (hn : n + 100 ≤ 624007) (hk : k + 1000 ≤ 7230226) (kk : ∀ X' M', Rel X' M' → VL Z b L xs (n + 16) (k + 96) 1542 [(3, .int (nI i)), (2, .ref (z2 99)), (1, .ref (z1 99)), (0, .ref b)] [] (MW (zz Z z2) M' ++ XW (zz Z z1) X')) : VL Z b L xs n k 535 [(3, .int (nI i)), (2, .ref (z2 99)), (1, .ref (z1 99)), (0, .ref b)] [] (MW (zz Z z2) M ++ XW (zz Z z1) X) := by
  refine L_aload_n (pc := 535) (st := []) dL_law_535 2 rfl rfl ?_
  refine L_arg (i := i) (j := 1) (q0 := 3) (q1 := 0) (pc := 536) (st := [.ref (z1 99)]) hL (by omega) rfl rfl (by decide) dL_law_536 dL_law_537 dL_law_538 dL_law_539 dL_law_540 ?_
  refine L_call (z := z1) (St' := XS) (Wd' := XW) (wr := MW (zz Z z2) M) (S' := X) (q0 := 0) (ci := 10) (na := 1) (av := [.int (xs (i + 1))]) (st := []) (pc := 541) dL_law_541 (c_X10_number (zz Z z1) X (xs (i + 1)) (Rel_zOK h)) ⟨tw_441, tw_442, tw_443, tw_444, tw_1, by decide +kernel⟩ rfl rfl rfl rfl rfl (Nat.le_of_ble_eq_true rfl) (Nat.le_of_ble_eq_true rfl) (Nat.le_of_ble_eq_true rfl) (by omega) (by omega) (fun v X' hpx => ?_)
  obtain ⟨r, rfl⟩ := w_number hpx
  refine L_swap (A := MW (zz Z z2) M) (B := XW (zz Z z1) X') ?_
  refine L_aload_n (pc := 544) (st := [.long r]) dL_law_544 1 rfl rfl ?_
  refine L_arg (i := i) (j := 1) (q0 := 3) (q1 := 0) (pc := 545) (st := [.ref (z2 99), .long r]) hL (by omega) rfl rfl (by decide) dL_law_545 dL_law_546 dL_law_547 dL_law_548 dL_law_549 ?_
  refine L_call (z := z2) (St' := MS) (Wd' := MW) (wr := XW (zz Z z1) X') (S' := M) (q0 := 0) (ci := 11) (na := 1) (av := [.int (xs (i + 1))]) (st := [.long r]) (pc := 550) dL_law_550 (cM_number (zz Z z2) M (xs (i + 1)) (Rel_sOK h)) ⟨tw_1075, tw_1076, tw_1077, tw_1078, tw_6, by decide +kernel⟩ rfl rfl rfl rfl rfl (Nat.le_of_ble_eq_true rfl) (Nat.le_of_ble_eq_true rfl) (Nat.le_of_ble_eq_true rfl) (by omega) (by omega) (fun v' M' hpm => ?_)
  obtain ⟨r', e1, rfl, hR⟩ := q_number h hpx hpm
  cases e1
  refine L_swap (A := XW (zz Z z1) X') (B := MW (zz Z z2) M') ?_
  refine L_lcmp (x := r) (y := r) (st := []) (pc := 553) dL_law_553 ?_
  refine L_if_eq (x := lg_cmp r r) (st := []) (tgt := 1542) (pc := 554) dL_law_554 (by decide) (fun _ => ?_) (fun hz => absurd ((lg_cmp_eq r r).mpr rfl) hz)
  exact L_widen (by omega) (by omega) (kk X' M' hR)
theorem law_10 {Z : VZ} {z1 z2 : Nat → Nat} {b L : Nat} {xs : Nat → Int32} {n k i : Nat} {X : XS} {M : MS} (hL : L ≤ 3584) (hi : i + 7 ≤ L) (h : Rel X M) (hn : n + 100 ≤ 624007) (hk : k + 1000 ≤ 7230226) (kk : ∀ X' M', Rel X' M' → VL Z b L xs (n + 16) (k + 96) 1542 [(3, .int (nI i)), (2, .ref (z2 99)), (1, .ref (z1 99)), (0, .ref b)] [] (MW (zz Z z2) M' ++ XW (zz Z z1) X')) : VL Z b L xs n k 559 [(3, .int (nI i)), (2, .ref (z2 99)), (1, .ref (z1 99)), (0, .ref b)] [] (MW (zz Z z2) M ++ XW (zz Z z1) X) := by
  refine L_aload_n (pc := 559) (st := []) dL_law_559 2 rfl rfl ?_
  refine L_arg (i := i) (j := 1) (q0 := 3) (q1 := 0) (pc := 560) (st := [.ref (z1 99)]) hL (by omega) rfl rfl (by decide) dL_law_560 dL_law_561 dL_law_562 dL_law_563 dL_law_564 ?_
  refine L_arg (i := i) (j := 2) (q0 := 3) (q1 := 0) (pc := 565) (st := [.int (xs (i + 1)), .ref (z1 99)]) hL (by omega) rfl rfl (by decide) dL_law_565 dL_law_566 dL_law_567 dL_law_568 dL_law_569 ?_
  refine L_arg (i := i) (j := 3) (q0 := 3) (q1 := 0) (pc := 570) (st := [.int (xs (i + 2)), .int (xs (i + 1)), .ref (z1 99)]) hL (by omega) rfl rfl (by decide) dL_law_570 dL_law_571 dL_law_572 dL_law_573 dL_law_574 ?_
  refine L_arg (i := i) (j := 4) (q0 := 3) (q1 := 0) (pc := 575) (st := [.int (xs (i + 3)), .int (xs (i + 2)), .int (xs (i + 1)), .ref (z1 99)]) hL (by omega) rfl rfl (by decide) dL_law_575 dL_law_576 dL_law_577 dL_law_578 dL_law_579 ?_
  refine L_call (z := z1) (St' := XS) (Wd' := XW) (wr := MW (zz Z z2) M) (S' := X) (q0 := 0) (ci := 10) (na := 4) (av := [.int (xs (i + 1)), .int (xs (i + 2)), .int (xs (i + 3)), .int (xs (i + 4))]) (st := []) (pc := 580) dL_law_580 (c_X10_expand (zz Z z1) X (xs (i + 1)) (xs (i + 2)) (xs (i + 3)) (xs (i + 4))) ⟨tw_454, tw_455, tw_456, tw_457, tw_1, by decide +kernel⟩ rfl rfl rfl rfl rfl (Nat.le_of_ble_eq_true rfl) (Nat.le_of_ble_eq_true rfl) (Nat.le_of_ble_eq_true rfl) (by omega) (by omega) (fun v X' hpx => ?_)
  obtain ⟨r, rfl⟩ := w_expand hpx
  refine L_swap (A := MW (zz Z z2) M) (B := XW (zz Z z1) X') ?_
  refine L_aload_n (pc := 583) (st := [.int r]) dL_law_583 1 rfl rfl ?_
  refine L_arg (i := i) (j := 1) (q0 := 3) (q1 := 0) (pc := 584) (st := [.ref (z2 99), .int r]) hL (by omega) rfl rfl (by decide) dL_law_584 dL_law_585 dL_law_586 dL_law_587 dL_law_588 ?_
  refine L_arg (i := i) (j := 2) (q0 := 3) (q1 := 0) (pc := 589) (st := [.int (xs (i + 1)), .ref (z2 99), .int r]) hL (by omega) rfl rfl (by decide) dL_law_589 dL_law_590 dL_law_591 dL_law_592 dL_law_593 ?_
  refine L_arg (i := i) (j := 3) (q0 := 3) (q1 := 0) (pc := 594) (st := [.int (xs (i + 2)), .int (xs (i + 1)), .ref (z2 99), .int r]) hL (by omega) rfl rfl (by decide) dL_law_594 dL_law_595 dL_law_596 dL_law_597 dL_law_598 ?_
  refine L_arg (i := i) (j := 4) (q0 := 3) (q1 := 0) (pc := 599) (st := [.int (xs (i + 3)), .int (xs (i + 2)), .int (xs (i + 1)), .ref (z2 99), .int r]) hL (by omega) rfl rfl (by decide) dL_law_599 dL_law_600 dL_law_601 dL_law_602 dL_law_603 ?_
  refine L_call (z := z2) (St' := MS) (Wd' := MW) (wr := XW (zz Z z1) X') (S' := M) (q0 := 0) (ci := 11) (na := 4) (av := [.int (xs (i + 1)), .int (xs (i + 2)), .int (xs (i + 3)), .int (xs (i + 4))]) (st := [.int r]) (pc := 604) dL_law_604 (cM_expand (zz Z z2) M (xs (i + 1)) (xs (i + 2)) (xs (i + 3)) (xs (i + 4))) ⟨tw_1092, tw_1093, tw_1094, tw_1095, tw_6, by decide +kernel⟩ rfl rfl rfl rfl rfl (Nat.le_of_ble_eq_true rfl) (Nat.le_of_ble_eq_true rfl) (Nat.le_of_ble_eq_true rfl) (by omega) (by omega) (fun v' M' hpm => ?_)
  obtain ⟨r', e1, rfl, hR⟩ := q_expand h hpx hpm
  cases e1
  refine L_swap (A := XW (zz Z z1) X') (B := MW (zz Z z2) M') ?_
  refine L_icmp_eq (x := r) (y := r) (st := []) (tgt := 1542) (pc := 607) dL_law_607 (by decide) (fun _ => ?_) (fun hz => absurd rfl hz)
  exact L_widen (by omega) (by omega) (kk X' M' hR)
theorem law_11 {Z : VZ} {z1 z2 : Nat → Nat} {b L : Nat} {xs : Nat → Int32} {n k i : Nat} {X : XS} {M : MS} (hL : L ≤ 3584) (hi : i + 7 ≤ L) (h : Rel X M) (hn : n + 100 ≤ 624007) (hk : k + 1000 ≤ 7230226) (kk : ∀ X' M', Rel X' M' → VL Z b L xs (n + 16) (k + 96) 1542 [(3, .int (nI i)), (2, .ref (z2 99)), (1, .ref (z1 99)), (0, .ref b)] [] (MW (zz Z z2) M' ++ XW (zz Z z1) X')) : VL Z b L xs n k 612 [(3, .int (nI i)), (2, .ref (z2 99)), (1, .ref (z1 99)), (0, .ref b)] [] (MW (zz Z z2) M ++ XW (zz Z z1) X) := by
  refine L_aload_n (pc := 612) (st := []) dL_law_612 2 rfl rfl ?_
  refine L_arg (i := i) (j := 1) (q0 := 3) (q1 := 0) (pc := 613) (st := [.ref (z1 99)]) hL (by omega) rfl rfl (by decide) dL_law_613 dL_law_614 dL_law_615 dL_law_616 dL_law_617 ?_
  refine L_arg (i := i) (j := 2) (q0 := 3) (q1 := 0) (pc := 618) (st := [.int (xs (i + 1)), .ref (z1 99)]) hL (by omega) rfl rfl (by decide) dL_law_618 dL_law_619 dL_law_620 dL_law_621 dL_law_622 ?_
  refine L_arg (i := i) (j := 3) (q0 := 3) (q1 := 0) (pc := 623) (st := [.int (xs (i + 2)), .int (xs (i + 1)), .ref (z1 99)]) hL (by omega) rfl rfl (by decide) dL_law_623 dL_law_624 dL_law_625 dL_law_626 dL_law_627 ?_
  refine L_call (z := z1) (St' := XS) (Wd' := XW) (wr := MW (zz Z z2) M) (S' := X) (q0 := 0) (ci := 10) (na := 3) (av := [.int (xs (i + 1)), .int (xs (i + 2)), .int (xs (i + 3))]) (st := []) (pc := 628) dL_law_628 (c_X10_period (zz Z z1) X (xs (i + 1)) (xs (i + 2)) (xs (i + 3))) ⟨tw_467, tw_468, tw_469, tw_470, tw_1, by decide +kernel⟩ rfl rfl rfl rfl rfl (Nat.le_of_ble_eq_true rfl) (Nat.le_of_ble_eq_true rfl) (Nat.le_of_ble_eq_true rfl) (by omega) (by omega) (fun v X' hpx => ?_)
  obtain ⟨r, rfl⟩ := w_period hpx
  refine L_swap (A := MW (zz Z z2) M) (B := XW (zz Z z1) X') ?_
  refine L_aload_n (pc := 631) (st := [.int r]) dL_law_631 1 rfl rfl ?_
  refine L_arg (i := i) (j := 1) (q0 := 3) (q1 := 0) (pc := 632) (st := [.ref (z2 99), .int r]) hL (by omega) rfl rfl (by decide) dL_law_632 dL_law_633 dL_law_634 dL_law_635 dL_law_636 ?_
  refine L_arg (i := i) (j := 2) (q0 := 3) (q1 := 0) (pc := 637) (st := [.int (xs (i + 1)), .ref (z2 99), .int r]) hL (by omega) rfl rfl (by decide) dL_law_637 dL_law_638 dL_law_639 dL_law_640 dL_law_641 ?_
  refine L_arg (i := i) (j := 3) (q0 := 3) (q1 := 0) (pc := 642) (st := [.int (xs (i + 2)), .int (xs (i + 1)), .ref (z2 99), .int r]) hL (by omega) rfl rfl (by decide) dL_law_642 dL_law_643 dL_law_644 dL_law_645 dL_law_646 ?_
  refine L_call (z := z2) (St' := MS) (Wd' := MW) (wr := XW (zz Z z1) X') (S' := M) (q0 := 0) (ci := 11) (na := 3) (av := [.int (xs (i + 1)), .int (xs (i + 2)), .int (xs (i + 3))]) (st := [.int r]) (pc := 647) dL_law_647 (cM_period (zz Z z2) M (xs (i + 1)) (xs (i + 2)) (xs (i + 3))) ⟨tw_1102, tw_1103, tw_1104, tw_1105, tw_6, by decide +kernel⟩ rfl rfl rfl rfl rfl (Nat.le_of_ble_eq_true rfl) (Nat.le_of_ble_eq_true rfl) (Nat.le_of_ble_eq_true rfl) (by omega) (by omega) (fun v' M' hpm => ?_)
  obtain ⟨r', e1, rfl, hR⟩ := q_period h hpx hpm
  cases e1
  refine L_swap (A := XW (zz Z z1) X') (B := MW (zz Z z2) M') ?_
  refine L_icmp_eq (x := r) (y := r) (st := []) (tgt := 1542) (pc := 650) dL_law_650 (by decide) (fun _ => ?_) (fun hz => absurd rfl hz)
  exact L_widen (by omega) (by omega) (kk X' M' hR)
theorem law_12 {Z : VZ} {z1 z2 : Nat → Nat} {b L : Nat} {xs : Nat → Int32} {n k i : Nat} {X : XS} {M : MS} (hL : L ≤ 3584) (hi : i + 7 ≤ L) (h : Rel X M) (hn : n + 100 ≤ 624007) (hk : k + 1000 ≤ 7230226) (kk : ∀ X' M', Rel X' M' → VL Z b L xs (n + 16) (k + 96) 1542 [(3, .int (nI i)), (2, .ref (z2 99)), (1, .ref (z1 99)), (0, .ref b)] [] (MW (zz Z z2) M' ++ XW (zz Z z1) X')) : VL Z b L xs n k 655 [(3, .int (nI i)), (2, .ref (z2 99)), (1, .ref (z1 99)), (0, .ref b)] [] (MW (zz Z z2) M ++ XW (zz Z z1) X) := by
  refine L_aload_n (pc := 655) (st := []) dL_law_655 2 rfl rfl ?_
  refine L_arg (i := i) (j := 1) (q0 := 3) (q1 := 0) (pc := 656) (st := [.ref (z1 99)]) hL (by omega) rfl rfl (by decide) dL_law_656 dL_law_657 dL_law_658 dL_law_659 dL_law_660 ?_
  refine L_arg (i := i) (j := 2) (q0 := 3) (q1 := 0) (pc := 661) (st := [.int (xs (i + 1)), .ref (z1 99)]) hL (by omega) rfl rfl (by decide) dL_law_661 dL_law_662 dL_law_663 dL_law_664 dL_law_665 ?_
  refine L_call (z := z1) (St' := XS) (Wd' := XW) (wr := MW (zz Z z2) M) (S' := X) (q0 := 0) (ci := 10) (na := 2) (av := [.int (xs (i + 1)), .int (xs (i + 2))]) (st := []) (pc := 666) dL_law_666 (c_X10_fraction (zz Z z1) X (xs (i + 1)) (xs (i + 2)) (Rel_zOK h)) ⟨tw_475, tw_476, tw_477, tw_478, tw_1, by decide +kernel⟩ rfl rfl rfl rfl rfl (Nat.le_of_ble_eq_true rfl) (Nat.le_of_ble_eq_true rfl) (Nat.le_of_ble_eq_true rfl) (by omega) (by omega) (fun v X' hpx => ?_)
  obtain ⟨r, rfl⟩ := w_fraction hpx
  refine L_swap (A := MW (zz Z z2) M) (B := XW (zz Z z1) X') ?_
  refine L_aload_n (pc := 669) (st := [.long r]) dL_law_669 1 rfl rfl ?_
  refine L_arg (i := i) (j := 1) (q0 := 3) (q1 := 0) (pc := 670) (st := [.ref (z2 99), .long r]) hL (by omega) rfl rfl (by decide) dL_law_670 dL_law_671 dL_law_672 dL_law_673 dL_law_674 ?_
  refine L_arg (i := i) (j := 2) (q0 := 3) (q1 := 0) (pc := 675) (st := [.int (xs (i + 1)), .ref (z2 99), .long r]) hL (by omega) rfl rfl (by decide) dL_law_675 dL_law_676 dL_law_677 dL_law_678 dL_law_679 ?_
  refine L_call (z := z2) (St' := MS) (Wd' := MW) (wr := XW (zz Z z1) X') (S' := M) (q0 := 0) (ci := 11) (na := 2) (av := [.int (xs (i + 1)), .int (xs (i + 2))]) (st := [.long r]) (pc := 680) dL_law_680 (cM_fraction (zz Z z2) M (xs (i + 1)) (xs (i + 2)) (Rel_sOK2 h)) ⟨tw_1106, tw_1107, tw_1108, tw_1109, tw_6, by decide +kernel⟩ rfl rfl rfl rfl rfl (Nat.le_of_ble_eq_true rfl) (Nat.le_of_ble_eq_true rfl) (Nat.le_of_ble_eq_true rfl) (by omega) (by omega) (fun v' M' hpm => ?_)
  obtain ⟨r', e1, rfl, hR⟩ := q_fraction h hpx hpm
  cases e1
  refine L_swap (A := XW (zz Z z1) X') (B := MW (zz Z z2) M') ?_
  refine L_lcmp (x := r) (y := r) (st := []) (pc := 683) dL_law_683 ?_
  refine L_if_eq (x := lg_cmp r r) (st := []) (tgt := 1542) (pc := 684) dL_law_684 (by decide) (fun _ => ?_) (fun hz => absurd ((lg_cmp_eq r r).mpr rfl) hz)
  exact L_widen (by omega) (by omega) (kk X' M' hR)
theorem law_13 {Z : VZ} {z1 z2 : Nat → Nat} {b L : Nat} {xs : Nat → Int32} {n k i : Nat} {X : XS} {M : MS} (hL : L ≤ 3584) (hi : i + 7 ≤ L) (h : Rel X M) (hn : n + 100 ≤ 624007) (hk : k + 1000 ≤ 7230226) (kk : ∀ X' M', Rel X' M' → VL Z b L xs (n + 16) (k + 96) 1542 [(3, .int (nI i)), (2, .ref (z2 99)), (1, .ref (z1 99)), (0, .ref b)] [] (MW (zz Z z2) M' ++ XW (zz Z z1) X')) : VL Z b L xs n k 689 [(3, .int (nI i)), (2, .ref (z2 99)), (1, .ref (z1 99)), (0, .ref b)] [] (MW (zz Z z2) M ++ XW (zz Z z1) X) := by
  refine L_aload_n (pc := 689) (st := []) dL_law_689 2 rfl rfl ?_
  refine L_arg (i := i) (j := 1) (q0 := 3) (q1 := 0) (pc := 690) (st := [.ref (z1 99)]) hL (by omega) rfl rfl (by decide) dL_law_690 dL_law_691 dL_law_692 dL_law_693 dL_law_694 ?_
  refine L_arg (i := i) (j := 2) (q0 := 3) (q1 := 0) (pc := 695) (st := [.int (xs (i + 1)), .ref (z1 99)]) hL (by omega) rfl rfl (by decide) dL_law_695 dL_law_696 dL_law_697 dL_law_698 dL_law_699 ?_
  refine L_call (z := z1) (St' := XS) (Wd' := XW) (wr := MW (zz Z z2) M) (S' := X) (q0 := 0) (ci := 10) (na := 2) (av := [.int (xs (i + 1)), .int (xs (i + 2))]) (st := []) (pc := 700) dL_law_700 (c_X10_told (zz Z z1) X (xs (i + 1)) (xs (i + 2)) (Rel_xOK h) (fun g => Rel_tdOK h g)) ⟨tw_531, tw_532, tw_533, tw_534, tw_1, by decide +kernel⟩ rfl rfl rfl rfl rfl (Nat.le_of_ble_eq_true rfl) (Nat.le_of_ble_eq_true rfl) (Nat.le_of_ble_eq_true rfl) (by omega) (by omega) (fun v X' hpx => ?_)
  obtain ⟨r, rfl⟩ := w_told hpx
  refine L_swap (A := MW (zz Z z2) M) (B := XW (zz Z z1) X') ?_
  refine L_aload_n (pc := 703) (st := [.long r]) dL_law_703 1 rfl rfl ?_
  refine L_arg (i := i) (j := 1) (q0 := 3) (q1 := 0) (pc := 704) (st := [.ref (z2 99), .long r]) hL (by omega) rfl rfl (by decide) dL_law_704 dL_law_705 dL_law_706 dL_law_707 dL_law_708 ?_
  refine L_arg (i := i) (j := 2) (q0 := 3) (q1 := 0) (pc := 709) (st := [.int (xs (i + 1)), .ref (z2 99), .long r]) hL (by omega) rfl rfl (by decide) dL_law_709 dL_law_710 dL_law_711 dL_law_712 dL_law_713 ?_
  refine L_call (z := z2) (St' := MS) (Wd' := MW) (wr := XW (zz Z z1) X') (S' := M) (q0 := 0) (ci := 11) (na := 2) (av := [.int (xs (i + 1)), .int (xs (i + 2))]) (st := [.long r]) (pc := 714) dL_law_714 (cM_told (zz Z z2) M (xs (i + 1)) (xs (i + 2)) (Rel_mOK h) (fun g => Rel_tmOK h g)) ⟨tw_1125, tw_1126, tw_1127, tw_1128, tw_6, by decide +kernel⟩ rfl rfl rfl rfl rfl (Nat.le_of_ble_eq_true rfl) (Nat.le_of_ble_eq_true rfl) (Nat.le_of_ble_eq_true rfl) (by omega) (by omega) (fun v' M' hpm => ?_)
  obtain ⟨r', e1, rfl, hR⟩ := q_told h hpx hpm
  cases e1
  refine L_swap (A := XW (zz Z z1) X') (B := MW (zz Z z2) M') ?_
  refine L_lcmp (x := r) (y := r) (st := []) (pc := 717) dL_law_717 ?_
  refine L_if_eq (x := lg_cmp r r) (st := []) (tgt := 1542) (pc := 718) dL_law_718 (by decide) (fun _ => ?_) (fun hz => absurd ((lg_cmp_eq r r).mpr rfl) hz)
  exact L_widen (by omega) (by omega) (kk X' M' hR)
