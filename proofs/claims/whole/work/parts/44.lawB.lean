section
variable {E : jE} {C : jC} {Q : State → Prop} {k n b L0 : Nat} {xs : Nat → Int32} {ad qh : Nat → Nat → Nat} {q : Nat → Nat} {i c : Int} {S H : Nat → Nat → Int → Int} {P : Nat → Int → Int} {v : Int → Int} {F : Nat → Int → Int}
theorem kL_X7_cup : jKv mL 66 yX7_cup wsX7_cup rmX7_cup 2 := ⟨gL_law_X7_cup, ⟨_, _, _, _, rfl, by decide⟩, by decide +kernel, rfl, rfl, by decide⟩
theorem kL_X8_cup : jKv mL 69 yX8_cup wsX8_cup rmX8_cup 2 := ⟨gL_law_X8_cup, ⟨_, _, _, _, rfl, by decide⟩, by decide +kernel, rfl, rfl, by decide⟩
set_option maxRecDepth 100000 in
set_option maxHeartbeats 4000000 in
theorem law_cup (ok : lOk C b L0 xs i) (hk : k ≤ 600000 ∧ n ≤ 7302250) (hc : c ≤ 511) (go : lGo E C Q k n b ad qh q i (c + 1)) (h : Inv c S H P v F) : jG mL E C Q k n 464 [(3, .int (jI i)), (2, .ref (q 0)), (1, .ref (ad 7 0)), (0, .ref b)] [] (jFl [wEye E ad qh S H P v, wModel E q F]) := by
  obtain ⟨hX, hbl, hbA, hL0, hi0, hi6⟩ := ok
  have hL : L0 < 2147483648 := by omega
  have hc2 : c ≤ 512 := by omega
  obtain ⟨hx, hr, hi5, hiv, hn, h2⟩ := Inv_x h hc2
  have h4 : ∀ i, 0 ≤ F 4 i ∧ F 4 i < 1000 := h.2.2.2.2.2.2.2
  refine j_aload_n 2 465 dL_law_464 rfl rfl ?_
  refine j_aload_n 3 466 dL_law_465 rfl rfl ?_
  refine j_iload_n 0 467 dL_law_466 rfl rfl ?_
  refine j_iconst 468 dL_law_467 rfl ?_
  refine j_iadd 469 dL_law_468 rfl ?_
  refine j_sld 470 hX hbl hbA hL (by omega) dL_law_469 rfl ?_
  refine j_aload_n 3 471 dL_law_470 rfl rfl ?_
  refine j_iload_n 0 472 dL_law_471 rfl rfl ?_
  refine j_iconst 473 dL_law_472 rfl ?_
  refine j_iadd 474 dL_law_473 rfl ?_
  refine j_sld 475 hX hbl hbA hL (by omega) dL_law_474 rfl ?_
  refine j_callViB (wcs := [_]) (cs := [_]) 0 0 [0] 478 [_, _] (c_X7_cup E ad qh S H P v _ _ h.1 (sX_rng _ _) (sX_rng _ _)) (jFl_1 _) (jFl_1 _) rfl kL_X7_cup rfl rfl rfl rfl rfl rfl rfl (Nat.le_of_ble_eq_true rfl) hk dL_law_475 rfl ?_
  refine j_aload_n 1 479 dL_law_478 rfl rfl ?_
  refine j_aload_n 3 480 dL_law_479 rfl rfl ?_
  refine j_iload_n 0 481 dL_law_480 rfl rfl ?_
  refine j_iconst 482 dL_law_481 rfl ?_
  refine j_iadd 483 dL_law_482 rfl ?_
  refine j_sld 484 hX hbl hbA hL (by omega) dL_law_483 rfl ?_
  refine j_aload_n 3 485 dL_law_484 rfl rfl ?_
  refine j_iload_n 0 486 dL_law_485 rfl rfl ?_
  refine j_iconst 487 dL_law_486 rfl ?_
  refine j_iadd 488 dL_law_487 rfl ?_
  refine j_sld 489 hX hbl hbA hL (by omega) dL_law_488 rfl ?_
  refine j_callViP 1 0 [0, 1] 492 [_, _, _, _, _, _, _] [_, _] (c_X8_cup E _ _ _ _ (S 0) _ _ hx hr (sX_rng _ _) (sX_rng _ _)) rfl kL_X8_cup rfl rfl rfl rfl rfl rfl rfl rfl rfl (Nat.le_of_ble_eq_true rfl) hk dL_law_489 rfl ?_
  refine j_same 881 dL_law_492 (by decide) rfl ?_
  exact law_next go (Inv_same h)
theorem kL_X7_apple : jKv mL 70 yX7_apple wsX7_apple rmX7_apple 3 := ⟨gL_law_X7_apple, ⟨_, _, _, _, rfl, by decide⟩, by decide +kernel, rfl, rfl, by decide⟩
theorem kL_X8_apple : jKv mL 73 yX8_apple wsX8_apple rmX8_apple 3 := ⟨gL_law_X8_apple, ⟨_, _, _, _, rfl, by decide⟩, by decide +kernel, rfl, rfl, by decide⟩
set_option maxRecDepth 100000 in
set_option maxHeartbeats 4000000 in
theorem law_apple (ok : lOk C b L0 xs i) (hk : k ≤ 600000 ∧ n ≤ 7302250) (hc : c ≤ 511) (go : lGo E C Q k n b ad qh q i (c + 1)) (h : Inv c S H P v F) : jG mL E C Q k n 497 [(3, .int (jI i)), (2, .ref (q 0)), (1, .ref (ad 7 0)), (0, .ref b)] [] (jFl [wEye E ad qh S H P v, wModel E q F]) := by
  obtain ⟨hX, hbl, hbA, hL0, hi0, hi6⟩ := ok
  have hL : L0 < 2147483648 := by omega
  have hc2 : c ≤ 512 := by omega
  obtain ⟨hx, hr, hi5, hiv, hn, h2⟩ := Inv_x h hc2
  have h4 : ∀ i, 0 ≤ F 4 i ∧ F 4 i < 1000 := h.2.2.2.2.2.2.2
  refine j_aload_n 2 498 dL_law_497 rfl rfl ?_
  refine j_aload_n 3 499 dL_law_498 rfl rfl ?_
  refine j_iload_n 0 500 dL_law_499 rfl rfl ?_
  refine j_iconst 501 dL_law_500 rfl ?_
  refine j_iadd 502 dL_law_501 rfl ?_
  refine j_sld 503 hX hbl hbA hL (by omega) dL_law_502 rfl ?_
  refine j_aload_n 3 504 dL_law_503 rfl rfl ?_
  refine j_iload_n 0 505 dL_law_504 rfl rfl ?_
  refine j_iconst 506 dL_law_505 rfl ?_
  refine j_iadd 507 dL_law_506 rfl ?_
  refine j_sld 508 hX hbl hbA hL (by omega) dL_law_507 rfl ?_
  refine j_aload_n 3 509 dL_law_508 rfl rfl ?_
  refine j_iload_n 0 510 dL_law_509 rfl rfl ?_
  refine j_iconst 511 dL_law_510 rfl ?_
  refine j_iadd 512 dL_law_511 rfl ?_
  refine j_sld 513 hX hbl hbA hL (by omega) dL_law_512 rfl ?_
  refine j_callViB (wcs := [_]) (cs := [_]) 0 0 [0] 516 [_, _] (c_X7_apple E ad qh S H P v _ _ _ h.1 (sX_rng _ _) (sX_rng _ _) (sX_rng _ _)) (jFl_1 _) (jFl_1 _) rfl kL_X7_apple rfl rfl rfl rfl rfl rfl rfl (Nat.le_of_ble_eq_true rfl) hk dL_law_513 rfl ?_
  refine j_aload_n 1 517 dL_law_516 rfl rfl ?_
  refine j_aload_n 3 518 dL_law_517 rfl rfl ?_
  refine j_iload_n 0 519 dL_law_518 rfl rfl ?_
  refine j_iconst 520 dL_law_519 rfl ?_
  refine j_iadd 521 dL_law_520 rfl ?_
  refine j_sld 522 hX hbl hbA hL (by omega) dL_law_521 rfl ?_
  refine j_aload_n 3 523 dL_law_522 rfl rfl ?_
  refine j_iload_n 0 524 dL_law_523 rfl rfl ?_
  refine j_iconst 525 dL_law_524 rfl ?_
  refine j_iadd 526 dL_law_525 rfl ?_
  refine j_sld 527 hX hbl hbA hL (by omega) dL_law_526 rfl ?_
  refine j_aload_n 3 528 dL_law_527 rfl rfl ?_
  refine j_iload_n 0 529 dL_law_528 rfl rfl ?_
  refine j_iconst 530 dL_law_529 rfl ?_
  refine j_iadd 531 dL_law_530 rfl ?_
  refine j_sld 532 hX hbl hbA hL (by omega) dL_law_531 rfl ?_
  refine j_callViP 1 0 [0, 1] 535 [_, _, _, _, _, _, _] [_, _] (c_X8_apple E _ _ _ _ (S 0) _ _ _ hx hr (sX_rng _ _) (sX_rng _ _) (sX_rng _ _)) rfl kL_X8_apple rfl rfl rfl rfl rfl rfl rfl rfl rfl (Nat.le_of_ble_eq_true rfl) hk dL_law_532 rfl ?_
  refine j_same 881 dL_law_535 (by decide) rfl ?_
  exact law_next go (Inv_same h)
theorem kL_X7_box : jKv mL 74 yX7_box wsX7_box rmX7_box 2 := ⟨gL_law_X7_box, ⟨_, _, _, _, rfl, by decide⟩, by decide +kernel, rfl, rfl, by decide⟩
theorem kL_X8_box : jKv mL 77 yX8_box wsX8_box rmX8_box 2 := ⟨gL_law_X8_box, ⟨_, _, _, _, rfl, by decide⟩, by decide +kernel, rfl, rfl, by decide⟩
set_option maxRecDepth 100000 in
set_option maxHeartbeats 4000000 in
theorem law_box (ok : lOk C b L0 xs i) (hk : k ≤ 600000 ∧ n ≤ 7302250) (hc : c ≤ 511) (go : lGo E C Q k n b ad qh q i (c + 1)) (h : Inv c S H P v F) : jG mL E C Q k n 540 [(3, .int (jI i)), (2, .ref (q 0)), (1, .ref (ad 7 0)), (0, .ref b)] [] (jFl [wEye E ad qh S H P v, wModel E q F]) := by
  obtain ⟨hX, hbl, hbA, hL0, hi0, hi6⟩ := ok
  have hL : L0 < 2147483648 := by omega
  have hc2 : c ≤ 512 := by omega
  obtain ⟨hx, hr, hi5, hiv, hn, h2⟩ := Inv_x h hc2
  have h4 : ∀ i, 0 ≤ F 4 i ∧ F 4 i < 1000 := h.2.2.2.2.2.2.2
  refine j_aload_n 2 541 dL_law_540 rfl rfl ?_
  refine j_aload_n 3 542 dL_law_541 rfl rfl ?_
  refine j_iload_n 0 543 dL_law_542 rfl rfl ?_
  refine j_iconst 544 dL_law_543 rfl ?_
  refine j_iadd 545 dL_law_544 rfl ?_
  refine j_sld 546 hX hbl hbA hL (by omega) dL_law_545 rfl ?_
  refine j_aload_n 3 547 dL_law_546 rfl rfl ?_
  refine j_iload_n 0 548 dL_law_547 rfl rfl ?_
  refine j_iconst 549 dL_law_548 rfl ?_
  refine j_iadd 550 dL_law_549 rfl ?_
  refine j_sld 551 hX hbl hbA hL (by omega) dL_law_550 rfl ?_
  refine j_callViB (wcs := [_]) (cs := [_]) 0 0 [0] 554 [_, _] (c_X7_box E ad qh S H P v _ _ h.1 (sX_rng _ _) (sX_rng _ _)) (jFl_1 _) (jFl_1 _) rfl kL_X7_box rfl rfl rfl rfl rfl rfl rfl (Nat.le_of_ble_eq_true rfl) hk dL_law_551 rfl ?_
  refine j_aload_n 1 555 dL_law_554 rfl rfl ?_
  refine j_aload_n 3 556 dL_law_555 rfl rfl ?_
  refine j_iload_n 0 557 dL_law_556 rfl rfl ?_
  refine j_iconst 558 dL_law_557 rfl ?_
  refine j_iadd 559 dL_law_558 rfl ?_
  refine j_sld 560 hX hbl hbA hL (by omega) dL_law_559 rfl ?_
  refine j_aload_n 3 561 dL_law_560 rfl rfl ?_
  refine j_iload_n 0 562 dL_law_561 rfl rfl ?_
  refine j_iconst 563 dL_law_562 rfl ?_
  refine j_iadd 564 dL_law_563 rfl ?_
  refine j_sld 565 hX hbl hbA hL (by omega) dL_law_564 rfl ?_
  refine j_callViP 1 0 [0, 1] 568 [_, _, _, _, _, _, _] [_, _] (c_X8_box E _ _ _ _ (S 0) _ _ hx hr (sX_rng _ _) (sX_rng _ _)) rfl kL_X8_box rfl rfl rfl rfl rfl rfl rfl rfl rfl (Nat.le_of_ble_eq_true rfl) hk dL_law_565 rfl ?_
  refine j_same 881 dL_law_568 (by decide) rfl ?_
  exact law_next go (Inv_same h)
theorem kL_X7_ruleOf : jKv mL 78 yX7_ruleOf wsX7_ruleOf rmX7_ruleOf 2 := ⟨gL_law_X7_ruleOf, ⟨_, _, _, _, rfl, by decide⟩, by decide +kernel, rfl, rfl, by decide⟩
theorem kL_X8_ruleOf : jKv mL 81 yX8_ruleOf wsX8_ruleOf rmX8_ruleOf 2 := ⟨gL_law_X8_ruleOf, ⟨_, _, _, _, rfl, by decide⟩, by decide +kernel, rfl, rfl, by decide⟩
set_option maxRecDepth 100000 in
set_option maxHeartbeats 4000000 in
theorem law_ruleOf (ok : lOk C b L0 xs i) (hk : k ≤ 600000 ∧ n ≤ 7302250) (hc : c ≤ 511) (go : lGo E C Q k n b ad qh q i (c + 1)) (h : Inv c S H P v F) : jG mL E C Q k n 573 [(3, .int (jI i)), (2, .ref (q 0)), (1, .ref (ad 7 0)), (0, .ref b)] [] (jFl [wEye E ad qh S H P v, wModel E q F]) := by
  obtain ⟨hX, hbl, hbA, hL0, hi0, hi6⟩ := ok
  have hL : L0 < 2147483648 := by omega
  have hc2 : c ≤ 512 := by omega
  obtain ⟨hx, hr, hi5, hiv, hn, h2⟩ := Inv_x h hc2
  have h4 : ∀ i, 0 ≤ F 4 i ∧ F 4 i < 1000 := h.2.2.2.2.2.2.2
  refine j_aload_n 2 574 dL_law_573 rfl rfl ?_
  refine j_aload_n 3 575 dL_law_574 rfl rfl ?_
  refine j_iload_n 0 576 dL_law_575 rfl rfl ?_
  refine j_iconst 577 dL_law_576 rfl ?_
  refine j_iadd 578 dL_law_577 rfl ?_
  refine j_sld 579 hX hbl hbA hL (by omega) dL_law_578 rfl ?_
  refine j_aload_n 3 580 dL_law_579 rfl rfl ?_
  refine j_iload_n 0 581 dL_law_580 rfl rfl ?_
  refine j_iconst 582 dL_law_581 rfl ?_
  refine j_iadd 583 dL_law_582 rfl ?_
  refine j_sld 584 hX hbl hbA hL (by omega) dL_law_583 rfl ?_
  refine j_callViB (wcs := [_]) (cs := [_]) 0 0 [0] 587 [_, _] (c_X7_ruleOf E ad qh S H P v _ _ h.1 (sX_rng _ _) (sX_rng _ _)) (jFl_1 _) (jFl_1 _) rfl kL_X7_ruleOf rfl rfl rfl rfl rfl rfl rfl (Nat.le_of_ble_eq_true rfl) hk dL_law_584 rfl ?_
  refine j_aload_n 1 588 dL_law_587 rfl rfl ?_
  refine j_aload_n 3 589 dL_law_588 rfl rfl ?_
  refine j_iload_n 0 590 dL_law_589 rfl rfl ?_
  refine j_iconst 591 dL_law_590 rfl ?_
  refine j_iadd 592 dL_law_591 rfl ?_
  refine j_sld 593 hX hbl hbA hL (by omega) dL_law_592 rfl ?_
  refine j_aload_n 3 594 dL_law_593 rfl rfl ?_
  refine j_iload_n 0 595 dL_law_594 rfl rfl ?_
  refine j_iconst 596 dL_law_595 rfl ?_
  refine j_iadd 597 dL_law_596 rfl ?_
  refine j_sld 598 hX hbl hbA hL (by omega) dL_law_597 rfl ?_
  refine j_callViP 1 0 [0, 1] 601 [_, _, _, _, _, _, _] [_, _] (c_X8_ruleOf E _ _ _ _ (S 0) _ _ hx hr (sX_rng _ _) (sX_rng _ _)) rfl kL_X8_ruleOf rfl rfl rfl rfl rfl rfl rfl rfl rfl (Nat.le_of_ble_eq_true rfl) hk dL_law_598 rfl ?_
  refine j_same 881 dL_law_601 (by decide) rfl ?_
  exact law_next go (Inv_same h)
theorem kL_X7_lane : jKv mL 82 yX7_lane wsX7_lane rmX7_lane 4 := ⟨gL_law_X7_lane, ⟨_, _, _, _, rfl, by decide⟩, by decide +kernel, rfl, rfl, by decide⟩
theorem kL_X8_lane : jKv mL 86 yX8_lane wsX8_lane rmX8_lane 4 := ⟨gL_law_X8_lane, ⟨_, _, _, _, rfl, by decide⟩, by decide +kernel, rfl, rfl, by decide⟩
set_option maxRecDepth 100000 in
set_option maxHeartbeats 4000000 in
theorem law_lane (ok : lOk C b L0 xs i) (hk : k ≤ 600000 ∧ n ≤ 7302250) (hc : c ≤ 511) (go : lGo E C Q k n b ad qh q i (c + 1)) (h : Inv c S H P v F) : jG mL E C Q k n 606 [(3, .int (jI i)), (2, .ref (q 0)), (1, .ref (ad 7 0)), (0, .ref b)] [] (jFl [wEye E ad qh S H P v, wModel E q F]) := by
  obtain ⟨hX, hbl, hbA, hL0, hi0, hi6⟩ := ok
  have hL : L0 < 2147483648 := by omega
  have hc2 : c ≤ 512 := by omega
  obtain ⟨hx, hr, hi5, hiv, hn, h2⟩ := Inv_x h hc2
  have h4 : ∀ i, 0 ≤ F 4 i ∧ F 4 i < 1000 := h.2.2.2.2.2.2.2
  refine j_aload_n 2 607 dL_law_606 rfl rfl ?_
  refine j_aload_n 3 608 dL_law_607 rfl rfl ?_
  refine j_iload_n 0 609 dL_law_608 rfl rfl ?_
  refine j_iconst 610 dL_law_609 rfl ?_
  refine j_iadd 611 dL_law_610 rfl ?_
  refine j_sld 612 hX hbl hbA hL (by omega) dL_law_611 rfl ?_
  refine j_aload_n 3 613 dL_law_612 rfl rfl ?_
  refine j_iload_n 0 614 dL_law_613 rfl rfl ?_
  refine j_iconst 615 dL_law_614 rfl ?_
  refine j_iadd 616 dL_law_615 rfl ?_
  refine j_sld 617 hX hbl hbA hL (by omega) dL_law_616 rfl ?_
  refine j_aload_n 3 618 dL_law_617 rfl rfl ?_
  refine j_iload_n 0 619 dL_law_618 rfl rfl ?_
  refine j_iconst 620 dL_law_619 rfl ?_
  refine j_iadd 621 dL_law_620 rfl ?_
  refine j_sld 622 hX hbl hbA hL (by omega) dL_law_621 rfl ?_
  refine j_aload_n 3 623 dL_law_622 rfl rfl ?_
  refine j_iload_n 0 624 dL_law_623 rfl rfl ?_
  refine j_iconst 625 dL_law_624 rfl ?_
  refine j_iadd 626 dL_law_625 rfl ?_
  refine j_sld 627 hX hbl hbA hL (by omega) dL_law_626 rfl ?_
  refine j_callViB (wcs := [_]) (cs := [_]) 0 0 [0] 630 [_, _] (c_X7_lane E ad qh S H P v _ _ _ _ h.1 (sX_rng _ _) (sX_rng _ _) (sX_rng _ _) (sX_rng _ _)) (jFl_1 _) (jFl_1 _) rfl kL_X7_lane rfl rfl rfl rfl rfl rfl rfl (Nat.le_of_ble_eq_true rfl) hk dL_law_627 rfl ?_
  refine j_aload_n 1 631 dL_law_630 rfl rfl ?_
  refine j_aload_n 3 632 dL_law_631 rfl rfl ?_
  refine j_iload_n 0 633 dL_law_632 rfl rfl ?_
  refine j_iconst 634 dL_law_633 rfl ?_
  refine j_iadd 635 dL_law_634 rfl ?_
  refine j_sld 636 hX hbl hbA hL (by omega) dL_law_635 rfl ?_
  refine j_aload_n 3 637 dL_law_636 rfl rfl ?_
  refine j_iload_n 0 638 dL_law_637 rfl rfl ?_
  refine j_iconst 639 dL_law_638 rfl ?_
  refine j_iadd 640 dL_law_639 rfl ?_
  refine j_sld 641 hX hbl hbA hL (by omega) dL_law_640 rfl ?_
  refine j_aload_n 3 642 dL_law_641 rfl rfl ?_
  refine j_iload_n 0 643 dL_law_642 rfl rfl ?_
  refine j_iconst 644 dL_law_643 rfl ?_
  refine j_iadd 645 dL_law_644 rfl ?_
  refine j_sld 646 hX hbl hbA hL (by omega) dL_law_645 rfl ?_
  refine j_aload_n 3 647 dL_law_646 rfl rfl ?_
  refine j_iload_n 0 648 dL_law_647 rfl rfl ?_
  refine j_iconst 649 dL_law_648 rfl ?_
  refine j_iadd 650 dL_law_649 rfl ?_
  refine j_sld 651 hX hbl hbA hL (by omega) dL_law_650 rfl ?_
  refine j_callViP 1 0 [0, 1] 654 [_, _, _, _, _, _, _] [_, _] (c_X8_lane E _ _ _ _ (S 0) _ _ _ _ hx hr (sX_rng _ _) (sX_rng _ _) (sX_rng _ _) (sX_rng _ _)) rfl kL_X8_lane rfl rfl rfl rfl rfl rfl rfl rfl rfl (Nat.le_of_ble_eq_true rfl) hk dL_law_651 rfl ?_
  refine j_same 881 dL_law_654 (by decide) rfl ?_
  exact law_next go (Inv_same h)
theorem kL_X7_misses : jKv mL 87 yX7_misses wsX7_misses rmX7_misses 4 := ⟨gL_law_X7_misses, ⟨_, _, _, _, rfl, by decide⟩, by decide +kernel, rfl, rfl, by decide⟩
theorem kL_X8_misses : jKv mL 90 yX8_misses wsX8_misses rmX8_misses 4 := ⟨gL_law_X8_misses, ⟨_, _, _, _, rfl, by decide⟩, by decide +kernel, rfl, rfl, by decide⟩
set_option maxRecDepth 100000 in
set_option maxHeartbeats 4000000 in
theorem law_misses (ok : lOk C b L0 xs i) (hk : k ≤ 600000 ∧ n ≤ 7302250) (hc : c ≤ 511) (go : lGo E C Q k n b ad qh q i (c + 1)) (h : Inv c S H P v F) : jG mL E C Q k n 659 [(3, .int (jI i)), (2, .ref (q 0)), (1, .ref (ad 7 0)), (0, .ref b)] [] (jFl [wEye E ad qh S H P v, wModel E q F]) := by
  obtain ⟨hX, hbl, hbA, hL0, hi0, hi6⟩ := ok
  have hL : L0 < 2147483648 := by omega
  have hc2 : c ≤ 512 := by omega
  obtain ⟨hx, hr, hi5, hiv, hn, h2⟩ := Inv_x h hc2
  have h4 : ∀ i, 0 ≤ F 4 i ∧ F 4 i < 1000 := h.2.2.2.2.2.2.2
  refine j_aload_n 2 660 dL_law_659 rfl rfl ?_
  refine j_aload_n 3 661 dL_law_660 rfl rfl ?_
  refine j_iload_n 0 662 dL_law_661 rfl rfl ?_
  refine j_iconst 663 dL_law_662 rfl ?_
  refine j_iadd 664 dL_law_663 rfl ?_
  refine j_sld 665 hX hbl hbA hL (by omega) dL_law_664 rfl ?_
  refine j_aload_n 3 666 dL_law_665 rfl rfl ?_
  refine j_iload_n 0 667 dL_law_666 rfl rfl ?_
  refine j_iconst 668 dL_law_667 rfl ?_
  refine j_iadd 669 dL_law_668 rfl ?_
  refine j_sld 670 hX hbl hbA hL (by omega) dL_law_669 rfl ?_
  refine j_aload_n 3 671 dL_law_670 rfl rfl ?_
  refine j_iload_n 0 672 dL_law_671 rfl rfl ?_
  refine j_iconst 673 dL_law_672 rfl ?_
  refine j_iadd 674 dL_law_673 rfl ?_
  refine j_sld 675 hX hbl hbA hL (by omega) dL_law_674 rfl ?_
  refine j_aload_n 3 676 dL_law_675 rfl rfl ?_
  refine j_iload_n 0 677 dL_law_676 rfl rfl ?_
  refine j_iconst 678 dL_law_677 rfl ?_
  refine j_iadd 679 dL_law_678 rfl ?_
  refine j_sld 680 hX hbl hbA hL (by omega) dL_law_679 rfl ?_
  refine j_callViB (wcs := [_]) (cs := [_]) 0 0 [0] 683 [_, _] (c_X7_misses E ad qh S H P v _ _ _ _ h.1 (sX_rng _ _) (sX_rng _ _) (sX_rng _ _) (sX_rng _ _)) (jFl_1 _) (jFl_1 _) rfl kL_X7_misses rfl rfl rfl rfl rfl rfl rfl (Nat.le_of_ble_eq_true rfl) hk dL_law_680 rfl ?_
  refine j_aload_n 1 684 dL_law_683 rfl rfl ?_
  refine j_aload_n 3 685 dL_law_684 rfl rfl ?_
  refine j_iload_n 0 686 dL_law_685 rfl rfl ?_
  refine j_iconst 687 dL_law_686 rfl ?_
  refine j_iadd 688 dL_law_687 rfl ?_
  refine j_sld 689 hX hbl hbA hL (by omega) dL_law_688 rfl ?_
  refine j_aload_n 3 690 dL_law_689 rfl rfl ?_
  refine j_iload_n 0 691 dL_law_690 rfl rfl ?_
  refine j_iconst 692 dL_law_691 rfl ?_
  refine j_iadd 693 dL_law_692 rfl ?_
  refine j_sld 694 hX hbl hbA hL (by omega) dL_law_693 rfl ?_
  refine j_aload_n 3 695 dL_law_694 rfl rfl ?_
  refine j_iload_n 0 696 dL_law_695 rfl rfl ?_
  refine j_iconst 697 dL_law_696 rfl ?_
  refine j_iadd 698 dL_law_697 rfl ?_
  refine j_sld 699 hX hbl hbA hL (by omega) dL_law_698 rfl ?_
  refine j_aload_n 3 700 dL_law_699 rfl rfl ?_
  refine j_iload_n 0 701 dL_law_700 rfl rfl ?_
  refine j_iconst 702 dL_law_701 rfl ?_
  refine j_iadd 703 dL_law_702 rfl ?_
  refine j_sld 704 hX hbl hbA hL (by omega) dL_law_703 rfl ?_
  refine j_callViP 1 0 [0, 1] 707 [_, _, _, _, _, _, _] [_, _] (c_X8_misses E _ _ _ _ (S 0) _ _ _ _ hx hr (sX_rng _ _) (sX_rng _ _) (sX_rng _ _) (sX_rng _ _)) rfl kL_X8_misses rfl rfl rfl rfl rfl rfl rfl rfl rfl (Nat.le_of_ble_eq_true rfl) hk dL_law_704 rfl ?_
  refine j_same 881 dL_law_707 (by decide) rfl ?_
  exact law_next go (Inv_same h)
theorem kL_X7_count : jKv mL 91 yX7_count wsX7_count rmX7_count 1 := ⟨gL_law_X7_count, ⟨_, _, _, _, rfl, by decide⟩, by decide +kernel, rfl, rfl, by decide⟩
theorem kL_X8_count : jKv mL 94 yX8_count wsX8_count rmX8_count 1 := ⟨gL_law_X8_count, ⟨_, _, _, _, rfl, by decide⟩, by decide +kernel, rfl, rfl, by decide⟩
set_option maxRecDepth 100000 in
set_option maxHeartbeats 4000000 in
theorem law_count (ok : lOk C b L0 xs i) (hk : k ≤ 600000 ∧ n ≤ 7302250) (hc : c ≤ 511) (go : lGo E C Q k n b ad qh q i (c + 1)) (h : Inv c S H P v F) : jG mL E C Q k n 712 [(3, .int (jI i)), (2, .ref (q 0)), (1, .ref (ad 7 0)), (0, .ref b)] [] (jFl [wEye E ad qh S H P v, wModel E q F]) := by
  obtain ⟨hX, hbl, hbA, hL0, hi0, hi6⟩ := ok
  have hL : L0 < 2147483648 := by omega
  have hc2 : c ≤ 512 := by omega
  obtain ⟨hx, hr, hi5, hiv, hn, h2⟩ := Inv_x h hc2
  have h4 : ∀ i, 0 ≤ F 4 i ∧ F 4 i < 1000 := h.2.2.2.2.2.2.2
  have hv3 : v 3 = F 6 2 := h.2.2.2.2.1.2.2.symm
  have hv2 : v 2 = F 6 1 := h.2.2.2.2.1.2.1.symm
  refine j_aload_n 2 713 dL_law_712 rfl rfl ?_
  refine j_aload_n 3 714 dL_law_713 rfl rfl ?_
  refine j_iload_n 0 715 dL_law_714 rfl rfl ?_
  refine j_iconst 716 dL_law_715 rfl ?_
  refine j_iadd 717 dL_law_716 rfl ?_
  refine j_sld 718 hX hbl hbA hL (by omega) dL_law_717 rfl ?_
  refine j_callViB (wcs := [_]) (cs := [_]) 0 0 [0] 721 [_, _] (c_X7_count E ad qh S H P v _ h.1 (sX_rng _ _)) (jFl_1 _) (jFl_1 _) rfl kL_X7_count rfl rfl rfl rfl rfl rfl rfl (Nat.le_of_ble_eq_true rfl) hk dL_law_718 rfl ?_
  refine j_aload_n 1 722 dL_law_721 rfl rfl ?_
  refine j_aload_n 3 723 dL_law_722 rfl rfl ?_
  refine j_iload_n 0 724 dL_law_723 rfl rfl ?_
  refine j_iconst 725 dL_law_724 rfl ?_
  refine j_iadd 726 dL_law_725 rfl ?_
  refine j_sld 727 hX hbl hbA hL (by omega) dL_law_726 rfl ?_
  refine j_callViB (wcs := [_]) (cs := [_]) 1 0 [1] 730 [_, _] (c_X8_count E q F (S 0) v _ hx hr hv3 hv2 (sX_rng _ _)) (jFl_1 _) (jFl_1 _) rfl kL_X8_count rfl rfl rfl rfl rfl rfl rfl (Nat.le_of_ble_eq_true rfl) hk dL_law_727 rfl ?_
  refine j_same 881 dL_law_730 (by decide) rfl ?_
  exact law_next go (Inv_same h)
theorem kL_X7_right : jKv mL 95 yX7_right wsX7_right rmX7_right 0 := ⟨gL_law_X7_right, ⟨_, _, _, _, rfl, by decide⟩, by decide +kernel, rfl, rfl, by decide⟩
theorem kL_X8_right : jKv mL 99 yX8_right wsX8_right rmX8_right 0 := ⟨gL_law_X8_right, ⟨_, _, _, _, rfl, by decide⟩, by decide +kernel, rfl, rfl, by decide⟩
set_option maxRecDepth 100000 in
set_option maxHeartbeats 4000000 in
theorem law_right (ok : lOk C b L0 xs i) (hk : k ≤ 600000 ∧ n ≤ 7302250) (hc : c ≤ 511) (go : lGo E C Q k n b ad qh q i (c + 1)) (h : Inv c S H P v F) : jG mL E C Q k n 735 [(3, .int (jI i)), (2, .ref (q 0)), (1, .ref (ad 7 0)), (0, .ref b)] [] (jFl [wEye E ad qh S H P v, wModel E q F]) := by
  obtain ⟨hX, hbl, hbA, hL0, hi0, hi6⟩ := ok
  have hL : L0 < 2147483648 := by omega
  have hc2 : c ≤ 512 := by omega
  obtain ⟨hx, hr, hi5, hiv, hn, h2⟩ := Inv_x h hc2
  have h4 : ∀ i, 0 ≤ F 4 i ∧ F 4 i < 1000 := h.2.2.2.2.2.2.2
  refine j_aload_n 2 736 dL_law_735 rfl rfl ?_
  refine j_callVdB (wcs := [_]) (cs := [_]) 0 0 [0] 739 [_, _] (c_X7_right E ad qh S H P v h.1) (jFl_1 _) (jFl_1 _) rfl kL_X7_right rfl rfl rfl rfl rfl rfl rfl (Nat.le_of_ble_eq_true rfl) hk dL_law_736 rfl ?_
  refine j_dstore 741 [_, _, _, _, _] dL_law_739 rfl (by decide) rfl ?_
  refine j_aload_n 2 742 dL_law_741 rfl rfl ?_
  refine j_callVdP 1 0 [0, 1] 745 [_, _, _, _, _, _, _] [_, _] (c_X8_right E _ _ _ _ (S 0) hx hr) rfl kL_X8_right rfl rfl rfl rfl rfl rfl rfl rfl rfl (Nat.le_of_ble_eq_true rfl) hk dL_law_742 rfl ?_
  refine j_dstore 747 [_, _, _, _, _, _] dL_law_745 rfl (by decide) rfl ?_
  generalize shD1 (sWa (S 0)) (jSum (S 0 5) 4) = dd
  refine j_dload 1 749 dL_law_747 rfl rfl ?_
  refine j_dload 0 751 dL_law_749 rfl rfl ?_
  refine j_dcmp 752 dL_law_751 rfl ?_
  refine j_if_eq 773 755 dL_law_752 rfl (by decide) (dC_rng _ _) (fun _ => ?_) (fun h0 => ?_)
  · (refine j_goto 881 dL_law_773 (by decide) ?_; refine j_perm [2, 3, 4, 5] rfl ?_; exact law_next go (Inv_same h))
  · refine j_dload 1 757 dL_law_755 rfl rfl ?_
    refine j_dload 1 759 dL_law_757 rfl rfl ?_
    refine j_dcmp 760 dL_law_759 rfl ?_
    refine j_if_eq 771 763 dL_law_760 rfl (by decide) (dC_rng _ _) (fun h1 => absurd h1 h0) (fun _ => ?_)
    refine j_dload 0 765 dL_law_763 rfl rfl ?_
    refine j_dload 0 767 dL_law_765 rfl rfl ?_
    refine j_dcmp 768 dL_law_767 rfl ?_
    refine j_if_ne 773 771 dL_law_768 rfl (by decide) (dC_rng _ _) (fun _ => ?_) (fun h1 => absurd h1 h0)
    (refine j_goto 881 dL_law_773 (by decide) ?_; refine j_perm [2, 3, 4, 5] rfl ?_; exact law_next go (Inv_same h))
theorem kL_X7_ifPassed : jKv mL 100 yX7_ifPassed wsX7_ifPassed rmX7_ifPassed 2 := ⟨gL_law_X7_ifPassed, ⟨_, _, _, _, rfl, by decide⟩, by decide +kernel, rfl, rfl, by decide⟩
theorem kL_X8_ifPassed : jKv mL 103 yX8_ifPassed wsX8_ifPassed rmX8_ifPassed 2 := ⟨gL_law_X8_ifPassed, ⟨_, _, _, _, rfl, by decide⟩, by decide +kernel, rfl, rfl, by decide⟩
set_option maxRecDepth 100000 in
set_option maxHeartbeats 4000000 in
theorem law_ifPassed (ok : lOk C b L0 xs i) (hk : k ≤ 600000 ∧ n ≤ 7302250) (hc : c ≤ 511) (go : lGo E C Q k n b ad qh q i (c + 1)) (h : Inv c S H P v F) : jG mL E C Q k n 776 [(3, .int (jI i)), (2, .ref (q 0)), (1, .ref (ad 7 0)), (0, .ref b)] [] (jFl [wEye E ad qh S H P v, wModel E q F]) := by
  obtain ⟨hX, hbl, hbA, hL0, hi0, hi6⟩ := ok
  have hL : L0 < 2147483648 := by omega
  have hc2 : c ≤ 512 := by omega
  obtain ⟨hx, hr, hi5, hiv, hn, h2⟩ := Inv_x h hc2
  have h4 : ∀ i, 0 ≤ F 4 i ∧ F 4 i < 1000 := h.2.2.2.2.2.2.2
  have tt := Inv_try h hc2
  refine j_aload_n 2 777 dL_law_776 rfl rfl ?_
  refine j_aload_n 3 778 dL_law_777 rfl rfl ?_
  refine j_iload_n 0 779 dL_law_778 rfl rfl ?_
  refine j_iconst 780 dL_law_779 rfl ?_
  refine j_iadd 781 dL_law_780 rfl ?_
  refine j_sld 782 hX hbl hbA hL (by omega) dL_law_781 rfl ?_
  refine j_aload_n 3 783 dL_law_782 rfl rfl ?_
  refine j_iload_n 0 784 dL_law_783 rfl rfl ?_
  refine j_iconst 785 dL_law_784 rfl ?_
  refine j_iadd 786 dL_law_785 rfl ?_
  refine j_sld 787 hX hbl hbA hL (by omega) dL_law_786 rfl ?_
  refine j_callViB (wcs := [_]) (cs := [_]) 0 0 [0] 790 [_, _] (c_X7_ifPassed E ad qh S H P v _ _ h.1 (sX_rng _ _) (sX_rng _ _) hi5 tt.2.2.2.2) (jFl_1 _) (jFl_1 _) rfl kL_X7_ifPassed rfl rfl rfl rfl rfl rfl rfl (Nat.le_of_ble_eq_true rfl) hk dL_law_787 rfl ?_
  refine j_aload_n 1 791 dL_law_790 rfl rfl ?_
  refine j_aload_n 3 792 dL_law_791 rfl rfl ?_
  refine j_iload_n 0 793 dL_law_792 rfl rfl ?_
  refine j_iconst 794 dL_law_793 rfl ?_
  refine j_iadd 795 dL_law_794 rfl ?_
  refine j_sld 796 hX hbl hbA hL (by omega) dL_law_795 rfl ?_
  refine j_aload_n 3 797 dL_law_796 rfl rfl ?_
  refine j_iload_n 0 798 dL_law_797 rfl rfl ?_
  refine j_iconst 799 dL_law_798 rfl ?_
  refine j_iadd 800 dL_law_799 rfl ?_
  refine j_sld 801 hX hbl hbA hL (by omega) dL_law_800 rfl ?_
  refine j_callViB (wcs := [_]) (cs := [_]) 1 0 [1] 804 [_, _] (c_X8_ifPassed E q F (sCp (S 0) (S 2)) _ _ hn tt.1 tt.2.1 tt.2.2.1 tt.2.2.2.1 (sX_rng _ _) (sX_rng _ _)) (jFl_1 _) (jFl_1 _) rfl kL_X8_ifPassed rfl rfl rfl rfl rfl rfl rfl (Nat.le_of_ble_eq_true rfl) hk dL_law_801 rfl ?_
  refine j_same 881 dL_law_804 (by decide) (Inv_if h hc2 _ _).1 ?_
  exact law_nextC go (Inv_if h hc2 _ _).2
theorem kL_X7_tightest : jKv mL 104 yX7_tightest wsX7_tightest rmX7_tightest 2 := ⟨gL_law_X7_tightest, ⟨_, _, _, _, rfl, by decide⟩, by decide +kernel, rfl, rfl, by decide⟩
theorem kL_X8_tightest : jKv mL 107 yX8_tightest wsX8_tightest rmX8_tightest 2 := ⟨gL_law_X8_tightest, ⟨_, _, _, _, rfl, by decide⟩, by decide +kernel, rfl, rfl, by decide⟩
set_option maxRecDepth 100000 in
set_option maxHeartbeats 4000000 in
theorem law_tightest (ok : lOk C b L0 xs i) (hk : k ≤ 600000 ∧ n ≤ 7302250) (hc : c ≤ 511) (go : lGo E C Q k n b ad qh q i (c + 1)) (h : Inv c S H P v F) : jG mL E C Q k n 809 [(3, .int (jI i)), (2, .ref (q 0)), (1, .ref (ad 7 0)), (0, .ref b)] [] (jFl [wEye E ad qh S H P v, wModel E q F]) := by
  obtain ⟨hX, hbl, hbA, hL0, hi0, hi6⟩ := ok
  have hL : L0 < 2147483648 := by omega
  have hc2 : c ≤ 512 := by omega
  obtain ⟨hx, hr, hi5, hiv, hn, h2⟩ := Inv_x h hc2
  have h4 : ∀ i, 0 ≤ F 4 i ∧ F 4 i < 1000 := h.2.2.2.2.2.2.2
  have tt := Inv_try h hc2
  refine j_aload_n 2 810 dL_law_809 rfl rfl ?_
  refine j_aload_n 3 811 dL_law_810 rfl rfl ?_
  refine j_iload_n 0 812 dL_law_811 rfl rfl ?_
  refine j_iconst 813 dL_law_812 rfl ?_
  refine j_iadd 814 dL_law_813 rfl ?_
  refine j_sld 815 hX hbl hbA hL (by omega) dL_law_814 rfl ?_
  refine j_aload_n 3 816 dL_law_815 rfl rfl ?_
  refine j_iload_n 0 817 dL_law_816 rfl rfl ?_
  refine j_iconst 818 dL_law_817 rfl ?_
  refine j_iadd 819 dL_law_818 rfl ?_
  refine j_sld 820 hX hbl hbA hL (by omega) dL_law_819 rfl ?_
  refine j_callViB (wcs := [_]) (cs := [_]) 0 0 [0] 823 [_, _] (c_X7_tightest E ad qh S H P v _ _ h.1 (sX_rng _ _) (sX_rng _ _)) (jFl_1 _) (jFl_1 _) rfl kL_X7_tightest rfl rfl rfl rfl rfl rfl rfl (Nat.le_of_ble_eq_true rfl) hk dL_law_820 rfl ?_
  refine j_aload_n 1 824 dL_law_823 rfl rfl ?_
  refine j_aload_n 3 825 dL_law_824 rfl rfl ?_
  refine j_iload_n 0 826 dL_law_825 rfl rfl ?_
  refine j_iconst 827 dL_law_826 rfl ?_
  refine j_iadd 828 dL_law_827 rfl ?_
  refine j_sld 829 hX hbl hbA hL (by omega) dL_law_828 rfl ?_
  refine j_aload_n 3 830 dL_law_829 rfl rfl ?_
  refine j_iload_n 0 831 dL_law_830 rfl rfl ?_
  refine j_iconst 832 dL_law_831 rfl ?_
  refine j_iadd 833 dL_law_832 rfl ?_
  refine j_sld 834 hX hbl hbA hL (by omega) dL_law_833 rfl ?_
  refine j_callViP 1 0 [0, 1] 837 [_, _, _, _, _, _, _] [_, _] (c_X8_tightest E _ _ _ _ (sCp (S 0) (S 2)) _ _ tt.1 tt.2.1 (sX_rng _ _) (sX_rng _ _)) rfl kL_X8_tightest rfl rfl rfl rfl rfl rfl rfl rfl rfl (Nat.le_of_ble_eq_true rfl) hk dL_law_834 rfl ?_
  refine j_same 881 dL_law_837 (by decide) (Inv_tight h _ _).1 ?_
  exact law_nextC go (Inv_tight h _ _).2
theorem kL_X7_undo : jKv mL 108 yX7_undo wsX7_undo rmX7_undo 0 := ⟨gL_law_X7_undo, ⟨_, _, _, _, rfl, by decide⟩, by decide +kernel, rfl, rfl, by decide⟩
theorem kL_X8_undo : jKv mL 111 yX8_undo wsX8_undo rmX8_undo 0 := ⟨gL_law_X8_undo, ⟨_, _, _, _, rfl, by decide⟩, by decide +kernel, rfl, rfl, by decide⟩
set_option maxRecDepth 100000 in
set_option maxHeartbeats 4000000 in
theorem law_undo (ok : lOk C b L0 xs i) (hk : k ≤ 600000 ∧ n ≤ 7302250) (hc : c ≤ 511) (go : lGo E C Q k n b ad qh q i (c + 1)) (h : Inv c S H P v F) : jG mL E C Q k n 842 [(3, .int (jI i)), (2, .ref (q 0)), (1, .ref (ad 7 0)), (0, .ref b)] [] (jFl [wEye E ad qh S H P v, wModel E q F]) := by
  obtain ⟨hX, hbl, hbA, hL0, hi0, hi6⟩ := ok
  have hL : L0 < 2147483648 := by omega
  have hc2 : c ≤ 512 := by omega
  obtain ⟨hx, hr, hi5, hiv, hn, h2⟩ := Inv_x h hc2
  have h4 : ∀ i, 0 ≤ F 4 i ∧ F 4 i < 1000 := h.2.2.2.2.2.2.2
  refine j_aload_n 2 843 dL_law_842 rfl rfl ?_
  refine j_callViB (wcs := [_]) (cs := [_]) 0 0 [0] 846 [_, _] (c_X7_undo E ad qh S H P v h.1) (jFl_1 _) (jFl_1 _) rfl kL_X7_undo rfl rfl rfl rfl rfl rfl rfl (Nat.le_of_ble_eq_true rfl) hk dL_law_843 rfl ?_
  refine j_aload_n 1 847 dL_law_846 rfl rfl ?_
  refine j_callViB (wcs := [_]) (cs := [_]) 1 0 [1] 850 [_, _] (c_X8_undo E q F hn) (jFl_1 _) (jFl_1 _) rfl kL_X8_undo rfl rfl rfl rfl rfl rfl rfl (Nat.le_of_ble_eq_true rfl) hk dL_law_847 rfl ?_
  refine j_same 881 dL_law_850 (by decide) (Inv_undo h).1 ?_
  exact law_nextC go (Inv_undo h).2
theorem kL_X7_save : jKv mL 112 yX7_save wsX7_save rmX7_save 0 := ⟨gL_law_X7_save, ⟨_, _, _, _, rfl, by decide⟩, by decide +kernel, rfl, rfl, by decide⟩
theorem kL_X8_save : jKv mL 115 yX8_save wsX8_save rmX8_save 0 := ⟨gL_law_X8_save, ⟨_, _, _, _, rfl, by decide⟩, by decide +kernel, rfl, rfl, by decide⟩
set_option maxRecDepth 100000 in
set_option maxHeartbeats 4000000 in
theorem law_save (ok : lOk C b L0 xs i) (hk : k ≤ 600000 ∧ n ≤ 7302250) (hc : c ≤ 511) (go : lGo E C Q k n b ad qh q i (c + 1)) (h : Inv c S H P v F) : jG mL E C Q k n 855 [(3, .int (jI i)), (2, .ref (q 0)), (1, .ref (ad 7 0)), (0, .ref b)] [] (jFl [wEye E ad qh S H P v, wModel E q F]) := by
  obtain ⟨hX, hbl, hbA, hL0, hi0, hi6⟩ := ok
  have hL : L0 < 2147483648 := by omega
  have hc2 : c ≤ 512 := by omega
  obtain ⟨hx, hr, hi5, hiv, hn, h2⟩ := Inv_x h hc2
  have h4 : ∀ i, 0 ≤ F 4 i ∧ F 4 i < 1000 := h.2.2.2.2.2.2.2
  refine j_aload_n 2 856 dL_law_855 rfl rfl ?_
  refine j_callViB (wcs := [_]) (cs := [_]) 0 0 [0] 859 [_, _] (c_X7_save E ad qh S H P v h.1) (jFl_1 _) (jFl_1 _) rfl kL_X7_save rfl rfl rfl rfl rfl rfl rfl (Nat.le_of_ble_eq_true rfl) hk dL_law_856 rfl ?_
  refine j_aload_n 1 860 dL_law_859 rfl rfl ?_
  refine j_callViB (wcs := [_]) (cs := [_]) 1 0 [1] 863 [_, _] (c_X8_save E q F (S 0) hn hx hr) (jFl_1 _) (jFl_1 _) rfl kL_X8_save rfl rfl rfl rfl rfl rfl rfl (Nat.le_of_ble_eq_true rfl) hk dL_law_860 rfl ?_
  refine j_same 881 dL_law_863 (by decide) rfl ?_
  exact law_nextC (t := (cU S 1 (sCp (S 0) (S 1)), H, P, jU v 0 1)) go (Inv_save h)
theorem kL_X7_restore : jKv mL 116 yX7_restore wsX7_restore rmX7_restore 0 := ⟨gL_law_X7_restore, ⟨_, _, _, _, rfl, by decide⟩, by decide +kernel, rfl, rfl, by decide⟩
theorem kL_X8_restore : jKv mL 119 yX8_restore wsX8_restore rmX8_restore 0 := ⟨gL_law_X8_restore, ⟨_, _, _, _, rfl, by decide⟩, by decide +kernel, rfl, rfl, by decide⟩
set_option maxRecDepth 100000 in
set_option maxHeartbeats 4000000 in
theorem law_restore (ok : lOk C b L0 xs i) (hk : k ≤ 600000 ∧ n ≤ 7302250) (hc : c ≤ 511) (go : lGo E C Q k n b ad qh q i (c + 1)) (h : Inv c S H P v F) : jG mL E C Q k n 868 [(3, .int (jI i)), (2, .ref (q 0)), (1, .ref (ad 7 0)), (0, .ref b)] [] (jFl [wEye E ad qh S H P v, wModel E q F]) := by
  obtain ⟨hX, hbl, hbA, hL0, hi0, hi6⟩ := ok
  have hL : L0 < 2147483648 := by omega
  have hc2 : c ≤ 512 := by omega
  obtain ⟨hx, hr, hi5, hiv, hn, h2⟩ := Inv_x h hc2
  have h4 : ∀ i, 0 ≤ F 4 i ∧ F 4 i < 1000 := h.2.2.2.2.2.2.2
  refine j_aload_n 2 869 dL_law_868 rfl rfl ?_
  refine j_callViB (wcs := [_]) (cs := [_]) 0 0 [0] 872 [_, _] (c_X7_restore E ad qh S H P v h.1) (jFl_1 _) (jFl_1 _) rfl kL_X7_restore rfl rfl rfl rfl rfl rfl rfl (Nat.le_of_ble_eq_true rfl) hk dL_law_869 rfl ?_
  refine j_aload_n 1 873 dL_law_872 rfl rfl ?_
  refine j_callViB (wcs := [_]) (cs := [_]) 1 0 [1] 876 [_, _] (c_X8_restore E q F (S 1) hn (h.1.1 1) (Inv_restore h).1 (Inv_restore h).2.1) (jFl_1 _) (jFl_1 _) rfl kL_X8_restore rfl rfl rfl rfl rfl rfl rfl (Nat.le_of_ble_eq_true rfl) hk dL_law_873 rfl ?_
  refine j_same 881 dL_law_876 (by decide) (Inv_restore h).2.2.1 ?_
  exact law_nextC go (Inv_restore h).2.2.2
end
