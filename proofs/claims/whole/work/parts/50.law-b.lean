section LAWCASES
variable {p : Program} {l : Launch} {e : Env} {s : State} {m : MethodId} {below : List Frame} {meth : Method} {c : Code} {D : va_G} {cI cZ : ClassId} {ad bd : Nat → Nat} {b L : Nat} {xs : Nat → Int32} {Q : State → Prop}
theorem law_k10 (C : LC p s m c D cI cZ ad bd b L xs) {i : Nat} (hi : i + 8 ≤ L) (hL : L < 2 ^ 31) (K : ∀ P T N U, okX P → rel P (cX N) → LW p l e s m below meth c D cI cZ ad bd b Q 1168 [(0, .ref b), (1, .ref (ad 0)), (2, .ref (bd 0)), (3, .int (nI i))] [] P T N U) {P T N U : St} (ok : okX P) (h : rel P (cX N)) : LW p l e s m below meth c D cI cZ ad bd b Q 526 [(0, .ref b), (1, .ref (ad 0)), (2, .ref (bd 0)), (3, .int (nI i))] [] P T N U := by
  have okn := okN_rel h ok
  refine l_aload_n (q := 527) C dL_law_526 rfl 1 rfl rfl ?_
  refine l_aload_n (q := 528) C dL_law_527 rfl 0 rfl rfl ?_
  refine l_iload_n (q := 529) C dL_law_528 rfl 3 rfl rfl ?_
  refine l_iconst (q := 530) (v := nI 1) C dL_law_529 (by decide) rfl ?_
  refine l_iadd (q := 531) C dL_law_530 rfl ?_
  refine l_sld (q := 532) C (by omega) hL dL_law_531 rfl ?_
  refine l_aload_n (q := 533) C dL_law_532 rfl 0 rfl rfl ?_
  refine l_iload_n (q := 534) C dL_law_533 rfl 3 rfl rfl ?_
  refine l_iconst (q := 535) (v := nI 2) C dL_law_534 (by decide) rfl ?_
  refine l_iadd (q := 536) C dL_law_535 rfl ?_
  refine l_sld (q := 537) C (by omega) hL dL_law_536 rfl ?_
  refine l_X (q := 540) (As := [.int (xs (i + 1)), .int (xs (i + 2))]) (rest := []) C (c_X7_value C.2.1 ok (xs (i + 1)) (xs (i + 2))) xs_X7_value tim_X7_value tsel_X7_value tml_L_59 (by decide) rfl rfl (Nat.le_of_ble_eq_true rfl) dL_law_537 rfl (fun r P1 T1 hp => ?_)
  refine l_aload_n (q := 541) C dL_law_540 rfl 2 rfl rfl ?_
  refine l_aload_n (q := 542) C dL_law_541 rfl 0 rfl rfl ?_
  refine l_iload_n (q := 543) C dL_law_542 rfl 3 rfl rfl ?_
  refine l_iconst (q := 544) (v := nI 1) C dL_law_543 (by decide) rfl ?_
  refine l_iadd (q := 545) C dL_law_544 rfl ?_
  refine l_sld (q := 546) C (by omega) hL dL_law_545 rfl ?_
  refine l_aload_n (q := 547) C dL_law_546 rfl 0 rfl rfl ?_
  refine l_iload_n (q := 548) C dL_law_547 rfl 3 rfl rfl ?_
  refine l_iconst (q := 549) (v := nI 2) C dL_law_548 (by decide) rfl ?_
  refine l_iadd (q := 550) C dL_law_549 rfl ?_
  refine l_sld (q := 551) C (by omega) hL dL_law_550 rfl ?_
  refine l_N (q := 554) (As := [.int (xs (i + 1)), .int (xs (i + 2))]) (rest := [.int r]) C (c_X8_value C.2.2.1 okn (xs (i + 1)) (xs (i + 2))) xs_X8_value tim_X8_value tsel_X8_value tml_L_62 (by decide) rfl rfl (Nat.le_of_ble_eq_true rfl) dL_law_551 rfl (fun r2 N1 U1 hn => ?_)
  have J := jrd ok h hp hn ((s_value ok.1 h (xs (i + 1)) (xs (i + 2))).trans (e_value N (xs (i + 1)) (xs (i + 2))))
  exact l_icmp_eq (tgt := 1168) C dL_law_554 (by decide) J.1 (K P1 T1 N1 U1 J.2.1 J.2.2)
theorem law_k11 (C : LC p s m c D cI cZ ad bd b L xs) {i : Nat} (hi : i + 8 ≤ L) (hL : L < 2 ^ 31) (K : ∀ P T N U, okX P → rel P (cX N) → LW p l e s m below meth c D cI cZ ad bd b Q 1168 [(0, .ref b), (1, .ref (ad 0)), (2, .ref (bd 0)), (3, .int (nI i))] [] P T N U) {P T N U : St} (ok : okX P) (h : rel P (cX N)) : LW p l e s m below meth c D cI cZ ad bd b Q 559 [(0, .ref b), (1, .ref (ad 0)), (2, .ref (bd 0)), (3, .int (nI i))] [] P T N U := by
  have okn := okN_rel h ok
  refine l_aload_n (q := 560) C dL_law_559 rfl 1 rfl rfl ?_
  refine l_aload_n (q := 561) C dL_law_560 rfl 0 rfl rfl ?_
  refine l_iload_n (q := 562) C dL_law_561 rfl 3 rfl rfl ?_
  refine l_iconst (q := 563) (v := nI 1) C dL_law_562 (by decide) rfl ?_
  refine l_iadd (q := 564) C dL_law_563 rfl ?_
  refine l_sld (q := 565) C (by omega) hL dL_law_564 rfl ?_
  refine l_X (q := 568) (As := [.int (xs (i + 1))]) (rest := []) C (c_X7_allowed C.2.1 ok (xs (i + 1))) xs_X7_allowed tim_X7_allowed tsel_X7_allowed tml_L_63 (by decide) rfl rfl (Nat.le_of_ble_eq_true rfl) dL_law_565 rfl (fun r P1 T1 hp => ?_)
  refine l_aload_n (q := 569) C dL_law_568 rfl 2 rfl rfl ?_
  refine l_aload_n (q := 570) C dL_law_569 rfl 0 rfl rfl ?_
  refine l_iload_n (q := 571) C dL_law_570 rfl 3 rfl rfl ?_
  refine l_iconst (q := 572) (v := nI 1) C dL_law_571 (by decide) rfl ?_
  refine l_iadd (q := 573) C dL_law_572 rfl ?_
  refine l_sld (q := 574) C (by omega) hL dL_law_573 rfl ?_
  refine l_N (q := 577) (As := [.int (xs (i + 1))]) (rest := [.int r]) C (c_X8_allowed C.2.2.1 okn (xs (i + 1))) xs_X8_allowed tim_X8_allowed tsel_X8_allowed tml_L_66 (by decide) rfl rfl (Nat.le_of_ble_eq_true rfl) dL_law_574 rfl (fun r2 N1 U1 hn => ?_)
  have J := jrd ok h hp hn (s_all ok h (xs (i + 1)))
  exact l_icmp_eq (tgt := 1168) C dL_law_577 (by decide) J.1 (K P1 T1 N1 U1 J.2.1 J.2.2)
theorem law_k12 (C : LC p s m c D cI cZ ad bd b L xs) {i : Nat} (hi : i + 8 ≤ L) (hL : L < 2 ^ 31) (K : ∀ P T N U, okX P → rel P (cX N) → LW p l e s m below meth c D cI cZ ad bd b Q 1168 [(0, .ref b), (1, .ref (ad 0)), (2, .ref (bd 0)), (3, .int (nI i))] [] P T N U) {P T N U : St} (ok : okX P) (h : rel P (cX N)) : LW p l e s m below meth c D cI cZ ad bd b Q 582 [(0, .ref b), (1, .ref (ad 0)), (2, .ref (bd 0)), (3, .int (nI i))] [] P T N U := by
  have okn := okN_rel h ok
  refine l_aload_n (q := 583) C dL_law_582 rfl 1 rfl rfl ?_
  refine l_X (q := 586) (As := []) (rest := []) C (c_X7_book C.2.1 ok ) xs_X7_book tim_X7_book tsel_X7_book tml_L_67 (by decide) rfl rfl (Nat.le_of_ble_eq_true rfl) dL_law_583 rfl (fun r P1 T1 hp => ?_)
  refine l_aload_n (q := 587) C dL_law_586 rfl 2 rfl rfl ?_
  refine l_N (q := 590) (As := []) (rest := [.int r]) C (c_X8_book C.2.2.1 okn ) xs_X8_book tim_X8_book tsel_X8_book tml_L_70 (by decide) rfl rfl (Nat.le_of_ble_eq_true rfl) dL_law_587 rfl (fun r2 N1 U1 hn => ?_)
  have J := j_book ok h hp ⟨hn.1, hn.2.1⟩
  exact l_icmp_eq (tgt := 1168) C dL_law_590 (by decide) J.1 (K P1 T1 N1 U1 J.2.1 J.2.2)
theorem law_k13 (C : LC p s m c D cI cZ ad bd b L xs) {i : Nat} (hi : i + 8 ≤ L) (hL : L < 2 ^ 31) (K : ∀ P T N U, okX P → rel P (cX N) → LW p l e s m below meth c D cI cZ ad bd b Q 1168 [(0, .ref b), (1, .ref (ad 0)), (2, .ref (bd 0)), (3, .int (nI i))] [] P T N U) {P T N U : St} (ok : okX P) (h : rel P (cX N)) : LW p l e s m below meth c D cI cZ ad bd b Q 595 [(0, .ref b), (1, .ref (ad 0)), (2, .ref (bd 0)), (3, .int (nI i))] [] P T N U := by
  have okn := okN_rel h ok
  refine l_aload_n (q := 596) C dL_law_595 rfl 1 rfl rfl ?_
  refine l_aload_n (q := 597) C dL_law_596 rfl 0 rfl rfl ?_
  refine l_iload_n (q := 598) C dL_law_597 rfl 3 rfl rfl ?_
  refine l_iconst (q := 599) (v := nI 1) C dL_law_598 (by decide) rfl ?_
  refine l_iadd (q := 600) C dL_law_599 rfl ?_
  refine l_sld (q := 601) C (by omega) hL dL_law_600 rfl ?_
  refine l_X (q := 604) (As := [.int (xs (i + 1))]) (rest := []) C (c_X7_worth C.2.1 ok (xs (i + 1))) xs_X7_worth tim_X7_worth tsel_X7_worth tml_L_71 (by decide) rfl rfl (Nat.le_of_ble_eq_true rfl) dL_law_601 rfl (fun r P1 T1 hp => ?_)
  refine l_aload_n (q := 605) C dL_law_604 rfl 2 rfl rfl ?_
  refine l_aload_n (q := 606) C dL_law_605 rfl 0 rfl rfl ?_
  refine l_iload_n (q := 607) C dL_law_606 rfl 3 rfl rfl ?_
  refine l_iconst (q := 608) (v := nI 1) C dL_law_607 (by decide) rfl ?_
  refine l_iadd (q := 609) C dL_law_608 rfl ?_
  refine l_sld (q := 610) C (by omega) hL dL_law_609 rfl ?_
  refine l_N (q := 613) (As := [.int (xs (i + 1))]) (rest := [.int r]) C (c_X8_worth C.2.2.1 okn (xs (i + 1))) xs_X8_worth tim_X8_worth tsel_X8_worth tml_L_74 (by decide) rfl rfl (Nat.le_of_ble_eq_true rfl) dL_law_610 rfl (fun r2 N1 U1 hn => ?_)
  have J := jrd ok h hp hn ((s_worth h (xs (i + 1))).trans (e_worth N (xs (i + 1))))
  exact l_icmp_eq (tgt := 1168) C dL_law_613 (by decide) J.1 (K P1 T1 N1 U1 J.2.1 J.2.2)
theorem law_k14 (C : LC p s m c D cI cZ ad bd b L xs) {i : Nat} (hi : i + 8 ≤ L) (hL : L < 2 ^ 31) (K : ∀ P T N U, okX P → rel P (cX N) → LW p l e s m below meth c D cI cZ ad bd b Q 1168 [(0, .ref b), (1, .ref (ad 0)), (2, .ref (bd 0)), (3, .int (nI i))] [] P T N U) {P T N U : St} (ok : okX P) (h : rel P (cX N)) : LW p l e s m below meth c D cI cZ ad bd b Q 618 [(0, .ref b), (1, .ref (ad 0)), (2, .ref (bd 0)), (3, .int (nI i))] [] P T N U := by
  have okn := okN_rel h ok
  refine l_aload_n (q := 619) C dL_law_618 rfl 1 rfl rfl ?_
  refine l_aload_n (q := 620) C dL_law_619 rfl 0 rfl rfl ?_
  refine l_iload_n (q := 621) C dL_law_620 rfl 3 rfl rfl ?_
  refine l_iconst (q := 622) (v := nI 1) C dL_law_621 (by decide) rfl ?_
  refine l_iadd (q := 623) C dL_law_622 rfl ?_
  refine l_sld (q := 624) C (by omega) hL dL_law_623 rfl ?_
  refine l_X (q := 627) (As := [.int (xs (i + 1))]) (rest := []) C (c_X7_best C.2.1 ok (xs (i + 1))) xs_X7_best tim_X7_best tsel_X7_best tml_L_75 (by decide) rfl rfl (Nat.le_of_ble_eq_true rfl) dL_law_624 rfl (fun r P1 T1 hp => ?_)
  refine l_aload_n (q := 628) C dL_law_627 rfl 2 rfl rfl ?_
  refine l_aload_n (q := 629) C dL_law_628 rfl 0 rfl rfl ?_
  refine l_iload_n (q := 630) C dL_law_629 rfl 3 rfl rfl ?_
  refine l_iconst (q := 631) (v := nI 1) C dL_law_630 (by decide) rfl ?_
  refine l_iadd (q := 632) C dL_law_631 rfl ?_
  refine l_sld (q := 633) C (by omega) hL dL_law_632 rfl ?_
  refine l_N (q := 636) (As := [.int (xs (i + 1))]) (rest := [.int r]) C (c_X8_best C.2.2.1 okn (xs (i + 1))) xs_X8_best tim_X8_best tsel_X8_best tml_L_78 (by decide) rfl rfl (Nat.le_of_ble_eq_true rfl) dL_law_633 rfl (fun r2 N1 U1 hn => ?_)
  have J := jrd ok h hp hn (s_best ok h (xs (i + 1)))
  exact l_icmp_eq (tgt := 1168) C dL_law_636 (by decide) J.1 (K P1 T1 N1 U1 J.2.1 J.2.2)
theorem law_k15 (C : LC p s m c D cI cZ ad bd b L xs) {i : Nat} (hi : i + 8 ≤ L) (hL : L < 2 ^ 31) (K : ∀ P T N U, okX P → rel P (cX N) → LW p l e s m below meth c D cI cZ ad bd b Q 1168 [(0, .ref b), (1, .ref (ad 0)), (2, .ref (bd 0)), (3, .int (nI i))] [] P T N U) {P T N U : St} (ok : okX P) (h : rel P (cX N)) : LW p l e s m below meth c D cI cZ ad bd b Q 641 [(0, .ref b), (1, .ref (ad 0)), (2, .ref (bd 0)), (3, .int (nI i))] [] P T N U := by
  have okn := okN_rel h ok
  refine l_aload_n (q := 642) C dL_law_641 rfl 1 rfl rfl ?_
  refine l_aload_n (q := 643) C dL_law_642 rfl 0 rfl rfl ?_
  refine l_iload_n (q := 644) C dL_law_643 rfl 3 rfl rfl ?_
  refine l_iconst (q := 645) (v := nI 1) C dL_law_644 (by decide) rfl ?_
  refine l_iadd (q := 646) C dL_law_645 rfl ?_
  refine l_sld (q := 647) C (by omega) hL dL_law_646 rfl ?_
  refine l_X (q := 650) (As := [.int (xs (i + 1))]) (rest := []) C (c_X7_trial C.2.1 ok (xs (i + 1))) xs_X7_trial tim_X7_trial tsel_X7_trial tml_L_79 (by decide) rfl rfl (Nat.le_of_ble_eq_true rfl) dL_law_647 rfl (fun r P1 T1 hp => ?_)
  refine l_aload_n (q := 651) C dL_law_650 rfl 2 rfl rfl ?_
  refine l_aload_n (q := 652) C dL_law_651 rfl 0 rfl rfl ?_
  refine l_iload_n (q := 653) C dL_law_652 rfl 3 rfl rfl ?_
  refine l_iconst (q := 654) (v := nI 1) C dL_law_653 (by decide) rfl ?_
  refine l_iadd (q := 655) C dL_law_654 rfl ?_
  refine l_sld (q := 656) C (by omega) hL dL_law_655 rfl ?_
  refine l_N (q := 659) (As := [.int (xs (i + 1))]) (rest := [.int r]) C (c_X8_trial C.2.2.1 okn (xs (i + 1))) xs_X8_trial tim_X8_trial tsel_X8_trial tml_L_82 (by decide) rfl rfl (Nat.le_of_ble_eq_true rfl) dL_law_656 rfl (fun r2 N1 U1 hn => ?_)
  have J := jmk hp hn (s_trial ok h (xs (i + 1)))
  exact l_icmp_eq (tgt := 1168) C dL_law_659 (by decide) J.1 (K P1 T1 N1 U1 J.2.1 J.2.2)
theorem law_k16 (C : LC p s m c D cI cZ ad bd b L xs) {i : Nat} (hi : i + 8 ≤ L) (hL : L < 2 ^ 31) (K : ∀ P T N U, okX P → rel P (cX N) → LW p l e s m below meth c D cI cZ ad bd b Q 1168 [(0, .ref b), (1, .ref (ad 0)), (2, .ref (bd 0)), (3, .int (nI i))] [] P T N U) {P T N U : St} (ok : okX P) (h : rel P (cX N)) : LW p l e s m below meth c D cI cZ ad bd b Q 664 [(0, .ref b), (1, .ref (ad 0)), (2, .ref (bd 0)), (3, .int (nI i))] [] P T N U := by
  have okn := okN_rel h ok
  refine l_aload_n (q := 665) C dL_law_664 rfl 1 rfl rfl ?_
  refine l_aload_n (q := 666) C dL_law_665 rfl 0 rfl rfl ?_
  refine l_iload_n (q := 667) C dL_law_666 rfl 3 rfl rfl ?_
  refine l_iconst (q := 668) (v := nI 1) C dL_law_667 (by decide) rfl ?_
  refine l_iadd (q := 669) C dL_law_668 rfl ?_
  refine l_sld (q := 670) C (by omega) hL dL_law_669 rfl ?_
  refine l_aload_n (q := 671) C dL_law_670 rfl 0 rfl rfl ?_
  refine l_iload_n (q := 672) C dL_law_671 rfl 3 rfl rfl ?_
  refine l_iconst (q := 673) (v := nI 2) C dL_law_672 (by decide) rfl ?_
  refine l_iadd (q := 674) C dL_law_673 rfl ?_
  refine l_sld (q := 675) C (by omega) hL dL_law_674 rfl ?_
  refine l_X (q := 678) (As := [.int (xs (i + 1)), .int (xs (i + 2))]) (rest := []) C (c_X7_read C.2.1 ok (xs (i + 1)) (xs (i + 2))) xs_X7_read tim_X7_read tsel_X7_read tml_L_83 (by decide) rfl rfl (Nat.le_of_ble_eq_true rfl) dL_law_675 rfl (fun r P1 T1 hp => ?_)
  refine l_aload_n (q := 679) C dL_law_678 rfl 2 rfl rfl ?_
  refine l_aload_n (q := 680) C dL_law_679 rfl 0 rfl rfl ?_
  refine l_iload_n (q := 681) C dL_law_680 rfl 3 rfl rfl ?_
  refine l_iconst (q := 682) (v := nI 1) C dL_law_681 (by decide) rfl ?_
  refine l_iadd (q := 683) C dL_law_682 rfl ?_
  refine l_sld (q := 684) C (by omega) hL dL_law_683 rfl ?_
  refine l_aload_n (q := 685) C dL_law_684 rfl 0 rfl rfl ?_
  refine l_iload_n (q := 686) C dL_law_685 rfl 3 rfl rfl ?_
  refine l_iconst (q := 687) (v := nI 2) C dL_law_686 (by decide) rfl ?_
  refine l_iadd (q := 688) C dL_law_687 rfl ?_
  refine l_sld (q := 689) C (by omega) hL dL_law_688 rfl ?_
  refine l_N (q := 692) (As := [.int (xs (i + 1)), .int (xs (i + 2))]) (rest := [.int r]) C (c_X8_read C.2.2.1 okn (xs (i + 1)) (xs (i + 2))) xs_X8_read tim_X8_read tsel_X8_read tml_L_86 (by decide) rfl rfl (Nat.le_of_ble_eq_true rfl) dL_law_689 rfl (fun r2 N1 U1 hn => ?_)
  have J := jrd ok h hp hn ((s_read h (xs (i + 1)) (xs (i + 2))).trans (e_read N (xs (i + 1)) (xs (i + 2))))
  exact l_icmp_eq (tgt := 1168) C dL_law_692 (by decide) J.1 (K P1 T1 N1 U1 J.2.1 J.2.2)
theorem law_k17 (C : LC p s m c D cI cZ ad bd b L xs) {i : Nat} (hi : i + 8 ≤ L) (hL : L < 2 ^ 31) (K : ∀ P T N U, okX P → rel P (cX N) → LW p l e s m below meth c D cI cZ ad bd b Q 1168 [(0, .ref b), (1, .ref (ad 0)), (2, .ref (bd 0)), (3, .int (nI i))] [] P T N U) {P T N U : St} (ok : okX P) (h : rel P (cX N)) : LW p l e s m below meth c D cI cZ ad bd b Q 697 [(0, .ref b), (1, .ref (ad 0)), (2, .ref (bd 0)), (3, .int (nI i))] [] P T N U := by
  have okn := okN_rel h ok
  refine l_aload_n (q := 698) C dL_law_697 rfl 1 rfl rfl ?_
  refine l_X (q := 701) (As := []) (rest := []) C (c_X7_forget C.2.1 ) xs_X7_forget tim_X7_forget tsel_X7_forget tml_L_87 (by decide) rfl rfl (Nat.le_of_ble_eq_true rfl) dL_law_698 rfl (fun r P1 T1 hp => ?_)
  refine l_aload_n (q := 702) C dL_law_701 rfl 2 rfl rfl ?_
  refine l_N (q := 705) (As := []) (rest := [.int r]) C (c_X8_forget C.2.2.1 ) xs_X8_forget tim_X8_forget tsel_X8_forget tml_L_90 (by decide) rfl rfl (Nat.le_of_ble_eq_true rfl) dL_law_702 rfl (fun r2 N1 U1 hn => ?_)
  have J := jmk hp hn (s_forget ok h)
  exact l_icmp_eq (tgt := 1168) C dL_law_705 (by decide) J.1 (K P1 T1 N1 U1 J.2.1 J.2.2)
theorem law_k18 (C : LC p s m c D cI cZ ad bd b L xs) {i : Nat} (hi : i + 8 ≤ L) (hL : L < 2 ^ 31) (K : ∀ P T N U, okX P → rel P (cX N) → LW p l e s m below meth c D cI cZ ad bd b Q 1168 [(0, .ref b), (1, .ref (ad 0)), (2, .ref (bd 0)), (3, .int (nI i))] [] P T N U) {P T N U : St} (ok : okX P) (h : rel P (cX N)) : LW p l e s m below meth c D cI cZ ad bd b Q 710 [(0, .ref b), (1, .ref (ad 0)), (2, .ref (bd 0)), (3, .int (nI i))] [] P T N U := by
  have okn := okN_rel h ok
  refine l_aload_n (q := 711) C dL_law_710 rfl 1 rfl rfl ?_
  refine l_aload_n (q := 712) C dL_law_711 rfl 0 rfl rfl ?_
  refine l_iload_n (q := 713) C dL_law_712 rfl 3 rfl rfl ?_
  refine l_iconst (q := 714) (v := nI 1) C dL_law_713 (by decide) rfl ?_
  refine l_iadd (q := 715) C dL_law_714 rfl ?_
  refine l_sld (q := 716) C (by omega) hL dL_law_715 rfl ?_
  refine l_aload_n (q := 717) C dL_law_716 rfl 0 rfl rfl ?_
  refine l_iload_n (q := 718) C dL_law_717 rfl 3 rfl rfl ?_
  refine l_iconst (q := 719) (v := nI 2) C dL_law_718 (by decide) rfl ?_
  refine l_iadd (q := 720) C dL_law_719 rfl ?_
  refine l_sld (q := 721) C (by omega) hL dL_law_720 rfl ?_
  refine l_X (q := 724) (As := [.int (xs (i + 1)), .int (xs (i + 2))]) (rest := []) C (c_X7_bound C.2.1 ok (xs (i + 1)) (xs (i + 2))) xs_X7_bound tim_X7_bound tsel_X7_bound tml_L_91 (by decide) rfl rfl (Nat.le_of_ble_eq_true rfl) dL_law_721 rfl (fun r P1 T1 hp => ?_)
  refine l_aload_n (q := 725) C dL_law_724 rfl 2 rfl rfl ?_
  refine l_aload_n (q := 726) C dL_law_725 rfl 0 rfl rfl ?_
  refine l_iload_n (q := 727) C dL_law_726 rfl 3 rfl rfl ?_
  refine l_iconst (q := 728) (v := nI 1) C dL_law_727 (by decide) rfl ?_
  refine l_iadd (q := 729) C dL_law_728 rfl ?_
  refine l_sld (q := 730) C (by omega) hL dL_law_729 rfl ?_
  refine l_aload_n (q := 731) C dL_law_730 rfl 0 rfl rfl ?_
  refine l_iload_n (q := 732) C dL_law_731 rfl 3 rfl rfl ?_
  refine l_iconst (q := 733) (v := nI 2) C dL_law_732 (by decide) rfl ?_
  refine l_iadd (q := 734) C dL_law_733 rfl ?_
  refine l_sld (q := 735) C (by omega) hL dL_law_734 rfl ?_
  refine l_N (q := 738) (As := [.int (xs (i + 1)), .int (xs (i + 2))]) (rest := [.int r]) C (c_X8_bound C.2.2.1 okn (xs (i + 1)) (xs (i + 2))) xs_X8_bound tim_X8_bound tsel_X8_bound tml_L_94 (by decide) rfl rfl (Nat.le_of_ble_eq_true rfl) dL_law_735 rfl (fun r2 N1 U1 hn => ?_)
  have J := jrd ok h hp hn ((s_bound ok.1 h (xs (i + 1)) (xs (i + 2))).trans (e_bound N (xs (i + 1)) (xs (i + 2))))
  exact l_icmp_eq (tgt := 1168) C dL_law_738 (by decide) J.1 (K P1 T1 N1 U1 J.2.1 J.2.2)
theorem law_k19 (C : LC p s m c D cI cZ ad bd b L xs) {i : Nat} (hi : i + 8 ≤ L) (hL : L < 2 ^ 31) (K : ∀ P T N U, okX P → rel P (cX N) → LW p l e s m below meth c D cI cZ ad bd b Q 1168 [(0, .ref b), (1, .ref (ad 0)), (2, .ref (bd 0)), (3, .int (nI i))] [] P T N U) {P T N U : St} (ok : okX P) (h : rel P (cX N)) : LW p l e s m below meth c D cI cZ ad bd b Q 743 [(0, .ref b), (1, .ref (ad 0)), (2, .ref (bd 0)), (3, .int (nI i))] [] P T N U := by
  have okn := okN_rel h ok
  refine l_aload_n (q := 744) C dL_law_743 rfl 1 rfl rfl ?_
  refine l_aload_n (q := 745) C dL_law_744 rfl 0 rfl rfl ?_
  refine l_iload_n (q := 746) C dL_law_745 rfl 3 rfl rfl ?_
  refine l_iconst (q := 747) (v := nI 1) C dL_law_746 (by decide) rfl ?_
  refine l_iadd (q := 748) C dL_law_747 rfl ?_
  refine l_sld (q := 749) C (by omega) hL dL_law_748 rfl ?_
  refine l_X (q := 752) (As := [.int (xs (i + 1))]) (rest := []) C (c_X7_left C.2.1 ok (xs (i + 1))) xs_X7_left tim_X7_left tsel_X7_left tml_L_95 (by decide) rfl rfl (Nat.le_of_ble_eq_true rfl) dL_law_749 rfl (fun r P1 T1 hp => ?_)
  refine l_aload_n (q := 753) C dL_law_752 rfl 2 rfl rfl ?_
  refine l_aload_n (q := 754) C dL_law_753 rfl 0 rfl rfl ?_
  refine l_iload_n (q := 755) C dL_law_754 rfl 3 rfl rfl ?_
  refine l_iconst (q := 756) (v := nI 1) C dL_law_755 (by decide) rfl ?_
  refine l_iadd (q := 757) C dL_law_756 rfl ?_
  refine l_sld (q := 758) C (by omega) hL dL_law_757 rfl ?_
  refine l_N (q := 761) (As := [.int (xs (i + 1))]) (rest := [.int r]) C (c_X8_left C.2.2.1 okn (xs (i + 1))) xs_X8_left tim_X8_left tsel_X8_left tml_L_98 (by decide) rfl rfl (Nat.le_of_ble_eq_true rfl) dL_law_758 rfl (fun r2 N1 U1 hn => ?_)
  have J := jrd ok h hp hn (s_left ok h (xs (i + 1)))
  exact l_icmp_eq (tgt := 1168) C dL_law_761 (by decide) J.1 (K P1 T1 N1 U1 J.2.1 J.2.2)
end LAWCASES
