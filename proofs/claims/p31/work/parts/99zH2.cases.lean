set_option maxHeartbeats 4000000 in
set_option maxRecDepth 100000 in
theorem law_piece {p : Program} {l : Launch} {e : Env} {s : State} {m : MethodId} {below : List Frame} {meth : Method} {c : Code} {b L : Nat} {xs : Nat → Int32} {Z : gZ} (X : Cx p s m #[Value.ref b] meth c cL_law 4 ret R_law Z (fun q => s.heap.size ≤ q)) (hX : va_X b L xs s s.heap) (hbl : b < s.heap.size) {o0 g0 k n : Nat} {i np hb se nr tn ts : Int} {prr ki ie Tb : Nat → Int} {RC : Nat → List (Nat → Int)} {W M : va_W} (I : cI Z o0 np hb se nr tn ts prr ki ie Tb RC W) (J : mI Z g0 np hb se nr tn ts prr ki ie Tb RC M) (hi : 0 ≤ i ∧ i + 6 ≤ (L : Int)) (hL : L ≤ 3072) (hk : k + 40 ≤ 600000) (hn : n + 400 ≤ 7302250) (kk : ∀ (np hb se nr tn ts : Int) (prr ki ie Tb : Nat → Int) (RC : Nat → List (Nat → Int)) (W M : va_W), cI Z o0 np hb se nr tn ts prr ki ie Tb RC W → mI Z g0 np hb se nr tn ts prr ki ie Tb RC M → Gs p l e room_1 s m #[Value.ref b] below meth c (lw_Z below #[Value.ref b] s) Z (fun q => s.heap.size ≤ q) 4 (k + 40) (n + 400) 1238 [(3, .int (iI i)), (2, .ref g0), (1, .ref o0), (0, .ref b)] [] (W ++ M)) : Gs p l e room_1 s m #[Value.ref b] below meth c (lw_Z below #[Value.ref b] s) Z (fun q => s.heap.size ≤ q) 4 k n 528 [(3, .int (iI i)), (2, .ref g0), (1, .ref o0), (0, .ref b)] [] (W ++ M) := by
  refine g_aload_n (pc := 528) X 2 rfl dL_law_528 ?_
  refine g_aload_n (pc := 529) X 3 rfl dL_law_529 ?_
  refine g_iload_n (pc := 530) X 0 rfl dL_law_530 ?_
  refine g_iconst (pc := 531) X (iI 1) (by rfl) dL_law_531 ?_
  refine g_iaddI (pc := 532) X dL_law_532 ?_
  refine g_sldI (pc := 533) X hX hbl (Nat.not_le.mpr hbl) (by omega) (by omega) (by omega) dL_law_533 (fun a1 ea1 b_a1 => ?_)
  refine g_aload_n (pc := 534) X 3 rfl dL_law_534 ?_
  refine g_iload_n (pc := 535) X 0 rfl dL_law_535 ?_
  refine g_iconst (pc := 536) X (iI 2) (by rfl) dL_law_536 ?_
  refine g_iaddI (pc := 537) X dL_law_537 ?_
  refine g_sldI (pc := 538) X hX hbl (Nat.not_le.mpr hbl) (by omega) (by omega) (by omega) dL_law_538 (fun a2 ea2 b_a2 => ?_)
  refine g_aload_n (pc := 539) X 3 rfl dL_law_539 ?_
  refine g_iload_n (pc := 540) X 0 rfl dL_law_540 ?_
  refine g_iconst (pc := 541) X (iI 3) (by rfl) dL_law_541 ?_
  refine g_iaddI (pc := 542) X dL_law_542 ?_
  refine g_sldI (pc := 543) X hX hbl (Nat.not_le.mpr hbl) (by omega) (by omega) (by omega) dL_law_543 (fun a3 ea3 b_a3 => ?_)
  refine B_X11_piece (pc := 544) X I b_a1 b_a2 b_a3 mw_33_16 (Nat.le_of_ble_eq_true rfl) (Nat.le_of_ble_eq_true rfl) (Nat.le_of_ble_eq_true rfl) (show k + 40 ≤ 600000 by omega) (show n + 400 ≤ 7302250 by omega) dL_law_544 (fun y1 W2 hy1 I2 => ?_)
  refine g_pop (pc := 547) X rfl dL_law_547 ?_
  refine g_aload_n (pc := 548) X 1 rfl dL_law_548 ?_
  refine g_aload_n (pc := 549) X 3 rfl dL_law_549 ?_
  refine g_iload_n (pc := 550) X 0 rfl dL_law_550 ?_
  refine g_iconst (pc := 551) X (iI 1) (by rfl) dL_law_551 ?_
  refine g_iaddI (pc := 552) X dL_law_552 ?_
  refine g_sldE (pc := 553) X hX hbl (Nat.not_le.mpr hbl) ea1 (by omega) (by omega) (by omega) dL_law_553 ?_
  refine g_aload_n (pc := 554) X 3 rfl dL_law_554 ?_
  refine g_iload_n (pc := 555) X 0 rfl dL_law_555 ?_
  refine g_iconst (pc := 556) X (iI 2) (by rfl) dL_law_556 ?_
  refine g_iaddI (pc := 557) X dL_law_557 ?_
  refine g_sldE (pc := 558) X hX hbl (Nat.not_le.mpr hbl) ea2 (by omega) (by omega) (by omega) dL_law_558 ?_
  refine g_aload_n (pc := 559) X 3 rfl dL_law_559 ?_
  refine g_iload_n (pc := 560) X 0 rfl dL_law_560 ?_
  refine g_iconst (pc := 561) X (iI 3) (by rfl) dL_law_561 ?_
  refine g_iaddI (pc := 562) X dL_law_562 ?_
  refine g_sldE (pc := 563) X hX hbl (Nat.not_le.mpr hbl) ea3 (by omega) (by omega) (by omega) dL_law_563 ?_
  refine g_perm List.perm_append_comm ?_
  refine M_X12_piece (pc := 564) X J b_a1 b_a2 b_a3 mw_35_10 (Nat.le_of_ble_eq_true rfl) (Nat.le_of_ble_eq_true rfl) (Nat.le_of_ble_eq_true rfl) (show k + 40 ≤ 600000 by omega) (show n + 400 ≤ 7302250 by omega) dL_law_564 (fun y2 M2 hy2 J2 => ?_)
  refine g_perm List.perm_append_comm ?_
  refine g_pop (pc := 567) X rfl dL_law_567 ?_
  refine g_goto (pc := 568) X 1238 (by decide) dL_law_568 ?_
  exact kk np hb se nr tn ts prr ki ie Tb RC W2 M2 I2 J2

set_option maxHeartbeats 4000000 in
set_option maxRecDepth 100000 in
theorem law_rolls {p : Program} {l : Launch} {e : Env} {s : State} {m : MethodId} {below : List Frame} {meth : Method} {c : Code} {b L : Nat} {xs : Nat → Int32} {Z : gZ} (X : Cx p s m #[Value.ref b] meth c cL_law 4 ret R_law Z (fun q => s.heap.size ≤ q)) (hX : va_X b L xs s s.heap) (hbl : b < s.heap.size) {o0 g0 k n : Nat} {i np hb se nr tn ts : Int} {prr ki ie Tb : Nat → Int} {RC : Nat → List (Nat → Int)} {W M : va_W} (I : cI Z o0 np hb se nr tn ts prr ki ie Tb RC W) (J : mI Z g0 np hb se nr tn ts prr ki ie Tb RC M) (hi : 0 ≤ i ∧ i + 6 ≤ (L : Int)) (hL : L ≤ 3072) (hk : k + 40 ≤ 600000) (hn : n + 400 ≤ 7302250) (kk : ∀ (np hb se nr tn ts : Int) (prr ki ie Tb : Nat → Int) (RC : Nat → List (Nat → Int)) (W M : va_W), cI Z o0 np hb se nr tn ts prr ki ie Tb RC W → mI Z g0 np hb se nr tn ts prr ki ie Tb RC M → Gs p l e room_1 s m #[Value.ref b] below meth c (lw_Z below #[Value.ref b] s) Z (fun q => s.heap.size ≤ q) 4 (k + 40) (n + 400) 1238 [(3, .int (iI i)), (2, .ref g0), (1, .ref o0), (0, .ref b)] [] (W ++ M)) : Gs p l e room_1 s m #[Value.ref b] below meth c (lw_Z below #[Value.ref b] s) Z (fun q => s.heap.size ≤ q) 4 k n 571 [(3, .int (iI i)), (2, .ref g0), (1, .ref o0), (0, .ref b)] [] (W ++ M) := by
  refine g_aload_n (pc := 571) X 2 rfl dL_law_571 ?_
  refine g_aload_n (pc := 572) X 3 rfl dL_law_572 ?_
  refine g_iload_n (pc := 573) X 0 rfl dL_law_573 ?_
  refine g_iconst (pc := 574) X (iI 1) (by rfl) dL_law_574 ?_
  refine g_iaddI (pc := 575) X dL_law_575 ?_
  refine g_sldI (pc := 576) X hX hbl (Nat.not_le.mpr hbl) (by omega) (by omega) (by omega) dL_law_576 (fun a1 ea1 b_a1 => ?_)
  refine g_aload_n (pc := 577) X 3 rfl dL_law_577 ?_
  refine g_iload_n (pc := 578) X 0 rfl dL_law_578 ?_
  refine g_iconst (pc := 579) X (iI 2) (by rfl) dL_law_579 ?_
  refine g_iaddI (pc := 580) X dL_law_580 ?_
  refine g_sldI (pc := 581) X hX hbl (Nat.not_le.mpr hbl) (by omega) (by omega) (by omega) dL_law_581 (fun a2 ea2 b_a2 => ?_)
  refine B_X11_rolls (pc := 582) X I b_a1 b_a2 mw_36_15 (Nat.le_of_ble_eq_true rfl) (Nat.le_of_ble_eq_true rfl) (Nat.le_of_ble_eq_true rfl) (show k + 40 ≤ 600000 by omega) (show n + 400 ≤ 7302250 by omega) dL_law_582 (fun y1 W2 hy1 I2 => ?_)
  refine g_pop (pc := 585) X rfl dL_law_585 ?_
  refine g_aload_n (pc := 586) X 1 rfl dL_law_586 ?_
  refine g_aload_n (pc := 587) X 3 rfl dL_law_587 ?_
  refine g_iload_n (pc := 588) X 0 rfl dL_law_588 ?_
  refine g_iconst (pc := 589) X (iI 1) (by rfl) dL_law_589 ?_
  refine g_iaddI (pc := 590) X dL_law_590 ?_
  refine g_sldE (pc := 591) X hX hbl (Nat.not_le.mpr hbl) ea1 (by omega) (by omega) (by omega) dL_law_591 ?_
  refine g_aload_n (pc := 592) X 3 rfl dL_law_592 ?_
  refine g_iload_n (pc := 593) X 0 rfl dL_law_593 ?_
  refine g_iconst (pc := 594) X (iI 2) (by rfl) dL_law_594 ?_
  refine g_iaddI (pc := 595) X dL_law_595 ?_
  refine g_sldE (pc := 596) X hX hbl (Nat.not_le.mpr hbl) ea2 (by omega) (by omega) (by omega) dL_law_596 ?_
  refine g_perm List.perm_append_comm ?_
  refine M_X12_rolls (pc := 597) X J b_a1 b_a2 mw_37_18 (Nat.le_of_ble_eq_true rfl) (Nat.le_of_ble_eq_true rfl) (Nat.le_of_ble_eq_true rfl) (show k + 40 ≤ 600000 by omega) (show n + 400 ≤ 7302250 by omega) dL_law_597 (fun y2 M2 hy2 J2 => ?_)
  refine g_perm List.perm_append_comm ?_
  refine g_pop (pc := 600) X rfl dL_law_600 ?_
  refine g_goto (pc := 601) X 1238 (by decide) dL_law_601 ?_
  exact kk np hb se nr tn ts prr ki ie Tb RC W2 M2 I2 J2

set_option maxHeartbeats 4000000 in
set_option maxRecDepth 100000 in
theorem law_left {p : Program} {l : Launch} {e : Env} {s : State} {m : MethodId} {below : List Frame} {meth : Method} {c : Code} {b L : Nat} {xs : Nat → Int32} {Z : gZ} (X : Cx p s m #[Value.ref b] meth c cL_law 4 ret R_law Z (fun q => s.heap.size ≤ q)) (hX : va_X b L xs s s.heap) (hbl : b < s.heap.size) {o0 g0 k n : Nat} {i np hb se nr tn ts : Int} {prr ki ie Tb : Nat → Int} {RC : Nat → List (Nat → Int)} {W M : va_W} (I : cI Z o0 np hb se nr tn ts prr ki ie Tb RC W) (J : mI Z g0 np hb se nr tn ts prr ki ie Tb RC M) (hi : 0 ≤ i ∧ i + 6 ≤ (L : Int)) (hL : L ≤ 3072) (hk : k + 40 ≤ 600000) (hn : n + 400 ≤ 7302250) (kk : ∀ (np hb se nr tn ts : Int) (prr ki ie Tb : Nat → Int) (RC : Nat → List (Nat → Int)) (W M : va_W), cI Z o0 np hb se nr tn ts prr ki ie Tb RC W → mI Z g0 np hb se nr tn ts prr ki ie Tb RC M → Gs p l e room_1 s m #[Value.ref b] below meth c (lw_Z below #[Value.ref b] s) Z (fun q => s.heap.size ≤ q) 4 (k + 40) (n + 400) 1238 [(3, .int (iI i)), (2, .ref g0), (1, .ref o0), (0, .ref b)] [] (W ++ M)) : Gs p l e room_1 s m #[Value.ref b] below meth c (lw_Z below #[Value.ref b] s) Z (fun q => s.heap.size ≤ q) 4 k n 604 [(3, .int (iI i)), (2, .ref g0), (1, .ref o0), (0, .ref b)] [] (W ++ M) := by
  refine g_aload_n (pc := 604) X 2 rfl dL_law_604 ?_
  refine g_aload_n (pc := 605) X 3 rfl dL_law_605 ?_
  refine g_iload_n (pc := 606) X 0 rfl dL_law_606 ?_
  refine g_iconst (pc := 607) X (iI 1) (by rfl) dL_law_607 ?_
  refine g_iaddI (pc := 608) X dL_law_608 ?_
  refine g_sldI (pc := 609) X hX hbl (Nat.not_le.mpr hbl) (by omega) (by omega) (by omega) dL_law_609 (fun a1 ea1 b_a1 => ?_)
  refine g_aload_n (pc := 610) X 3 rfl dL_law_610 ?_
  refine g_iload_n (pc := 611) X 0 rfl dL_law_611 ?_
  refine g_iconst (pc := 612) X (iI 2) (by rfl) dL_law_612 ?_
  refine g_iaddI (pc := 613) X dL_law_613 ?_
  refine g_sldI (pc := 614) X hX hbl (Nat.not_le.mpr hbl) (by omega) (by omega) (by omega) dL_law_614 (fun a2 ea2 b_a2 => ?_)
  refine g_aload_n (pc := 615) X 3 rfl dL_law_615 ?_
  refine g_iload_n (pc := 616) X 0 rfl dL_law_616 ?_
  refine g_iconst (pc := 617) X (iI 3) (by rfl) dL_law_617 ?_
  refine g_iaddI (pc := 618) X dL_law_618 ?_
  refine g_sldI (pc := 619) X hX hbl (Nat.not_le.mpr hbl) (by omega) (by omega) (by omega) dL_law_619 (fun a3 ea3 b_a3 => ?_)
  refine B_X11_left (pc := 620) X I b_a1 b_a2 b_a3 mw_38_2 (Nat.le_of_ble_eq_true rfl) (Nat.le_of_ble_eq_true rfl) (Nat.le_of_ble_eq_true rfl) (show k + 40 ≤ 600000 by omega) (show n + 400 ≤ 7302250 by omega) dL_law_620 (fun y1 W2 hy1 I2 => ?_)
  refine g_pop (pc := 623) X rfl dL_law_623 ?_
  refine g_aload_n (pc := 624) X 1 rfl dL_law_624 ?_
  refine g_aload_n (pc := 625) X 3 rfl dL_law_625 ?_
  refine g_iload_n (pc := 626) X 0 rfl dL_law_626 ?_
  refine g_iconst (pc := 627) X (iI 1) (by rfl) dL_law_627 ?_
  refine g_iaddI (pc := 628) X dL_law_628 ?_
  refine g_sldE (pc := 629) X hX hbl (Nat.not_le.mpr hbl) ea1 (by omega) (by omega) (by omega) dL_law_629 ?_
  refine g_aload_n (pc := 630) X 3 rfl dL_law_630 ?_
  refine g_iload_n (pc := 631) X 0 rfl dL_law_631 ?_
  refine g_iconst (pc := 632) X (iI 2) (by rfl) dL_law_632 ?_
  refine g_iaddI (pc := 633) X dL_law_633 ?_
  refine g_sldE (pc := 634) X hX hbl (Nat.not_le.mpr hbl) ea2 (by omega) (by omega) (by omega) dL_law_634 ?_
  refine g_aload_n (pc := 635) X 3 rfl dL_law_635 ?_
  refine g_iload_n (pc := 636) X 0 rfl dL_law_636 ?_
  refine g_iconst (pc := 637) X (iI 3) (by rfl) dL_law_637 ?_
  refine g_iaddI (pc := 638) X dL_law_638 ?_
  refine g_sldE (pc := 639) X hX hbl (Nat.not_le.mpr hbl) ea3 (by omega) (by omega) (by omega) dL_law_639 ?_
  refine g_perm List.perm_append_comm ?_
  refine M_X12_left (pc := 640) X J b_a1 b_a2 b_a3 mw_38_8 (Nat.le_of_ble_eq_true rfl) (Nat.le_of_ble_eq_true rfl) (Nat.le_of_ble_eq_true rfl) (show k + 40 ≤ 600000 by omega) (show n + 400 ≤ 7302250 by omega) dL_law_640 (fun y2 M2 hy2 J2 => ?_)
  refine g_perm List.perm_append_comm ?_
  refine g_pop (pc := 643) X rfl dL_law_643 ?_
  refine g_goto (pc := 644) X 1238 (by decide) dL_law_644 ?_
  exact kk np hb se nr tn ts prr ki ie Tb RC W2 M2 I2 J2

set_option maxHeartbeats 4000000 in
set_option maxRecDepth 100000 in
theorem law_faults {p : Program} {l : Launch} {e : Env} {s : State} {m : MethodId} {below : List Frame} {meth : Method} {c : Code} {b L : Nat} {xs : Nat → Int32} {Z : gZ} (X : Cx p s m #[Value.ref b] meth c cL_law 4 ret R_law Z (fun q => s.heap.size ≤ q)) (hX : va_X b L xs s s.heap) (hbl : b < s.heap.size) {o0 g0 k n : Nat} {i np hb se nr tn ts : Int} {prr ki ie Tb : Nat → Int} {RC : Nat → List (Nat → Int)} {W M : va_W} (I : cI Z o0 np hb se nr tn ts prr ki ie Tb RC W) (J : mI Z g0 np hb se nr tn ts prr ki ie Tb RC M) (hi : 0 ≤ i ∧ i + 6 ≤ (L : Int)) (hL : L ≤ 3072) (hk : k + 40 ≤ 600000) (hn : n + 400 ≤ 7302250) (kk : ∀ (np hb se nr tn ts : Int) (prr ki ie Tb : Nat → Int) (RC : Nat → List (Nat → Int)) (W M : va_W), cI Z o0 np hb se nr tn ts prr ki ie Tb RC W → mI Z g0 np hb se nr tn ts prr ki ie Tb RC M → Gs p l e room_1 s m #[Value.ref b] below meth c (lw_Z below #[Value.ref b] s) Z (fun q => s.heap.size ≤ q) 4 (k + 40) (n + 400) 1238 [(3, .int (iI i)), (2, .ref g0), (1, .ref o0), (0, .ref b)] [] (W ++ M)) : Gs p l e room_1 s m #[Value.ref b] below meth c (lw_Z below #[Value.ref b] s) Z (fun q => s.heap.size ≤ q) 4 k n 647 [(3, .int (iI i)), (2, .ref g0), (1, .ref o0), (0, .ref b)] [] (W ++ M) := by
  refine g_aload_n (pc := 647) X 2 rfl dL_law_647 ?_
  refine g_aload_n (pc := 648) X 3 rfl dL_law_648 ?_
  refine g_iload_n (pc := 649) X 0 rfl dL_law_649 ?_
  refine g_iconst (pc := 650) X (iI 1) (by rfl) dL_law_650 ?_
  refine g_iaddI (pc := 651) X dL_law_651 ?_
  refine g_sldI (pc := 652) X hX hbl (Nat.not_le.mpr hbl) (by omega) (by omega) (by omega) dL_law_652 (fun a1 ea1 b_a1 => ?_)
  refine g_aload_n (pc := 653) X 3 rfl dL_law_653 ?_
  refine g_iload_n (pc := 654) X 0 rfl dL_law_654 ?_
  refine g_iconst (pc := 655) X (iI 2) (by rfl) dL_law_655 ?_
  refine g_iaddI (pc := 656) X dL_law_656 ?_
  refine g_sldI (pc := 657) X hX hbl (Nat.not_le.mpr hbl) (by omega) (by omega) (by omega) dL_law_657 (fun a2 ea2 b_a2 => ?_)
  refine B_X11_faults (pc := 658) X I b_a1 b_a2 mw_38_12 (Nat.le_of_ble_eq_true rfl) (Nat.le_of_ble_eq_true rfl) (Nat.le_of_ble_eq_true rfl) (show k + 40 ≤ 600000 by omega) (show n + 400 ≤ 7302250 by omega) dL_law_658 (fun y1 W2 hy1 I2 => ?_)
  refine g_pop (pc := 661) X rfl dL_law_661 ?_
  refine g_aload_n (pc := 662) X 1 rfl dL_law_662 ?_
  refine g_aload_n (pc := 663) X 3 rfl dL_law_663 ?_
  refine g_iload_n (pc := 664) X 0 rfl dL_law_664 ?_
  refine g_iconst (pc := 665) X (iI 1) (by rfl) dL_law_665 ?_
  refine g_iaddI (pc := 666) X dL_law_666 ?_
  refine g_sldE (pc := 667) X hX hbl (Nat.not_le.mpr hbl) ea1 (by omega) (by omega) (by omega) dL_law_667 ?_
  refine g_aload_n (pc := 668) X 3 rfl dL_law_668 ?_
  refine g_iload_n (pc := 669) X 0 rfl dL_law_669 ?_
  refine g_iconst (pc := 670) X (iI 2) (by rfl) dL_law_670 ?_
  refine g_iaddI (pc := 671) X dL_law_671 ?_
  refine g_sldE (pc := 672) X hX hbl (Nat.not_le.mpr hbl) ea2 (by omega) (by omega) (by omega) dL_law_672 ?_
  refine g_perm List.perm_append_comm ?_
  refine M_X12_faults (pc := 673) X J b_a1 b_a2 mw_41_23 (Nat.le_of_ble_eq_true rfl) (Nat.le_of_ble_eq_true rfl) (Nat.le_of_ble_eq_true rfl) (show k + 40 ≤ 600000 by omega) (show n + 400 ≤ 7302250 by omega) dL_law_673 (fun y2 M2 hy2 J2 => ?_)
  refine g_perm List.perm_append_comm ?_
  refine g_pop (pc := 676) X rfl dL_law_676 ?_
  refine g_goto (pc := 677) X 1238 (by decide) dL_law_677 ?_
  exact kk np hb se nr tn ts prr ki ie Tb RC W2 M2 I2 J2

set_option maxHeartbeats 4000000 in
set_option maxRecDepth 100000 in
theorem law_best {p : Program} {l : Launch} {e : Env} {s : State} {m : MethodId} {below : List Frame} {meth : Method} {c : Code} {b L : Nat} {xs : Nat → Int32} {Z : gZ} (X : Cx p s m #[Value.ref b] meth c cL_law 4 ret R_law Z (fun q => s.heap.size ≤ q)) (hX : va_X b L xs s s.heap) (hbl : b < s.heap.size) {o0 g0 k n : Nat} {i np hb se nr tn ts : Int} {prr ki ie Tb : Nat → Int} {RC : Nat → List (Nat → Int)} {W M : va_W} (I : cI Z o0 np hb se nr tn ts prr ki ie Tb RC W) (J : mI Z g0 np hb se nr tn ts prr ki ie Tb RC M) (hi : 0 ≤ i ∧ i + 6 ≤ (L : Int)) (hL : L ≤ 3072) (hk : k + 40 ≤ 600000) (hn : n + 400 ≤ 7302250) (kk : ∀ (np hb se nr tn ts : Int) (prr ki ie Tb : Nat → Int) (RC : Nat → List (Nat → Int)) (W M : va_W), cI Z o0 np hb se nr tn ts prr ki ie Tb RC W → mI Z g0 np hb se nr tn ts prr ki ie Tb RC M → Gs p l e room_1 s m #[Value.ref b] below meth c (lw_Z below #[Value.ref b] s) Z (fun q => s.heap.size ≤ q) 4 (k + 40) (n + 400) 1238 [(3, .int (iI i)), (2, .ref g0), (1, .ref o0), (0, .ref b)] [] (W ++ M)) : Gs p l e room_1 s m #[Value.ref b] below meth c (lw_Z below #[Value.ref b] s) Z (fun q => s.heap.size ≤ q) 4 k n 680 [(3, .int (iI i)), (2, .ref g0), (1, .ref o0), (0, .ref b)] [] (W ++ M) := by
  refine g_aload_n (pc := 680) X 2 rfl dL_law_680 ?_
  refine g_aload_n (pc := 681) X 3 rfl dL_law_681 ?_
  refine g_iload_n (pc := 682) X 0 rfl dL_law_682 ?_
  refine g_iconst (pc := 683) X (iI 1) (by rfl) dL_law_683 ?_
  refine g_iaddI (pc := 684) X dL_law_684 ?_
  refine g_sldI (pc := 685) X hX hbl (Nat.not_le.mpr hbl) (by omega) (by omega) (by omega) dL_law_685 (fun a1 ea1 b_a1 => ?_)
  refine g_aload_n (pc := 686) X 3 rfl dL_law_686 ?_
  refine g_iload_n (pc := 687) X 0 rfl dL_law_687 ?_
  refine g_iconst (pc := 688) X (iI 2) (by rfl) dL_law_688 ?_
  refine g_iaddI (pc := 689) X dL_law_689 ?_
  refine g_sldI (pc := 690) X hX hbl (Nat.not_le.mpr hbl) (by omega) (by omega) (by omega) dL_law_690 (fun a2 ea2 b_a2 => ?_)
  refine g_aload_n (pc := 691) X 3 rfl dL_law_691 ?_
  refine g_iload_n (pc := 692) X 0 rfl dL_law_692 ?_
  refine g_iconst (pc := 693) X (iI 3) (by rfl) dL_law_693 ?_
  refine g_iaddI (pc := 694) X dL_law_694 ?_
  refine g_sldI (pc := 695) X hX hbl (Nat.not_le.mpr hbl) (by omega) (by omega) (by omega) dL_law_695 (fun a3 ea3 b_a3 => ?_)
  refine g_aload_n (pc := 696) X 3 rfl dL_law_696 ?_
  refine g_iload_n (pc := 697) X 0 rfl dL_law_697 ?_
  refine g_iconst (pc := 698) X (iI 4) (by rfl) dL_law_698 ?_
  refine g_iaddI (pc := 699) X dL_law_699 ?_
  refine g_sldI (pc := 700) X hX hbl (Nat.not_le.mpr hbl) (by omega) (by omega) (by omega) dL_law_700 (fun a4 ea4 b_a4 => ?_)
  refine B_X11_best (pc := 701) X I b_a1 b_a2 b_a3 b_a4 mw_43_1 (Nat.le_of_ble_eq_true rfl) (Nat.le_of_ble_eq_true rfl) (Nat.le_of_ble_eq_true rfl) (show k + 40 ≤ 600000 by omega) (show n + 400 ≤ 7302250 by omega) dL_law_701 (fun y1 W2 hy1 I2 => ?_)
  refine g_pop (pc := 704) X rfl dL_law_704 ?_
  refine g_aload_n (pc := 705) X 1 rfl dL_law_705 ?_
  refine g_aload_n (pc := 706) X 3 rfl dL_law_706 ?_
  refine g_iload_n (pc := 707) X 0 rfl dL_law_707 ?_
  refine g_iconst (pc := 708) X (iI 1) (by rfl) dL_law_708 ?_
  refine g_iaddI (pc := 709) X dL_law_709 ?_
  refine g_sldE (pc := 710) X hX hbl (Nat.not_le.mpr hbl) ea1 (by omega) (by omega) (by omega) dL_law_710 ?_
  refine g_aload_n (pc := 711) X 3 rfl dL_law_711 ?_
  refine g_iload_n (pc := 712) X 0 rfl dL_law_712 ?_
  refine g_iconst (pc := 713) X (iI 2) (by rfl) dL_law_713 ?_
  refine g_iaddI (pc := 714) X dL_law_714 ?_
  refine g_sldE (pc := 715) X hX hbl (Nat.not_le.mpr hbl) ea2 (by omega) (by omega) (by omega) dL_law_715 ?_
  refine g_aload_n (pc := 716) X 3 rfl dL_law_716 ?_
  refine g_iload_n (pc := 717) X 0 rfl dL_law_717 ?_
  refine g_iconst (pc := 718) X (iI 3) (by rfl) dL_law_718 ?_
  refine g_iaddI (pc := 719) X dL_law_719 ?_
  refine g_sldE (pc := 720) X hX hbl (Nat.not_le.mpr hbl) ea3 (by omega) (by omega) (by omega) dL_law_720 ?_
  refine g_aload_n (pc := 721) X 3 rfl dL_law_721 ?_
  refine g_iload_n (pc := 722) X 0 rfl dL_law_722 ?_
  refine g_iconst (pc := 723) X (iI 4) (by rfl) dL_law_723 ?_
  refine g_iaddI (pc := 724) X dL_law_724 ?_
  refine g_sldE (pc := 725) X hX hbl (Nat.not_le.mpr hbl) ea4 (by omega) (by omega) (by omega) dL_law_725 ?_
  refine g_perm List.perm_append_comm ?_
  refine M_X12_best (pc := 726) X J b_a1 b_a2 b_a3 b_a4 mw_44_3 (Nat.le_of_ble_eq_true rfl) (Nat.le_of_ble_eq_true rfl) (Nat.le_of_ble_eq_true rfl) (show k + 40 ≤ 600000 by omega) (show n + 400 ≤ 7302250 by omega) dL_law_726 (fun y2 M2 hy2 J2 => ?_)
  refine g_perm List.perm_append_comm ?_
  refine g_pop (pc := 729) X rfl dL_law_729 ?_
  refine g_goto (pc := 730) X 1238 (by decide) dL_law_730 ?_
  exact kk np hb se nr tn ts prr ki ie Tb RC W2 M2 I2 J2

set_option maxHeartbeats 4000000 in
set_option maxRecDepth 100000 in
theorem law_shown {p : Program} {l : Launch} {e : Env} {s : State} {m : MethodId} {below : List Frame} {meth : Method} {c : Code} {b L : Nat} {xs : Nat → Int32} {Z : gZ} (X : Cx p s m #[Value.ref b] meth c cL_law 4 ret R_law Z (fun q => s.heap.size ≤ q)) (hX : va_X b L xs s s.heap) (hbl : b < s.heap.size) {o0 g0 k n : Nat} {i np hb se nr tn ts : Int} {prr ki ie Tb : Nat → Int} {RC : Nat → List (Nat → Int)} {W M : va_W} (I : cI Z o0 np hb se nr tn ts prr ki ie Tb RC W) (J : mI Z g0 np hb se nr tn ts prr ki ie Tb RC M) (hi : 0 ≤ i ∧ i + 6 ≤ (L : Int)) (hL : L ≤ 3072) (hk : k + 40 ≤ 600000) (hn : n + 400 ≤ 7302250) (kk : ∀ (np hb se nr tn ts : Int) (prr ki ie Tb : Nat → Int) (RC : Nat → List (Nat → Int)) (W M : va_W), cI Z o0 np hb se nr tn ts prr ki ie Tb RC W → mI Z g0 np hb se nr tn ts prr ki ie Tb RC M → Gs p l e room_1 s m #[Value.ref b] below meth c (lw_Z below #[Value.ref b] s) Z (fun q => s.heap.size ≤ q) 4 (k + 40) (n + 400) 1238 [(3, .int (iI i)), (2, .ref g0), (1, .ref o0), (0, .ref b)] [] (W ++ M)) : Gs p l e room_1 s m #[Value.ref b] below meth c (lw_Z below #[Value.ref b] s) Z (fun q => s.heap.size ≤ q) 4 k n 733 [(3, .int (iI i)), (2, .ref g0), (1, .ref o0), (0, .ref b)] [] (W ++ M) := by
  refine g_aload_n (pc := 733) X 2 rfl dL_law_733 ?_
  refine g_aload_n (pc := 734) X 3 rfl dL_law_734 ?_
  refine g_iload_n (pc := 735) X 0 rfl dL_law_735 ?_
  refine g_iconst (pc := 736) X (iI 1) (by rfl) dL_law_736 ?_
  refine g_iaddI (pc := 737) X dL_law_737 ?_
  refine g_sldI (pc := 738) X hX hbl (Nat.not_le.mpr hbl) (by omega) (by omega) (by omega) dL_law_738 (fun a1 ea1 b_a1 => ?_)
  refine g_aload_n (pc := 739) X 3 rfl dL_law_739 ?_
  refine g_iload_n (pc := 740) X 0 rfl dL_law_740 ?_
  refine g_iconst (pc := 741) X (iI 2) (by rfl) dL_law_741 ?_
  refine g_iaddI (pc := 742) X dL_law_742 ?_
  refine g_sldI (pc := 743) X hX hbl (Nat.not_le.mpr hbl) (by omega) (by omega) (by omega) dL_law_743 (fun a2 ea2 b_a2 => ?_)
  refine B_X11_shown (pc := 744) X I b_a1 b_a2 mw_44_8 (Nat.le_of_ble_eq_true rfl) (Nat.le_of_ble_eq_true rfl) (Nat.le_of_ble_eq_true rfl) (show k + 40 ≤ 600000 by omega) (show n + 400 ≤ 7302250 by omega) dL_law_744 (fun y1 W2 hy1 I2 F1 => ?_)
  refine g_pop (pc := 747) X rfl dL_law_747 ?_
  refine g_aload_n (pc := 748) X 1 rfl dL_law_748 ?_
  refine g_aload_n (pc := 749) X 3 rfl dL_law_749 ?_
  refine g_iload_n (pc := 750) X 0 rfl dL_law_750 ?_
  refine g_iconst (pc := 751) X (iI 1) (by rfl) dL_law_751 ?_
  refine g_iaddI (pc := 752) X dL_law_752 ?_
  refine g_sldE (pc := 753) X hX hbl (Nat.not_le.mpr hbl) ea1 (by omega) (by omega) (by omega) dL_law_753 ?_
  refine g_aload_n (pc := 754) X 3 rfl dL_law_754 ?_
  refine g_iload_n (pc := 755) X 0 rfl dL_law_755 ?_
  refine g_iconst (pc := 756) X (iI 2) (by rfl) dL_law_756 ?_
  refine g_iaddI (pc := 757) X dL_law_757 ?_
  refine g_sldE (pc := 758) X hX hbl (Nat.not_le.mpr hbl) ea2 (by omega) (by omega) (by omega) dL_law_758 ?_
  refine g_perm List.perm_append_comm ?_
  refine M_X12_shown (pc := 759) X J b_a1 b_a2 mw_45_6 (Nat.le_of_ble_eq_true rfl) (Nat.le_of_ble_eq_true rfl) (Nat.le_of_ble_eq_true rfl) (show k + 40 ≤ 600000 by omega) (show n + 400 ≤ 7302250 by omega) dL_law_759 (fun y2 M2 hy2 J2 F2 => ?_)
  refine g_perm List.perm_append_comm ?_
  have hy : y1 = y2 := pair_q F1 F2
  refine g_pop (pc := 762) X rfl dL_law_762 ?_
  refine g_goto (pc := 763) X 1238 (by decide) dL_law_763 ?_
  exact kk np hb se nr tn ts prr ki ie Tb RC W2 M2 I2 J2

set_option maxHeartbeats 4000000 in
set_option maxRecDepth 100000 in
theorem law_run {p : Program} {l : Launch} {e : Env} {s : State} {m : MethodId} {below : List Frame} {meth : Method} {c : Code} {b L : Nat} {xs : Nat → Int32} {Z : gZ} (X : Cx p s m #[Value.ref b] meth c cL_law 4 ret R_law Z (fun q => s.heap.size ≤ q)) (hX : va_X b L xs s s.heap) (hbl : b < s.heap.size) {o0 g0 k n : Nat} {i np hb se nr tn ts : Int} {prr ki ie Tb : Nat → Int} {RC : Nat → List (Nat → Int)} {W M : va_W} (I : cI Z o0 np hb se nr tn ts prr ki ie Tb RC W) (J : mI Z g0 np hb se nr tn ts prr ki ie Tb RC M) (hi : 0 ≤ i ∧ i + 6 ≤ (L : Int)) (hL : L ≤ 3072) (hk : k + 40 ≤ 600000) (hn : n + 400 ≤ 7302250) (kk : ∀ (np hb se nr tn ts : Int) (prr ki ie Tb : Nat → Int) (RC : Nat → List (Nat → Int)) (W M : va_W), cI Z o0 np hb se nr tn ts prr ki ie Tb RC W → mI Z g0 np hb se nr tn ts prr ki ie Tb RC M → Gs p l e room_1 s m #[Value.ref b] below meth c (lw_Z below #[Value.ref b] s) Z (fun q => s.heap.size ≤ q) 4 (k + 40) (n + 400) 1238 [(3, .int (iI i)), (2, .ref g0), (1, .ref o0), (0, .ref b)] [] (W ++ M)) : Gs p l e room_1 s m #[Value.ref b] below meth c (lw_Z below #[Value.ref b] s) Z (fun q => s.heap.size ≤ q) 4 k n 766 [(3, .int (iI i)), (2, .ref g0), (1, .ref o0), (0, .ref b)] [] (W ++ M) := by
  refine g_aload_n (pc := 766) X 2 rfl dL_law_766 ?_
  refine g_aload_n (pc := 767) X 3 rfl dL_law_767 ?_
  refine g_iload_n (pc := 768) X 0 rfl dL_law_768 ?_
  refine g_iconst (pc := 769) X (iI 1) (by rfl) dL_law_769 ?_
  refine g_iaddI (pc := 770) X dL_law_770 ?_
  refine g_sldI (pc := 771) X hX hbl (Nat.not_le.mpr hbl) (by omega) (by omega) (by omega) dL_law_771 (fun a1 ea1 b_a1 => ?_)
  refine g_aload_n (pc := 772) X 3 rfl dL_law_772 ?_
  refine g_iload_n (pc := 773) X 0 rfl dL_law_773 ?_
  refine g_iconst (pc := 774) X (iI 2) (by rfl) dL_law_774 ?_
  refine g_iaddI (pc := 775) X dL_law_775 ?_
  refine g_sldI (pc := 776) X hX hbl (Nat.not_le.mpr hbl) (by omega) (by omega) (by omega) dL_law_776 (fun a2 ea2 b_a2 => ?_)
  refine g_aload_n (pc := 777) X 3 rfl dL_law_777 ?_
  refine g_iload_n (pc := 778) X 0 rfl dL_law_778 ?_
  refine g_iconst (pc := 779) X (iI 3) (by rfl) dL_law_779 ?_
  refine g_iaddI (pc := 780) X dL_law_780 ?_
  refine g_sldI (pc := 781) X hX hbl (Nat.not_le.mpr hbl) (by omega) (by omega) (by omega) dL_law_781 (fun a3 ea3 b_a3 => ?_)
  refine B_X11_run (pc := 782) X I b_a1 b_a2 b_a3 mw_45_19 (Nat.le_of_ble_eq_true rfl) (Nat.le_of_ble_eq_true rfl) (Nat.le_of_ble_eq_true rfl) (show k + 40 ≤ 600000 by omega) (show n + 400 ≤ 7302250 by omega) dL_law_782 (fun y1 W2 hy1 I2 F1 => ?_)
  refine g_pop (pc := 785) X rfl dL_law_785 ?_
  refine g_aload_n (pc := 786) X 1 rfl dL_law_786 ?_
  refine g_aload_n (pc := 787) X 3 rfl dL_law_787 ?_
  refine g_iload_n (pc := 788) X 0 rfl dL_law_788 ?_
  refine g_iconst (pc := 789) X (iI 1) (by rfl) dL_law_789 ?_
  refine g_iaddI (pc := 790) X dL_law_790 ?_
  refine g_sldE (pc := 791) X hX hbl (Nat.not_le.mpr hbl) ea1 (by omega) (by omega) (by omega) dL_law_791 ?_
  refine g_aload_n (pc := 792) X 3 rfl dL_law_792 ?_
  refine g_iload_n (pc := 793) X 0 rfl dL_law_793 ?_
  refine g_iconst (pc := 794) X (iI 2) (by rfl) dL_law_794 ?_
  refine g_iaddI (pc := 795) X dL_law_795 ?_
  refine g_sldE (pc := 796) X hX hbl (Nat.not_le.mpr hbl) ea2 (by omega) (by omega) (by omega) dL_law_796 ?_
  refine g_aload_n (pc := 797) X 3 rfl dL_law_797 ?_
  refine g_iload_n (pc := 798) X 0 rfl dL_law_798 ?_
  refine g_iconst (pc := 799) X (iI 3) (by rfl) dL_law_799 ?_
  refine g_iaddI (pc := 800) X dL_law_800 ?_
  refine g_sldE (pc := 801) X hX hbl (Nat.not_le.mpr hbl) ea3 (by omega) (by omega) (by omega) dL_law_801 ?_
  refine g_perm List.perm_append_comm ?_
  refine M_X12_run (pc := 802) X J b_a1 b_a2 b_a3 mw_46_4 (Nat.le_of_ble_eq_true rfl) (Nat.le_of_ble_eq_true rfl) (Nat.le_of_ble_eq_true rfl) (show k + 40 ≤ 600000 by omega) (show n + 400 ≤ 7302250 by omega) dL_law_802 (fun y2 M2 hy2 J2 F2 => ?_)
  refine g_perm List.perm_append_comm ?_
  have hy : y1 = y2 := pair_q F1 F2
  refine g_pop (pc := 805) X rfl dL_law_805 ?_
  refine g_goto (pc := 806) X 1238 (by decide) dL_law_806 ?_
  exact kk np hb se nr tn ts prr ki ie Tb RC W2 M2 I2 J2

set_option maxHeartbeats 4000000 in
set_option maxRecDepth 100000 in
theorem law_cuts {p : Program} {l : Launch} {e : Env} {s : State} {m : MethodId} {below : List Frame} {meth : Method} {c : Code} {b L : Nat} {xs : Nat → Int32} {Z : gZ} (X : Cx p s m #[Value.ref b] meth c cL_law 4 ret R_law Z (fun q => s.heap.size ≤ q)) (hX : va_X b L xs s s.heap) (hbl : b < s.heap.size) {o0 g0 k n : Nat} {i np hb se nr tn ts : Int} {prr ki ie Tb : Nat → Int} {RC : Nat → List (Nat → Int)} {W M : va_W} (I : cI Z o0 np hb se nr tn ts prr ki ie Tb RC W) (J : mI Z g0 np hb se nr tn ts prr ki ie Tb RC M) (hi : 0 ≤ i ∧ i + 6 ≤ (L : Int)) (hL : L ≤ 3072) (hk : k + 40 ≤ 600000) (hn : n + 400 ≤ 7302250) (kk : ∀ (np hb se nr tn ts : Int) (prr ki ie Tb : Nat → Int) (RC : Nat → List (Nat → Int)) (W M : va_W), cI Z o0 np hb se nr tn ts prr ki ie Tb RC W → mI Z g0 np hb se nr tn ts prr ki ie Tb RC M → Gs p l e room_1 s m #[Value.ref b] below meth c (lw_Z below #[Value.ref b] s) Z (fun q => s.heap.size ≤ q) 4 (k + 40) (n + 400) 1238 [(3, .int (iI i)), (2, .ref g0), (1, .ref o0), (0, .ref b)] [] (W ++ M)) : Gs p l e room_1 s m #[Value.ref b] below meth c (lw_Z below #[Value.ref b] s) Z (fun q => s.heap.size ≤ q) 4 k n 809 [(3, .int (iI i)), (2, .ref g0), (1, .ref o0), (0, .ref b)] [] (W ++ M) := by
  refine g_aload_n (pc := 809) X 2 rfl dL_law_809 ?_
  refine g_aload_n (pc := 810) X 3 rfl dL_law_810 ?_
  refine g_iload_n (pc := 811) X 0 rfl dL_law_811 ?_
  refine g_iconst (pc := 812) X (iI 1) (by rfl) dL_law_812 ?_
  refine g_iaddI (pc := 813) X dL_law_813 ?_
  refine g_sldI (pc := 814) X hX hbl (Nat.not_le.mpr hbl) (by omega) (by omega) (by omega) dL_law_814 (fun a1 ea1 b_a1 => ?_)
  refine B_X11_cuts (pc := 815) X I b_a1 mw_46_9 (Nat.le_of_ble_eq_true rfl) (Nat.le_of_ble_eq_true rfl) (Nat.le_of_ble_eq_true rfl) (show k + 40 ≤ 600000 by omega) (show n + 400 ≤ 7302250 by omega) dL_law_815 (fun y1 W2 hy1 I2 F1 => ?_)
  refine g_pop (pc := 818) X rfl dL_law_818 ?_
  refine g_aload_n (pc := 819) X 1 rfl dL_law_819 ?_
  refine g_aload_n (pc := 820) X 3 rfl dL_law_820 ?_
  refine g_iload_n (pc := 821) X 0 rfl dL_law_821 ?_
  refine g_iconst (pc := 822) X (iI 1) (by rfl) dL_law_822 ?_
  refine g_iaddI (pc := 823) X dL_law_823 ?_
  refine g_sldE (pc := 824) X hX hbl (Nat.not_le.mpr hbl) ea1 (by omega) (by omega) (by omega) dL_law_824 ?_
  refine g_perm List.perm_append_comm ?_
  refine M_X12_cuts_ (pc := 825) X J b_a1 mw_46_19 (Nat.le_of_ble_eq_true rfl) (Nat.le_of_ble_eq_true rfl) (Nat.le_of_ble_eq_true rfl) (show k + 40 ≤ 600000 by omega) (show n + 400 ≤ 7302250 by omega) dL_law_825 (fun y2 M2 hy2 J2 F2 => ?_)
  refine g_perm List.perm_append_comm ?_
  have hy : y1 = y2 := pair_q F1 F2
  refine g_pop (pc := 828) X rfl dL_law_828 ?_
  refine g_goto (pc := 829) X 1238 (by decide) dL_law_829 ?_
  exact kk np hb se nr tn ts prr ki ie Tb RC W2 M2 I2 J2

set_option maxHeartbeats 4000000 in
set_option maxRecDepth 100000 in
theorem law_batch {p : Program} {l : Launch} {e : Env} {s : State} {m : MethodId} {below : List Frame} {meth : Method} {c : Code} {b L : Nat} {xs : Nat → Int32} {Z : gZ} (X : Cx p s m #[Value.ref b] meth c cL_law 4 ret R_law Z (fun q => s.heap.size ≤ q)) (hX : va_X b L xs s s.heap) (hbl : b < s.heap.size) {o0 g0 k n : Nat} {i np hb se nr tn ts : Int} {prr ki ie Tb : Nat → Int} {RC : Nat → List (Nat → Int)} {W M : va_W} (I : cI Z o0 np hb se nr tn ts prr ki ie Tb RC W) (J : mI Z g0 np hb se nr tn ts prr ki ie Tb RC M) (hi : 0 ≤ i ∧ i + 6 ≤ (L : Int)) (hL : L ≤ 3072) (hk : k + 40 ≤ 600000) (hn : n + 400 ≤ 7302250) (kk : ∀ (np hb se nr tn ts : Int) (prr ki ie Tb : Nat → Int) (RC : Nat → List (Nat → Int)) (W M : va_W), cI Z o0 np hb se nr tn ts prr ki ie Tb RC W → mI Z g0 np hb se nr tn ts prr ki ie Tb RC M → Gs p l e room_1 s m #[Value.ref b] below meth c (lw_Z below #[Value.ref b] s) Z (fun q => s.heap.size ≤ q) 4 (k + 40) (n + 400) 1238 [(3, .int (iI i)), (2, .ref g0), (1, .ref o0), (0, .ref b)] [] (W ++ M)) : Gs p l e room_1 s m #[Value.ref b] below meth c (lw_Z below #[Value.ref b] s) Z (fun q => s.heap.size ≤ q) 4 k n 832 [(3, .int (iI i)), (2, .ref g0), (1, .ref o0), (0, .ref b)] [] (W ++ M) := by
  refine g_aload_n (pc := 832) X 2 rfl dL_law_832 ?_
  refine g_aload_n (pc := 833) X 3 rfl dL_law_833 ?_
  refine g_iload_n (pc := 834) X 0 rfl dL_law_834 ?_
  refine g_iconst (pc := 835) X (iI 1) (by rfl) dL_law_835 ?_
  refine g_iaddI (pc := 836) X dL_law_836 ?_
  refine g_sldI (pc := 837) X hX hbl (Nat.not_le.mpr hbl) (by omega) (by omega) (by omega) dL_law_837 (fun a1 ea1 b_a1 => ?_)
  refine g_aload_n (pc := 838) X 3 rfl dL_law_838 ?_
  refine g_iload_n (pc := 839) X 0 rfl dL_law_839 ?_
  refine g_iconst (pc := 840) X (iI 2) (by rfl) dL_law_840 ?_
  refine g_iaddI (pc := 841) X dL_law_841 ?_
  refine g_sldI (pc := 842) X hX hbl (Nat.not_le.mpr hbl) (by omega) (by omega) (by omega) dL_law_842 (fun a2 ea2 b_a2 => ?_)
  refine B_X11_batch (pc := 843) X I b_a1 b_a2 mw_46_23 (Nat.le_of_ble_eq_true rfl) (Nat.le_of_ble_eq_true rfl) (Nat.le_of_ble_eq_true rfl) (show k + 40 ≤ 600000 by omega) (show n + 400 ≤ 7302250 by omega) dL_law_843 (fun y1 W2 hb2 hy1 I2 F1 => ?_)
  refine g_pop (pc := 846) X rfl dL_law_846 ?_
  refine g_aload_n (pc := 847) X 1 rfl dL_law_847 ?_
  refine g_aload_n (pc := 848) X 3 rfl dL_law_848 ?_
  refine g_iload_n (pc := 849) X 0 rfl dL_law_849 ?_
  refine g_iconst (pc := 850) X (iI 1) (by rfl) dL_law_850 ?_
  refine g_iaddI (pc := 851) X dL_law_851 ?_
  refine g_sldE (pc := 852) X hX hbl (Nat.not_le.mpr hbl) ea1 (by omega) (by omega) (by omega) dL_law_852 ?_
  refine g_aload_n (pc := 853) X 3 rfl dL_law_853 ?_
  refine g_iload_n (pc := 854) X 0 rfl dL_law_854 ?_
  refine g_iconst (pc := 855) X (iI 2) (by rfl) dL_law_855 ?_
  refine g_iaddI (pc := 856) X dL_law_856 ?_
  refine g_sldE (pc := 857) X hX hbl (Nat.not_le.mpr hbl) ea2 (by omega) (by omega) (by omega) dL_law_857 ?_
  refine g_perm List.perm_append_comm ?_
  refine M_X12_batch (pc := 858) X J b_a1 b_a2 mw_47_8 (Nat.le_of_ble_eq_true rfl) (Nat.le_of_ble_eq_true rfl) (Nat.le_of_ble_eq_true rfl) (show k + 40 ≤ 600000 by omega) (show n + 400 ≤ 7302250 by omega) dL_law_858 (fun y2 M2 hb3 hy2 J2 F2 => ?_)
  refine g_perm List.perm_append_comm ?_
  have hE : y1 = y2 ∧ hb2 = hb3 := by omega
  obtain ⟨hy, rfl⟩ := hE
  refine g_pop (pc := 861) X rfl dL_law_861 ?_
  refine g_goto (pc := 862) X 1238 (by decide) dL_law_862 ?_
  exact kk np hb2 se nr tn ts prr ki ie Tb RC W2 M2 I2 J2

set_option maxHeartbeats 4000000 in
set_option maxRecDepth 100000 in
theorem law_shared {p : Program} {l : Launch} {e : Env} {s : State} {m : MethodId} {below : List Frame} {meth : Method} {c : Code} {b L : Nat} {xs : Nat → Int32} {Z : gZ} (X : Cx p s m #[Value.ref b] meth c cL_law 4 ret R_law Z (fun q => s.heap.size ≤ q)) (hX : va_X b L xs s s.heap) (hbl : b < s.heap.size) {o0 g0 k n : Nat} {i np hb se nr tn ts : Int} {prr ki ie Tb : Nat → Int} {RC : Nat → List (Nat → Int)} {W M : va_W} (I : cI Z o0 np hb se nr tn ts prr ki ie Tb RC W) (J : mI Z g0 np hb se nr tn ts prr ki ie Tb RC M) (hi : 0 ≤ i ∧ i + 6 ≤ (L : Int)) (hL : L ≤ 3072) (hk : k + 40 ≤ 600000) (hn : n + 400 ≤ 7302250) (kk : ∀ (np hb se nr tn ts : Int) (prr ki ie Tb : Nat → Int) (RC : Nat → List (Nat → Int)) (W M : va_W), cI Z o0 np hb se nr tn ts prr ki ie Tb RC W → mI Z g0 np hb se nr tn ts prr ki ie Tb RC M → Gs p l e room_1 s m #[Value.ref b] below meth c (lw_Z below #[Value.ref b] s) Z (fun q => s.heap.size ≤ q) 4 (k + 40) (n + 400) 1238 [(3, .int (iI i)), (2, .ref g0), (1, .ref o0), (0, .ref b)] [] (W ++ M)) : Gs p l e room_1 s m #[Value.ref b] below meth c (lw_Z below #[Value.ref b] s) Z (fun q => s.heap.size ≤ q) 4 k n 865 [(3, .int (iI i)), (2, .ref g0), (1, .ref o0), (0, .ref b)] [] (W ++ M) := by
  refine g_aload_n (pc := 865) X 2 rfl dL_law_865 ?_
  refine g_aload_n (pc := 866) X 3 rfl dL_law_866 ?_
  refine g_iload_n (pc := 867) X 0 rfl dL_law_867 ?_
  refine g_iconst (pc := 868) X (iI 1) (by rfl) dL_law_868 ?_
  refine g_iaddI (pc := 869) X dL_law_869 ?_
  refine g_sldI (pc := 870) X hX hbl (Nat.not_le.mpr hbl) (by omega) (by omega) (by omega) dL_law_870 (fun a1 ea1 b_a1 => ?_)
  refine g_aload_n (pc := 871) X 3 rfl dL_law_871 ?_
  refine g_iload_n (pc := 872) X 0 rfl dL_law_872 ?_
  refine g_iconst (pc := 873) X (iI 2) (by rfl) dL_law_873 ?_
  refine g_iaddI (pc := 874) X dL_law_874 ?_
  refine g_sldI (pc := 875) X hX hbl (Nat.not_le.mpr hbl) (by omega) (by omega) (by omega) dL_law_875 (fun a2 ea2 b_a2 => ?_)
  refine B_X11_shared (pc := 876) X I b_a1 b_a2 mw_47_14 (Nat.le_of_ble_eq_true rfl) (Nat.le_of_ble_eq_true rfl) (Nat.le_of_ble_eq_true rfl) (show k + 40 ≤ 600000 by omega) (show n + 400 ≤ 7302250 by omega) dL_law_876 (fun y1 W2 hy1 I2 => ?_)
  refine g_pop (pc := 879) X rfl dL_law_879 ?_
  refine g_aload_n (pc := 880) X 1 rfl dL_law_880 ?_
  refine g_aload_n (pc := 881) X 3 rfl dL_law_881 ?_
  refine g_iload_n (pc := 882) X 0 rfl dL_law_882 ?_
  refine g_iconst (pc := 883) X (iI 1) (by rfl) dL_law_883 ?_
  refine g_iaddI (pc := 884) X dL_law_884 ?_
  refine g_sldE (pc := 885) X hX hbl (Nat.not_le.mpr hbl) ea1 (by omega) (by omega) (by omega) dL_law_885 ?_
  refine g_aload_n (pc := 886) X 3 rfl dL_law_886 ?_
  refine g_iload_n (pc := 887) X 0 rfl dL_law_887 ?_
  refine g_iconst (pc := 888) X (iI 2) (by rfl) dL_law_888 ?_
  refine g_iaddI (pc := 889) X dL_law_889 ?_
  refine g_sldE (pc := 890) X hX hbl (Nat.not_le.mpr hbl) ea2 (by omega) (by omega) (by omega) dL_law_890 ?_
  refine g_perm List.perm_append_comm ?_
  refine M_X12_shared (pc := 891) X J b_a1 b_a2 mw_49_17 (Nat.le_of_ble_eq_true rfl) (Nat.le_of_ble_eq_true rfl) (Nat.le_of_ble_eq_true rfl) (show k + 40 ≤ 600000 by omega) (show n + 400 ≤ 7302250 by omega) dL_law_891 (fun y2 M2 hy2 J2 => ?_)
  refine g_perm List.perm_append_comm ?_
  refine g_pop (pc := 894) X rfl dL_law_894 ?_
  refine g_goto (pc := 895) X 1238 (by decide) dL_law_895 ?_
  exact kk np hb se nr tn ts prr ki ie Tb RC W2 M2 I2 J2
