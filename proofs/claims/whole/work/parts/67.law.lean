set_option maxHeartbeats 4000000 in
set_option maxRecDepth 100000 in
theorem law_13 {p : Program} {l : Launch} {e : Env} {s : State} {m : MethodId} {g : Array Value} {below : List Frame} {meth : Method} {c : Code} {D : va_G} {Z : CZ} {A0 : Nat → Prop} {Q : State → Prop} {mc ms : Nat} (C : KX p s m g c cL_law 4 wsL_law RL D Z A0) (hN : NWs s) (hSW : SW Z A0 s s.heap) {b L : Nat} {xs : Nat → Int32} (hX : va_X b L xs s s.heap) (hbl : b < s.heap.size) (hbA : ¬ A0 b) (hL : L ≤ 2048) (h1 : mc + 0 ≤ room_1.cells) (h2 : ms + 0 ≤ room_1.slots) {A B : Nat → Nat} {i : Nat} (hi : i + 4 ≤ L) {σ τ : St} (h : Lsm σ τ) (hnext : ∀ σ' τ', Lsm σ' τ' → KW p l e room_1 s m g below meth c D A0 4 Q (wC Z A σ' ++ wM Z B τ') mc ms 881 [(0, .ref b), (1, .ref (A 0)), (2, .ref (B 0)), (3, .int (nI i))] []) : KW p l e room_1 s m g below meth c D A0 4 Q (wC Z A σ ++ wM Z B τ) mc ms 571 [(0, .ref b), (1, .ref (A 0)), (2, .ref (B 0)), (3, .int (nI i))] [] := by
  obtain ⟨X, F, ck, co, K, nn, Bt, Lt, hC, hI, hM⟩ := h
  obtain ⟨hO, hKO, hnn, hLt, hBt⟩ := id hI
  refine kw_aload_n (pc := 571) C dL_law_571 rfl 1 rfl ?_
  refine kw_aload_n (pc := 572) C dL_law_572 rfl 0 rfl ?_
  refine kw_iload_n (pc := 573) C dL_law_573 rfl 3 rfl ?_
  refine kw_iconst (pc := 574) C dL_law_574 (nI 1) (by decide) ?_
  refine kw_iadd (pc := 575) C dL_law_575 (z := nI (i + 1)) (nI_add _ _) ?_
  refine kw_sld (pc := 576) C hX hbl hbA dL_law_576 (i + 1) rfl (by omega) (by omega) ?_
  refine kw_aload_n (pc := 577) C dL_law_577 rfl 0 rfl ?_
  refine kw_iload_n (pc := 578) C dL_law_578 rfl 3 rfl ?_
  refine kw_iconst (pc := 579) C dL_law_579 (nI 2) (by decide) ?_
  refine kw_iadd (pc := 580) C dL_law_580 (z := nI (i + 2)) (nI_add _ _) ?_
  refine kw_sld (pc := 581) C hX hbl hbA dL_law_581 (i + 2) rfl (by omega) (by omega) ?_
  refine kw_aload_n (pc := 582) C dL_law_582 rfl 0 rfl ?_
  refine kw_iload_n (pc := 583) C dL_law_583 rfl 3 rfl ?_
  refine kw_iconst (pc := 584) C dL_law_584 (nI 3) (by decide) ?_
  refine kw_iadd (pc := 585) C dL_law_585 (z := nI (i + 3)) (nI_add _ _) ?_
  refine kw_sld (pc := 586) C hX hbl hbA dL_law_586 (i + 3) rfl (by omega) (by omega) ?_
  refine kw_calli (pc := 587) (wv := wC Z A) (wr := wM Z B τ) C hN hSW dL_law_587 (c_X6_over l D Z A σ X F ck co K nn Bt Lt (xs (i + 1)) (xs (i + 2)) (xs (i + 3)) hC hI) (cwV 3 C.1.2.2.2.2 gL_law_X6_over rfl rfl rfl (by decide +kernel) ⟨Nat.le_of_ble_eq_true rfl, Nat.le_of_ble_eq_true rfl⟩) [0, 1, 2, 3, 4, 5, 6, 7, 8, 9, 10, 11, 12, 13, 14, 15, 16, 17, 18, 19, 20, 21] [22, 23, 24, 25, 26, 27, 28, 29, 30, 31, 32] rfl rfl rfl (by decide) (by decide) (by decide) rfl rfl rfl rfl (Nat.le_of_ble_eq_true rfl) h1 h2 (fun r1 σ1 hr1 => ?_)
  refine kw_aload_n (pc := 590) C dL_law_590 rfl 2 rfl ?_
  refine kw_aload_n (pc := 591) C dL_law_591 rfl 0 rfl ?_
  refine kw_iload_n (pc := 592) C dL_law_592 rfl 3 rfl ?_
  refine kw_iconst (pc := 593) C dL_law_593 (nI 1) (by decide) ?_
  refine kw_iadd (pc := 594) C dL_law_594 (z := nI (i + 1)) (nI_add _ _) ?_
  refine kw_sld (pc := 595) C hX hbl hbA dL_law_595 (i + 1) rfl (by omega) (by omega) ?_
  refine kw_aload_n (pc := 596) C dL_law_596 rfl 0 rfl ?_
  refine kw_iload_n (pc := 597) C dL_law_597 rfl 3 rfl ?_
  refine kw_iconst (pc := 598) C dL_law_598 (nI 2) (by decide) ?_
  refine kw_iadd (pc := 599) C dL_law_599 (z := nI (i + 2)) (nI_add _ _) ?_
  refine kw_sld (pc := 600) C hX hbl hbA dL_law_600 (i + 2) rfl (by omega) (by omega) ?_
  refine kw_aload_n (pc := 601) C dL_law_601 rfl 0 rfl ?_
  refine kw_iload_n (pc := 602) C dL_law_602 rfl 3 rfl ?_
  refine kw_iconst (pc := 603) C dL_law_603 (nI 3) (by decide) ?_
  refine kw_iadd (pc := 604) C dL_law_604 (z := nI (i + 3)) (nI_add _ _) ?_
  refine kw_sld (pc := 605) C hX hbl hbA dL_law_605 (i + 3) rfl (by omega) (by omega) ?_
  refine kw_calli (pc := 606) (wv := wM Z B) (wr := wC Z A σ1) C hN hSW dL_law_606 (c_X7_over l D Z B τ X F ck co K nn Bt Lt (xs (i + 1)) (xs (i + 2)) (xs (i + 3)) hM hO) (cwV 3 C.1.2.2.2.2 gL_law_X7_over rfl rfl rfl (by decide +kernel) ⟨Nat.le_of_ble_eq_true rfl, Nat.le_of_ble_eq_true rfl⟩) [0, 1, 2, 3, 4, 5, 6, 7, 8, 9, 10] [11, 12, 13, 14, 15, 16, 17, 18, 19, 20, 21, 22, 23, 24, 25, 26, 27, 28, 29, 30, 31, 32] rfl rfl rfl (by decide) (by decide) (by decide) rfl rfl rfl rfl (Nat.le_of_ble_eq_true rfl) h1 h2 (fun r2 τ1 hr2 => ?_)
  have hq := Lsm_q hI hr1 hr2
  exact kw_icmp_eq (pc := 609) (tgt := 881) C dL_law_609 (by decide) (fun _ => hnext _ _ hq.2) (fun h => absurd hq.1 h)
set_option maxHeartbeats 4000000 in
set_option maxRecDepth 100000 in
theorem law_14 {p : Program} {l : Launch} {e : Env} {s : State} {m : MethodId} {g : Array Value} {below : List Frame} {meth : Method} {c : Code} {D : va_G} {Z : CZ} {A0 : Nat → Prop} {Q : State → Prop} {mc ms : Nat} (C : KX p s m g c cL_law 4 wsL_law RL D Z A0) (hN : NWs s) (hSW : SW Z A0 s s.heap) {b L : Nat} {xs : Nat → Int32} (hX : va_X b L xs s s.heap) (hbl : b < s.heap.size) (hbA : ¬ A0 b) (hL : L ≤ 2048) (h1 : mc + 0 ≤ room_1.cells) (h2 : ms + 0 ≤ room_1.slots) {A B : Nat → Nat} {i : Nat} (hi : i + 4 ≤ L) {σ τ : St} (h : Lsm σ τ) (hnext : ∀ σ' τ', Lsm σ' τ' → KW p l e room_1 s m g below meth c D A0 4 Q (wC Z A σ' ++ wM Z B τ') mc ms 881 [(0, .ref b), (1, .ref (A 0)), (2, .ref (B 0)), (3, .int (nI i))] []) : KW p l e room_1 s m g below meth c D A0 4 Q (wC Z A σ ++ wM Z B τ) mc ms 614 [(0, .ref b), (1, .ref (A 0)), (2, .ref (B 0)), (3, .int (nI i))] [] := by
  obtain ⟨X, F, ck, co, K, nn, Bt, Lt, hC, hI, hM⟩ := h
  obtain ⟨hO, hKO, hnn, hLt, hBt⟩ := id hI
  refine kw_aload_n (pc := 614) C dL_law_614 rfl 1 rfl ?_
  refine kw_aload_n (pc := 615) C dL_law_615 rfl 0 rfl ?_
  refine kw_iload_n (pc := 616) C dL_law_616 rfl 3 rfl ?_
  refine kw_iconst (pc := 617) C dL_law_617 (nI 1) (by decide) ?_
  refine kw_iadd (pc := 618) C dL_law_618 (z := nI (i + 1)) (nI_add _ _) ?_
  refine kw_sld (pc := 619) C hX hbl hbA dL_law_619 (i + 1) rfl (by omega) (by omega) ?_
  refine kw_aload_n (pc := 620) C dL_law_620 rfl 0 rfl ?_
  refine kw_iload_n (pc := 621) C dL_law_621 rfl 3 rfl ?_
  refine kw_iconst (pc := 622) C dL_law_622 (nI 2) (by decide) ?_
  refine kw_iadd (pc := 623) C dL_law_623 (z := nI (i + 2)) (nI_add _ _) ?_
  refine kw_sld (pc := 624) C hX hbl hbA dL_law_624 (i + 2) rfl (by omega) (by omega) ?_
  refine kw_aload_n (pc := 625) C dL_law_625 rfl 0 rfl ?_
  refine kw_iload_n (pc := 626) C dL_law_626 rfl 3 rfl ?_
  refine kw_iconst (pc := 627) C dL_law_627 (nI 3) (by decide) ?_
  refine kw_iadd (pc := 628) C dL_law_628 (z := nI (i + 3)) (nI_add _ _) ?_
  refine kw_sld (pc := 629) C hX hbl hbA dL_law_629 (i + 3) rfl (by omega) (by omega) ?_
  refine kw_calli (pc := 630) (wv := wC Z A) (wr := wM Z B τ) C hN hSW dL_law_630 (c_X6_worst l D Z A σ X F ck co K nn Bt Lt (xs (i + 1)) (xs (i + 2)) (xs (i + 3)) hC hI) (cwV 3 C.1.2.2.2.2 gL_law_X6_worst rfl rfl rfl (by decide +kernel) ⟨Nat.le_of_ble_eq_true rfl, Nat.le_of_ble_eq_true rfl⟩) [0, 1, 2, 3, 4, 5, 6, 7, 8, 9, 10, 11, 12, 13, 14, 15, 16, 17, 18, 19, 20, 21] [22, 23, 24, 25, 26, 27, 28, 29, 30, 31, 32] rfl rfl rfl (by decide) (by decide) (by decide) rfl rfl rfl rfl (Nat.le_of_ble_eq_true rfl) h1 h2 (fun r1 σ1 hr1 => ?_)
  refine kw_aload_n (pc := 633) C dL_law_633 rfl 2 rfl ?_
  refine kw_aload_n (pc := 634) C dL_law_634 rfl 0 rfl ?_
  refine kw_iload_n (pc := 635) C dL_law_635 rfl 3 rfl ?_
  refine kw_iconst (pc := 636) C dL_law_636 (nI 1) (by decide) ?_
  refine kw_iadd (pc := 637) C dL_law_637 (z := nI (i + 1)) (nI_add _ _) ?_
  refine kw_sld (pc := 638) C hX hbl hbA dL_law_638 (i + 1) rfl (by omega) (by omega) ?_
  refine kw_aload_n (pc := 639) C dL_law_639 rfl 0 rfl ?_
  refine kw_iload_n (pc := 640) C dL_law_640 rfl 3 rfl ?_
  refine kw_iconst (pc := 641) C dL_law_641 (nI 2) (by decide) ?_
  refine kw_iadd (pc := 642) C dL_law_642 (z := nI (i + 2)) (nI_add _ _) ?_
  refine kw_sld (pc := 643) C hX hbl hbA dL_law_643 (i + 2) rfl (by omega) (by omega) ?_
  refine kw_aload_n (pc := 644) C dL_law_644 rfl 0 rfl ?_
  refine kw_iload_n (pc := 645) C dL_law_645 rfl 3 rfl ?_
  refine kw_iconst (pc := 646) C dL_law_646 (nI 3) (by decide) ?_
  refine kw_iadd (pc := 647) C dL_law_647 (z := nI (i + 3)) (nI_add _ _) ?_
  refine kw_sld (pc := 648) C hX hbl hbA dL_law_648 (i + 3) rfl (by omega) (by omega) ?_
  refine kw_calli (pc := 649) (wv := wM Z B) (wr := wC Z A σ1) C hN hSW dL_law_649 (c_X7_worst l D Z B τ X F ck co K nn Bt Lt (xs (i + 1)) (xs (i + 2)) (xs (i + 3)) hM hO) (cwV 3 C.1.2.2.2.2 gL_law_X7_worst rfl rfl rfl (by decide +kernel) ⟨Nat.le_of_ble_eq_true rfl, Nat.le_of_ble_eq_true rfl⟩) [0, 1, 2, 3, 4, 5, 6, 7, 8, 9, 10] [11, 12, 13, 14, 15, 16, 17, 18, 19, 20, 21, 22, 23, 24, 25, 26, 27, 28, 29, 30, 31, 32] rfl rfl rfl (by decide) (by decide) (by decide) rfl rfl rfl rfl (Nat.le_of_ble_eq_true rfl) h1 h2 (fun r2 τ1 hr2 => ?_)
  have hq := Lsm_q hI hr1 hr2
  exact kw_icmp_eq (pc := 652) (tgt := 881) C dL_law_652 (by decide) (fun _ => hnext _ _ hq.2) (fun h => absurd hq.1 h)
set_option maxHeartbeats 4000000 in
set_option maxRecDepth 100000 in
theorem law_15 {p : Program} {l : Launch} {e : Env} {s : State} {m : MethodId} {g : Array Value} {below : List Frame} {meth : Method} {c : Code} {D : va_G} {Z : CZ} {A0 : Nat → Prop} {Q : State → Prop} {mc ms : Nat} (C : KX p s m g c cL_law 4 wsL_law RL D Z A0) (hN : NWs s) (hSW : SW Z A0 s s.heap) {b L : Nat} {xs : Nat → Int32} (hX : va_X b L xs s s.heap) (hbl : b < s.heap.size) (hbA : ¬ A0 b) (hL : L ≤ 2048) (h1 : mc + 0 ≤ room_1.cells) (h2 : ms + 0 ≤ room_1.slots) {A B : Nat → Nat} {i : Nat} (hi : i + 4 ≤ L) {σ τ : St} (h : Lsm σ τ) (hnext : ∀ σ' τ', Lsm σ' τ' → KW p l e room_1 s m g below meth c D A0 4 Q (wC Z A σ' ++ wM Z B τ') mc ms 881 [(0, .ref b), (1, .ref (A 0)), (2, .ref (B 0)), (3, .int (nI i))] []) : KW p l e room_1 s m g below meth c D A0 4 Q (wC Z A σ ++ wM Z B τ) mc ms 657 [(0, .ref b), (1, .ref (A 0)), (2, .ref (B 0)), (3, .int (nI i))] [] := by
  obtain ⟨X, F, ck, co, K, nn, Bt, Lt, hC, hI, hM⟩ := h
  obtain ⟨hO, hKO, hnn, hLt, hBt⟩ := id hI
  refine kw_aload_n (pc := 657) C dL_law_657 rfl 1 rfl ?_
  refine kw_aload_n (pc := 658) C dL_law_658 rfl 0 rfl ?_
  refine kw_iload_n (pc := 659) C dL_law_659 rfl 3 rfl ?_
  refine kw_iconst (pc := 660) C dL_law_660 (nI 1) (by decide) ?_
  refine kw_iadd (pc := 661) C dL_law_661 (z := nI (i + 1)) (nI_add _ _) ?_
  refine kw_sld (pc := 662) C hX hbl hbA dL_law_662 (i + 1) rfl (by omega) (by omega) ?_
  refine kw_calli (pc := 663) (wv := wC Z A) (wr := wM Z B τ) C hN hSW dL_law_663 (c_X6_want l D Z A σ X F ck co K nn Bt Lt (xs (i + 1)) hC hI) (cwV 1 C.1.2.2.2.2 gL_law_X6_want rfl rfl rfl (by decide +kernel) ⟨Nat.le_of_ble_eq_true rfl, Nat.le_of_ble_eq_true rfl⟩) [0, 1, 2, 3, 4, 5, 6, 7, 8, 9, 10, 11, 12, 13, 14, 15, 16, 17, 18, 19, 20, 21] [22, 23, 24, 25, 26, 27, 28, 29, 30, 31, 32] rfl rfl rfl (by decide) (by decide) (by decide) rfl rfl rfl rfl (Nat.le_of_ble_eq_true rfl) h1 h2 (fun r1 σ1 hr1 => ?_)
  refine kw_aload_n (pc := 666) C dL_law_666 rfl 2 rfl ?_
  refine kw_aload_n (pc := 667) C dL_law_667 rfl 0 rfl ?_
  refine kw_iload_n (pc := 668) C dL_law_668 rfl 3 rfl ?_
  refine kw_iconst (pc := 669) C dL_law_669 (nI 1) (by decide) ?_
  refine kw_iadd (pc := 670) C dL_law_670 (z := nI (i + 1)) (nI_add _ _) ?_
  refine kw_sld (pc := 671) C hX hbl hbA dL_law_671 (i + 1) rfl (by omega) (by omega) ?_
  refine kw_calli (pc := 672) (wv := wM Z B) (wr := wC Z A σ1) C hN hSW dL_law_672 (c_X7_want l D Z B τ X F ck co K nn Bt Lt (xs (i + 1)) hM hO) (cwV 1 C.1.2.2.2.2 gL_law_X7_want rfl rfl rfl (by decide +kernel) ⟨Nat.le_of_ble_eq_true rfl, Nat.le_of_ble_eq_true rfl⟩) [0, 1, 2, 3, 4, 5, 6, 7, 8, 9, 10] [11, 12, 13, 14, 15, 16, 17, 18, 19, 20, 21, 22, 23, 24, 25, 26, 27, 28, 29, 30, 31, 32] rfl rfl rfl (by decide) (by decide) (by decide) rfl rfl rfl rfl (Nat.le_of_ble_eq_true rfl) h1 h2 (fun r2 τ1 hr2 => ?_)
  have hq := Lsm_q hI hr1 hr2
  exact kw_icmp_eq (pc := 675) (tgt := 881) C dL_law_675 (by decide) (fun _ => hnext _ _ hq.2) (fun h => absurd hq.1 h)
set_option maxHeartbeats 4000000 in
set_option maxRecDepth 100000 in
theorem law_16 {p : Program} {l : Launch} {e : Env} {s : State} {m : MethodId} {g : Array Value} {below : List Frame} {meth : Method} {c : Code} {D : va_G} {Z : CZ} {A0 : Nat → Prop} {Q : State → Prop} {mc ms : Nat} (C : KX p s m g c cL_law 4 wsL_law RL D Z A0) (hN : NWs s) (hSW : SW Z A0 s s.heap) {b L : Nat} {xs : Nat → Int32} (hX : va_X b L xs s s.heap) (hbl : b < s.heap.size) (hbA : ¬ A0 b) (hL : L ≤ 2048) (h1 : mc + 0 ≤ room_1.cells) (h2 : ms + 0 ≤ room_1.slots) {A B : Nat → Nat} {i : Nat} (hi : i + 4 ≤ L) {σ τ : St} (h : Lsm σ τ) (hnext : ∀ σ' τ', Lsm σ' τ' → KW p l e room_1 s m g below meth c D A0 4 Q (wC Z A σ' ++ wM Z B τ') mc ms 881 [(0, .ref b), (1, .ref (A 0)), (2, .ref (B 0)), (3, .int (nI i))] []) : KW p l e room_1 s m g below meth c D A0 4 Q (wC Z A σ ++ wM Z B τ) mc ms 680 [(0, .ref b), (1, .ref (A 0)), (2, .ref (B 0)), (3, .int (nI i))] [] := by
  obtain ⟨X, F, ck, co, K, nn, Bt, Lt, hC, hI, hM⟩ := h
  obtain ⟨hO, hKO, hnn, hLt, hBt⟩ := id hI
  refine kw_aload_n (pc := 680) C dL_law_680 rfl 1 rfl ?_
  refine kw_aload_n (pc := 681) C dL_law_681 rfl 0 rfl ?_
  refine kw_iload_n (pc := 682) C dL_law_682 rfl 3 rfl ?_
  refine kw_iconst (pc := 683) C dL_law_683 (nI 1) (by decide) ?_
  refine kw_iadd (pc := 684) C dL_law_684 (z := nI (i + 1)) (nI_add _ _) ?_
  refine kw_sld (pc := 685) C hX hbl hbA dL_law_685 (i + 1) rfl (by omega) (by omega) ?_
  refine kw_aload_n (pc := 686) C dL_law_686 rfl 0 rfl ?_
  refine kw_iload_n (pc := 687) C dL_law_687 rfl 3 rfl ?_
  refine kw_iconst (pc := 688) C dL_law_688 (nI 2) (by decide) ?_
  refine kw_iadd (pc := 689) C dL_law_689 (z := nI (i + 2)) (nI_add _ _) ?_
  refine kw_sld (pc := 690) C hX hbl hbA dL_law_690 (i + 2) rfl (by omega) (by omega) ?_
  refine kw_calli (pc := 691) (wv := wC Z A) (wr := wM Z B τ) C hN hSW dL_law_691 (c_X6_drives l D Z A σ X F ck co K nn Bt Lt (xs (i + 1)) (xs (i + 2)) hC hI) (cwV 2 C.1.2.2.2.2 gL_law_X6_drives rfl rfl rfl (by decide +kernel) ⟨Nat.le_of_ble_eq_true rfl, Nat.le_of_ble_eq_true rfl⟩) [0, 1, 2, 3, 4, 5, 6, 7, 8, 9, 10, 11, 12, 13, 14, 15, 16, 17, 18, 19, 20, 21] [22, 23, 24, 25, 26, 27, 28, 29, 30, 31, 32] rfl rfl rfl (by decide) (by decide) (by decide) rfl rfl rfl rfl (Nat.le_of_ble_eq_true rfl) h1 h2 (fun r1 σ1 hr1 => ?_)
  refine kw_aload_n (pc := 694) C dL_law_694 rfl 2 rfl ?_
  refine kw_aload_n (pc := 695) C dL_law_695 rfl 0 rfl ?_
  refine kw_iload_n (pc := 696) C dL_law_696 rfl 3 rfl ?_
  refine kw_iconst (pc := 697) C dL_law_697 (nI 1) (by decide) ?_
  refine kw_iadd (pc := 698) C dL_law_698 (z := nI (i + 1)) (nI_add _ _) ?_
  refine kw_sld (pc := 699) C hX hbl hbA dL_law_699 (i + 1) rfl (by omega) (by omega) ?_
  refine kw_aload_n (pc := 700) C dL_law_700 rfl 0 rfl ?_
  refine kw_iload_n (pc := 701) C dL_law_701 rfl 3 rfl ?_
  refine kw_iconst (pc := 702) C dL_law_702 (nI 2) (by decide) ?_
  refine kw_iadd (pc := 703) C dL_law_703 (z := nI (i + 2)) (nI_add _ _) ?_
  refine kw_sld (pc := 704) C hX hbl hbA dL_law_704 (i + 2) rfl (by omega) (by omega) ?_
  refine kw_calli (pc := 705) (wv := wM Z B) (wr := wC Z A σ1) C hN hSW dL_law_705 (c_X7_drives l D Z B τ X F ck co K nn Bt Lt (xs (i + 1)) (xs (i + 2)) hM hO hnn) (cwV 2 C.1.2.2.2.2 gL_law_X7_drives rfl rfl rfl (by decide +kernel) ⟨Nat.le_of_ble_eq_true rfl, Nat.le_of_ble_eq_true rfl⟩) [0, 1, 2, 3, 4, 5, 6, 7, 8, 9, 10] [11, 12, 13, 14, 15, 16, 17, 18, 19, 20, 21, 22, 23, 24, 25, 26, 27, 28, 29, 30, 31, 32] rfl rfl rfl (by decide) (by decide) (by decide) rfl rfl rfl rfl (Nat.le_of_ble_eq_true rfl) h1 h2 (fun r2 τ1 hr2 => ?_)
  have hq := Lsm_ch (o := 7) (a := (xs (i + 1))) (b := (xs (i + 2))) (by decide) hI hr1 hr2
  exact kw_icmp_eq (pc := 708) (tgt := 881) C dL_law_708 (by decide) (fun _ => hnext _ _ hq.2) (fun h => absurd hq.1 h)
set_option maxHeartbeats 4000000 in
set_option maxRecDepth 100000 in
theorem law_17 {p : Program} {l : Launch} {e : Env} {s : State} {m : MethodId} {g : Array Value} {below : List Frame} {meth : Method} {c : Code} {D : va_G} {Z : CZ} {A0 : Nat → Prop} {Q : State → Prop} {mc ms : Nat} (C : KX p s m g c cL_law 4 wsL_law RL D Z A0) (hN : NWs s) (hSW : SW Z A0 s s.heap) {b L : Nat} {xs : Nat → Int32} (hX : va_X b L xs s s.heap) (hbl : b < s.heap.size) (hbA : ¬ A0 b) (hL : L ≤ 2048) (h1 : mc + 0 ≤ room_1.cells) (h2 : ms + 0 ≤ room_1.slots) {A B : Nat → Nat} {i : Nat} (hi : i + 4 ≤ L) {σ τ : St} (h : Lsm σ τ) (hnext : ∀ σ' τ', Lsm σ' τ' → KW p l e room_1 s m g below meth c D A0 4 Q (wC Z A σ' ++ wM Z B τ') mc ms 881 [(0, .ref b), (1, .ref (A 0)), (2, .ref (B 0)), (3, .int (nI i))] []) : KW p l e room_1 s m g below meth c D A0 4 Q (wC Z A σ ++ wM Z B τ) mc ms 713 [(0, .ref b), (1, .ref (A 0)), (2, .ref (B 0)), (3, .int (nI i))] [] := by
  obtain ⟨X, F, ck, co, K, nn, Bt, Lt, hC, hI, hM⟩ := h
  obtain ⟨hO, hKO, hnn, hLt, hBt⟩ := id hI
  refine kw_aload_n (pc := 713) C dL_law_713 rfl 1 rfl ?_
  refine kw_aload_n (pc := 714) C dL_law_714 rfl 0 rfl ?_
  refine kw_iload_n (pc := 715) C dL_law_715 rfl 3 rfl ?_
  refine kw_iconst (pc := 716) C dL_law_716 (nI 1) (by decide) ?_
  refine kw_iadd (pc := 717) C dL_law_717 (z := nI (i + 1)) (nI_add _ _) ?_
  refine kw_sld (pc := 718) C hX hbl hbA dL_law_718 (i + 1) rfl (by omega) (by omega) ?_
  refine kw_calli (pc := 719) (wv := wC Z A) (wr := wM Z B τ) C hN hSW dL_law_719 (c_X6_puts l D Z A σ X F ck co K nn Bt Lt (xs (i + 1)) hC hI) (cwV 1 C.1.2.2.2.2 gL_law_X6_puts rfl rfl rfl (by decide +kernel) ⟨Nat.le_of_ble_eq_true rfl, Nat.le_of_ble_eq_true rfl⟩) [0, 1, 2, 3, 4, 5, 6, 7, 8, 9, 10, 11, 12, 13, 14, 15, 16, 17, 18, 19, 20, 21] [22, 23, 24, 25, 26, 27, 28, 29, 30, 31, 32] rfl rfl rfl (by decide) (by decide) (by decide) rfl rfl rfl rfl (Nat.le_of_ble_eq_true rfl) h1 h2 (fun r1 σ1 hr1 => ?_)
  refine kw_aload_n (pc := 722) C dL_law_722 rfl 2 rfl ?_
  refine kw_aload_n (pc := 723) C dL_law_723 rfl 0 rfl ?_
  refine kw_iload_n (pc := 724) C dL_law_724 rfl 3 rfl ?_
  refine kw_iconst (pc := 725) C dL_law_725 (nI 1) (by decide) ?_
  refine kw_iadd (pc := 726) C dL_law_726 (z := nI (i + 1)) (nI_add _ _) ?_
  refine kw_sld (pc := 727) C hX hbl hbA dL_law_727 (i + 1) rfl (by omega) (by omega) ?_
  refine kw_calli (pc := 728) (wv := wM Z B) (wr := wC Z A σ1) C hN hSW dL_law_728 (c_X7_puts l D Z B τ X F ck co K nn Bt Lt (xs (i + 1)) hM hO hnn) (cwV 1 C.1.2.2.2.2 gL_law_X7_puts rfl rfl rfl (by decide +kernel) ⟨Nat.le_of_ble_eq_true rfl, Nat.le_of_ble_eq_true rfl⟩) [0, 1, 2, 3, 4, 5, 6, 7, 8, 9, 10] [11, 12, 13, 14, 15, 16, 17, 18, 19, 20, 21, 22, 23, 24, 25, 26, 27, 28, 29, 30, 31, 32] rfl rfl rfl (by decide) (by decide) (by decide) rfl rfl rfl rfl (Nat.le_of_ble_eq_true rfl) h1 h2 (fun r2 τ1 hr2 => ?_)
  have hq := Lsm_ch (o := 9) (a := (xs (i + 1))) (b := nI 0) (by decide) hI hr1 hr2
  exact kw_icmp_eq (pc := 731) (tgt := 881) C dL_law_731 (by decide) (fun _ => hnext _ _ hq.2) (fun h => absurd hq.1 h)
set_option maxHeartbeats 4000000 in
set_option maxRecDepth 100000 in
theorem law_18 {p : Program} {l : Launch} {e : Env} {s : State} {m : MethodId} {g : Array Value} {below : List Frame} {meth : Method} {c : Code} {D : va_G} {Z : CZ} {A0 : Nat → Prop} {Q : State → Prop} {mc ms : Nat} (C : KX p s m g c cL_law 4 wsL_law RL D Z A0) (hN : NWs s) (hSW : SW Z A0 s s.heap) {b L : Nat} {xs : Nat → Int32} (hX : va_X b L xs s s.heap) (hbl : b < s.heap.size) (hbA : ¬ A0 b) (hL : L ≤ 2048) (h1 : mc + 0 ≤ room_1.cells) (h2 : ms + 0 ≤ room_1.slots) {A B : Nat → Nat} {i : Nat} (hi : i + 4 ≤ L) {σ τ : St} (h : Lsm σ τ) (hnext : ∀ σ' τ', Lsm σ' τ' → KW p l e room_1 s m g below meth c D A0 4 Q (wC Z A σ' ++ wM Z B τ') mc ms 881 [(0, .ref b), (1, .ref (A 0)), (2, .ref (B 0)), (3, .int (nI i))] []) : KW p l e room_1 s m g below meth c D A0 4 Q (wC Z A σ ++ wM Z B τ) mc ms 736 [(0, .ref b), (1, .ref (A 0)), (2, .ref (B 0)), (3, .int (nI i))] [] := by
  obtain ⟨X, F, ck, co, K, nn, Bt, Lt, hC, hI, hM⟩ := h
  obtain ⟨hO, hKO, hnn, hLt, hBt⟩ := id hI
  refine kw_aload_n (pc := 736) C dL_law_736 rfl 1 rfl ?_
  refine kw_aload_n (pc := 737) C dL_law_737 rfl 0 rfl ?_
  refine kw_iload_n (pc := 738) C dL_law_738 rfl 3 rfl ?_
  refine kw_iconst (pc := 739) C dL_law_739 (nI 1) (by decide) ?_
  refine kw_iadd (pc := 740) C dL_law_740 (z := nI (i + 1)) (nI_add _ _) ?_
  refine kw_sld (pc := 741) C hX hbl hbA dL_law_741 (i + 1) rfl (by omega) (by omega) ?_
  refine kw_calli (pc := 742) (wv := wC Z A) (wr := wM Z B τ) C hN hSW dL_law_742 (c_X6_state l D Z A σ X F ck co K nn Bt Lt (xs (i + 1)) hC hI) (cwV 1 C.1.2.2.2.2 gL_law_X6_state rfl rfl rfl (by decide +kernel) ⟨Nat.le_of_ble_eq_true rfl, Nat.le_of_ble_eq_true rfl⟩) [0, 1, 2, 3, 4, 5, 6, 7, 8, 9, 10, 11, 12, 13, 14, 15, 16, 17, 18, 19, 20, 21] [22, 23, 24, 25, 26, 27, 28, 29, 30, 31, 32] rfl rfl rfl (by decide) (by decide) (by decide) rfl rfl rfl rfl (Nat.le_of_ble_eq_true rfl) h1 h2 (fun r1 σ1 hr1 => ?_)
  refine kw_aload_n (pc := 745) C dL_law_745 rfl 2 rfl ?_
  refine kw_aload_n (pc := 746) C dL_law_746 rfl 0 rfl ?_
  refine kw_iload_n (pc := 747) C dL_law_747 rfl 3 rfl ?_
  refine kw_iconst (pc := 748) C dL_law_748 (nI 1) (by decide) ?_
  refine kw_iadd (pc := 749) C dL_law_749 (z := nI (i + 1)) (nI_add _ _) ?_
  refine kw_sld (pc := 750) C hX hbl hbA dL_law_750 (i + 1) rfl (by omega) (by omega) ?_
  refine kw_calli (pc := 751) (wv := wM Z B) (wr := wC Z A σ1) C hN hSW dL_law_751 (c_X7_state l D Z B τ X F ck co K nn Bt Lt (xs (i + 1)) hM hO) (cwV 1 C.1.2.2.2.2 gL_law_X7_state rfl rfl rfl (by decide +kernel) ⟨Nat.le_of_ble_eq_true rfl, Nat.le_of_ble_eq_true rfl⟩) [0, 1, 2, 3, 4, 5, 6, 7, 8, 9, 10] [11, 12, 13, 14, 15, 16, 17, 18, 19, 20, 21, 22, 23, 24, 25, 26, 27, 28, 29, 30, 31, 32] rfl rfl rfl (by decide) (by decide) (by decide) rfl rfl rfl rfl (Nat.le_of_ble_eq_true rfl) h1 h2 (fun r2 τ1 hr2 => ?_)
  have hq := Lsm_q hI hr1 hr2
  exact kw_icmp_eq (pc := 754) (tgt := 881) C dL_law_754 (by decide) (fun _ => hnext _ _ hq.2) (fun h => absurd hq.1 h)
set_option maxHeartbeats 4000000 in
set_option maxRecDepth 100000 in
theorem law_19 {p : Program} {l : Launch} {e : Env} {s : State} {m : MethodId} {g : Array Value} {below : List Frame} {meth : Method} {c : Code} {D : va_G} {Z : CZ} {A0 : Nat → Prop} {Q : State → Prop} {mc ms : Nat} (C : KX p s m g c cL_law 4 wsL_law RL D Z A0) (hN : NWs s) (hSW : SW Z A0 s s.heap) {b L : Nat} {xs : Nat → Int32} (hX : va_X b L xs s s.heap) (hbl : b < s.heap.size) (hbA : ¬ A0 b) (hL : L ≤ 2048) (h1 : mc + 0 ≤ room_1.cells) (h2 : ms + 0 ≤ room_1.slots) {A B : Nat → Nat} {i : Nat} (hi : i + 4 ≤ L) {σ τ : St} (h : Lsm σ τ) (hnext : ∀ σ' τ', Lsm σ' τ' → KW p l e room_1 s m g below meth c D A0 4 Q (wC Z A σ' ++ wM Z B τ') mc ms 881 [(0, .ref b), (1, .ref (A 0)), (2, .ref (B 0)), (3, .int (nI i))] []) : KW p l e room_1 s m g below meth c D A0 4 Q (wC Z A σ ++ wM Z B τ) mc ms 759 [(0, .ref b), (1, .ref (A 0)), (2, .ref (B 0)), (3, .int (nI i))] [] := by
  obtain ⟨X, F, ck, co, K, nn, Bt, Lt, hC, hI, hM⟩ := h
  obtain ⟨hO, hKO, hnn, hLt, hBt⟩ := id hI
  refine kw_aload_n (pc := 759) C dL_law_759 rfl 1 rfl ?_
  refine kw_aload_n (pc := 760) C dL_law_760 rfl 0 rfl ?_
  refine kw_iload_n (pc := 761) C dL_law_761 rfl 3 rfl ?_
  refine kw_iconst (pc := 762) C dL_law_762 (nI 1) (by decide) ?_
  refine kw_iadd (pc := 763) C dL_law_763 (z := nI (i + 1)) (nI_add _ _) ?_
  refine kw_sld (pc := 764) C hX hbl hbA dL_law_764 (i + 1) rfl (by omega) (by omega) ?_
  refine kw_calli (pc := 765) (wv := wC Z A) (wr := wM Z B τ) C hN hSW dL_law_765 (c_X6_type l D Z A σ X F ck co K nn Bt Lt (xs (i + 1)) hC hI) (cwV 1 C.1.2.2.2.2 gL_law_X6_type rfl rfl rfl (by decide +kernel) ⟨Nat.le_of_ble_eq_true rfl, Nat.le_of_ble_eq_true rfl⟩) [0, 1, 2, 3, 4, 5, 6, 7, 8, 9, 10, 11, 12, 13, 14, 15, 16, 17, 18, 19, 20, 21] [22, 23, 24, 25, 26, 27, 28, 29, 30, 31, 32] rfl rfl rfl (by decide) (by decide) (by decide) rfl rfl rfl rfl (Nat.le_of_ble_eq_true rfl) h1 h2 (fun r1 σ1 hr1 => ?_)
  refine kw_aload_n (pc := 768) C dL_law_768 rfl 2 rfl ?_
  refine kw_aload_n (pc := 769) C dL_law_769 rfl 0 rfl ?_
  refine kw_iload_n (pc := 770) C dL_law_770 rfl 3 rfl ?_
  refine kw_iconst (pc := 771) C dL_law_771 (nI 1) (by decide) ?_
  refine kw_iadd (pc := 772) C dL_law_772 (z := nI (i + 1)) (nI_add _ _) ?_
  refine kw_sld (pc := 773) C hX hbl hbA dL_law_773 (i + 1) rfl (by omega) (by omega) ?_
  refine kw_calli (pc := 774) (wv := wM Z B) (wr := wC Z A σ1) C hN hSW dL_law_774 (c_X7_type l D Z B τ X F ck co K nn Bt Lt (xs (i + 1)) hM hLt) (cwV 1 C.1.2.2.2.2 gL_law_X7_type rfl rfl rfl (by decide +kernel) ⟨Nat.le_of_ble_eq_true rfl, Nat.le_of_ble_eq_true rfl⟩) [0, 1, 2, 3, 4, 5, 6, 7, 8, 9, 10] [11, 12, 13, 14, 15, 16, 17, 18, 19, 20, 21, 22, 23, 24, 25, 26, 27, 28, 29, 30, 31, 32] rfl rfl rfl (by decide) (by decide) (by decide) rfl rfl rfl rfl (Nat.le_of_ble_eq_true rfl) h1 h2 (fun r2 τ1 hr2 => ?_)
  have hq := Lsm_ty hI hr1 hr2
  exact kw_icmp_eq (pc := 777) (tgt := 881) C dL_law_777 (by decide) (fun _ => hnext _ _ hq.2) (fun h => absurd hq.1 h)
set_option maxHeartbeats 4000000 in
set_option maxRecDepth 100000 in
theorem law_20 {p : Program} {l : Launch} {e : Env} {s : State} {m : MethodId} {g : Array Value} {below : List Frame} {meth : Method} {c : Code} {D : va_G} {Z : CZ} {A0 : Nat → Prop} {Q : State → Prop} {mc ms : Nat} (C : KX p s m g c cL_law 4 wsL_law RL D Z A0) (hN : NWs s) (hSW : SW Z A0 s s.heap) {b L : Nat} {xs : Nat → Int32} (hX : va_X b L xs s s.heap) (hbl : b < s.heap.size) (hbA : ¬ A0 b) (hL : L ≤ 2048) (h1 : mc + 0 ≤ room_1.cells) (h2 : ms + 0 ≤ room_1.slots) {A B : Nat → Nat} {i : Nat} (hi : i + 4 ≤ L) {σ τ : St} (h : Lsm σ τ) (hnext : ∀ σ' τ', Lsm σ' τ' → KW p l e room_1 s m g below meth c D A0 4 Q (wC Z A σ' ++ wM Z B τ') mc ms 881 [(0, .ref b), (1, .ref (A 0)), (2, .ref (B 0)), (3, .int (nI i))] []) : KW p l e room_1 s m g below meth c D A0 4 Q (wC Z A σ ++ wM Z B τ) mc ms 782 [(0, .ref b), (1, .ref (A 0)), (2, .ref (B 0)), (3, .int (nI i))] [] := by
  obtain ⟨X, F, ck, co, K, nn, Bt, Lt, hC, hI, hM⟩ := h
  obtain ⟨hO, hKO, hnn, hLt, hBt⟩ := id hI
  refine kw_aload_n (pc := 782) C dL_law_782 rfl 1 rfl ?_
  refine kw_calli (pc := 783) (wv := wC Z A) (wr := wM Z B τ) C hN hSW dL_law_783 (c_X6_clear l D Z A σ X F ck co K nn Bt Lt  hC hI) (cwV 0 C.1.2.2.2.2 gL_law_X6_clear rfl rfl rfl (by decide +kernel) ⟨Nat.le_of_ble_eq_true rfl, Nat.le_of_ble_eq_true rfl⟩) [0, 1, 2, 3, 4, 5, 6, 7, 8, 9, 10, 11, 12, 13, 14, 15, 16, 17, 18, 19, 20, 21] [22, 23, 24, 25, 26, 27, 28, 29, 30, 31, 32] rfl rfl rfl (by decide) (by decide) (by decide) rfl rfl rfl rfl (Nat.le_of_ble_eq_true rfl) h1 h2 (fun r1 σ1 hr1 => ?_)
  refine kw_aload_n (pc := 786) C dL_law_786 rfl 2 rfl ?_
  refine kw_calli (pc := 787) (wv := wM Z B) (wr := wC Z A σ1) C hN hSW dL_law_787 (c_X7_clear l D Z B τ X F ck co K nn Bt Lt  hM) (cwV 0 C.1.2.2.2.2 gL_law_X7_clear rfl rfl rfl (by decide +kernel) ⟨Nat.le_of_ble_eq_true rfl, Nat.le_of_ble_eq_true rfl⟩) [0, 1, 2, 3, 4, 5, 6, 7, 8, 9, 10] [11, 12, 13, 14, 15, 16, 17, 18, 19, 20, 21, 22, 23, 24, 25, 26, 27, 28, 29, 30, 31, 32] rfl rfl rfl (by decide) (by decide) (by decide) rfl rfl rfl rfl (Nat.le_of_ble_eq_true rfl) h1 h2 (fun r2 τ1 hr2 => ?_)
  have hq := Lsm_cl hI hr1 hr2
  exact kw_icmp_eq (pc := 790) (tgt := 881) C dL_law_790 (by decide) (fun _ => hnext _ _ hq.2) (fun h => absurd hq.1 h)
set_option maxHeartbeats 4000000 in
set_option maxRecDepth 100000 in
theorem law_21 {p : Program} {l : Launch} {e : Env} {s : State} {m : MethodId} {g : Array Value} {below : List Frame} {meth : Method} {c : Code} {D : va_G} {Z : CZ} {A0 : Nat → Prop} {Q : State → Prop} {mc ms : Nat} (C : KX p s m g c cL_law 4 wsL_law RL D Z A0) (hN : NWs s) (hSW : SW Z A0 s s.heap) {b L : Nat} {xs : Nat → Int32} (hX : va_X b L xs s s.heap) (hbl : b < s.heap.size) (hbA : ¬ A0 b) (hL : L ≤ 2048) (h1 : mc + 0 ≤ room_1.cells) (h2 : ms + 0 ≤ room_1.slots) {A B : Nat → Nat} {i : Nat} (hi : i + 4 ≤ L) {σ τ : St} (h : Lsm σ τ) (hnext : ∀ σ' τ', Lsm σ' τ' → KW p l e room_1 s m g below meth c D A0 4 Q (wC Z A σ' ++ wM Z B τ') mc ms 881 [(0, .ref b), (1, .ref (A 0)), (2, .ref (B 0)), (3, .int (nI i))] []) : KW p l e room_1 s m g below meth c D A0 4 Q (wC Z A σ ++ wM Z B τ) mc ms 795 [(0, .ref b), (1, .ref (A 0)), (2, .ref (B 0)), (3, .int (nI i))] [] := by
  obtain ⟨X, F, ck, co, K, nn, Bt, Lt, hC, hI, hM⟩ := h
  obtain ⟨hO, hKO, hnn, hLt, hBt⟩ := id hI
  refine kw_aload_n (pc := 795) C dL_law_795 rfl 1 rfl ?_
  refine kw_calli (pc := 796) (wv := wC Z A) (wr := wM Z B τ) C hN hSW dL_law_796 (c_X6_reads l D Z A σ X F ck co K nn Bt Lt  hC hI) (cwV 0 C.1.2.2.2.2 gL_law_X6_reads rfl rfl rfl (by decide +kernel) ⟨Nat.le_of_ble_eq_true rfl, Nat.le_of_ble_eq_true rfl⟩) [0, 1, 2, 3, 4, 5, 6, 7, 8, 9, 10, 11, 12, 13, 14, 15, 16, 17, 18, 19, 20, 21] [22, 23, 24, 25, 26, 27, 28, 29, 30, 31, 32] rfl rfl rfl (by decide) (by decide) (by decide) rfl rfl rfl rfl (Nat.le_of_ble_eq_true rfl) h1 h2 (fun r1 σ1 hr1 => ?_)
  refine kw_aload_n (pc := 799) C dL_law_799 rfl 2 rfl ?_
  refine kw_calli (pc := 800) (wv := wM Z B) (wr := wC Z A σ1) C hN hSW dL_law_800 (c_X7_reads l D Z B τ X F ck co K nn Bt Lt  hM hO hnn hLt hBt) (cwV 0 C.1.2.2.2.2 gL_law_X7_reads rfl rfl rfl (by decide +kernel) ⟨Nat.le_of_ble_eq_true rfl, Nat.le_of_ble_eq_true rfl⟩) [0, 1, 2, 3, 4, 5, 6, 7, 8, 9, 10] [11, 12, 13, 14, 15, 16, 17, 18, 19, 20, 21, 22, 23, 24, 25, 26, 27, 28, 29, 30, 31, 32] rfl rfl rfl (by decide) (by decide) (by decide) rfl rfl rfl rfl (Nat.le_of_ble_eq_true rfl) h1 h2 (fun r2 τ1 hr2 => ?_)
  have hq := Lsm_rd hI hr1 hr2
  exact kw_icmp_eq (pc := 803) (tgt := 881) C dL_law_803 (by decide) (fun _ => hnext _ _ hq.2) (fun h => absurd hq.1 h)
set_option maxHeartbeats 4000000 in
set_option maxRecDepth 100000 in
theorem law_22 {p : Program} {l : Launch} {e : Env} {s : State} {m : MethodId} {g : Array Value} {below : List Frame} {meth : Method} {c : Code} {D : va_G} {Z : CZ} {A0 : Nat → Prop} {Q : State → Prop} {mc ms : Nat} (C : KX p s m g c cL_law 4 wsL_law RL D Z A0) (hN : NWs s) (hSW : SW Z A0 s s.heap) {b L : Nat} {xs : Nat → Int32} (hX : va_X b L xs s s.heap) (hbl : b < s.heap.size) (hbA : ¬ A0 b) (hL : L ≤ 2048) (h1 : mc + 0 ≤ room_1.cells) (h2 : ms + 0 ≤ room_1.slots) {A B : Nat → Nat} {i : Nat} (hi : i + 4 ≤ L) {σ τ : St} (h : Lsm σ τ) (hnext : ∀ σ' τ', Lsm σ' τ' → KW p l e room_1 s m g below meth c D A0 4 Q (wC Z A σ' ++ wM Z B τ') mc ms 881 [(0, .ref b), (1, .ref (A 0)), (2, .ref (B 0)), (3, .int (nI i))] []) : KW p l e room_1 s m g below meth c D A0 4 Q (wC Z A σ ++ wM Z B τ) mc ms 808 [(0, .ref b), (1, .ref (A 0)), (2, .ref (B 0)), (3, .int (nI i))] [] := by
  obtain ⟨X, F, ck, co, K, nn, Bt, Lt, hC, hI, hM⟩ := h
  obtain ⟨hO, hKO, hnn, hLt, hBt⟩ := id hI
  refine kw_aload_n (pc := 808) C dL_law_808 rfl 1 rfl ?_
  refine kw_aload_n (pc := 809) C dL_law_809 rfl 0 rfl ?_
  refine kw_iload_n (pc := 810) C dL_law_810 rfl 3 rfl ?_
  refine kw_iconst (pc := 811) C dL_law_811 (nI 1) (by decide) ?_
  refine kw_iadd (pc := 812) C dL_law_812 (z := nI (i + 1)) (nI_add _ _) ?_
  refine kw_sld (pc := 813) C hX hbl hbA dL_law_813 (i + 1) rfl (by omega) (by omega) ?_
  refine kw_calli (pc := 814) (wv := wC Z A) (wr := wM Z B τ) C hN hSW dL_law_814 (c_X6_why l D Z A σ X F ck co K nn Bt Lt (xs (i + 1)) hC hI) (cwV 1 C.1.2.2.2.2 gL_law_X6_why rfl rfl rfl (by decide +kernel) ⟨Nat.le_of_ble_eq_true rfl, Nat.le_of_ble_eq_true rfl⟩) [0, 1, 2, 3, 4, 5, 6, 7, 8, 9, 10, 11, 12, 13, 14, 15, 16, 17, 18, 19, 20, 21] [22, 23, 24, 25, 26, 27, 28, 29, 30, 31, 32] rfl rfl rfl (by decide) (by decide) (by decide) rfl rfl rfl rfl (Nat.le_of_ble_eq_true rfl) h1 h2 (fun r1 σ1 hr1 => ?_)
  refine kw_aload_n (pc := 817) C dL_law_817 rfl 2 rfl ?_
  refine kw_aload_n (pc := 818) C dL_law_818 rfl 0 rfl ?_
  refine kw_iload_n (pc := 819) C dL_law_819 rfl 3 rfl ?_
  refine kw_iconst (pc := 820) C dL_law_820 (nI 1) (by decide) ?_
  refine kw_iadd (pc := 821) C dL_law_821 (z := nI (i + 1)) (nI_add _ _) ?_
  refine kw_sld (pc := 822) C hX hbl hbA dL_law_822 (i + 1) rfl (by omega) (by omega) ?_
  refine kw_calli (pc := 823) (wv := wM Z B) (wr := wC Z A σ1) C hN hSW dL_law_823 (c_X7_why l D Z B τ X F ck co K nn Bt Lt (xs (i + 1)) hM) (cwV 1 C.1.2.2.2.2 gL_law_X7_why rfl rfl rfl (by decide +kernel) ⟨Nat.le_of_ble_eq_true rfl, Nat.le_of_ble_eq_true rfl⟩) [0, 1, 2, 3, 4, 5, 6, 7, 8, 9, 10] [11, 12, 13, 14, 15, 16, 17, 18, 19, 20, 21, 22, 23, 24, 25, 26, 27, 28, 29, 30, 31, 32] rfl rfl rfl (by decide) (by decide) (by decide) rfl rfl rfl rfl (Nat.le_of_ble_eq_true rfl) h1 h2 (fun r2 τ1 hr2 => ?_)
  have hq := Lsm_q hI hr1 hr2
  exact kw_icmp_eq (pc := 826) (tgt := 881) C dL_law_826 (by decide) (fun _ => hnext _ _ hq.2) (fun h => absurd hq.1 h)
set_option maxHeartbeats 4000000 in
set_option maxRecDepth 100000 in
theorem law_23 {p : Program} {l : Launch} {e : Env} {s : State} {m : MethodId} {g : Array Value} {below : List Frame} {meth : Method} {c : Code} {D : va_G} {Z : CZ} {A0 : Nat → Prop} {Q : State → Prop} {mc ms : Nat} (C : KX p s m g c cL_law 4 wsL_law RL D Z A0) (hN : NWs s) (hSW : SW Z A0 s s.heap) {b L : Nat} {xs : Nat → Int32} (hX : va_X b L xs s s.heap) (hbl : b < s.heap.size) (hbA : ¬ A0 b) (hL : L ≤ 2048) (h1 : mc + 0 ≤ room_1.cells) (h2 : ms + 0 ≤ room_1.slots) {A B : Nat → Nat} {i : Nat} (hi : i + 4 ≤ L) {σ τ : St} (h : Lsm σ τ) (hnext : ∀ σ' τ', Lsm σ' τ' → KW p l e room_1 s m g below meth c D A0 4 Q (wC Z A σ' ++ wM Z B τ') mc ms 881 [(0, .ref b), (1, .ref (A 0)), (2, .ref (B 0)), (3, .int (nI i))] []) : KW p l e room_1 s m g below meth c D A0 4 Q (wC Z A σ ++ wM Z B τ) mc ms 831 [(0, .ref b), (1, .ref (A 0)), (2, .ref (B 0)), (3, .int (nI i))] [] := by
  obtain ⟨X, F, ck, co, K, nn, Bt, Lt, hC, hI, hM⟩ := h
  obtain ⟨hO, hKO, hnn, hLt, hBt⟩ := id hI
  refine kw_aload_n (pc := 831) C dL_law_831 rfl 1 rfl ?_
  refine kw_calli (pc := 832) (wv := wC Z A) (wr := wM Z B τ) C hN hSW dL_law_832 (c_X6_back l D Z A σ X F ck co K nn Bt Lt  hC hI) (cwV 0 C.1.2.2.2.2 gL_law_X6_back rfl rfl rfl (by decide +kernel) ⟨Nat.le_of_ble_eq_true rfl, Nat.le_of_ble_eq_true rfl⟩) [0, 1, 2, 3, 4, 5, 6, 7, 8, 9, 10, 11, 12, 13, 14, 15, 16, 17, 18, 19, 20, 21] [22, 23, 24, 25, 26, 27, 28, 29, 30, 31, 32] rfl rfl rfl (by decide) (by decide) (by decide) rfl rfl rfl rfl (Nat.le_of_ble_eq_true rfl) h1 h2 (fun r1 σ1 hr1 => ?_)
  refine kw_aload_n (pc := 835) C dL_law_835 rfl 2 rfl ?_
  refine kw_calli (pc := 836) (wv := wM Z B) (wr := wC Z A σ1) C hN hSW dL_law_836 (c_X7_back l D Z B τ X F ck co K nn Bt Lt  hM hnn) (cwV 0 C.1.2.2.2.2 gL_law_X7_back rfl rfl rfl (by decide +kernel) ⟨Nat.le_of_ble_eq_true rfl, Nat.le_of_ble_eq_true rfl⟩) [0, 1, 2, 3, 4, 5, 6, 7, 8, 9, 10] [11, 12, 13, 14, 15, 16, 17, 18, 19, 20, 21, 22, 23, 24, 25, 26, 27, 28, 29, 30, 31, 32] rfl rfl rfl (by decide) (by decide) (by decide) rfl rfl rfl rfl (Nat.le_of_ble_eq_true rfl) h1 h2 (fun r2 τ1 hr2 => ?_)
  have hq := Lsm_bk hI hr1 hr2
  exact kw_icmp_eq (pc := 839) (tgt := 881) C dL_law_839 (by decide) (fun _ => hnext _ _ hq.2) (fun h => absurd hq.1 h)
set_option maxHeartbeats 4000000 in
set_option maxRecDepth 100000 in
theorem law_24 {p : Program} {l : Launch} {e : Env} {s : State} {m : MethodId} {g : Array Value} {below : List Frame} {meth : Method} {c : Code} {D : va_G} {Z : CZ} {A0 : Nat → Prop} {Q : State → Prop} {mc ms : Nat} (C : KX p s m g c cL_law 4 wsL_law RL D Z A0) (hN : NWs s) (hSW : SW Z A0 s s.heap) {b L : Nat} {xs : Nat → Int32} (hX : va_X b L xs s s.heap) (hbl : b < s.heap.size) (hbA : ¬ A0 b) (hL : L ≤ 2048) (h1 : mc + 0 ≤ room_1.cells) (h2 : ms + 0 ≤ room_1.slots) {A B : Nat → Nat} {i : Nat} (hi : i + 4 ≤ L) {σ τ : St} (h : Lsm σ τ) (hnext : ∀ σ' τ', Lsm σ' τ' → KW p l e room_1 s m g below meth c D A0 4 Q (wC Z A σ' ++ wM Z B τ') mc ms 881 [(0, .ref b), (1, .ref (A 0)), (2, .ref (B 0)), (3, .int (nI i))] []) : KW p l e room_1 s m g below meth c D A0 4 Q (wC Z A σ ++ wM Z B τ) mc ms 844 [(0, .ref b), (1, .ref (A 0)), (2, .ref (B 0)), (3, .int (nI i))] [] := by
  obtain ⟨X, F, ck, co, K, nn, Bt, Lt, hC, hI, hM⟩ := h
  obtain ⟨hO, hKO, hnn, hLt, hBt⟩ := id hI
  refine kw_aload_n (pc := 844) C dL_law_844 rfl 1 rfl ?_
  refine kw_aload_n (pc := 845) C dL_law_845 rfl 0 rfl ?_
  refine kw_iload_n (pc := 846) C dL_law_846 rfl 3 rfl ?_
  refine kw_iconst (pc := 847) C dL_law_847 (nI 1) (by decide) ?_
  refine kw_iadd (pc := 848) C dL_law_848 (z := nI (i + 1)) (nI_add _ _) ?_
  refine kw_sld (pc := 849) C hX hbl hbA dL_law_849 (i + 1) rfl (by omega) (by omega) ?_
  refine kw_calli (pc := 850) (wv := wC Z A) (wr := wM Z B τ) C hN hSW dL_law_850 (c_X6_told l D Z A σ X F ck co K nn Bt Lt (xs (i + 1)) hC hI) (cwV 1 C.1.2.2.2.2 gL_law_X6_told rfl rfl rfl (by decide +kernel) ⟨Nat.le_of_ble_eq_true rfl, Nat.le_of_ble_eq_true rfl⟩) [0, 1, 2, 3, 4, 5, 6, 7, 8, 9, 10, 11, 12, 13, 14, 15, 16, 17, 18, 19, 20, 21] [22, 23, 24, 25, 26, 27, 28, 29, 30, 31, 32] rfl rfl rfl (by decide) (by decide) (by decide) rfl rfl rfl rfl (Nat.le_of_ble_eq_true rfl) h1 h2 (fun r1 σ1 hr1 => ?_)
  refine kw_aload_n (pc := 853) C dL_law_853 rfl 2 rfl ?_
  refine kw_aload_n (pc := 854) C dL_law_854 rfl 0 rfl ?_
  refine kw_iload_n (pc := 855) C dL_law_855 rfl 3 rfl ?_
  refine kw_iconst (pc := 856) C dL_law_856 (nI 1) (by decide) ?_
  refine kw_iadd (pc := 857) C dL_law_857 (z := nI (i + 1)) (nI_add _ _) ?_
  refine kw_sld (pc := 858) C hX hbl hbA dL_law_858 (i + 1) rfl (by omega) (by omega) ?_
  refine kw_calli (pc := 859) (wv := wM Z B) (wr := wC Z A σ1) C hN hSW dL_law_859 (c_X7_told l D Z B τ X F ck co K nn Bt Lt (xs (i + 1)) hM) (cwV 1 C.1.2.2.2.2 gL_law_X7_told rfl rfl rfl (by decide +kernel) ⟨Nat.le_of_ble_eq_true rfl, Nat.le_of_ble_eq_true rfl⟩) [0, 1, 2, 3, 4, 5, 6, 7, 8, 9, 10] [11, 12, 13, 14, 15, 16, 17, 18, 19, 20, 21, 22, 23, 24, 25, 26, 27, 28, 29, 30, 31, 32] rfl rfl rfl (by decide) (by decide) (by decide) rfl rfl rfl rfl (Nat.le_of_ble_eq_true rfl) h1 h2 (fun r2 τ1 hr2 => ?_)
  have hq := Lsm_q hI hr1 hr2
  exact kw_icmp_eq (pc := 862) (tgt := 881) C dL_law_862 (by decide) (fun _ => hnext _ _ hq.2) (fun h => absurd hq.1 h)
set_option maxHeartbeats 4000000 in
set_option maxRecDepth 100000 in
theorem law_25 {p : Program} {l : Launch} {e : Env} {s : State} {m : MethodId} {g : Array Value} {below : List Frame} {meth : Method} {c : Code} {D : va_G} {Z : CZ} {A0 : Nat → Prop} {Q : State → Prop} {mc ms : Nat} (C : KX p s m g c cL_law 4 wsL_law RL D Z A0) (hN : NWs s) (hSW : SW Z A0 s s.heap) {b L : Nat} {xs : Nat → Int32} (hX : va_X b L xs s s.heap) (hbl : b < s.heap.size) (hbA : ¬ A0 b) (hL : L ≤ 2048) (h1 : mc + 0 ≤ room_1.cells) (h2 : ms + 0 ≤ room_1.slots) {A B : Nat → Nat} {i : Nat} (hi : i + 4 ≤ L) {σ τ : St} (h : Lsm σ τ) (hnext : ∀ σ' τ', Lsm σ' τ' → KW p l e room_1 s m g below meth c D A0 4 Q (wC Z A σ' ++ wM Z B τ') mc ms 881 [(0, .ref b), (1, .ref (A 0)), (2, .ref (B 0)), (3, .int (nI i))] []) : KW p l e room_1 s m g below meth c D A0 4 Q (wC Z A σ ++ wM Z B τ) mc ms 867 [(0, .ref b), (1, .ref (A 0)), (2, .ref (B 0)), (3, .int (nI i))] [] := by
  obtain ⟨X, F, ck, co, K, nn, Bt, Lt, hC, hI, hM⟩ := h
  obtain ⟨hO, hKO, hnn, hLt, hBt⟩ := id hI
  refine kw_aload_n (pc := 867) C dL_law_867 rfl 1 rfl ?_
  refine kw_calll (pc := 868) (wv := wC Z A) (wr := wM Z B τ) C hN hSW dL_law_868 (c_X6_digest l D Z A σ X F ck co K nn Bt Lt  hC hI) (cwV 0 C.1.2.2.2.2 gL_law_X6_digest rfl rfl rfl (by decide +kernel) ⟨Nat.le_of_ble_eq_true rfl, Nat.le_of_ble_eq_true rfl⟩) [0, 1, 2, 3, 4, 5, 6, 7, 8, 9, 10, 11, 12, 13, 14, 15, 16, 17, 18, 19, 20, 21] [22, 23, 24, 25, 26, 27, 28, 29, 30, 31, 32] rfl rfl rfl (by decide) (by decide) (by decide) rfl rfl rfl rfl (Nat.le_of_ble_eq_true rfl) h1 h2 (fun r1 σ1 hr1 => ?_)
  refine kw_aload_n (pc := 871) C dL_law_871 rfl 2 rfl ?_
  refine kw_calll (pc := 872) (wv := wM Z B) (wr := wC Z A σ1) C hN hSW dL_law_872 (c_X7_digest l D Z B τ X F ck co K nn Bt Lt  hM hO hnn hLt) (cwV 0 C.1.2.2.2.2 gL_law_X7_digest rfl rfl rfl (by decide +kernel) ⟨Nat.le_of_ble_eq_true rfl, Nat.le_of_ble_eq_true rfl⟩) [0, 1, 2, 3, 4, 5, 6, 7, 8, 9, 10] [11, 12, 13, 14, 15, 16, 17, 18, 19, 20, 21, 22, 23, 24, 25, 26, 27, 28, 29, 30, 31, 32] rfl rfl rfl (by decide) (by decide) (by decide) rfl rfl rfl rfl (Nat.le_of_ble_eq_true rfl) h1 h2 (fun r2 τ1 hr2 => ?_)
  have hq := Lsm_dg hI hr1 hr2
  refine kw_lcmp (pc := 875) C dL_law_875 ?_
  refine kw_if_eq (pc := 876) (tgt := 881) C dL_law_876 (by decide) (fun _ => hnext _ _ hq.2) (fun h => absurd (by rw [hq.1]; exact cmp_same _) h)
