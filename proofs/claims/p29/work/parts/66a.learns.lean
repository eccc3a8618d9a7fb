set_option maxHeartbeats 4000000 in
set_option maxRecDepth 100000 in
theorem c_L_learns (l : Launch) (D : va_G) (Z : CZ) (x : Int32) : CTk l yL_learns wsL_learns 8 188 22 712 D Z [.int x] (fun r => r = nI 1) := by
  refine CTk.mkz (cc := cL_learns) (nL := 5) (own := RL) rfl (by decide) rfl (Nat.le_of_ble_eq_true rfl) ?_
  intro p0 e0 s0 m0 g0 b0 t0 c0 A0 Q C hN hAO hSW hret
  obtain ⟨lim, hlim, elim⟩ := lowI_rng x (n := 600) (by decide) (by decide)
  obtain ⟨u2, hu2, eu2⟩ := lowI_rng (x >>> (nI 10 &&& 31)) (n := 20) (by decide) (by decide)
  obtain ⟨u1, hu1, eu1⟩ := lowI_rng (x >>> (nI 15 &&& 31)) (n := 20) (by decide) (by decide)
  obtain ⟨ur, hur, eur⟩ := lowI_rng (x >>> (nI 20 &&& 31)) (n := 12) (by decide) (by decide)
  refine kw_lv (lv' := [(0, .int x)]) [0] rfl ?_
  refine kw_new (pc := 0) (ci := 6) C tyX6 dL_learns_0 (fun _ h => List.mem_cons_of_mem _ (List.mem_append_left _ (List.mem_append_left _ (List.mem_append_left _ (List.mem_append_left _ (List.mem_append_left _ (List.mem_append_left _ (List.mem_append_right _ h)))))))) tyX6_ok (List.mem_of_getElem? (i := 1) rfl) (List.mem_of_getElem? (i := 2) rfl) (List.mem_of_getElem? (i := 3) rfl) rfl [.null, .null, .null, .null, .null, .null, .null, .null, .int 0, .int 0] (fun j hj => by rcases (show j = 0 ∨ j = 1 ∨ j = 2 ∨ j = 3 ∨ j = 4 ∨ j = 5 ∨ j = 6 ∨ j = 7 ∨ j = 8 ∨ j = 9 by omega) with rfl | rfl | rfl | rfl | rfl | rfl | rfl | rfl | rfl | rfl <;> rfl) (Nat.le_of_ble_eq_true rfl) (Nat.le_of_ble_eq_true rfl) (fun q0 => ?_)
  refine kw_dup (pc := 3) C dL_learns_3 rfl ?_
  refine kw_init (pc := 4) C hAO dL_learns_4 (c_X6_init l D Z q0) (cwI 0 C.1.2.2.2.2 gL_learns_X6_init rfl rfl rfl (C.1.2.2.2.2 _ (List.mem_of_getElem? (i := 3) rfl)) (C.1.2.2.2.2 (.methodLink RL 57 yX6_init) (List.mem_of_getElem? (i := 4) rfl)) (C.1.2.2.2.2 (.instanceMethod yX6_init) (List.mem_of_getElem? (i := 5) rfl)) rfl (by decide +kernel) ⟨Nat.le_of_ble_eq_true rfl, Nat.le_of_ble_eq_true rfl⟩) [0] [] (wr := []) rfl rfl rfl (by decide) (by decide) (by decide) rfl (Nat.le_of_ble_eq_true rfl) (Nat.le_of_ble_eq_true rfl) (Nat.le_of_ble_eq_true rfl) (fun u hu => ?_)
  obtain ⟨A, σ⟩ := u
  obtain ⟨hA0, habC⟩ := hu
  have hA0 : A 0 = q0 := hA0
  subst hA0
  refine kw_w (w' := wC Z A σ) rfl ?_
  have h0 : absP σ rowC0 (fun _ => 0) (fun _ _ => 0) 0 0 := ⟨habC, ⟨rowC0_ok, fun i hi => absurd hi (by omega), by decide, by decide, fun j hj => absurd hj (by omega)⟩, ⟨0, by decide, by decide +kernel⟩, fun i hi => absurd hi (by omega)⟩
  refine kw_astore_n (pc := 7) C dL_learns_7 rfl (by decide) (lv' := [(1, .ref (A 0)), (0, .int (x))]) rfl ?_
  refine kw_iload_n (pc := 8) C dL_learns_8 rfl 1 rfl ?_
  refine kw_sipush (pc := 9) C dL_learns_9 (nI 600) (by decide) ?_
  refine kw_csi (pc := 12) (wv := wC Z A) (wr := []) C hN hSW dL_learns_12 (c_L_low l D Z A σ  x 600 (by decide)) (va_cwS 2 C.1.2.2.2.2 gL_learns_L_low rfl rfl rfl (by decide +kernel) ⟨Nat.le_of_ble_eq_true rfl, Nat.le_of_ble_eq_true rfl⟩) [0, 1, 2, 3, 4, 5, 6, 7, 8, 9, 10, 11, 12, 13, 14, 15, 16, 17, 18, 19, 20, 21] [] rfl rfl rfl (by decide) (by decide) (by decide)  rfl rfl (Nat.le_of_ble_eq_true rfl) (Nat.le_of_ble_eq_true rfl) (Nat.le_of_ble_eq_true rfl) (fun r1 σ1 hr1 => ?_)
  obtain ⟨rfl, hs1⟩ := hr1
  rw [hs1]
  refine kw_w (w' := wC Z A σ) rfl ?_
  refine kw_top (nI lim) elim ?_
  refine kw_istore_n (pc := 15) C dL_learns_15 rfl (by decide) (lv' := [(2, .int (nI lim)), (1, .ref (A 0)), (0, .int (x))]) rfl ?_
  refine kw_aload_n (pc := 16) C dL_learns_16 rfl 1 rfl ?_
  refine kw_iconst (pc := 17) C dL_learns_17 (nI 1) (by decide) ?_
  refine kw_iconst (pc := 18) C dL_learns_18 (nI 3) (by decide) ?_
  refine kw_calli (pc := 19) (wv := wC Z A) (wr := []) C hN hSW dL_learns_19 (w_gear l D Z A σ  rowC0 (fun _ => 0) (fun _ _ => 0) 0 0 (nI 1) (nI 3) h0) (cwV 2 C.1.2.2.2.2 gL_learns_X6_gear rfl rfl rfl (by decide +kernel) ⟨Nat.le_of_ble_eq_true rfl, Nat.le_of_ble_eq_true rfl⟩) [0, 1, 2, 3, 4, 5, 6, 7, 8, 9, 10, 11, 12, 13, 14, 15, 16, 17, 18, 19, 20, 21] [] rfl rfl rfl (by decide) (by decide) (by decide) rfl rfl rfl rfl (Nat.le_of_ble_eq_true rfl) (Nat.le_of_ble_eq_true rfl) (Nat.le_of_ble_eq_true rfl) (fun r2 σ2 hr2 => ?_)
  have hq := rowL1_is
  obtain ⟨rfl, h2⟩ := chP_ok (v := nI 0) (Y := rowL1) hr2 hq.1 (nI_pos' (by decide)) hq.2
  clear hq
  refine kw_w (w' := wC Z A σ2) rfl ?_
  refine kw_if_ne (pc := 22) (tgt := 119) C dL_learns_22 (by decide) (fun h => False.elim (by revert h; decide)) (fun _ => ?_)
  refine kw_aload_n (pc := 25) C dL_learns_25 rfl 1 rfl ?_
  refine kw_iconst (pc := 26) C dL_learns_26 (nI 2) (by decide) ?_
  refine kw_iconst (pc := 27) C dL_learns_27 (nI 5) (by decide) ?_
  refine kw_calli (pc := 28) (wv := wC Z A) (wr := []) C hN hSW dL_learns_28 (w_gear l D Z A σ2  rowL1 (fun _ => 0) (psh (fun _ _ => 0) 0 rowC0) (min (0 + 1) 5) (0 + 60) (nI 2) (nI 5) h2) (cwV 2 C.1.2.2.2.2 gL_learns_X6_gear rfl rfl rfl (by decide +kernel) ⟨Nat.le_of_ble_eq_true rfl, Nat.le_of_ble_eq_true rfl⟩) [0, 1, 2, 3, 4, 5, 6, 7, 8, 9, 10, 11, 12, 13, 14, 15, 16, 17, 18, 19, 20, 21] [] rfl rfl rfl (by decide) (by decide) (by decide) rfl rfl rfl rfl (Nat.le_of_ble_eq_true rfl) (Nat.le_of_ble_eq_true rfl) (Nat.le_of_ble_eq_true rfl) (fun r3 σ3 hr3 => ?_)
  have hq := rowL2_is
  obtain ⟨rfl, h3⟩ := chP_ok (v := nI 0) (Y := rowL2) hr3 hq.1 (nI_pos' (by decide)) hq.2
  clear hq
  refine kw_w (w' := wC Z A σ3) rfl ?_
  refine kw_if_ne (pc := 31) (tgt := 119) C dL_learns_31 (by decide) (fun h => False.elim (by revert h; decide)) (fun _ => ?_)
  refine kw_aload_n (pc := 34) C dL_learns_34 rfl 1 rfl ?_
  refine kw_iconst (pc := 35) C dL_learns_35 (nI 2) (by decide) ?_
  refine kw_iconst (pc := 36) C dL_learns_36 (nI 1) (by decide) ?_
  refine kw_iload_n (pc := 37) C dL_learns_37 rfl 2 rfl ?_
  refine kw_bipush (pc := 38) C dL_learns_38 (nI 10) (by decide) ?_
  refine kw_ishr (pc := 40) C dL_learns_40 (z := x >>> ((nI 10) &&& 31)) rfl ?_
  refine kw_bipush (pc := 41) C dL_learns_41 (nI 20) (by decide) ?_
  refine kw_csi (pc := 43) (wv := wC Z A) (wr := []) C hN hSW dL_learns_43 (c_L_low l D Z A σ3  (x >>> ((nI 10) &&& 31)) 20 (by decide)) (va_cwS 2 C.1.2.2.2.2 gL_learns_L_low rfl rfl rfl (by decide +kernel) ⟨Nat.le_of_ble_eq_true rfl, Nat.le_of_ble_eq_true rfl⟩) [0, 1, 2, 3, 4, 5, 6, 7, 8, 9, 10, 11, 12, 13, 14, 15, 16, 17, 18, 19, 20, 21] [] rfl rfl rfl (by decide) (by decide) (by decide)  rfl rfl (Nat.le_of_ble_eq_true rfl) (Nat.le_of_ble_eq_true rfl) (Nat.le_of_ble_eq_true rfl) (fun r4 σ4 hr4 => ?_)
  obtain ⟨rfl, hs4⟩ := hr4
  rw [hs4]
  refine kw_w (w' := wC Z A σ3) rfl ?_
  refine kw_top (nI u2) eu2 ?_
  refine kw_iadd (pc := 46) C dL_learns_46 (z := nI (1 + u2)) (nI_add _ _) ?_
  refine kw_calli (pc := 47) (wv := wC Z A) (wr := []) C hN hSW dL_learns_47 (w_trues l D Z A σ3  rowL2 (fun _ => 0) (psh (psh (fun _ _ => 0) 0 rowC0) (min (0 + 1) 5) rowL1) (min ((min (0 + 1) 5) + 1) 5) ((0 + 60) + 60) (nI 2) (nI (1 + u2)) h3) (cwV 2 C.1.2.2.2.2 gL_learns_X6_trues rfl rfl rfl (by decide +kernel) ⟨Nat.le_of_ble_eq_true rfl, Nat.le_of_ble_eq_true rfl⟩) [0, 1, 2, 3, 4, 5, 6, 7, 8, 9, 10, 11, 12, 13, 14, 15, 16, 17, 18, 19, 20, 21] [] rfl rfl rfl (by decide) (by decide) (by decide) rfl rfl rfl rfl (Nat.le_of_ble_eq_true rfl) (Nat.le_of_ble_eq_true rfl) (Nat.le_of_ble_eq_true rfl) (fun r5 σ5 hr5 => ?_)
  have hq := tru_ok (X := rowL2) (c := 2) (T := 1 + u2) (by decide) (by omega) (by omega)
  rw [show rowL2 (29 + 2) = nI 8 from rowL2_lq.2.2.1.2.1] at hq
  obtain ⟨rfl, h5⟩ := chP_ok (v := nI 8) (Y := (upd rowL2 31 (nI (1 + u2)))) hr5 hq.1 (nI_pos' (by decide)) hq.2
  clear hq
  refine kw_w (w' := wC Z A σ5) rfl ?_
  refine kw_bipush (pc := 50) C dL_learns_50 (nI 8) (by decide) ?_
  refine kw_icmp_ne (pc := 52) (tgt := 119) C dL_learns_52 (by decide) (fun h => False.elim (by revert h; decide)) (fun _ => ?_)
  refine kw_aload_n (pc := 55) C dL_learns_55 rfl 1 rfl ?_
  refine kw_iconst (pc := 56) C dL_learns_56 (nI 1) (by decide) ?_
  refine kw_iconst (pc := 57) C dL_learns_57 (nI 1) (by decide) ?_
  refine kw_iload_n (pc := 58) C dL_learns_58 rfl 2 rfl ?_
  refine kw_bipush (pc := 59) C dL_learns_59 (nI 15) (by decide) ?_
  refine kw_ishr (pc := 61) C dL_learns_61 (z := x >>> ((nI 15) &&& 31)) rfl ?_
  refine kw_bipush (pc := 62) C dL_learns_62 (nI 20) (by decide) ?_
  refine kw_csi (pc := 64) (wv := wC Z A) (wr := []) C hN hSW dL_learns_64 (c_L_low l D Z A σ5  (x >>> ((nI 15) &&& 31)) 20 (by decide)) (va_cwS 2 C.1.2.2.2.2 gL_learns_L_low rfl rfl rfl (by decide +kernel) ⟨Nat.le_of_ble_eq_true rfl, Nat.le_of_ble_eq_true rfl⟩) [0, 1, 2, 3, 4, 5, 6, 7, 8, 9, 10, 11, 12, 13, 14, 15, 16, 17, 18, 19, 20, 21] [] rfl rfl rfl (by decide) (by decide) (by decide)  rfl rfl (Nat.le_of_ble_eq_true rfl) (Nat.le_of_ble_eq_true rfl) (Nat.le_of_ble_eq_true rfl) (fun r6 σ6 hr6 => ?_)
  obtain ⟨rfl, hs6⟩ := hr6
  rw [hs6]
  refine kw_w (w' := wC Z A σ5) rfl ?_
  refine kw_top (nI u1) eu1 ?_
  refine kw_iadd (pc := 67) C dL_learns_67 (z := nI (1 + u1)) (nI_add _ _) ?_
  refine kw_calli (pc := 68) (wv := wC Z A) (wr := []) C hN hSW dL_learns_68 (w_trues l D Z A σ5  (upd rowL2 31 (nI (1 + u2))) (fun _ => 0) (psh (psh (psh (fun _ _ => 0) 0 rowC0) (min (0 + 1) 5) rowL1) (min ((min (0 + 1) 5) + 1) 5) rowL2) (min ((min ((min (0 + 1) 5) + 1) 5) + 1) 5) (((0 + 60) + 60) + 60) (nI 1) (nI (1 + u1)) h5) (cwV 2 C.1.2.2.2.2 gL_learns_X6_trues rfl rfl rfl (by decide +kernel) ⟨Nat.le_of_ble_eq_true rfl, Nat.le_of_ble_eq_true rfl⟩) [0, 1, 2, 3, 4, 5, 6, 7, 8, 9, 10, 11, 12, 13, 14, 15, 16, 17, 18, 19, 20, 21] [] rfl rfl rfl (by decide) (by decide) (by decide) rfl rfl rfl rfl (Nat.le_of_ble_eq_true rfl) (Nat.le_of_ble_eq_true rfl) (Nat.le_of_ble_eq_true rfl) (fun r7 σ7 hr7 => ?_)
  have hq := tru_ok (X := (upd rowL2 31 (nI (1 + u2)))) (c := 1) (T := 1 + u1) (by decide) (by omega) (by omega)
  rw [show (upd rowL2 31 (nI (1 + u2))) (29 + 1) = nI 8 from (upd_ne (by decide)).trans rowL2_lq.2.2.1.1] at hq
  obtain ⟨rfl, h7⟩ := chP_ok (v := nI 8) (Y := (upd (upd rowL2 31 (nI (1 + u2))) 30 (nI (1 + u1)))) hr7 hq.1 (nI_pos' (by decide)) hq.2
  clear hq
  refine kw_w (w' := wC Z A σ7) rfl ?_
  refine kw_bipush (pc := 71) C dL_learns_71 (nI 8) (by decide) ?_
  refine kw_icmp_ne (pc := 73) (tgt := 119) C dL_learns_73 (by decide) (fun h => False.elim (by revert h; decide)) (fun _ => ?_)
  refine kw_aload_n (pc := 76) C dL_learns_76 rfl 1 rfl ?_
  refine kw_iconst (pc := 77) C dL_learns_77 (nI 0) (by decide) ?_
  refine kw_iconst (pc := 78) C dL_learns_78 (nI 1) (by decide) ?_
  refine kw_iload_n (pc := 79) C dL_learns_79 rfl 2 rfl ?_
  refine kw_bipush (pc := 80) C dL_learns_80 (nI 20) (by decide) ?_
  refine kw_ishr (pc := 82) C dL_learns_82 (z := x >>> ((nI 20) &&& 31)) rfl ?_
  refine kw_bipush (pc := 83) C dL_learns_83 (nI 12) (by decide) ?_
  refine kw_csi (pc := 85) (wv := wC Z A) (wr := []) C hN hSW dL_learns_85 (c_L_low l D Z A σ7  (x >>> ((nI 20) &&& 31)) 12 (by decide)) (va_cwS 2 C.1.2.2.2.2 gL_learns_L_low rfl rfl rfl (by decide +kernel) ⟨Nat.le_of_ble_eq_true rfl, Nat.le_of_ble_eq_true rfl⟩) [0, 1, 2, 3, 4, 5, 6, 7, 8, 9, 10, 11, 12, 13, 14, 15, 16, 17, 18, 19, 20, 21] [] rfl rfl rfl (by decide) (by decide) (by decide)  rfl rfl (Nat.le_of_ble_eq_true rfl) (Nat.le_of_ble_eq_true rfl) (Nat.le_of_ble_eq_true rfl) (fun r8 σ8 hr8 => ?_)
  obtain ⟨rfl, hs8⟩ := hr8
  rw [hs8]
  refine kw_w (w' := wC Z A σ7) rfl ?_
  refine kw_top (nI ur) eur ?_
  refine kw_iadd (pc := 88) C dL_learns_88 (z := nI (1 + ur)) (nI_add _ _) ?_
  refine kw_calli (pc := 89) (wv := wC Z A) (wr := []) C hN hSW dL_learns_89 (w_sets l D Z A σ7  (upd (upd rowL2 31 (nI (1 + u2))) 30 (nI (1 + u1))) (fun _ => 0) (psh (psh (psh (psh (fun _ _ => 0) 0 rowC0) (min (0 + 1) 5) rowL1) (min ((min (0 + 1) 5) + 1) 5) rowL2) (min ((min ((min (0 + 1) 5) + 1) 5) + 1) 5) (upd rowL2 31 (nI (1 + u2)))) (min ((min ((min ((min (0 + 1) 5) + 1) 5) + 1) 5) + 1) 5) ((((0 + 60) + 60) + 60) + 60) (nI 0) (nI (1 + ur)) h7) (cwV 2 C.1.2.2.2.2 gL_learns_X6_sets rfl rfl rfl (by decide +kernel) ⟨Nat.le_of_ble_eq_true rfl, Nat.le_of_ble_eq_true rfl⟩) [0, 1, 2, 3, 4, 5, 6, 7, 8, 9, 10, 11, 12, 13, 14, 15, 16, 17, 18, 19, 20, 21] [] rfl rfl rfl (by decide) (by decide) (by decide) rfl rfl rfl rfl (Nat.le_of_ble_eq_true rfl) (Nat.le_of_ble_eq_true rfl) (Nat.le_of_ble_eq_true rfl) (fun r9 σ9 hr9 => ?_)
  have hq := rul_ok0 (X := (upd (upd rowL2 31 (nI (1 + u2))) 30 (nI (1 + u1)))) (T := 1 + ur) (by omega) (by omega)
  rw [show (upd (upd rowL2 31 (nI (1 + u2))) 30 (nI (1 + u1))) 49 = nI 5 from (upd_ne (by decide)).trans ((upd_ne (by decide)).trans rowL2_lq.2.1.2.2.2.2.2.2.1)] at hq
  obtain ⟨rfl, h9⟩ := chP_ok (v := nI 5) (Y := (upd (upd (upd rowL2 31 (nI (1 + u2))) 30 (nI (1 + u1))) 49 (nI (1 + ur)))) hr9 hq.1 (nI_pos' (by decide)) hq.2
  clear hq
  refine kw_w (w' := wC Z A σ9) rfl ?_
  refine kw_iconst (pc := 92) C dL_learns_92 (nI 5) (by decide) ?_
  refine kw_icmp_ne (pc := 93) (tgt := 119) C dL_learns_93 (by decide) (fun h => False.elim (by revert h; decide)) (fun _ => ?_)
  refine kw_aload_n (pc := 96) C dL_learns_96 rfl 1 rfl ?_
  refine kw_iconst (pc := 97) C dL_learns_97 (nI 1) (by decide) ?_
  refine kw_iload_n (pc := 98) C dL_learns_98 rfl 0 rfl ?_
  refine kw_calli (pc := 99) (wv := wC Z A) (wr := []) C hN hSW dL_learns_99 (w_sets l D Z A σ9  (upd (upd (upd rowL2 31 (nI (1 + u2))) 30 (nI (1 + u1))) 49 (nI (1 + ur))) (fun _ => 0) (psh (psh (psh (psh (psh (fun _ _ => 0) 0 rowC0) (min (0 + 1) 5) rowL1) (min ((min (0 + 1) 5) + 1) 5) rowL2) (min ((min ((min (0 + 1) 5) + 1) 5) + 1) 5) (upd rowL2 31 (nI (1 + u2)))) (min ((min ((min ((min (0 + 1) 5) + 1) 5) + 1) 5) + 1) 5) (upd (upd rowL2 31 (nI (1 + u2))) 30 (nI (1 + u1)))) (min ((min ((min ((min ((min (0 + 1) 5) + 1) 5) + 1) 5) + 1) 5) + 1) 5) (((((0 + 60) + 60) + 60) + 60) + 60) (nI 1) (nI lim) h9) (cwV 2 C.1.2.2.2.2 gL_learns_X6_sets rfl rfl rfl (by decide +kernel) ⟨Nat.le_of_ble_eq_true rfl, Nat.le_of_ble_eq_true rfl⟩) [0, 1, 2, 3, 4, 5, 6, 7, 8, 9, 10, 11, 12, 13, 14, 15, 16, 17, 18, 19, 20, 21] [] rfl rfl rfl (by decide) (by decide) (by decide) rfl rfl rfl rfl (Nat.le_of_ble_eq_true rfl) (Nat.le_of_ble_eq_true rfl) (Nat.le_of_ble_eq_true rfl) (fun r10 σ10 hr10 => ?_)
  have hq := rul_ok1 (X := (upd (upd (upd rowL2 31 (nI (1 + u2))) 30 (nI (1 + u1))) 49 (nI (1 + ur)))) (T := lim) (by omega)
  rw [show (upd (upd (upd rowL2 31 (nI (1 + u2))) 30 (nI (1 + u1))) 49 (nI (1 + ur))) 50 = nI 100 from (upd_ne (by decide)).trans ((upd_ne (by decide)).trans ((upd_ne (by decide)).trans rowL2_lq.2.1.2.2.2.2.2.2.2))] at hq
  obtain ⟨rfl, h10⟩ := chP_ok (v := nI 100) (Y := (upd (upd (upd (upd rowL2 31 (nI (1 + u2))) 30 (nI (1 + u1))) 49 (nI (1 + ur))) 50 (nI lim))) hr10 hq.1 (nI_pos' (by decide)) hq.2
  clear hq
  refine kw_w (w' := wC Z A σ10) rfl ?_
  refine kw_bipush (pc := 102) C dL_learns_102 (nI 100) (by decide) ?_
  refine kw_icmp_ne (pc := 104) (tgt := 119) C dL_learns_104 (by decide) (fun h => False.elim (by revert h; decide)) (fun _ => ?_)
  refine kw_aload_n (pc := 107) C dL_learns_107 rfl 1 rfl ?_
  refine kw_iconst (pc := 108) C dL_learns_108 (nI 1) (by decide) ?_
  refine kw_calli (pc := 109) (wv := wC Z A) (wr := []) C hN hSW dL_learns_109 (w_puts l D Z A σ10  (upd (upd (upd (upd rowL2 31 (nI (1 + u2))) 30 (nI (1 + u1))) 49 (nI (1 + ur))) 50 (nI lim)) (fun _ => 0) (psh (psh (psh (psh (psh (psh (fun _ _ => 0) 0 rowC0) (min (0 + 1) 5) rowL1) (min ((min (0 + 1) 5) + 1) 5) rowL2) (min ((min ((min (0 + 1) 5) + 1) 5) + 1) 5) (upd rowL2 31 (nI (1 + u2)))) (min ((min ((min ((min (0 + 1) 5) + 1) 5) + 1) 5) + 1) 5) (upd (upd rowL2 31 (nI (1 + u2))) 30 (nI (1 + u1)))) (min ((min ((min ((min ((min (0 + 1) 5) + 1) 5) + 1) 5) + 1) 5) + 1) 5) (upd (upd (upd rowL2 31 (nI (1 + u2))) 30 (nI (1 + u1))) 49 (nI (1 + ur)))) (min ((min ((min ((min ((min ((min (0 + 1) 5) + 1) 5) + 1) 5) + 1) 5) + 1) 5) + 1) 5) ((((((0 + 60) + 60) + 60) + 60) + 60) + 60) (nI 1) h10) (cwV 1 C.1.2.2.2.2 gL_learns_X6_puts rfl rfl rfl (by decide +kernel) ⟨Nat.le_of_ble_eq_true rfl, Nat.le_of_ble_eq_true rfl⟩) [0, 1, 2, 3, 4, 5, 6, 7, 8, 9, 10, 11, 12, 13, 14, 15, 16, 17, 18, 19, 20, 21] [] rfl rfl rfl (by decide) (by decide) (by decide) rfl rfl rfl rfl (Nat.le_of_ble_eq_true rfl) (Nat.le_of_ble_eq_true rfl) (Nat.le_of_ble_eq_true rfl) (fun r11 σ11 hr11 => ?_)
  have hG : G12 (upd (upd (upd (upd rowL2 31 (nI (1 + u2))) 30 (nI (1 + u1))) 49 (nI (1 + ur))) 50 (nI lim)) := ⟨(upd_ne (by decide)).trans ((upd_ne (by decide)).trans ((upd_ne (by decide)).trans ((upd_ne (by decide)).trans rowL2_lq.1.1))), (upd_ne (by decide)).trans ((upd_ne (by decide)).trans ((upd_ne (by decide)).trans ((upd_ne (by decide)).trans rowL2_lq.1.2.1))), fun g g1 g2 => (upd_ne (by omega)).trans ((upd_ne (by omega)).trans ((upd_ne (by omega)).trans ((upd_ne (by omega)).trans (rowL2_lq.1.2.2.1 g g1 g2)))), fun c hc => (upd_ne (by omega)).trans ((upd_ne (by omega)).trans ((upd_ne (by omega)).trans ((upd_ne (by omega)).trans (rowL2_lq.1.2.2.2 c hc))))⟩
  have hq : oR (upd (upd (upd (upd rowL2 31 (nI (1 + u2))) 30 (nI (1 + u1))) 49 (nI (1 + ur))) 50 (nI lim)) 9 (nI 1) (nI 0) = nI 0 ∧ oX (upd (upd (upd (upd rowL2 31 (nI (1 + u2))) 30 (nI (1 + u1))) 49 (nI (1 + ur))) 50 (nI lim)) 9 (nI 1) (nI 0) = (rowL7 (1 + ur) lim (1 + u1) (1 + u2)) := by
    have hq := put_ok hG
    rw [show (upd (upd (upd (upd rowL2 31 (nI (1 + u2))) 30 (nI (1 + u1))) 49 (nI (1 + ur))) 50 (nI lim)) 39 = nI 0 from (upd_ne (by decide)).trans ((upd_ne (by decide)).trans ((upd_ne (by decide)).trans ((upd_ne (by decide)).trans rowL2_lq.2.2.2.1)))] at hq
    exact hq
  obtain ⟨rfl, h11⟩ := chP_ok (v := nI 0) (Y := (rowL7 (1 + ur) lim (1 + u1) (1 + u2))) hr11 hq.1 (nI_pos' (by decide)) hq.2
  clear hq
  refine kw_w (w' := wC Z A σ11) rfl ?_
  refine kw_if_ne (pc := 112) (tgt := 119) C dL_learns_112 (by decide) (fun h => False.elim (by revert h; decide)) (fun _ => ?_)
  refine kw_iconst (pc := 115) C dL_learns_115 (nI 1) (by decide) ?_
  refine kw_goto (pc := 116) (tgt := 120) C dL_learns_116 (by decide) ?_
  refine kw_istore_n (pc := 120) C dL_learns_120 rfl (by decide) (lv' := [(3, .int (nI 1)), (2, .int (nI lim)), (1, .ref (A 0)), (0, .int (x))]) rfl ?_
  refine kw_iconst (pc := 121) C dL_learns_121 (nI 0) (by decide) ?_
  refine kw_istore (pc := 122) C dL_learns_122 (by decide) (lv' := [(4, .int (nI 0)), (3, .int (nI 1)), (2, .int (nI lim)), (1, .ref (A 0)), (0, .int (x))]) rfl ?_
  have L124 : ∀ (n k : Nat) (Xt : Nat → Int32) (Kt : Nat → Nat → Int32) (nt Mt : Nat) (σt : St), k ≤ 20 → 20 < k + n → absP σt Xt (fun _ => 0) Kt nt Mt → LQ Xt (1 + ur) lim (1 + u1) (1 + u2) (itF (1 + ur) (1 + u1) lim k 8) (itF (1 + ur) (1 + u2) lim k 8) (24 * k) (2 * k) 1 → KW p0 l e0 { frames := 8, cells := 22, slots := 712, locals := 188 } s0 m0 g0 b0 t0 c0 D A0 5 Q (wC Z A σt) 22 712 124 [(0, .int (x)), (1, .ref (A 0)), (2, .int (nI lim)), (3, .int (nI 1)), (4, .int (nI k))] [] := by
    intro n
    induction n with
    | zero => intro k Xt Kt nt Mt σt a1 a2 _ _; exact absurd a2 (by omega)
    | succ n ih =>
      intro k Xt Kt nt Mt σt hk hm ht hl
      obtain ⟨⟨p1, p2⟩, -⟩ := itF_ok (R := 1 + ur) (T := 1 + u1) (lim := lim) (f := 8) (by omega) (by omega) (by omega) (by omega) (by omega) (by omega) k
      obtain ⟨⟨p3, p4⟩, -⟩ := itF_ok (R := 1 + ur) (T := 1 + u2) (lim := lim) (f := 8) (by omega) (by omega) (by omega) (by omega) (by omega) (by omega) k
      refine kw_iload (pc := 124) C dL_learns_124 4 rfl ?_
      refine kw_bipush (pc := 126) C dL_learns_126 (nI 20) (by decide) ?_
      refine kw_icmp_ge (pc := 128) (tgt := 181) C dL_learns_128 (by decide) (fun h128 => ?_) (fun h128 => ?_)
      · -- 128 t
        have h128 : 20 ≤ k := (nc_ge (a := k) (b := 20) (by omega) (by omega)).mp h128
        obtain rfl : k = 20 := by omega
        have g1 := itF_good (R := 1 + ur) (T := 1 + u1) (lim := lim) (by omega) (by omega) (by omega) (by omega)
        have g2 := itF_good (R := 1 + ur) (T := 1 + u2) (lim := lim) (by omega) (by omega) (by omega) (by omega)
        obtain ⟨⟨w10, v10, z10⟩, ⟨w11, v11, z11⟩, ⟨w20, v20, z20⟩, ⟨w21, v21, z21⟩⟩ := lq_end hl (by omega) (by omega) (by omega) (by omega) p2 p4 (by omega) g1 g2
        have hOK : rowOK Xt := ht.2.1.1
        have e43 : Xt 43 = nI 40 := hl.2.2.2.2.2.2
        obtain ⟨sa, sb⟩ := g12_sim hl.1
        have ca : comS (Xt 1) (Xt 2) = 2 := by rw [hl.1.1, hl.1.2.1]; decide
        have cb : comS (Xt 2) (Xt 1) = 1 := by rw [hl.1.1, hl.1.2.1]; decide
        have we10 := wsA_0 hOK.1 sa
        have we11 := wsA_1 hOK.1 sa
        have we20 := wsA_0 hOK.1 sb
        have we21 := wsA_1 hOK.1 sb
        rw [ca, z10] at we10
        rw [ca, z11] at we11
        rw [cb, z20] at we20
        rw [cb, z21] at we21
        refine kw_iload_n (pc := 181) C dL_learns_181 rfl 3 rfl ?_
        refine kw_if_eq (pc := 182) (tgt := 243) C dL_learns_182 (by decide) (fun h => False.elim (by revert h; decide)) (fun _ => ?_)
        refine kw_aload_n (pc := 185) C dL_learns_185 rfl 1 rfl ?_
        refine kw_iconst (pc := 186) C dL_learns_186 (nI 1) (by decide) ?_
        refine kw_iconst (pc := 187) C dL_learns_187 (nI 2) (by decide) ?_
        refine kw_iconst (pc := 188) C dL_learns_188 (nI 0) (by decide) ?_
        refine kw_calli (pc := 189) (wv := wC Z A) (wr := []) C hN hSW dL_learns_189 (w_worst l D Z A σt  Xt (fun _ => 0) Kt nt Mt (nI 1) (nI 2) (nI 0) ht) (cwV 3 C.1.2.2.2.2 gL_learns_X6_worst rfl rfl rfl (by decide +kernel) ⟨Nat.le_of_ble_eq_true rfl, Nat.le_of_ble_eq_true rfl⟩) [0, 1, 2, 3, 4, 5, 6, 7, 8, 9, 10, 11, 12, 13, 14, 15, 16, 17, 18, 19, 20, 21] [] rfl rfl rfl (by decide) (by decide) (by decide) rfl rfl rfl rfl (Nat.le_of_ble_eq_true rfl) (Nat.le_of_ble_eq_true rfl) (Nat.le_of_ble_eq_true rfl) (fun r51 σ51 hr51 => ?_)
        rw [we10] at hr51
        obtain ⟨rfl, h51⟩ := hr51
        have h51 : absP σ51 Xt (fun _ => 0) Kt nt Mt := h51
        refine kw_w (w' := wC Z A σ51) rfl ?_
        refine kw_top (nI w10) rfl ?_
        refine kw_iload_n (pc := 192) C dL_learns_192 rfl 2 rfl ?_
        refine kw_icmp_gt (pc := 193) (tgt := 243) C dL_learns_193 (by decide) (fun h193 => False.elim (by have := (nc_gt (by omega) (by omega)).mp h193; omega)) (fun h193 => ?_)
        refine kw_aload_n (pc := 196) C dL_learns_196 rfl 1 rfl ?_
        refine kw_iconst (pc := 197) C dL_learns_197 (nI 1) (by decide) ?_
        refine kw_iconst (pc := 198) C dL_learns_198 (nI 2) (by decide) ?_
        refine kw_iconst (pc := 199) C dL_learns_199 (nI 1) (by decide) ?_
        refine kw_calli (pc := 200) (wv := wC Z A) (wr := []) C hN hSW dL_learns_200 (w_worst l D Z A σ51  Xt (fun _ => 0) Kt nt Mt (nI 1) (nI 2) (nI 1) h51) (cwV 3 C.1.2.2.2.2 gL_learns_X6_worst rfl rfl rfl (by decide +kernel) ⟨Nat.le_of_ble_eq_true rfl, Nat.le_of_ble_eq_true rfl⟩) [0, 1, 2, 3, 4, 5, 6, 7, 8, 9, 10, 11, 12, 13, 14, 15, 16, 17, 18, 19, 20, 21] [] rfl rfl rfl (by decide) (by decide) (by decide) rfl rfl rfl rfl (Nat.le_of_ble_eq_true rfl) (Nat.le_of_ble_eq_true rfl) (Nat.le_of_ble_eq_true rfl) (fun r52 σ52 hr52 => ?_)
        rw [we11] at hr52
        obtain ⟨rfl, h52⟩ := hr52
        have h52 : absP σ52 Xt (fun _ => 0) Kt nt Mt := h52
        refine kw_w (w' := wC Z A σ52) rfl ?_
        refine kw_top (nI w11) rfl ?_
        refine kw_iload_n (pc := 203) C dL_learns_203 rfl 2 rfl ?_
        refine kw_icmp_gt (pc := 204) (tgt := 243) C dL_learns_204 (by decide) (fun h204 => False.elim (by have := (nc_gt (by omega) (by omega)).mp h204; omega)) (fun h204 => ?_)
        refine kw_aload_n (pc := 207) C dL_learns_207 rfl 1 rfl ?_
        refine kw_iconst (pc := 208) C dL_learns_208 (nI 2) (by decide) ?_
        refine kw_iconst (pc := 209) C dL_learns_209 (nI 1) (by decide) ?_
        refine kw_iconst (pc := 210) C dL_learns_210 (nI 0) (by decide) ?_
        refine kw_calli (pc := 211) (wv := wC Z A) (wr := []) C hN hSW dL_learns_211 (w_worst l D Z A σ52  Xt (fun _ => 0) Kt nt Mt (nI 2) (nI 1) (nI 0) h52) (cwV 3 C.1.2.2.2.2 gL_learns_X6_worst rfl rfl rfl (by decide +kernel) ⟨Nat.le_of_ble_eq_true rfl, Nat.le_of_ble_eq_true rfl⟩) [0, 1, 2, 3, 4, 5, 6, 7, 8, 9, 10, 11, 12, 13, 14, 15, 16, 17, 18, 19, 20, 21] [] rfl rfl rfl (by decide) (by decide) (by decide) rfl rfl rfl rfl (Nat.le_of_ble_eq_true rfl) (Nat.le_of_ble_eq_true rfl) (Nat.le_of_ble_eq_true rfl) (fun r53 σ53 hr53 => ?_)
        rw [we20] at hr53
        obtain ⟨rfl, h53⟩ := hr53
        have h53 : absP σ53 Xt (fun _ => 0) Kt nt Mt := h53
        refine kw_w (w' := wC Z A σ53) rfl ?_
        refine kw_top (nI w20) rfl ?_
        refine kw_iload_n (pc := 214) C dL_learns_214 rfl 2 rfl ?_
        refine kw_icmp_gt (pc := 215) (tgt := 243) C dL_learns_215 (by decide) (fun h215 => False.elim (by have := (nc_gt (by omega) (by omega)).mp h215; omega)) (fun h215 => ?_)
        refine kw_aload_n (pc := 218) C dL_learns_218 rfl 1 rfl ?_
        refine kw_iconst (pc := 219) C dL_learns_219 (nI 2) (by decide) ?_
        refine kw_iconst (pc := 220) C dL_learns_220 (nI 1) (by decide) ?_
        refine kw_iconst (pc := 221) C dL_learns_221 (nI 1) (by decide) ?_
        refine kw_calli (pc := 222) (wv := wC Z A) (wr := []) C hN hSW dL_learns_222 (w_worst l D Z A σ53  Xt (fun _ => 0) Kt nt Mt (nI 2) (nI 1) (nI 1) h53) (cwV 3 C.1.2.2.2.2 gL_learns_X6_worst rfl rfl rfl (by decide +kernel) ⟨Nat.le_of_ble_eq_true rfl, Nat.le_of_ble_eq_true rfl⟩) [0, 1, 2, 3, 4, 5, 6, 7, 8, 9, 10, 11, 12, 13, 14, 15, 16, 17, 18, 19, 20, 21] [] rfl rfl rfl (by decide) (by decide) (by decide) rfl rfl rfl rfl (Nat.le_of_ble_eq_true rfl) (Nat.le_of_ble_eq_true rfl) (Nat.le_of_ble_eq_true rfl) (fun r54 σ54 hr54 => ?_)
        rw [we21] at hr54
        obtain ⟨rfl, h54⟩ := hr54
        have h54 : absP σ54 Xt (fun _ => 0) Kt nt Mt := h54
        refine kw_w (w' := wC Z A σ54) rfl ?_
        refine kw_top (nI w21) rfl ?_
        refine kw_iload_n (pc := 225) C dL_learns_225 rfl 2 rfl ?_
        refine kw_icmp_gt (pc := 226) (tgt := 243) C dL_learns_226 (by decide) (fun h226 => False.elim (by have := (nc_gt (by omega) (by omega)).mp h226; omega)) (fun h226 => ?_)
        refine kw_aload_n (pc := 229) C dL_learns_229 rfl 1 rfl ?_
        refine kw_iconst (pc := 230) C dL_learns_230 (nI 4) (by decide) ?_
        refine kw_calli (pc := 231) (wv := wC Z A) (wr := []) C hN hSW dL_learns_231 (w_state l D Z A σ54  Xt (fun _ => 0) Kt nt Mt (nI 4) h54) (cwV 1 C.1.2.2.2.2 gL_learns_X6_state rfl rfl rfl (by decide +kernel) ⟨Nat.le_of_ble_eq_true rfl, Nat.le_of_ble_eq_true rfl⟩) [0, 1, 2, 3, 4, 5, 6, 7, 8, 9, 10, 11, 12, 13, 14, 15, 16, 17, 18, 19, 20, 21] [] rfl rfl rfl (by decide) (by decide) (by decide) rfl rfl rfl rfl (Nat.le_of_ble_eq_true rfl) (Nat.le_of_ble_eq_true rfl) (Nat.le_of_ble_eq_true rfl) (fun r55 σ55 hr55 => ?_)
        rw [(saA_k (k := 4) (by omega)).trans (congrArg Sum.inl e43)] at hr55
        obtain ⟨rfl, h55⟩ := hr55
        refine kw_w (w' := wC Z A σ55) rfl ?_
        refine kw_top (nI 40) rfl ?_
        refine kw_bipush (pc := 234) C dL_learns_234 (nI 40) (by decide) ?_
        refine kw_icmp_ne (pc := 236) (tgt := 243) C dL_learns_236 (by decide) (fun h => False.elim (by revert h; decide)) (fun _ => ?_)
        refine kw_iconst (pc := 239) C dL_learns_239 (nI 1) (by decide) ?_
        refine kw_goto (pc := 240) (tgt := 244) C dL_learns_240 (by decide) ?_
        exact hret _ _ _ dL_learns_244
      · -- 128 f
        have h128 : ¬ (20 ≤ k) := fun qq => h128 ((nc_ge (a := k) (b := 20) (by omega) (by omega)).mpr qq)
        refine kw_iload_n (pc := 131) C dL_learns_131 rfl 3 rfl ?_
        refine kw_if_eq (pc := 132) (tgt := 181) C dL_learns_132 (by decide) (fun h => False.elim (by revert h; decide)) (fun _ => ?_)
        refine kw_aload_n (pc := 135) C dL_learns_135 rfl 1 rfl ?_
        refine kw_sipush (pc := 136) C dL_learns_136 (nI 300) (by decide) ?_
        refine kw_bipush (pc := 139) C dL_learns_139 (nI 12) (by decide) ?_
        obtain ⟨ea56, hl56, hv⟩ := lq_d1 hl (by omega) (by omega) (by omega) p3 p4 (by omega)
        refine kw_calli (pc := 141) (wv := wC Z A) (wr := []) C hN hSW dL_learns_141 (w_drives l D Z A σt  Xt (fun _ => 0) Kt nt Mt (nI 300) (nI 12) ht) (cwV 2 C.1.2.2.2.2 gL_learns_X6_drives rfl rfl rfl (by decide +kernel) ⟨Nat.le_of_ble_eq_true rfl, Nat.le_of_ble_eq_true rfl⟩) [0, 1, 2, 3, 4, 5, 6, 7, 8, 9, 10, 11, 12, 13, 14, 15, 16, 17, 18, 19, 20, 21] [] rfl rfl rfl (by decide) (by decide) (by decide) rfl rfl rfl rfl (Nat.le_of_ble_eq_true rfl) (Nat.le_of_ble_eq_true rfl) (Nat.le_of_ble_eq_true rfl) (fun r56 σ56 hr56 => ?_)
        obtain ⟨rfl, h56⟩ := chP_ok (v := nI 2) hr56 ea56 (nI_pos' (by decide)) rfl
        generalize hX56 : oX Xt 7 (nI 300) (nI 12) = X56 at *
        refine kw_w (w' := wC Z A σ56) rfl ?_
        refine kw_iconst (pc := 144) C dL_learns_144 (nI 2) (by decide) ?_
        refine kw_icmp_ne (pc := 145) (tgt := 173) C dL_learns_145 (by decide) (fun h => False.elim (by revert h; decide)) (fun _ => ?_)
        refine kw_aload_n (pc := 148) C dL_learns_148 rfl 1 rfl ?_
        refine kw_iconst (pc := 149) C dL_learns_149 (nI 0) (by decide) ?_
        refine kw_iconst (pc := 150) C dL_learns_150 (nI 1) (by decide) ?_
        obtain ⟨ea57, hl57⟩ := lq_d2 hl56 hv (by omega) (by omega) (by omega) (by omega) p1 p2 (by omega)
        refine kw_calli (pc := 151) (wv := wC Z A) (wr := []) C hN hSW dL_learns_151 (w_drives l D Z A σ56  X56 (fun _ => 0) (psh Kt nt Xt) (min (nt + 1) 5) (Mt + 60) (nI 0) (nI 1) h56) (cwV 2 C.1.2.2.2.2 gL_learns_X6_drives rfl rfl rfl (by decide +kernel) ⟨Nat.le_of_ble_eq_true rfl, Nat.le_of_ble_eq_true rfl⟩) [0, 1, 2, 3, 4, 5, 6, 7, 8, 9, 10, 11, 12, 13, 14, 15, 16, 17, 18, 19, 20, 21] [] rfl rfl rfl (by decide) (by decide) (by decide) rfl rfl rfl rfl (Nat.le_of_ble_eq_true rfl) (Nat.le_of_ble_eq_true rfl) (Nat.le_of_ble_eq_true rfl) (fun r57 σ57 hr57 => ?_)
        obtain ⟨rfl, h57⟩ := chP_ok (v := nI 1) hr57 ea57 (nI_pos' (by decide)) rfl
        generalize hX57 : oX X56 7 (nI 0) (nI 1) = X57 at *
        refine kw_w (w' := wC Z A σ57) rfl ?_
        refine kw_iconst (pc := 154) C dL_learns_154 (nI 1) (by decide) ?_
        refine kw_icmp_ne (pc := 155) (tgt := 173) C dL_learns_155 (by decide) (fun h => False.elim (by revert h; decide)) (fun _ => ?_)
        refine kw_aload_n (pc := 158) C dL_learns_158 rfl 1 rfl ?_
        refine kw_iconst (pc := 159) C dL_learns_159 (nI 0) (by decide) ?_
        refine kw_bipush (pc := 160) C dL_learns_160 (nI 11) (by decide) ?_
        obtain ⟨ea58, hl58⟩ := lq_d3 hl57
        refine kw_calli (pc := 162) (wv := wC Z A) (wr := []) C hN hSW dL_learns_162 (w_drives l D Z A σ57  X57 (fun _ => 0) (psh (psh Kt nt Xt) (min (nt + 1) 5) X56) (min ((min (nt + 1) 5) + 1) 5) ((Mt + 60) + 60) (nI 0) (nI 11) h57) (cwV 2 C.1.2.2.2.2 gL_learns_X6_drives rfl rfl rfl (by decide +kernel) ⟨Nat.le_of_ble_eq_true rfl, Nat.le_of_ble_eq_true rfl⟩) [0, 1, 2, 3, 4, 5, 6, 7, 8, 9, 10, 11, 12, 13, 14, 15, 16, 17, 18, 19, 20, 21] [] rfl rfl rfl (by decide) (by decide) (by decide) rfl rfl rfl rfl (Nat.le_of_ble_eq_true rfl) (Nat.le_of_ble_eq_true rfl) (Nat.le_of_ble_eq_true rfl) (fun r58 σ58 hr58 => ?_)
        obtain ⟨rfl, h58⟩ := chP_ok (v := nI 1) hr58 ea58 (nI_pos' (by decide)) rfl
        generalize hX58 : oX X57 7 (nI 0) (nI 11) = X58 at *
        refine kw_w (w' := wC Z A σ58) rfl ?_
        refine kw_iconst (pc := 165) C dL_learns_165 (nI 1) (by decide) ?_
        refine kw_icmp_ne (pc := 166) (tgt := 173) C dL_learns_166 (by decide) (fun h => False.elim (by revert h; decide)) (fun _ => ?_)
        refine kw_iconst (pc := 169) C dL_learns_169 (nI 1) (by decide) ?_
        refine kw_goto (pc := 170) (tgt := 174) C dL_learns_170 (by decide) ?_
        refine kw_istore_n (pc := 174) C dL_learns_174 rfl (by decide) (lv' := [(3, .int (nI 1)), (0, .int (x)), (1, .ref (A 0)), (2, .int (nI lim)), (4, .int (nI k))]) rfl ?_
        refine kw_iinc (pc := 175) C dL_learns_175 4 rfl (nI (k + 1)) (nI_inc _ 1) (by decide) (lv' := [(4, .int (nI (k + 1))), (3, .int (nI 1)), (0, .int (x)), (1, .ref (A 0)), (2, .int (nI lim))]) rfl ?_
        refine kw_goto (pc := 178) (tgt := 124) C dL_learns_178 (by decide) ?_
        refine kw_lv (lv' := [(0, .int (x)), (1, .ref (A 0)), (2, .int (nI lim)), (3, .int (nI 1)), (4, .int (nI (k + 1)))]) [2, 3, 4, 1, 0] rfl ?_
        exact ih (k + 1) _ _ _ _ _ (by omega) (by omega) h58 (by rw [show 24 * (k + 1) = 24 * k + 12 + 1 + 11 by omega, show 2 * (k + 1) = 2 * k + 1 + 1 by omega]; exact hl58)
  refine kw_lv (lv' := [(0, .int (x)), (1, .ref (A 0)), (2, .int (nI lim)), (3, .int (nI 1)), (4, .int (nI 0))]) [4, 3, 2, 1, 0] rfl ?_
  exact L124 21 0 _ _ _ _ _ (by omega) (by omega) h11 (rowL7_lq _ _ _ _)
