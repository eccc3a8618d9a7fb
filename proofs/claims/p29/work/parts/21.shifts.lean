set_option maxHeartbeats 4000000 in
set_option maxRecDepth 100000 in
theorem c_X3_overAt (l : Launch) (D : va_G) (Z : CZ) (A : Nat → Nat) (σ : St)  (c : Nat) (t : Nat) (hR : 0 < σ 1 49) (hc : c < 5) : CTi l yX3_overAt wsX3_overAt 1 20 D Z (wC Z A) σ [.ref (A 6), .int (nI c), .int (nI t)] (fun r σ' => r = ovN (σ 1) c t ∧ σ' = σ) := by
  refine CTi.mk (cc := cX3_overAt) (nL := 8) (own := RX3) rfl (by decide) rfl (Nat.le_of_ble_eq_true rfl) ?_
  intro p0 e0 s0 m0 g0 b0 t0 c0 A0 Q C hret
  refine cw_lv (lv' := [(0, .ref (A 6)), (1, .int (nI c)), (2, .int (nI t))]) [0, 1, 2] rfl ?_
  refine cw_iload_n (pc := 0) C dX3_overAt_0 rfl 1 rfl ?_
  refine cw_calln (pc := 1) C dX3_overAt_1 (c_X6_isClutch l D Z A σ (nI c)) (va_cnB 1 C.1.2.2.2.2 gX3_overAt_X6_isClutch_n15 rfl rfl rfl C.2.2.1.2.2.2.1 (C.1.2.2.2.2 _ (List.mem_of_getElem? (i := 10) rfl)) (by decide +kernel) ⟨Nat.le_of_ble_eq_true rfl, Nat.le_of_ble_eq_true rfl⟩) (List.mem_of_getElem? (i := 9) rfl) rfl rfl (Nat.le_of_ble_eq_true rfl) (cw_purez (b := clB (nI c)) (fun _ _ h => h) ?_)
  refine cw_if_ne (pc := 4) (tgt := 9) C dX3_overAt_4 (by decide) (fun h4 => ?_) (fun h4 => absurd h4 (by rw [clB_N (by omega), decide_eq_true hc]; decide))
  refine cw_iconst (pc := 9) C dX3_overAt_9 (nI 1) (by decide) ?_
  refine cw_aload_n (pc := 10) C dX3_overAt_10 rfl 0 rfl ?_
  refine cw_get (pc := 11) C dX3_overAt_11 6 (v := .ref (A 1)) rfl rfl 0 rfl (fun _ h => List.mem_cons_of_mem _ (List.mem_append_right _ h)) (by decide) (List.mem_of_getElem? (i := 1) rfl) ?_
  refine cw_bipush (pc := 14) C dX3_overAt_14 (nI 49) (by decide) ?_
  refine cw_iald2 (pc := 16) C dX3_overAt_16 1 1 (wC_g1 Z A) (f := σ 1) rfl 49 rfl (by decide) (by decide) ?_
  refine cw_max (pc := 17) C dX3_overAt_17 (List.mem_of_getElem? (i := 2) rfl) (List.mem_of_getElem? (i := 3) rfl) (List.mem_of_getElem? (i := 4) rfl) (List.mem_of_getElem? (i := 5) rfl) (by decide) (Nat.le_of_ble_eq_true rfl) ?_
  refine cw_top (σ 1 49) (ramp_max hR) ?_
  refine cw_istore_n (pc := 20) C dX3_overAt_20 rfl (by decide) (lv' := [(3, .int (σ 1 49)), (0, .ref (A 6)), (1, .int (nI c)), (2, .int (nI t))]) rfl ?_
  refine cw_sipush (pc := 21) C dX3_overAt_21 (nI 1000) (by decide) ?_
  refine cw_iload_n (pc := 24) C dX3_overAt_24 rfl 3 rfl ?_
  refine cw_aload_n (pc := 25) C dX3_overAt_25 rfl 1 rfl ?_
  refine cw_get (pc := 26) C dX3_overAt_26 6 (v := .ref (A 1)) rfl rfl 0 rfl (fun _ h => List.mem_cons_of_mem _ (List.mem_append_right _ h)) (by decide) (List.mem_of_getElem? (i := 1) rfl) ?_
  refine cw_bipush (pc := 29) C dX3_overAt_29 (nI 29) (by decide) ?_
  refine cw_iload_n (pc := 31) C dX3_overAt_31 rfl 2 rfl ?_
  refine cw_iadd (pc := 32) C dX3_overAt_32 (z := nI (29 + c)) (nI_add _ _) ?_
  refine cw_iald2 (pc := 33) C dX3_overAt_33 1 1 (wC_g1 Z A) (f := σ 1) rfl (29 + c) rfl (by omega) (by decide) ?_
  refine cw_isub (pc := 34) C dX3_overAt_34 (z := (nI t) - (σ 1 (29 + c))) rfl ?_
  refine cw_imul (pc := 35) C dX3_overAt_35 (z := (nI 1000) * ((nI t) - (σ 1 (29 + c)))) rfl ?_
  refine cw_iload_n (pc := 36) C dX3_overAt_36 rfl 0 rfl ?_
  refine cw_idiv (pc := 37) C dX3_overAt_37 (pos_ne hR) (z := ((nI 1000) * ((nI t) - (σ 1 (29 + c)))) / (σ 1 49)) rfl ?_
  refine cw_istore (pc := 38) C dX3_overAt_38 (by decide) (lv' := [(4, .int (((nI 1000) * ((nI t) - (σ 1 (29 + c)))) / (σ 1 49))), (3, .int (σ 1 49)), (0, .ref (A 6)), (1, .int (nI c)), (2, .int (nI t))]) rfl ?_
  refine cw_sipush (pc := 40) C dX3_overAt_40 (nI 1000) (by decide) ?_
  refine cw_iload_n (pc := 43) C dX3_overAt_43 rfl 4 rfl ?_
  refine cw_aload_n (pc := 44) C dX3_overAt_44 rfl 2 rfl ?_
  refine cw_get (pc := 45) C dX3_overAt_45 6 (v := .ref (A 1)) rfl rfl 0 rfl (fun _ h => List.mem_cons_of_mem _ (List.mem_append_right _ h)) (by decide) (List.mem_of_getElem? (i := 1) rfl) ?_
  refine cw_bipush (pc := 48) C dX3_overAt_48 (nI 34) (by decide) ?_
  refine cw_iload_n (pc := 50) C dX3_overAt_50 rfl 3 rfl ?_
  refine cw_iadd (pc := 51) C dX3_overAt_51 (z := nI (34 + c)) (nI_add _ _) ?_
  refine cw_iald2 (pc := 52) C dX3_overAt_52 1 1 (wC_g1 Z A) (f := σ 1) rfl (34 + c) rfl (by omega) (by decide) ?_
  refine cw_isub (pc := 53) C dX3_overAt_53 (z := (nI t) - (σ 1 (34 + c))) rfl ?_
  refine cw_imul (pc := 54) C dX3_overAt_54 (z := (nI 1000) * ((nI t) - (σ 1 (34 + c)))) rfl ?_
  refine cw_iload_n (pc := 55) C dX3_overAt_55 rfl 1 rfl ?_
  refine cw_idiv (pc := 56) C dX3_overAt_56 (pos_ne hR) (z := ((nI 1000) * ((nI t) - (σ 1 (34 + c)))) / (σ 1 49)) rfl ?_
  refine cw_istore (pc := 57) C dX3_overAt_57 (by decide) (lv' := [(5, .int (((nI 1000) * ((nI t) - (σ 1 (34 + c)))) / (σ 1 49))), (4, .int (((nI 1000) * ((nI t) - (σ 1 (29 + c)))) / (σ 1 49))), (3, .int (σ 1 49)), (0, .ref (A 6)), (1, .int (nI c)), (2, .int (nI t))]) rfl ?_
  refine cw_sipush (pc := 59) C dX3_overAt_59 (nI 1000) (by decide) ?_
  refine cw_iconst (pc := 62) C dX3_overAt_62 (nI 0) (by decide) ?_
  refine cw_iload (pc := 63) C dX3_overAt_63 1 rfl ?_
  refine cw_max (pc := 65) C dX3_overAt_65 (List.mem_of_getElem? (i := 2) rfl) (List.mem_of_getElem? (i := 3) rfl) (List.mem_of_getElem? (i := 4) rfl) (List.mem_of_getElem? (i := 5) rfl) (by decide) (Nat.le_of_ble_eq_true rfl) ?_
  refine cw_min (pc := 68) C dX3_overAt_68 (List.mem_of_getElem? (i := 6) rfl) (List.mem_of_getElem? (i := 7) rfl) (List.mem_of_getElem? (i := 4) rfl) (List.mem_of_getElem? (i := 8) rfl) (by decide) (Nat.le_of_ble_eq_true rfl) ?_
  refine cw_top (shS (σ 1 49) (nI t - σ 1 (29 + c))) rfl ?_
  refine cw_istore (pc := 71) C dX3_overAt_71 (by decide) (lv' := [(6, .int (shS (σ 1 49) (nI t - σ 1 (29 + c)))), (5, .int (((nI 1000) * ((nI t) - (σ 1 (34 + c)))) / (σ 1 49))), (4, .int (((nI 1000) * ((nI t) - (σ 1 (29 + c)))) / (σ 1 49))), (3, .int (σ 1 49)), (0, .ref (A 6)), (1, .int (nI c)), (2, .int (nI t))]) rfl ?_
  refine cw_sipush (pc := 73) C dX3_overAt_73 (nI 1000) (by decide) ?_
  refine cw_sipush (pc := 76) C dX3_overAt_76 (nI 1000) (by decide) ?_
  refine cw_iconst (pc := 79) C dX3_overAt_79 (nI 0) (by decide) ?_
  refine cw_iload (pc := 80) C dX3_overAt_80 1 rfl ?_
  refine cw_max (pc := 82) C dX3_overAt_82 (List.mem_of_getElem? (i := 2) rfl) (List.mem_of_getElem? (i := 3) rfl) (List.mem_of_getElem? (i := 4) rfl) (List.mem_of_getElem? (i := 5) rfl) (by decide) (Nat.le_of_ble_eq_true rfl) ?_
  refine cw_min (pc := 85) C dX3_overAt_85 (List.mem_of_getElem? (i := 6) rfl) (List.mem_of_getElem? (i := 7) rfl) (List.mem_of_getElem? (i := 4) rfl) (List.mem_of_getElem? (i := 8) rfl) (by decide) (Nat.le_of_ble_eq_true rfl) ?_
  refine cw_top (shS (σ 1 49) (nI t - σ 1 (34 + c))) rfl ?_
  refine cw_isub (pc := 88) C dX3_overAt_88 (z := (nI 1000) - (shS (σ 1 49) (nI t - σ 1 (34 + c)))) rfl ?_
  refine cw_istore (pc := 89) C dX3_overAt_89 (by decide) (lv' := [(7, .int ((nI 1000) - (shS (σ 1 49) (nI t - σ 1 (34 + c))))), (6, .int (shS (σ 1 49) (nI t - σ 1 (29 + c)))), (5, .int (((nI 1000) * ((nI t) - (σ 1 (34 + c)))) / (σ 1 49))), (4, .int (((nI 1000) * ((nI t) - (σ 1 (29 + c)))) / (σ 1 49))), (3, .int (σ 1 49)), (0, .ref (A 6)), (1, .int (nI c)), (2, .int (nI t))]) rfl ?_
  refine cw_iload (pc := 91) C dX3_overAt_91 1 rfl ?_
  refine cw_iload (pc := 93) C dX3_overAt_93 0 rfl ?_
  refine cw_iadd (pc := 95) C dX3_overAt_95 (z := (shS (σ 1 49) (nI t - σ 1 (29 + c))) + ((nI 1000) - (shS (σ 1 49) (nI t - σ 1 (34 + c))))) rfl ?_
  refine cw_sipush (pc := 96) C dX3_overAt_96 (nI 1000) (by decide) ?_
  refine cw_isub (pc := 99) C dX3_overAt_99 (z := ovN (σ 1) c t) (ov_ring _ _) ?_
  refine hret (ovN (σ 1) c t) σ _ _ dX3_overAt_100 ?_
  clear hret
  exact ⟨rfl, rfl⟩
set_option maxHeartbeats 4000000 in
set_option maxRecDepth 100000 in
theorem c_X3_flare (l : Launch) (D : va_G) (Z : CZ) (A : Nat → Nat) (σ : St)  (c : Nat) (hR : 0 < σ 1 49) (hc : c < 5) : CTi l yX3_flare wsX3_flare 2 47 D Z (wC Z A) σ [.ref (A 6), .int (nI c)] (fun r σ' => r = flS (σ 1) c ∧ σ' = σ) := by
  refine CTi.mk (cc := cX3_flare) (nL := 4) (own := RX3) rfl (by decide) rfl (Nat.le_of_ble_eq_true rfl) ?_
  intro p0 e0 s0 m0 g0 b0 t0 c0 A0 Q C hret
  refine cw_lv (lv' := [(0, .ref (A 6)), (1, .int (nI c))]) [0, 1] rfl ?_
  refine cw_iconst (pc := 0) C dX3_flare_0 (nI 0) (by decide) ?_
  refine cw_istore_n (pc := 1) C dX3_flare_1 rfl (by decide) (lv' := [(2, .int (nI 0)), (0, .ref (A 6)), (1, .int (nI c))]) rfl ?_
  refine cw_iconst (pc := 2) C dX3_flare_2 (nI 0) (by decide) ?_
  refine cw_istore_n (pc := 3) C dX3_flare_3 rfl (by decide) (lv' := [(3, .int (nI 0)), (2, .int (nI 0)), (0, .ref (A 6)), (1, .int (nI c))]) rfl ?_
  have L4 : ∀ (n4 : Nat) (i : Nat) (acc : Int32) (hi : i ≤ 41) (hm : 41 < i + n4) (ha : acc = mnF (ovN (σ 1) c) i), CW p0 l e0 (rmC 2 47) s0 m0 g0 b0 t0 c0 D A0 4 (wC Z A) Q σ 4 [(0, .ref (A 6)), (1, .int (nI c)), (2, .int (acc)), (3, .int (nI i))] [] := by
    intro n4
    induction n4 with
    | zero => intro i acc hi hm ha; exact absurd hm (by omega)
    | succ n4 ih4 =>
      intro i acc hi hm ha
      refine cw_iload_n (pc := 4) C dX3_flare_4 rfl 3 rfl ?_
      refine cw_bipush (pc := 5) C dX3_flare_5 (nI 40) (by decide) ?_
      refine cw_icmp_gt (pc := 7) (tgt := 27) C dX3_flare_7 (by decide) (fun h7 => ?_) (fun h7 => ?_)
      · -- 7 t
        have h7 : 40 < i := (nc_gt (a := i) (b := 40) (by omega) (by omega)).mp h7
        obtain rfl : i = 41 := by omega
        refine cw_iload_n (pc := 27) C dX3_flare_27 rfl 2 rfl ?_
        refine cw_ineg (pc := 28) C dX3_flare_28 (z := -acc) rfl ?_
        refine hret (-acc) σ _ _ dX3_flare_29 ?_
        clear hret
        exact ⟨by rw [ha]; rfl, rfl⟩
      · -- 7 f
        have h7 : ¬ (40 < i) := fun qq => h7 ((nc_gt (a := i) (b := 40) (by omega) (by omega)).mpr qq)
        refine cw_iload_n (pc := 10) C dX3_flare_10 rfl 2 rfl ?_
        refine cw_aload_n (pc := 11) C dX3_flare_11 rfl 0 rfl ?_
        refine cw_iload_n (pc := 12) C dX3_flare_12 rfl 1 rfl ?_
        refine cw_iload_n (pc := 13) C dX3_flare_13 rfl 3 rfl ?_
        refine cw_calli (pc := 14) C dX3_flare_14 (c_X3_overAt l D Z A σ c i hR hc) (cwV 2 C.1.2.2.2.2 gX3_flare_X3_overAt rfl rfl rfl (by decide +kernel) ⟨Nat.le_of_ble_eq_true rfl, Nat.le_of_ble_eq_true rfl⟩) 6 rfl rfl rfl rfl (Nat.le_of_ble_eq_true rfl) (cw_pure (v := ovN (σ 1) c i) (fun _ _ h => h) ?_)
        refine cw_min (pc := 17) C dX3_flare_17 (List.mem_of_getElem? (i := 1) rfl) (List.mem_of_getElem? (i := 2) rfl) (List.mem_of_getElem? (i := 3) rfl) (List.mem_of_getElem? (i := 4) rfl) (by decide) (Nat.le_of_ble_eq_true rfl) ?_
        refine cw_istore_n (pc := 20) C dX3_flare_20 rfl (by decide) (lv' := [(2, .int (if (ovN (σ 1) c i) < acc then (ovN (σ 1) c i) else acc)), (0, .ref (A 6)), (1, .int (nI c)), (3, .int (nI i))]) rfl ?_
        refine cw_iinc (pc := 21) C dX3_flare_21 3 rfl (nI (i + 1)) (nI_inc _ 1) (by decide) (lv' := [(3, .int (nI (i + 1))), (2, .int (if (ovN (σ 1) c i) < acc then (ovN (σ 1) c i) else acc)), (0, .ref (A 6)), (1, .int (nI c))]) rfl ?_
        refine cw_goto (pc := 24) (tgt := 4) C dX3_flare_24 (by decide) ?_
        refine cw_lv [2, 3, 1, 0] rfl ?_
        exact ih4 (i + 1) (if (ovN (σ 1) c i) < acc then (ovN (σ 1) c i) else acc) (by omega) (by omega) (by rw [mnF, ha])
  refine cw_lv [2, 3, 1, 0] rfl ?_
  exact L4 42 0 (nI 0) (by omega) (by omega) rfl
set_option maxHeartbeats 4000000 in
set_option maxRecDepth 100000 in
theorem c_X3_bind (l : Launch) (D : va_G) (Z : CZ) (A : Nat → Nat) (σ : St)  (c : Nat) (hR : 0 < σ 1 49) (hc : c < 5) : CTi l yX3_bind wsX3_bind 2 47 D Z (wC Z A) σ [.ref (A 6), .int (nI c)] (fun r σ' => r = bdS (σ 1) c ∧ σ' = σ) := by
  refine CTi.mk (cc := cX3_bind) (nL := 4) (own := RX3) rfl (by decide) rfl (Nat.le_of_ble_eq_true rfl) ?_
  intro p0 e0 s0 m0 g0 b0 t0 c0 A0 Q C hret
  refine cw_lv (lv' := [(0, .ref (A 6)), (1, .int (nI c))]) [0, 1] rfl ?_
  refine cw_iconst (pc := 0) C dX3_bind_0 (nI 0) (by decide) ?_
  refine cw_istore_n (pc := 1) C dX3_bind_1 rfl (by decide) (lv' := [(2, .int (nI 0)), (0, .ref (A 6)), (1, .int (nI c))]) rfl ?_
  refine cw_iconst (pc := 2) C dX3_bind_2 (nI 0) (by decide) ?_
  refine cw_istore_n (pc := 3) C dX3_bind_3 rfl (by decide) (lv' := [(3, .int (nI 0)), (2, .int (nI 0)), (0, .ref (A 6)), (1, .int (nI c))]) rfl ?_
  have L4 : ∀ (n4 : Nat) (i : Nat) (acc : Int32) (hi : i ≤ 41) (hm : 41 < i + n4) (ha : acc = mxF (ovN (σ 1) c) i), CW p0 l e0 (rmC 2 47) s0 m0 g0 b0 t0 c0 D A0 4 (wC Z A) Q σ 4 [(0, .ref (A 6)), (1, .int (nI c)), (2, .int (acc)), (3, .int (nI i))] [] := by
    intro n4
    induction n4 with
    | zero => intro i acc hi hm ha; exact absurd hm (by omega)
    | succ n4 ih4 =>
      intro i acc hi hm ha
      refine cw_iload_n (pc := 4) C dX3_bind_4 rfl 3 rfl ?_
      refine cw_bipush (pc := 5) C dX3_bind_5 (nI 40) (by decide) ?_
      refine cw_icmp_gt (pc := 7) (tgt := 27) C dX3_bind_7 (by decide) (fun h7 => ?_) (fun h7 => ?_)
      · -- 7 t
        have h7 : 40 < i := (nc_gt (a := i) (b := 40) (by omega) (by omega)).mp h7
        obtain rfl : i = 41 := by omega
        refine cw_iload_n (pc := 27) C dX3_bind_27 rfl 2 rfl ?_
        refine hret acc σ _ _ dX3_bind_28 ?_
        clear hret
        exact ⟨by rw [ha]; rfl, rfl⟩
      · -- 7 f
        have h7 : ¬ (40 < i) := fun qq => h7 ((nc_gt (a := i) (b := 40) (by omega) (by omega)).mpr qq)
        refine cw_iload_n (pc := 10) C dX3_bind_10 rfl 2 rfl ?_
        refine cw_aload_n (pc := 11) C dX3_bind_11 rfl 0 rfl ?_
        refine cw_iload_n (pc := 12) C dX3_bind_12 rfl 1 rfl ?_
        refine cw_iload_n (pc := 13) C dX3_bind_13 rfl 3 rfl ?_
        refine cw_calli (pc := 14) C dX3_bind_14 (c_X3_overAt l D Z A σ c i hR hc) (cwV 2 C.1.2.2.2.2 gX3_bind_X3_overAt rfl rfl rfl (by decide +kernel) ⟨Nat.le_of_ble_eq_true rfl, Nat.le_of_ble_eq_true rfl⟩) 6 rfl rfl rfl rfl (Nat.le_of_ble_eq_true rfl) (cw_pure (v := ovN (σ 1) c i) (fun _ _ h => h) ?_)
        refine cw_max (pc := 17) C dX3_bind_17 (List.mem_of_getElem? (i := 1) rfl) (List.mem_of_getElem? (i := 2) rfl) (List.mem_of_getElem? (i := 3) rfl) (List.mem_of_getElem? (i := 4) rfl) (by decide) (Nat.le_of_ble_eq_true rfl) ?_
        refine cw_istore_n (pc := 20) C dX3_bind_20 rfl (by decide) (lv' := [(2, .int (if acc < (ovN (σ 1) c i) then (ovN (σ 1) c i) else acc)), (0, .ref (A 6)), (1, .int (nI c)), (3, .int (nI i))]) rfl ?_
        refine cw_iinc (pc := 21) C dX3_bind_21 3 rfl (nI (i + 1)) (nI_inc _ 1) (by decide) (lv' := [(3, .int (nI (i + 1))), (2, .int (if acc < (ovN (σ 1) c i) then (ovN (σ 1) c i) else acc)), (0, .ref (A 6)), (1, .int (nI c))]) rfl ?_
        refine cw_goto (pc := 24) (tgt := 4) C dX3_bind_24 (by decide) ?_
        refine cw_lv [2, 3, 1, 0] rfl ?_
        exact ih4 (i + 1) (if acc < (ovN (σ 1) c i) then (ovN (σ 1) c i) else acc) (by omega) (by omega) (by rw [mxF, ha])
  refine cw_lv [2, 3, 1, 0] rfl ?_
  exact L4 42 0 (nI 0) (by omega) (by omega) rfl
set_option maxHeartbeats 4000000 in
set_option maxRecDepth 100000 in
theorem c_X3_learn (l : Launch) (D : va_G) (Z : CZ) (A : Nat → Nat) (σ : St)  (c : Nat) (hR : 0 < σ 1 49) (hc : c < 5) : CTv l yX3_learn wsX3_learn 3 70 D Z (wC Z A) σ [.ref (A 6), .int (nI c)] (fun σ' => σ' = up2 σ 1 (lrnS (σ 1) c)) := by
  refine CTv.mk (cc := cX3_learn) (nL := 2) (own := RX3) rfl (by decide) rfl (Nat.le_of_ble_eq_true rfl) ?_
  intro p0 e0 s0 m0 g0 b0 t0 c0 A0 Q C hret
  refine cw_lv (lv' := [(0, .ref (A 6)), (1, .int (nI c))]) [0, 1] rfl ?_
  refine cw_iload_n (pc := 0) C dX3_learn_0 rfl 1 rfl ?_
  refine cw_calln (pc := 1) C dX3_learn_1 (c_X6_isClutch l D Z A σ (nI c)) (va_cnB 1 C.1.2.2.2.2 gX3_learn_X6_isClutch_n15 rfl rfl rfl C.2.2.1.2.2.2.1 (C.1.2.2.2.2 _ (List.mem_of_getElem? (i := 10) rfl)) (by decide +kernel) ⟨Nat.le_of_ble_eq_true rfl, Nat.le_of_ble_eq_true rfl⟩) (List.mem_of_getElem? (i := 9) rfl) rfl rfl (Nat.le_of_ble_eq_true rfl) (cw_purez (b := clB (nI c)) (fun _ _ h => h) ?_)
  refine cw_if_ne (pc := 4) (tgt := 8) C dX3_learn_4 (by decide) (fun h4 => ?_) (fun h4 => absurd h4 (by rw [clB_N (by omega), decide_eq_true hc]; decide))
  refine cw_aload_n (pc := 8) C dX3_learn_8 rfl 0 rfl ?_
  refine cw_get (pc := 9) C dX3_learn_9 6 (v := .ref (A 1)) rfl rfl 0 rfl (fun _ h => List.mem_cons_of_mem _ (List.mem_append_right _ h)) (by decide) (List.mem_of_getElem? (i := 1) rfl) ?_
  refine cw_bipush (pc := 12) C dX3_learn_12 (nI 43) (by decide) ?_
  refine cw_dup2 (pc := 14) C dX3_learn_14 rfl rfl ?_
  refine cw_iald2 (pc := 15) C dX3_learn_15 1 1 (wC_g1 Z A) (f := σ 1) rfl 43 rfl (by decide) (by decide) ?_
  refine cw_iconst (pc := 16) C dX3_learn_16 (nI 1) (by decide) ?_
  refine cw_iadd (pc := 17) C dX3_learn_17 (z := (σ 1 43) + (nI 1)) rfl ?_
  refine cw_iast2 (pc := 18) C dX3_learn_18 1 1 (wC_g1 Z A) (wC_s1 Z A) (f := σ 1) rfl 43 rfl (by decide) (by decide) (up2 σ 1 (upd (σ 1) 43 ((σ 1 43) + (nI 1)))) rfl ?_
  refine cw_aload_n (pc := 19) C dX3_learn_19 rfl 0 rfl ?_
  refine cw_iload_n (pc := 20) C dX3_learn_20 rfl 1 rfl ?_
  have hf1 : (up2 σ 1 (upd (σ 1) 43 ((σ 1 43) + (nI 1)))) 1 = upd (σ 1) 43 ((σ 1 43) + (nI 1)) := (up2_eq _ _ _)
  have ev0 := congrArg (fun qz => flS qz c) hf1
  refine cw_calli (pc := 21) C dX3_learn_21 (c_X3_flare l D Z A (up2 σ 1 (upd (σ 1) 43 ((σ 1 43) + (nI 1)))) c hR hc) (cwV 1 C.1.2.2.2.2 gX3_learn_X3_flare rfl rfl rfl (by decide +kernel) ⟨Nat.le_of_ble_eq_true rfl, Nat.le_of_ble_eq_true rfl⟩) 6 rfl rfl rfl rfl (Nat.le_of_ble_eq_true rfl) (cw_pure (v := flS (upd (σ 1) 43 ((σ 1 43) + (nI 1))) c) (fun _ _ h => ⟨h.1.trans (ev0), h.2⟩) ?_)
  refine cw_aload_n (pc := 24) C dX3_learn_24 rfl 0 rfl ?_
  refine cw_get (pc := 25) C dX3_learn_25 6 (v := .ref (A 1)) rfl rfl 0 rfl (fun _ h => List.mem_cons_of_mem _ (List.mem_append_right _ h)) (by decide) (List.mem_of_getElem? (i := 1) rfl) ?_
  refine cw_bipush (pc := 28) C dX3_learn_28 (nI 50) (by decide) ?_
  refine cw_iald2 (pc := 30) C dX3_learn_30 1 1 (wC_g1 Z A) (f := upd (σ 1) 43 ((σ 1 43) + (nI 1))) (up2_eq _ _ _) 50 rfl (by decide) (by decide) ?_
  refine cw_icmp_le (pc := 31) (tgt := 73) C dX3_learn_31 (by decide) (fun h31 => ?_) (fun h31 => ?_)
  · -- 31 t
    refine cw_aload_n (pc := 73) C dX3_learn_73 rfl 0 rfl ?_
    refine cw_iload_n (pc := 74) C dX3_learn_74 rfl 1 rfl ?_
    have hf1 : (up2 σ 1 (upd (σ 1) 43 ((σ 1 43) + (nI 1)))) 1 = upd (σ 1) 43 ((σ 1 43) + (nI 1)) := (up2_eq _ _ _)
    have ev0 := congrArg (fun qz => bdS qz c) hf1
    refine cw_calli (pc := 75) C dX3_learn_75 (c_X3_bind l D Z A (up2 σ 1 (upd (σ 1) 43 ((σ 1 43) + (nI 1)))) c hR hc) (cwV 1 C.1.2.2.2.2 gX3_learn_X3_bind rfl rfl rfl (by decide +kernel) ⟨Nat.le_of_ble_eq_true rfl, Nat.le_of_ble_eq_true rfl⟩) 6 rfl rfl rfl rfl (Nat.le_of_ble_eq_true rfl) (cw_pure (v := bdS (upd (σ 1) 43 ((σ 1 43) + (nI 1))) c) (fun _ _ h => ⟨h.1.trans (ev0), h.2⟩) ?_)
    refine cw_aload_n (pc := 78) C dX3_learn_78 rfl 0 rfl ?_
    refine cw_get (pc := 79) C dX3_learn_79 6 (v := .ref (A 1)) rfl rfl 0 rfl (fun _ h => List.mem_cons_of_mem _ (List.mem_append_right _ h)) (by decide) (List.mem_of_getElem? (i := 1) rfl) ?_
    refine cw_bipush (pc := 82) C dX3_learn_82 (nI 50) (by decide) ?_
    refine cw_iald2 (pc := 84) C dX3_learn_84 1 1 (wC_g1 Z A) (f := upd (σ 1) 43 ((σ 1 43) + (nI 1))) (up2_eq _ _ _) 50 rfl (by decide) (by decide) ?_
    refine cw_icmp_le (pc := 85) (tgt := 123) C dX3_learn_85 (by decide) (fun h85 => ?_) (fun h85 => ?_)
    · -- 85 t
      refine hret (up2 σ 1 (upd (σ 1) 43 ((σ 1 43) + (nI 1)))) _ _ dX3_learn_123 ?_
      clear hret
      refine congrArg (up2 σ 1) ?_
      rw [lrnS, lrnA]
      rw [if_neg (Int32.not_lt.mpr h31), if_neg (Int32.not_lt.mpr h85)]
    · -- 85 f
      refine cw_aload_n (pc := 88) C dX3_learn_88 rfl 0 rfl ?_
      refine cw_get (pc := 89) C dX3_learn_89 6 (v := .ref (A 1)) rfl rfl 0 rfl (fun _ h => List.mem_cons_of_mem _ (List.mem_append_right _ h)) (by decide) (List.mem_of_getElem? (i := 1) rfl) ?_
      refine cw_bipush (pc := 92) C dX3_learn_92 (nI 45) (by decide) ?_
      refine cw_dup2 (pc := 94) C dX3_learn_94 rfl rfl ?_
      refine cw_iald2 (pc := 95) C dX3_learn_95 1 1 (wC_g1 Z A) (f := upd (σ 1) 43 ((σ 1 43) + (nI 1))) (up2_eq _ _ _) 45 rfl (by decide) (by decide) ?_
      refine cw_iconst (pc := 96) C dX3_learn_96 (nI 1) (by decide) ?_
      refine cw_iadd (pc := 97) C dX3_learn_97 (z := ((σ 1) 45) + (nI 1)) rfl ?_
      refine cw_iast2 (pc := 98) C dX3_learn_98 1 1 (wC_g1 Z A) (wC_s1 Z A) (f := upd (σ 1) 43 ((σ 1 43) + (nI 1))) (up2_eq _ _ _) 45 rfl (by decide) (by decide) (up2 σ 1 (upd (upd (σ 1) 43 ((σ 1 43) + (nI 1))) 45 (((σ 1) 45) + (nI 1)))) (up2_up2 _ 1 _ _) ?_
      refine cw_aload_n (pc := 99) C dX3_learn_99 rfl 0 rfl ?_
      refine cw_get (pc := 100) C dX3_learn_100 6 (v := .ref (A 1)) rfl rfl 0 rfl (fun _ h => List.mem_cons_of_mem _ (List.mem_append_right _ h)) (by decide) (List.mem_of_getElem? (i := 1) rfl) ?_
      refine cw_bipush (pc := 103) C dX3_learn_103 (nI 34) (by decide) ?_
      refine cw_iload_n (pc := 105) C dX3_learn_105 rfl 1 rfl ?_
      refine cw_iadd (pc := 106) C dX3_learn_106 (z := nI (34 + c)) (nI_add _ _) ?_
      refine cw_iconst (pc := 107) C dX3_learn_107 (nI 1) (by decide) ?_
      refine cw_aload_n (pc := 108) C dX3_learn_108 rfl 0 rfl ?_
      refine cw_get (pc := 109) C dX3_learn_109 6 (v := .ref (A 1)) rfl rfl 0 rfl (fun _ h => List.mem_cons_of_mem _ (List.mem_append_right _ h)) (by decide) (List.mem_of_getElem? (i := 1) rfl) ?_
      refine cw_bipush (pc := 112) C dX3_learn_112 (nI 34) (by decide) ?_
      refine cw_iload_n (pc := 114) C dX3_learn_114 rfl 1 rfl ?_
      refine cw_iadd (pc := 115) C dX3_learn_115 (z := nI (34 + c)) (nI_add _ _) ?_
      refine cw_iald2 (pc := 116) C dX3_learn_116 1 1 (wC_g1 Z A) (f := upd (upd (σ 1) 43 ((σ 1 43) + (nI 1))) 45 (((σ 1) 45) + (nI 1))) (up2_eq _ _ _) (34 + c) rfl (by omega) (by decide) ?_
      refine cw_iconst (pc := 117) C dX3_learn_117 (nI 1) (by decide) ?_
      refine cw_isub (pc := 118) C dX3_learn_118 (z := ((upd (upd (σ 1) 43 ((σ 1 43) + (nI 1))) 45 (((σ 1) 45) + (nI 1))) (34 + c)) - (nI 1)) rfl ?_
      refine cw_max (pc := 119) C dX3_learn_119 (List.mem_of_getElem? (i := 6) rfl) (List.mem_of_getElem? (i := 7) rfl) (List.mem_of_getElem? (i := 4) rfl) (List.mem_of_getElem? (i := 8) rfl) (by decide) (Nat.le_of_ble_eq_true rfl) ?_
      refine cw_iast2 (pc := 122) C dX3_learn_122 1 1 (wC_g1 Z A) (wC_s1 Z A) (f := upd (upd (σ 1) 43 ((σ 1 43) + (nI 1))) 45 (((σ 1) 45) + (nI 1))) (up2_eq _ _ _) (34 + c) rfl (by omega) (by decide) (up2 σ 1 (upd (upd (upd (σ 1) 43 ((σ 1 43) + (nI 1))) 45 (((σ 1) 45) + (nI 1))) (34 + c) (if (nI 1) < (((upd (upd (σ 1) 43 ((σ 1 43) + (nI 1))) 45 (((σ 1) 45) + (nI 1))) (34 + c)) - (nI 1)) then (((upd (upd (σ 1) 43 ((σ 1 43) + (nI 1))) 45 (((σ 1) 45) + (nI 1))) (34 + c)) - (nI 1)) else (nI 1)))) (up2_up2 _ 1 _ _) ?_
      refine hret (up2 σ 1 (upd (upd (upd (σ 1) 43 ((σ 1 43) + (nI 1))) 45 (((σ 1) 45) + (nI 1))) (34 + c) (if (nI 1) < (((upd (upd (σ 1) 43 ((σ 1 43) + (nI 1))) 45 (((σ 1) 45) + (nI 1))) (34 + c)) - (nI 1)) then (((upd (upd (σ 1) 43 ((σ 1 43) + (nI 1))) 45 (((σ 1) 45) + (nI 1))) (34 + c)) - (nI 1)) else (nI 1)))) _ _ dX3_learn_123 ?_
      clear hret
      refine congrArg (up2 σ 1) ?_
      rw [lrnS, lrnA]
      rw [if_neg (Int32.not_lt.mpr h31), if_pos (Int32.not_le.mp h85)]
      rfl
  · -- 31 f
    refine cw_aload_n (pc := 34) C dX3_learn_34 rfl 0 rfl ?_
    refine cw_get (pc := 35) C dX3_learn_35 6 (v := .ref (A 1)) rfl rfl 0 rfl (fun _ h => List.mem_cons_of_mem _ (List.mem_append_right _ h)) (by decide) (List.mem_of_getElem? (i := 1) rfl) ?_
    refine cw_bipush (pc := 38) C dX3_learn_38 (nI 44) (by decide) ?_
    refine cw_dup2 (pc := 40) C dX3_learn_40 rfl rfl ?_
    refine cw_iald2 (pc := 41) C dX3_learn_41 1 1 (wC_g1 Z A) (f := upd (σ 1) 43 ((σ 1 43) + (nI 1))) (up2_eq _ _ _) 44 rfl (by decide) (by decide) ?_
    refine cw_iconst (pc := 42) C dX3_learn_42 (nI 1) (by decide) ?_
    refine cw_iadd (pc := 43) C dX3_learn_43 (z := ((σ 1) 44) + (nI 1)) rfl ?_
    refine cw_iast2 (pc := 44) C dX3_learn_44 1 1 (wC_g1 Z A) (wC_s1 Z A) (f := upd (σ 1) 43 ((σ 1 43) + (nI 1))) (up2_eq _ _ _) 44 rfl (by decide) (by decide) (up2 σ 1 (upd (upd (σ 1) 43 ((σ 1 43) + (nI 1))) 44 (((σ 1) 44) + (nI 1)))) (up2_up2 _ 1 _ _) ?_
    refine cw_aload_n (pc := 45) C dX3_learn_45 rfl 0 rfl ?_
    refine cw_get (pc := 46) C dX3_learn_46 6 (v := .ref (A 1)) rfl rfl 0 rfl (fun _ h => List.mem_cons_of_mem _ (List.mem_append_right _ h)) (by decide) (List.mem_of_getElem? (i := 1) rfl) ?_
    refine cw_bipush (pc := 49) C dX3_learn_49 (nI 34) (by decide) ?_
    refine cw_iload_n (pc := 51) C dX3_learn_51 rfl 1 rfl ?_
    refine cw_iadd (pc := 52) C dX3_learn_52 (z := nI (34 + c)) (nI_add _ _) ?_
    refine cw_bipush (pc := 53) C dX3_learn_53 (nI 20) (by decide) ?_
    refine cw_aload_n (pc := 55) C dX3_learn_55 rfl 0 rfl ?_
    refine cw_get (pc := 56) C dX3_learn_56 6 (v := .ref (A 1)) rfl rfl 0 rfl (fun _ h => List.mem_cons_of_mem _ (List.mem_append_right _ h)) (by decide) (List.mem_of_getElem? (i := 1) rfl) ?_
    refine cw_bipush (pc := 59) C dX3_learn_59 (nI 34) (by decide) ?_
    refine cw_iload_n (pc := 61) C dX3_learn_61 rfl 1 rfl ?_
    refine cw_iadd (pc := 62) C dX3_learn_62 (z := nI (34 + c)) (nI_add _ _) ?_
    refine cw_iald2 (pc := 63) C dX3_learn_63 1 1 (wC_g1 Z A) (f := upd (upd (σ 1) 43 ((σ 1 43) + (nI 1))) 44 (((σ 1) 44) + (nI 1))) (up2_eq _ _ _) (34 + c) rfl (by omega) (by decide) ?_
    refine cw_iconst (pc := 64) C dX3_learn_64 (nI 1) (by decide) ?_
    refine cw_iadd (pc := 65) C dX3_learn_65 (z := ((upd (upd (σ 1) 43 ((σ 1 43) + (nI 1))) 44 (((σ 1) 44) + (nI 1))) (34 + c)) + (nI 1)) rfl ?_
    refine cw_min (pc := 66) C dX3_learn_66 (List.mem_of_getElem? (i := 2) rfl) (List.mem_of_getElem? (i := 3) rfl) (List.mem_of_getElem? (i := 4) rfl) (List.mem_of_getElem? (i := 5) rfl) (by decide) (Nat.le_of_ble_eq_true rfl) ?_
    refine cw_iast2 (pc := 69) C dX3_learn_69 1 1 (wC_g1 Z A) (wC_s1 Z A) (f := upd (upd (σ 1) 43 ((σ 1 43) + (nI 1))) 44 (((σ 1) 44) + (nI 1))) (up2_eq _ _ _) (34 + c) rfl (by omega) (by decide) (up2 σ 1 (upd (upd (upd (σ 1) 43 ((σ 1 43) + (nI 1))) 44 (((σ 1) 44) + (nI 1))) (34 + c) (if (((upd (upd (σ 1) 43 ((σ 1 43) + (nI 1))) 44 (((σ 1) 44) + (nI 1))) (34 + c)) + (nI 1)) < (nI 20) then (((upd (upd (σ 1) 43 ((σ 1 43) + (nI 1))) 44 (((σ 1) 44) + (nI 1))) (34 + c)) + (nI 1)) else (nI 20)))) (up2_up2 _ 1 _ _) ?_
    refine cw_goto (pc := 70) (tgt := 123) C dX3_learn_70 (by decide) ?_
    refine hret (up2 σ 1 (upd (upd (upd (σ 1) 43 ((σ 1 43) + (nI 1))) 44 (((σ 1) 44) + (nI 1))) (34 + c) (if (((upd (upd (σ 1) 43 ((σ 1 43) + (nI 1))) 44 (((σ 1) 44) + (nI 1))) (34 + c)) + (nI 1)) < (nI 20) then (((upd (upd (σ 1) 43 ((σ 1 43) + (nI 1))) 44 (((σ 1) 44) + (nI 1))) (34 + c)) + (nI 1)) else (nI 20)))) _ _ dX3_learn_123 ?_
    clear hret
    refine congrArg (up2 σ 1) ?_
    rw [lrnS, lrnA]
    rw [if_pos (Int32.not_le.mp h31)]
    rfl
