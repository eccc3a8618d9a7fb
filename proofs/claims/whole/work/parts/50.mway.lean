set_option maxHeartbeats 4000000 in
set_option maxRecDepth 100000 in
theorem c_X7_way (l : Launch) (D : va_G) (Z : CZ) (A : Nat → Nat) (σ : St) (X F : Nat → Int32) (ck co : Int32) (K : Nat → Nat → Int32) (nn : Nat) (B : Nat → Int32) (L : Nat) (g : Int32) (k : Int32) (i : Int32) (ha : absM σ X F ck co K nn B L) (hO : rowOK X) : CTi l yX7_way wsX7_way 3 74 D Z (wM Z A) σ [.ref (A 0), .int (g), .int (k), .int (i)] (fun r σ' => r = ansV (wyA X g k i) ∧ absM σ' X (ansF F (wyA X g k i)) ck co K nn B L) := by
  refine CTi.mk (cc := cX7_way) (nL := 4) (own := RX7) rfl (by decide) rfl (Nat.le_of_ble_eq_true rfl) ?_
  intro p0 e0 s0 m0 g0 b0 t0 c0 A0 Q C hret
  have hT := ha.1
  refine cw_lv (lv' := [(0, .ref (A 0)), (1, .int (g)), (2, .int (k)), (3, .int (i))]) [0, 1, 2, 3] rfl ?_
  refine cw_iload_n (pc := 0) C dX7_way_0 rfl 1 rfl ?_
  refine cw_iload_n (pc := 1) C dX7_way_1 rfl 2 rfl ?_
  refine cw_calls (pc := 2) C dX7_way_2 (c_X7_areTwo l D Z A σ g k) (va_cwS 2 C.1.2.2.2.2 gX7_way_X7_areTwo rfl rfl rfl (by decide +kernel) ⟨Nat.le_of_ble_eq_true rfl, Nat.le_of_ble_eq_true rfl⟩) rfl rfl (Nat.le_of_ble_eq_true rfl) (cw_purez (b := pairB g k) (fun _ _ h => h) ?_)
  refine cw_if_eq (pc := 5) (tgt := 13) C dX7_way_5 (by decide) (fun h5 => ?_) (fun h5 => ?_)
  · -- 5 t
    have h5 := bI_z h5
    refine cw_aload_n (pc := 13) C dX7_way_13 rfl 0 rfl ?_
    refine cw_bipush (pc := 14) C dX7_way_14 (-2) (by decide) ?_
    refine cw_calli (pc := 16) C dX7_way_16 (c_X7_refuse0 l D Z A σ ) (cwV 1 C.1.2.2.2.2 gX7_way_X7_refuse rfl rfl rfl (by decide +kernel) ⟨Nat.le_of_ble_eq_true rfl, Nat.le_of_ble_eq_true rfl⟩) 0 rfl rfl rfl rfl (Nat.le_of_ble_eq_true rfl) (cw_eff (v := (-2)) (fun _ _ h => h) (up2 σ 4 (upd (σ 4) 0 ((σ 4) 0 + nI 1))) rfl ?_)
    refine hret (-2) (up2 σ 4 (upd (σ 4) 0 ((σ 4) 0 + nI 1))) _ _ dX7_way_19 ?_
    clear hret
    rw [show wyA X g k i = .inr 0 by rw [wyA, if_neg (fun q => by rw [h5] at q; cases q.1)]]
    exact ⟨rfl, absM_ref ha 0⟩
  · -- 5 f
    have h5 := bI_nz h5
    obtain ⟨x, y, x1, x2, y1, y2, hxy, rfl, rfl⟩ := pairB_t h5
    refine cw_iload_n (pc := 8) C dX7_way_8 rfl 3 rfl ?_
    refine cw_iconst (pc := 9) C dX7_way_9 (-1) (by decide) ?_
    refine cw_icmp_ge (pc := 10) (tgt := 20) C dX7_way_10 (by decide) (fun h10 => ?_) (fun h10 => ?_)
    · -- 10 t
      refine cw_aload_n (pc := 20) C dX7_way_20 rfl 0 rfl ?_
      refine cw_iload_n (pc := 21) C dX7_way_21 rfl 1 rfl ?_
      refine cw_calli (pc := 22) C dX7_way_22 (c_X7_isFit l D Z A σ X x hT x1 x2) (cwV 1 C.1.2.2.2.2 gX7_way_X7_isFit rfl rfl rfl (by decide +kernel) ⟨Nat.le_of_ble_eq_true rfl, Nat.le_of_ble_eq_true rfl⟩) 0 rfl rfl rfl rfl (Nat.le_of_ble_eq_true rfl) (cw_purez (b := fitN X x) (fun _ _ h => h) ?_)
      refine cw_if_eq (pc := 25) (tgt := 36) C dX7_way_25 (by decide) (fun h25 => ?_) (fun h25 => ?_)
      · -- 25 t
        have h25 := bI_z h25
        refine cw_aload_n (pc := 36) C dX7_way_36 rfl 0 rfl ?_
        refine cw_bipush (pc := 37) C dX7_way_37 (-3) (by decide) ?_
        refine cw_calli (pc := 39) C dX7_way_39 (c_X7_refuse1 l D Z A σ ) (cwV 1 C.1.2.2.2.2 gX7_way_X7_refuse rfl rfl rfl (by decide +kernel) ⟨Nat.le_of_ble_eq_true rfl, Nat.le_of_ble_eq_true rfl⟩) 0 rfl rfl rfl rfl (Nat.le_of_ble_eq_true rfl) (cw_eff (v := (-3)) (fun _ _ h => h) (up2 σ 4 (upd (σ 4) 1 ((σ 4) 1 + nI 1))) rfl ?_)
        refine hret (-3) (up2 σ 4 (upd (σ 4) 1 ((σ 4) 1 + nI 1))) _ _ dX7_way_42 ?_
        clear hret
        rw [show wyA X (nI x) (nI y) i = .inr 1 by rw [wyA, if_pos ⟨h5, h10⟩, tN_N (show x < 2 ^ 31 by omega), tN_N (show y < 2 ^ 31 by omega), if_neg (fun q => by rw [h25] at q; cases q.1)]]
        exact ⟨rfl, absM_ref ha 1⟩
      · -- 25 f
        have h25 := bI_nz h25
        refine cw_aload_n (pc := 28) C dX7_way_28 rfl 0 rfl ?_
        refine cw_iload_n (pc := 29) C dX7_way_29 rfl 2 rfl ?_
        refine cw_calli (pc := 30) C dX7_way_30 (c_X7_isFit l D Z A σ X y hT y1 y2) (cwV 1 C.1.2.2.2.2 gX7_way_X7_isFit rfl rfl rfl (by decide +kernel) ⟨Nat.le_of_ble_eq_true rfl, Nat.le_of_ble_eq_true rfl⟩) 0 rfl rfl rfl rfl (Nat.le_of_ble_eq_true rfl) (cw_purez (b := fitN X y) (fun _ _ h => h) ?_)
        refine cw_if_ne (pc := 33) (tgt := 43) C dX7_way_33 (by decide) (fun h33 => ?_) (fun h33 => ?_)
        · -- 33 t
          have h33 := bI_nz h33
          refine cw_aload_n (pc := 43) C dX7_way_43 rfl 0 rfl ?_
          refine cw_iload_n (pc := 44) C dX7_way_44 rfl 1 rfl ?_
          refine cw_iload_n (pc := 45) C dX7_way_45 rfl 2 rfl ?_
          refine cw_callv (pc := 46) C dX7_way_46 (c_X7_findWay l D Z A σ X x y hT hO.1 x1 x2 h33) (cwV 2 C.1.2.2.2.2 gX7_way_X7_findWay rfl rfl rfl (by decide +kernel) ⟨Nat.le_of_ble_eq_true rfl, Nat.le_of_ble_eq_true rfl⟩) 0 rfl rfl rfl rfl (Nat.le_of_ble_eq_true rfl) (fun σ1 hr => ?_)
          obtain ⟨fa, ra, hr, hra⟩ := hr
          have hN6 : wyN X x y ≤ 6 := wayN_le _ _ _ _
          have e10 : σ1 10 = ra := by rw [hr, up2_eq]
          have ez0 : σ1 0 = upd (σ 0) 15 (nI (wyN X x y)) := by rw [hr, up2_ne _ _ (by decide), up2_ne _ _ (by decide), up2_eq]
          have e0w : σ1 0 15 = nI (wyN X x y) := by rw [ez0, upd_same]
          have en : ∀ z, z ≠ 0 → z ≠ 9 → z ≠ 10 → σ1 z = σ z := fun z z0 z9 z10 => by rw [hr, up2_ne _ _ z10, up2_ne _ _ z9, up2_ne _ _ z0]
          have hM : absM σ1 X F ck co K nn B L := absM_rows ha ((en 1 (by decide) (by decide) (by decide)).trans hT) (en 3 (by decide) (by decide) (by decide)) (en 4 (by decide) (by decide) (by decide)) (en 5 (by decide) (by decide) (by decide)) (fun z hz => by rw [ez0, upd_ne (by omega)])
          clear hr
          refine cw_aload_n (pc := 49) C dX7_way_49 rfl 0 rfl ?_
          refine cw_get (pc := 50) C dX7_way_50 0 (v := .int (σ1 0 15)) rfl rfl 15 rfl (fun _ h => List.mem_cons_of_mem _ (List.mem_append_right _ h)) (by decide) (List.mem_of_getElem? (i := 1) rfl) ?_
          refine cw_top (nI (wyN X x y)) e0w ?_
          refine cw_if_eq (pc := 53) (tgt := 64) C dX7_way_53 (by decide) (fun h53 => ?_) (fun h53 => ?_)
          · -- 53 t
            have h53 : (wyN X x y) = 0 := (nc_eq (a := wyN X x y) (b := 0) (by omega) (by omega)).mp h53
            refine cw_bipush (pc := 64) C dX7_way_64 (-5) (by decide) ?_
            refine cw_goto (pc := 66) (tgt := 87) C dX7_way_66 (by decide) ?_
            refine hret (-5) σ1 _ _ dX7_way_87 ?_
            clear hret
            rw [show wyA X (nI x) (nI y) i = .inl (-5) by rw [wyA, if_pos ⟨h5, h10⟩, tN_N (show x < 2 ^ 31 by omega), tN_N (show y < 2 ^ 31 by omega), if_pos ⟨h25, h33⟩, if_pos (Or.inl h53)]]
            exact ⟨rfl, hM⟩
          · -- 53 f
            have h53 : ¬ ((wyN X x y) = 0) := fun qq => h53 ((nc_eq (a := wyN X x y) (b := 0) (by omega) (by omega)).mpr qq)
            refine cw_iload_n (pc := 56) C dX7_way_56 rfl 3 rfl ?_
            refine cw_aload_n (pc := 57) C dX7_way_57 rfl 0 rfl ?_
            refine cw_get (pc := 58) C dX7_way_58 0 (v := .int (σ1 0 15)) rfl rfl 15 rfl (fun _ h => List.mem_cons_of_mem _ (List.mem_append_right _ h)) (by decide) (List.mem_of_getElem? (i := 1) rfl) ?_
            refine cw_top (nI (wyN X x y)) e0w ?_
            refine cw_icmp_lt (pc := 61) (tgt := 69) C dX7_way_61 (by decide) (fun h61 => ?_) (fun h61 => ?_)
            · -- 61 t
              refine cw_iload_n (pc := 69) C dX7_way_69 rfl 3 rfl ?_
              refine cw_iconst (pc := 70) C dX7_way_70 (-1) (by decide) ?_
              refine cw_icmp_ne (pc := 71) (tgt := 81) C dX7_way_71 (by decide) (fun h71 => ?_) (fun h71 => ?_)
              · -- 71 t
                obtain ⟨j, hj, rfl⟩ := nI_of (nneg h10 h71)
                have hjN : j < wyN X x y := (nI_ltI hj (by omega)).mp h61
                refine cw_aload_n (pc := 81) C dX7_way_81 rfl 0 rfl ?_
                refine cw_get (pc := 82) C dX7_way_82 0 (v := .ref (A 10)) rfl rfl 14 rfl (fun _ h => List.mem_cons_of_mem _ (List.mem_append_right _ h)) (by decide) (List.mem_of_getElem? (i := 2) rfl) ?_
                refine cw_iload_n (pc := 85) C dX7_way_85 rfl 3 rfl ?_
                refine cw_iald2 (pc := 86) C dX7_way_86 10 10 (wM_g10 Z A) (f := σ1 10) rfl j rfl (by omega) (by decide) ?_
                refine cw_top (nI (wyG X x y (j + 1))) ((congrFun e10 j).trans (hra j hjN)) ?_
                refine hret (nI (wyG X x y (j + 1))) σ1 _ _ dX7_way_87 ?_
                clear hret
                rw [show wyA X (nI x) (nI y) (nI j) = .inl (nI (wyG X x y (j + 1))) by rw [wyA, if_pos ⟨h5, h10⟩, tN_N (show x < 2 ^ 31 by omega), tN_N (show y < 2 ^ 31 by omega), if_pos ⟨h25, h33⟩, if_neg (fun q => q.elim h53 (fun z => absurd h61 (Int32.not_lt.mpr z))), if_neg h71, tN_N hj]]
                exact ⟨rfl, hM⟩
              · -- 71 f
                refine cw_aload_n (pc := 74) C dX7_way_74 rfl 0 rfl ?_
                refine cw_get (pc := 75) C dX7_way_75 0 (v := .int (σ1 0 15)) rfl rfl 15 rfl (fun _ h => List.mem_cons_of_mem _ (List.mem_append_right _ h)) (by decide) (List.mem_of_getElem? (i := 1) rfl) ?_
                refine cw_top (nI (wyN X x y)) e0w ?_
                refine cw_goto (pc := 78) (tgt := 87) C dX7_way_78 (by decide) ?_
                refine hret (nI (wyN X x y)) σ1 _ _ dX7_way_87 ?_
                clear hret
                rw [show wyA X (nI x) (nI y) i = .inl (nI (wyN X x y)) by rw [wyA, if_pos ⟨h5, h10⟩, tN_N (show x < 2 ^ 31 by omega), tN_N (show y < 2 ^ 31 by omega), if_pos ⟨h25, h33⟩, if_neg (fun q => q.elim h53 (fun z => absurd h61 (Int32.not_lt.mpr z))), if_pos h71]]
                exact ⟨rfl, hM⟩
            · -- 61 f
              refine cw_bipush (pc := 64) C dX7_way_64 (-5) (by decide) ?_
              refine cw_goto (pc := 66) (tgt := 87) C dX7_way_66 (by decide) ?_
              refine hret (-5) σ1 _ _ dX7_way_87 ?_
              clear hret
              rw [show wyA X (nI x) (nI y) i = .inl (-5) by rw [wyA, if_pos ⟨h5, h10⟩, tN_N (show x < 2 ^ 31 by omega), tN_N (show y < 2 ^ 31 by omega), if_pos ⟨h25, h33⟩, if_pos (Or.inr (Int32.not_lt.mp h61))]]
              exact ⟨rfl, hM⟩
        · -- 33 f
          have h33 := bI_z h33
          refine cw_aload_n (pc := 36) C dX7_way_36 rfl 0 rfl ?_
          refine cw_bipush (pc := 37) C dX7_way_37 (-3) (by decide) ?_
          refine cw_calli (pc := 39) C dX7_way_39 (c_X7_refuse1 l D Z A σ ) (cwV 1 C.1.2.2.2.2 gX7_way_X7_refuse rfl rfl rfl (by decide +kernel) ⟨Nat.le_of_ble_eq_true rfl, Nat.le_of_ble_eq_true rfl⟩) 0 rfl rfl rfl rfl (Nat.le_of_ble_eq_true rfl) (cw_eff (v := (-3)) (fun _ _ h => h) (up2 σ 4 (upd (σ 4) 1 ((σ 4) 1 + nI 1))) rfl ?_)
          refine hret (-3) (up2 σ 4 (upd (σ 4) 1 ((σ 4) 1 + nI 1))) _ _ dX7_way_42 ?_
          clear hret
          rw [show wyA X (nI x) (nI y) i = .inr 1 by rw [wyA, if_pos ⟨h5, h10⟩, tN_N (show x < 2 ^ 31 by omega), tN_N (show y < 2 ^ 31 by omega), if_neg (fun q => by rw [h33] at q; cases q.2)]]
          exact ⟨rfl, absM_ref ha 1⟩
    · -- 10 f
      refine cw_aload_n (pc := 13) C dX7_way_13 rfl 0 rfl ?_
      refine cw_bipush (pc := 14) C dX7_way_14 (-2) (by decide) ?_
      refine cw_calli (pc := 16) C dX7_way_16 (c_X7_refuse0 l D Z A σ ) (cwV 1 C.1.2.2.2.2 gX7_way_X7_refuse rfl rfl rfl (by decide +kernel) ⟨Nat.le_of_ble_eq_true rfl, Nat.le_of_ble_eq_true rfl⟩) 0 rfl rfl rfl rfl (Nat.le_of_ble_eq_true rfl) (cw_eff (v := (-2)) (fun _ _ h => h) (up2 σ 4 (upd (σ 4) 0 ((σ 4) 0 + nI 1))) rfl ?_)
      refine hret (-2) (up2 σ 4 (upd (σ 4) 0 ((σ 4) 0 + nI 1))) _ _ dX7_way_19 ?_
      clear hret
      rw [show wyA X (nI x) (nI y) i = .inr 0 by rw [wyA, if_neg (fun q => h10 q.2)]]
      exact ⟨rfl, absM_ref ha 0⟩
