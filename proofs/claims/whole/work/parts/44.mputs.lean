set_option maxHeartbeats 4000000 in
set_option maxRecDepth 100000 in
theorem c_X7_putTrue (l : Launch) (D : va_G) (Z : CZ) (A : Nat → Nat) (σ : St) (X : Nat → Int32)  (k : Int32) (v : Int32) (hT : σ 1 = mrow X)  : CTi l yX7_putTrue wsX7_putTrue 2 42 D Z (wM Z A) σ [.ref (A 0), .int (k), .int (v)] (fun r σ' => r = parR (truB k v) X (29 + tN k) ∧ σ' = up2 σ 1 (mrow (parX (truB k v) X (29 + tN k) v))) := by
  refine CTi.mk (cc := cX7_putTrue) (nL := 3) (own := RX7) rfl (by decide) rfl (Nat.le_of_ble_eq_true rfl) ?_
  intro p0 e0 s0 m0 g0 b0 t0 c0 A0 Q C hret
  refine cw_lv (lv' := [(0, .ref (A 0)), (1, .int (k)), (2, .int (v))]) [0, 1, 2] rfl ?_
  refine cw_iload_n (pc := 0) C dX7_putTrue_0 rfl 1 rfl ?_
  refine cw_calls (pc := 1) C dX7_putTrue_1 (c_X7_isClutch l D Z A σ k) (va_cwS 1 C.1.2.2.2.2 gX7_putTrue_X7_isClutch rfl rfl rfl (by decide +kernel) ⟨Nat.le_of_ble_eq_true rfl, Nat.le_of_ble_eq_true rfl⟩) rfl rfl (Nat.le_of_ble_eq_true rfl) (cw_purez (b := clB k) (fun _ _ h => h) ?_)
  refine cw_if_eq (pc := 4) (tgt := 29) C dX7_putTrue_4 (by decide) (fun h4 => ?_) (fun h4 => ?_)
  · -- 4 t
    have h4 := bI_z h4
    refine cw_bipush (pc := 29) C dX7_putTrue_29 (-2) (by decide) ?_
    refine hret (-2) σ _ _ dX7_putTrue_31 ?_
    clear hret
    have hq : truB k v = false := by simp [truB, h4]
    exact ⟨by rw [parR_f hq], by rw [parX_f hq]; exact selfM hT⟩
  · -- 4 f
    have h4 := bI_nz h4
    obtain ⟨j, hj1, rfl⟩ := clB_t h4
    refine cw_iload_n (pc := 7) C dX7_putTrue_7 rfl 2 rfl ?_
    refine cw_iconst (pc := 8) C dX7_putTrue_8 (nI 1) (by decide) ?_
    refine cw_bipush (pc := 9) C dX7_putTrue_9 (nI 20) (by decide) ?_
    refine cw_calls (pc := 11) C dX7_putTrue_11 (c_X7_in l D Z A σ v (nI 1) (nI 20)) (va_cwS 3 C.1.2.2.2.2 gX7_putTrue_X7_in rfl rfl rfl (by decide +kernel) ⟨Nat.le_of_ble_eq_true rfl, Nat.le_of_ble_eq_true rfl⟩) rfl rfl (Nat.le_of_ble_eq_true rfl) (cw_purez (b := withinB v (nI 1) (nI 20)) (fun _ _ h => h) ?_)
    refine cw_if_eq (pc := 14) (tgt := 29) C dX7_putTrue_14 (by decide) (fun h14 => ?_) (fun h14 => ?_)
    · -- 14 t
      have h14 := bI_z h14
      refine cw_bipush (pc := 29) C dX7_putTrue_29 (-2) (by decide) ?_
      refine hret (-2) σ _ _ dX7_putTrue_31 ?_
      clear hret
      have hq : truB (nI j) v = false := by simp [truB, h4, h14]
      exact ⟨by rw [parR_f hq], by rw [parX_f hq]; exact selfM hT⟩
    · -- 14 f
      have h14 := bI_nz h14
      refine cw_aload_n (pc := 17) C dX7_putTrue_17 rfl 0 rfl ?_
      refine cw_bipush (pc := 18) C dX7_putTrue_18 (nI 13) (by decide) ?_
      refine cw_iload_n (pc := 20) C dX7_putTrue_20 rfl 1 rfl ?_
      refine cw_iadd (pc := 21) C dX7_putTrue_21 (z := nI (13 + j)) (nI_add _ _) ?_
      refine cw_iload_n (pc := 22) C dX7_putTrue_22 rfl 2 rfl ?_
      refine cw_calli (pc := 23) C dX7_putTrue_23 (c_X7_change l D Z A σ (13 + j) v (by omega)) (cwV 2 C.1.2.2.2.2 gX7_putTrue_X7_change rfl rfl rfl (by decide +kernel) ⟨Nat.le_of_ble_eq_true rfl, Nat.le_of_ble_eq_true rfl⟩) 0 rfl rfl rfl rfl (Nat.le_of_ble_eq_true rfl) (cw_eff (v := (σ 1) (13 + j)) (fun _ _ h => h) (up2 σ 1 (upd (σ 1) (13 + j) v)) rfl ?_)
      refine cw_goto (pc := 26) (tgt := 31) C dX7_putTrue_26 (by decide) ?_
      refine hret ((σ 1) (13 + j)) (up2 σ 1 (upd (σ 1) (13 + j) v)) _ _ dX7_putTrue_31 ?_
      clear hret
      have hq : truB (nI j) v = true := by simp [truB, h4, h14]
      exact ⟨by rw [parR_t hq, tN_N (by omega)]; exact mr hT (by omega) (by omega) (pm_tr (by omega)), congrArg (up2 σ 1) (by rw [parX_t hq, tN_N (by omega)]; exact mw hT (by omega) (by omega) (pm_tr (by omega)))⟩
set_option maxHeartbeats 4000000 in
set_option maxRecDepth 100000 in
theorem c_X7_putUp (l : Launch) (D : va_G) (Z : CZ) (A : Nat → Nat) (σ : St) (X : Nat → Int32)  (k : Int32) (v : Int32) (hT : σ 1 = mrow X)  : CTi l yX7_putUp wsX7_putUp 2 42 D Z (wM Z A) σ [.ref (A 0), .int (k), .int (v)] (fun r σ' => r = parR (spdB k v) X (8 + tN k) ∧ σ' = up2 σ 1 (mrow (parX (spdB k v) X (8 + tN k) v))) := by
  refine CTi.mk (cc := cX7_putUp) (nL := 3) (own := RX7) rfl (by decide) rfl (Nat.le_of_ble_eq_true rfl) ?_
  intro p0 e0 s0 m0 g0 b0 t0 c0 A0 Q C hret
  refine cw_lv (lv' := [(0, .ref (A 0)), (1, .int (k)), (2, .int (v))]) [0, 1, 2] rfl ?_
  refine cw_iload_n (pc := 0) C dX7_putUp_0 rfl 1 rfl ?_
  refine cw_calls (pc := 1) C dX7_putUp_1 (c_X7_isGear l D Z A σ k) (va_cwS 1 C.1.2.2.2.2 gX7_putUp_X7_isGear rfl rfl rfl (by decide +kernel) ⟨Nat.le_of_ble_eq_true rfl, Nat.le_of_ble_eq_true rfl⟩) rfl rfl (Nat.le_of_ble_eq_true rfl) (cw_purez (b := gearB k) (fun _ _ h => h) ?_)
  refine cw_if_eq (pc := 4) (tgt := 30) C dX7_putUp_4 (by decide) (fun h4 => ?_) (fun h4 => ?_)
  · -- 4 t
    have h4 := bI_z h4
    refine cw_bipush (pc := 30) C dX7_putUp_30 (-2) (by decide) ?_
    refine hret (-2) σ _ _ dX7_putUp_32 ?_
    clear hret
    have hq : spdB k v = false := by simp [spdB, h4]
    exact ⟨by rw [parR_f hq], by rw [parX_f hq]; exact selfM hT⟩
  · -- 4 f
    have h4 := bI_nz h4
    obtain ⟨j, hj1, hj2, rfl⟩ := gearB_t h4
    refine cw_iload_n (pc := 7) C dX7_putUp_7 rfl 2 rfl ?_
    refine cw_iconst (pc := 8) C dX7_putUp_8 (nI 0) (by decide) ?_
    refine cw_sipush (pc := 9) C dX7_putUp_9 (nI 300) (by decide) ?_
    refine cw_calls (pc := 12) C dX7_putUp_12 (c_X7_in l D Z A σ v (nI 0) (nI 300)) (va_cwS 3 C.1.2.2.2.2 gX7_putUp_X7_in rfl rfl rfl (by decide +kernel) ⟨Nat.le_of_ble_eq_true rfl, Nat.le_of_ble_eq_true rfl⟩) rfl rfl (Nat.le_of_ble_eq_true rfl) (cw_purez (b := withinB v (nI 0) (nI 300)) (fun _ _ h => h) ?_)
    refine cw_if_eq (pc := 15) (tgt := 30) C dX7_putUp_15 (by decide) (fun h15 => ?_) (fun h15 => ?_)
    · -- 15 t
      have h15 := bI_z h15
      refine cw_bipush (pc := 30) C dX7_putUp_30 (-2) (by decide) ?_
      refine hret (-2) σ _ _ dX7_putUp_32 ?_
      clear hret
      have hq : spdB (nI j) v = false := by simp [spdB, h4, h15]
      exact ⟨by rw [parR_f hq], by rw [parX_f hq]; exact selfM hT⟩
    · -- 15 f
      have h15 := bI_nz h15
      refine cw_aload_n (pc := 18) C dX7_putUp_18 rfl 0 rfl ?_
      refine cw_bipush (pc := 19) C dX7_putUp_19 (nI 23) (by decide) ?_
      refine cw_iload_n (pc := 21) C dX7_putUp_21 rfl 1 rfl ?_
      refine cw_iadd (pc := 22) C dX7_putUp_22 (z := nI (23 + j)) (nI_add _ _) ?_
      refine cw_iload_n (pc := 23) C dX7_putUp_23 rfl 2 rfl ?_
      refine cw_calli (pc := 24) C dX7_putUp_24 (c_X7_change l D Z A σ (23 + j) v (by omega)) (cwV 2 C.1.2.2.2.2 gX7_putUp_X7_change rfl rfl rfl (by decide +kernel) ⟨Nat.le_of_ble_eq_true rfl, Nat.le_of_ble_eq_true rfl⟩) 0 rfl rfl rfl rfl (Nat.le_of_ble_eq_true rfl) (cw_eff (v := (σ 1) (23 + j)) (fun _ _ h => h) (up2 σ 1 (upd (σ 1) (23 + j) v)) rfl ?_)
      refine cw_goto (pc := 27) (tgt := 32) C dX7_putUp_27 (by decide) ?_
      refine hret ((σ 1) (23 + j)) (up2 σ 1 (upd (σ 1) (23 + j) v)) _ _ dX7_putUp_32 ?_
      clear hret
      have hq : spdB (nI j) v = true := by simp [spdB, h4, h15]
      exact ⟨by rw [parR_t hq, tN_N (by omega)]; exact mr hT (by omega) (by omega) (pm_up (by omega)), congrArg (up2 σ 1) (by rw [parX_t hq, tN_N (by omega)]; exact mw hT (by omega) (by omega) (pm_up (by omega)))⟩
set_option maxHeartbeats 4000000 in
set_option maxRecDepth 100000 in
theorem c_X7_putDown (l : Launch) (D : va_G) (Z : CZ) (A : Nat → Nat) (σ : St) (X : Nat → Int32)  (k : Int32) (v : Int32) (hT : σ 1 = mrow X)  : CTi l yX7_putDown wsX7_putDown 2 42 D Z (wM Z A) σ [.ref (A 0), .int (k), .int (v)] (fun r σ' => r = parR (spdB k v) X (16 + tN k) ∧ σ' = up2 σ 1 (mrow (parX (spdB k v) X (16 + tN k) v))) := by
  refine CTi.mk (cc := cX7_putDown) (nL := 3) (own := RX7) rfl (by decide) rfl (Nat.le_of_ble_eq_true rfl) ?_
  intro p0 e0 s0 m0 g0 b0 t0 c0 A0 Q C hret
  refine cw_lv (lv' := [(0, .ref (A 0)), (1, .int (k)), (2, .int (v))]) [0, 1, 2] rfl ?_
  refine cw_iload_n (pc := 0) C dX7_putDown_0 rfl 1 rfl ?_
  refine cw_calls (pc := 1) C dX7_putDown_1 (c_X7_isGear l D Z A σ k) (va_cwS 1 C.1.2.2.2.2 gX7_putDown_X7_isGear rfl rfl rfl (by decide +kernel) ⟨Nat.le_of_ble_eq_true rfl, Nat.le_of_ble_eq_true rfl⟩) rfl rfl (Nat.le_of_ble_eq_true rfl) (cw_purez (b := gearB k) (fun _ _ h => h) ?_)
  refine cw_if_eq (pc := 4) (tgt := 30) C dX7_putDown_4 (by decide) (fun h4 => ?_) (fun h4 => ?_)
  · -- 4 t
    have h4 := bI_z h4
    refine cw_bipush (pc := 30) C dX7_putDown_30 (-2) (by decide) ?_
    refine hret (-2) σ _ _ dX7_putDown_32 ?_
    clear hret
    have hq : spdB k v = false := by simp [spdB, h4]
    exact ⟨by rw [parR_f hq], by rw [parX_f hq]; exact selfM hT⟩
  · -- 4 f
    have h4 := bI_nz h4
    obtain ⟨j, hj1, hj2, rfl⟩ := gearB_t h4
    refine cw_iload_n (pc := 7) C dX7_putDown_7 rfl 2 rfl ?_
    refine cw_iconst (pc := 8) C dX7_putDown_8 (nI 0) (by decide) ?_
    refine cw_sipush (pc := 9) C dX7_putDown_9 (nI 300) (by decide) ?_
    refine cw_calls (pc := 12) C dX7_putDown_12 (c_X7_in l D Z A σ v (nI 0) (nI 300)) (va_cwS 3 C.1.2.2.2.2 gX7_putDown_X7_in rfl rfl rfl (by decide +kernel) ⟨Nat.le_of_ble_eq_true rfl, Nat.le_of_ble_eq_true rfl⟩) rfl rfl (Nat.le_of_ble_eq_true rfl) (cw_purez (b := withinB v (nI 0) (nI 300)) (fun _ _ h => h) ?_)
    refine cw_if_eq (pc := 15) (tgt := 30) C dX7_putDown_15 (by decide) (fun h15 => ?_) (fun h15 => ?_)
    · -- 15 t
      have h15 := bI_z h15
      refine cw_bipush (pc := 30) C dX7_putDown_30 (-2) (by decide) ?_
      refine hret (-2) σ _ _ dX7_putDown_32 ?_
      clear hret
      have hq : spdB (nI j) v = false := by simp [spdB, h4, h15]
      exact ⟨by rw [parR_f hq], by rw [parX_f hq]; exact selfM hT⟩
    · -- 15 f
      have h15 := bI_nz h15
      refine cw_aload_n (pc := 18) C dX7_putDown_18 rfl 0 rfl ?_
      refine cw_bipush (pc := 19) C dX7_putDown_19 (nI 31) (by decide) ?_
      refine cw_iload_n (pc := 21) C dX7_putDown_21 rfl 1 rfl ?_
      refine cw_iadd (pc := 22) C dX7_putDown_22 (z := nI (31 + j)) (nI_add _ _) ?_
      refine cw_iload_n (pc := 23) C dX7_putDown_23 rfl 2 rfl ?_
      refine cw_calli (pc := 24) C dX7_putDown_24 (c_X7_change l D Z A σ (31 + j) v (by omega)) (cwV 2 C.1.2.2.2.2 gX7_putDown_X7_change rfl rfl rfl (by decide +kernel) ⟨Nat.le_of_ble_eq_true rfl, Nat.le_of_ble_eq_true rfl⟩) 0 rfl rfl rfl rfl (Nat.le_of_ble_eq_true rfl) (cw_eff (v := (σ 1) (31 + j)) (fun _ _ h => h) (up2 σ 1 (upd (σ 1) (31 + j) v)) rfl ?_)
      refine cw_goto (pc := 27) (tgt := 32) C dX7_putDown_27 (by decide) ?_
      refine hret ((σ 1) (31 + j)) (up2 σ 1 (upd (σ 1) (31 + j) v)) _ _ dX7_putDown_32 ?_
      clear hret
      have hq : spdB (nI j) v = true := by simp [spdB, h4, h15]
      exact ⟨by rw [parR_t hq, tN_N (by omega)]; exact mr hT (by omega) (by omega) (pm_dn (by omega)), congrArg (up2 σ 1) (by rw [parX_t hq, tN_N (by omega)]; exact mw hT (by omega) (by omega) (pm_dn (by omega)))⟩
set_option maxHeartbeats 4000000 in
set_option maxRecDepth 100000 in
theorem c_X7_putSlope (l : Launch) (D : va_G) (Z : CZ) (A : Nat → Nat) (σ : St) (X : Nat → Int32)  (v : Int32) (hT : σ 1 = mrow X)  : CTi l yX7_putSlope wsX7_putSlope 1 23 D Z (wM Z A) σ [.ref (A 0), .int (v)] (fun r σ' => r = parR (sloB v) X 47 ∧ σ' = up2 σ 1 (mrow (parX (sloB v) X 47 (v + nI 3)))) := by
  refine CTi.mk (cc := cX7_putSlope) (nL := 2) (own := RX7) rfl (by decide) rfl (Nat.le_of_ble_eq_true rfl) ?_
  intro p0 e0 s0 m0 g0 b0 t0 c0 A0 Q C hret
  refine cw_lv (lv' := [(0, .ref (A 0)), (1, .int (v))]) [0, 1] rfl ?_
  refine cw_iload_n (pc := 0) C dX7_putSlope_0 rfl 1 rfl ?_
  refine cw_bipush (pc := 1) C dX7_putSlope_1 (-3) (by decide) ?_
  refine cw_iconst (pc := 3) C dX7_putSlope_3 (nI 3) (by decide) ?_
  refine cw_calls (pc := 4) C dX7_putSlope_4 (c_X7_in l D Z A σ v (-3) (nI 3)) (va_cwS 3 C.1.2.2.2.2 gX7_putSlope_X7_in rfl rfl rfl (by decide +kernel) ⟨Nat.le_of_ble_eq_true rfl, Nat.le_of_ble_eq_true rfl⟩) rfl rfl (Nat.le_of_ble_eq_true rfl) (cw_purez (b := withinB v (-3) (nI 3)) (fun _ _ h => h) ?_)
  refine cw_if_eq (pc := 7) (tgt := 22) C dX7_putSlope_7 (by decide) (fun h7 => ?_) (fun h7 => ?_)
  · -- 7 t
    have h7 := bI_z h7
    refine cw_bipush (pc := 22) C dX7_putSlope_22 (-2) (by decide) ?_
    refine hret (-2) σ _ _ dX7_putSlope_24 ?_
    clear hret
    exact ⟨by rw [parR_f (show sloB v = false from h7)], by rw [parX_f (show sloB v = false from h7)]; exact selfM hT⟩
  · -- 7 f
    have h7 := bI_nz h7
    refine cw_aload_n (pc := 10) C dX7_putSlope_10 rfl 0 rfl ?_
    refine cw_bipush (pc := 11) C dX7_putSlope_11 (nI 39) (by decide) ?_
    refine cw_iload_n (pc := 13) C dX7_putSlope_13 rfl 1 rfl ?_
    refine cw_calli (pc := 14) C dX7_putSlope_14 (c_X7_change l D Z A σ 39 v (by omega)) (cwV 2 C.1.2.2.2.2 gX7_putSlope_X7_change rfl rfl rfl (by decide +kernel) ⟨Nat.le_of_ble_eq_true rfl, Nat.le_of_ble_eq_true rfl⟩) 0 rfl rfl rfl rfl (Nat.le_of_ble_eq_true rfl) (cw_eff (v := (σ 1) 39) (fun _ _ h => h) (up2 σ 1 (upd (σ 1) 39 v)) rfl ?_)
    refine cw_iconst (pc := 17) C dX7_putSlope_17 (nI 3) (by decide) ?_
    refine cw_iadd (pc := 18) C dX7_putSlope_18 (z := ((σ 1) 39) + (nI 3)) rfl ?_
    refine cw_goto (pc := 19) (tgt := 24) C dX7_putSlope_19 (by decide) ?_
    refine hret (((σ 1) 39) + (nI 3)) (up2 σ 1 (upd (σ 1) 39 v)) _ _ dX7_putSlope_24 ?_
    clear hret
    exact ⟨by rw [parR_t (show sloB v = true from h7), mr39 hT, Int32.sub_add_cancel], congrArg (up2 σ 1) (by rw [parX_t (show sloB v = true from h7), hT, mrow_upd39])⟩
set_option maxHeartbeats 4000000 in
set_option maxRecDepth 100000 in
theorem c_X7_putDriver (l : Launch) (D : va_G) (Z : CZ) (A : Nat → Nat) (σ : St) (X : Nat → Int32)  (v : Int32) (hT : σ 1 = mrow X)  : CTi l yX7_putDriver wsX7_putDriver 1 23 D Z (wM Z A) σ [.ref (A 0), .int (v)] (fun r σ' => r = parR (driB v) X 48 ∧ σ' = up2 σ 1 (mrow (parX (driB v) X 48 v))) := by
  refine CTi.mk (cc := cX7_putDriver) (nL := 2) (own := RX7) rfl (by decide) rfl (Nat.le_of_ble_eq_true rfl) ?_
  intro p0 e0 s0 m0 g0 b0 t0 c0 A0 Q C hret
  refine cw_lv (lv' := [(0, .ref (A 0)), (1, .int (v))]) [0, 1] rfl ?_
  refine cw_iload_n (pc := 0) C dX7_putDriver_0 rfl 1 rfl ?_
  refine cw_iconst (pc := 1) C dX7_putDriver_1 (nI 0) (by decide) ?_
  refine cw_iconst (pc := 2) C dX7_putDriver_2 (nI 3) (by decide) ?_
  refine cw_calls (pc := 3) C dX7_putDriver_3 (c_X7_in l D Z A σ v (nI 0) (nI 3)) (va_cwS 3 C.1.2.2.2.2 gX7_putDriver_X7_in rfl rfl rfl (by decide +kernel) ⟨Nat.le_of_ble_eq_true rfl, Nat.le_of_ble_eq_true rfl⟩) rfl rfl (Nat.le_of_ble_eq_true rfl) (cw_purez (b := withinB v (nI 0) (nI 3)) (fun _ _ h => h) ?_)
  refine cw_if_eq (pc := 6) (tgt := 19) C dX7_putDriver_6 (by decide) (fun h6 => ?_) (fun h6 => ?_)
  · -- 6 t
    have h6 := bI_z h6
    refine cw_bipush (pc := 19) C dX7_putDriver_19 (-2) (by decide) ?_
    refine hret (-2) σ _ _ dX7_putDriver_21 ?_
    clear hret
    exact ⟨by rw [parR_f (show driB v = false from h6)], by rw [parX_f (show driB v = false from h6)]; exact selfM hT⟩
  · -- 6 f
    have h6 := bI_nz h6
    refine cw_aload_n (pc := 9) C dX7_putDriver_9 rfl 0 rfl ?_
    refine cw_bipush (pc := 10) C dX7_putDriver_10 (nI 40) (by decide) ?_
    refine cw_iload_n (pc := 12) C dX7_putDriver_12 rfl 1 rfl ?_
    refine cw_calli (pc := 13) C dX7_putDriver_13 (c_X7_change l D Z A σ 40 v (by omega)) (cwV 2 C.1.2.2.2.2 gX7_putDriver_X7_change rfl rfl rfl (by decide +kernel) ⟨Nat.le_of_ble_eq_true rfl, Nat.le_of_ble_eq_true rfl⟩) 0 rfl rfl rfl rfl (Nat.le_of_ble_eq_true rfl) (cw_eff (v := (σ 1) 40) (fun _ _ h => h) (up2 σ 1 (upd (σ 1) 40 v)) rfl ?_)
    refine cw_goto (pc := 16) (tgt := 21) C dX7_putDriver_16 (by decide) ?_
    refine hret ((σ 1) 40) (up2 σ 1 (upd (σ 1) 40 v)) _ _ dX7_putDriver_21 ?_
    clear hret
    exact ⟨by rw [parR_t (show driB v = true from h6)]; exact mr hT (by omega) (by omega) rfl, congrArg (up2 σ 1) (by rw [parX_t (show driB v = true from h6)]; exact mw hT (by omega) (by omega) rfl)⟩
set_option maxHeartbeats 4000000 in
set_option maxRecDepth 100000 in
theorem c_X7_putState (l : Launch) (D : va_G) (Z : CZ) (A : Nat → Nat) (σ : St) (X : Nat → Int32)  (k : Int32) (v : Int32) (hT : σ 1 = mrow X) (hO : rowOK X) : CTi l yX7_putState wsX7_putState 2 45 D Z (wM Z A) σ [.ref (A 0), .int (k), .int (v)] (fun r σ' => r = staR X k v ∧ σ' = up2 σ 1 (mrow (staX X k v))) := by
  refine CTi.mk (cc := cX7_putState) (nL := 4) (own := RX7) rfl (by decide) rfl (Nat.le_of_ble_eq_true rfl) ?_
  intro p0 e0 s0 m0 g0 b0 t0 c0 A0 Q C hret
  refine cw_lv (lv' := [(0, .ref (A 0)), (1, .int (k)), (2, .int (v))]) [0, 1, 2] rfl ?_
  refine cw_iload_n (pc := 0) C dX7_putState_0 rfl 1 rfl ?_
  refine cw_calls (pc := 1) C dX7_putState_1 (c_X7_isClutch l D Z A σ k) (va_cwS 1 C.1.2.2.2.2 gX7_putState_X7_isClutch rfl rfl rfl (by decide +kernel) ⟨Nat.le_of_ble_eq_true rfl, Nat.le_of_ble_eq_true rfl⟩) rfl rfl (Nat.le_of_ble_eq_true rfl) (cw_purez (b := clB k) (fun _ _ h => h) ?_)
  refine cw_if_eq (pc := 4) (tgt := 16) C dX7_putState_4 (by decide) (fun h4 => ?_) (fun h4 => ?_)
  · -- 4 t
    have h4 := bI_z h4
    refine cw_bipush (pc := 16) C dX7_putState_16 (-2) (by decide) ?_
    refine hret (-2) σ _ _ dX7_putState_18 ?_
    clear hret
    have hq : staB k v = false := by simp [staB, h4]
    exact ⟨by rw [staR, parR_f hq], by rw [staX, parX_f hq, dropS_self hO]; exact selfM hT⟩
  · -- 4 f
    have h4 := bI_nz h4
    obtain ⟨j, hj1, rfl⟩ := clB_t h4
    refine cw_iload_n (pc := 7) C dX7_putState_7 rfl 2 rfl ?_
    refine cw_iconst (pc := 8) C dX7_putState_8 (nI 0) (by decide) ?_
    refine cw_iconst (pc := 9) C dX7_putState_9 (nI 2) (by decide) ?_
    refine cw_calls (pc := 10) C dX7_putState_10 (c_X7_in l D Z A σ v (nI 0) (nI 2)) (va_cwS 3 C.1.2.2.2.2 gX7_putState_X7_in rfl rfl rfl (by decide +kernel) ⟨Nat.le_of_ble_eq_true rfl, Nat.le_of_ble_eq_true rfl⟩) rfl rfl (Nat.le_of_ble_eq_true rfl) (cw_purez (b := withinB v (nI 0) (nI 2)) (fun _ _ h => h) ?_)
    refine cw_if_ne (pc := 13) (tgt := 19) C dX7_putState_13 (by decide) (fun h13 => ?_) (fun h13 => ?_)
    · -- 13 t
      have h13 := bI_nz h13
      refine cw_aload_n (pc := 19) C dX7_putState_19 rfl 0 rfl ?_
      refine cw_bipush (pc := 20) C dX7_putState_20 (nI 8) (by decide) ?_
      refine cw_iload_n (pc := 22) C dX7_putState_22 rfl 1 rfl ?_
      refine cw_iadd (pc := 23) C dX7_putState_23 (z := nI (8 + j)) (nI_add _ _) ?_
      refine cw_iload_n (pc := 24) C dX7_putState_24 rfl 2 rfl ?_
      refine cw_calli (pc := 25) C dX7_putState_25 (c_X7_change l D Z A σ (8 + j) v (by omega)) (cwV 2 C.1.2.2.2.2 gX7_putState_X7_change rfl rfl rfl (by decide +kernel) ⟨Nat.le_of_ble_eq_true rfl, Nat.le_of_ble_eq_true rfl⟩) 0 rfl rfl rfl rfl (Nat.le_of_ble_eq_true rfl) (cw_eff (v := (σ 1) (8 + j)) (fun _ _ h => h) (up2 σ 1 (upd (σ 1) (8 + j) v)) rfl ?_)
      refine cw_istore_n (pc := 28) C dX7_putState_28 rfl (by decide) (lv' := [(3, .int ((σ 1) (8 + j))), (0, .ref (A 0)), (1, .int (nI j)), (2, .int (v))]) rfl ?_
      refine cw_eq (σ' := up2 σ 1 (mrow (upd X (24 + j) v))) (congrArg (fun qz => up2 σ 1 qz) (mw hT (by omega) (by omega) (pm_st (by omega)))) ?_
      refine cw_aload_n (pc := 29) C dX7_putState_29 rfl 1 rfl ?_
      have hf1 : (up2 σ 1 (mrow (upd X (24 + j) v))) 1 = mrow (upd X (24 + j) v) := (up2_eq _ _ _)
      refine cw_callv (pc := 30) C dX7_putState_30 (c_X7_letGo l D Z A (up2 σ 1 (mrow (upd X (24 + j) v))) (upd X (24 + j) v) hf1 ⟨inN X, (rowOK_in hO).1, by rw [upd_ne (by omega)]; exact (rowOK_in hO).2.1⟩) (cwV 0 C.1.2.2.2.2 gX7_putState_X7_letGo rfl rfl rfl (by decide +kernel) ⟨Nat.le_of_ble_eq_true rfl, Nat.le_of_ble_eq_true rfl⟩) 0 rfl rfl rfl rfl (Nat.le_of_ble_eq_true rfl) (cw_effv (fun _ h => h) (up2 σ 1 (mrow (dropS (upd X (24 + j) v)))) (congrArg (wM Z A) (up2_up2 _ 1 _ _)) ?_)
      refine cw_iload_n (pc := 33) C dX7_putState_33 rfl 0 rfl ?_
      refine hret ((σ 1) (8 + j)) (up2 σ 1 (mrow (dropS (upd X (24 + j) v)))) _ _ dX7_putState_34 ?_
      clear hret
      have hq : staB (nI j) v = true := by simp [staB, h4, h13]
      exact ⟨by rw [staR, parR_t hq, tN_N (by omega)]; exact mr hT (by omega) (by omega) (pm_st (by omega)), congrArg (up2 σ 1) (by rw [staX, parX_t hq, tN_N (by omega)])⟩
    · -- 13 f
      have h13 := bI_z h13
      refine cw_bipush (pc := 16) C dX7_putState_16 (-2) (by decide) ?_
      refine hret (-2) σ _ _ dX7_putState_18 ?_
      clear hret
      have hq : staB (nI j) v = false := by simp [staB, h4, h13]
      exact ⟨by rw [staR, parR_f hq], by rw [staX, parX_f hq, dropS_self hO]; exact selfM hT⟩
set_option maxHeartbeats 4000000 in
set_option maxRecDepth 100000 in
theorem c_X7_putSet (l : Launch) (D : va_G) (Z : CZ) (A : Nat → Nat) (σ : St) (X : Nat → Int32)  (k : Int32) (v : Int32) (hT : σ 1 = mrow X) (hO : rowOK X) : CTi l yX7_putSet wsX7_putSet 2 45 D Z (wM Z A) σ [.ref (A 0), .int (k), .int (v)] (fun r σ' => r = setR X k v ∧ σ' = up2 σ 1 (mrow (setX X k v))) := by
  refine CTi.mk (cc := cX7_putSet) (nL := 4) (own := RX7) rfl (by decide) rfl (Nat.le_of_ble_eq_true rfl) ?_
  intro p0 e0 s0 m0 g0 b0 t0 c0 A0 Q C hret
  refine cw_lv (lv' := [(0, .ref (A 0)), (1, .int (k)), (2, .int (v))]) [0, 1, 2] rfl ?_
  refine cw_iload_n (pc := 0) C dX7_putSet_0 rfl 1 rfl ?_
  refine cw_calls (pc := 1) C dX7_putSet_1 (c_X7_isGear l D Z A σ k) (va_cwS 1 C.1.2.2.2.2 gX7_putSet_X7_isGear rfl rfl rfl (by decide +kernel) ⟨Nat.le_of_ble_eq_true rfl, Nat.le_of_ble_eq_true rfl⟩) rfl rfl (Nat.le_of_ble_eq_true rfl) (cw_purez (b := gearB k) (fun _ _ h => h) ?_)
  refine cw_if_eq (pc := 4) (tgt := 17) C dX7_putSet_4 (by decide) (fun h4 => ?_) (fun h4 => ?_)
  · -- 4 t
    have h4 := bI_z h4
    refine cw_bipush (pc := 17) C dX7_putSet_17 (-2) (by decide) ?_
    refine hret (-2) σ _ _ dX7_putSet_19 ?_
    clear hret
    have hq : setB k v = false := by simp [setB, h4]
    exact ⟨by rw [setR_f hq], by rw [setX_f hq]; exact selfM hT⟩
  · -- 4 f
    have h4 := bI_nz h4
    obtain ⟨j, hj1, hj2, rfl⟩ := gearB_t h4
    refine cw_iload_n (pc := 7) C dX7_putSet_7 rfl 2 rfl ?_
    refine cw_iconst (pc := 8) C dX7_putSet_8 (nI 0) (by decide) ?_
    refine cw_bipush (pc := 9) C dX7_putSet_9 (nI 31) (by decide) ?_
    refine cw_calls (pc := 11) C dX7_putSet_11 (c_X7_in l D Z A σ v (nI 0) (nI 31)) (va_cwS 3 C.1.2.2.2.2 gX7_putSet_X7_in rfl rfl rfl (by decide +kernel) ⟨Nat.le_of_ble_eq_true rfl, Nat.le_of_ble_eq_true rfl⟩) rfl rfl (Nat.le_of_ble_eq_true rfl) (cw_purez (b := withinB v (nI 0) (nI 31)) (fun _ _ h => h) ?_)
    refine cw_if_ne (pc := 14) (tgt := 20) C dX7_putSet_14 (by decide) (fun h14 => ?_) (fun h14 => ?_)
    · -- 14 t
      have h14 := bI_nz h14
      refine cw_iconst (pc := 20) C dX7_putSet_20 (nI 1) (by decide) ?_
      refine cw_istore_n (pc := 21) C dX7_putSet_21 rfl (by decide) (lv' := [(3, .int (nI 1)), (0, .ref (A 0)), (1, .int (nI j)), (2, .int (v))]) rfl ?_
      have L22 : ∀ (n22 : Nat) (i : Nat) (hi : i ≤ 7) (hm : 7 < i + n22) (ha : allB (fun q9 => !(takenP X j v (q9 + 1))) i = true), CW p0 l e0 (rmC 2 45) s0 m0 g0 b0 t0 c0 D A0 4 (wM Z A) Q σ 22 [(0, .ref (A 0)), (1, .int (nI j)), (2, .int (v)), (3, .int (nI (i + 1)))] [] := by
        intro n22
        induction n22 with
        | zero => intro i hi hm ha; exact absurd hm (by omega)
        | succ n22 ih22 =>
          intro i hi hm ha
          refine cw_iload_n (pc := 22) C dX7_putSet_22 rfl 3 rfl ?_
          refine cw_bipush (pc := 23) C dX7_putSet_23 (nI 7) (by decide) ?_
          refine cw_icmp_gt (pc := 25) (tgt := 58) C dX7_putSet_25 (by decide) (fun h25 => ?_) (fun h25 => ?_)
          · -- 25 t
            have h25 : 7 < (i + 1) := (nc_gt (a := i + 1) (b := 7) (by omega) (by omega)).mp h25
            obtain rfl : i = 7 := by omega
            refine cw_aload_n (pc := 58) C dX7_putSet_58 rfl 0 rfl ?_
            refine cw_iconst (pc := 59) C dX7_putSet_59 (nI 0) (by decide) ?_
            refine cw_iload_n (pc := 60) C dX7_putSet_60 rfl 1 rfl ?_
            refine cw_iadd (pc := 61) C dX7_putSet_61 (z := nI j) (nI_0add _) ?_
            refine cw_iload_n (pc := 62) C dX7_putSet_62 rfl 2 rfl ?_
            refine cw_calli (pc := 63) C dX7_putSet_63 (c_X7_change l D Z A σ j v (by omega)) (cwV 2 C.1.2.2.2.2 gX7_putSet_X7_change rfl rfl rfl (by decide +kernel) ⟨Nat.le_of_ble_eq_true rfl, Nat.le_of_ble_eq_true rfl⟩) 0 rfl rfl rfl rfl (Nat.le_of_ble_eq_true rfl) (cw_eff (v := (σ 1) j) (fun _ _ h => h) (up2 σ 1 (upd (σ 1) j v)) rfl ?_)
            refine cw_istore_n (pc := 66) C dX7_putSet_66 rfl (by decide) (lv' := [(3, .int ((σ 1) j)), (0, .ref (A 0)), (1, .int (nI j)), (2, .int (v))]) rfl ?_
            refine cw_eq (σ' := up2 σ 1 (mrow (upd X j v))) (congrArg (fun qz => up2 σ 1 qz) (mw hT (by omega) (by omega) (pm_se (by omega)))) ?_
            refine cw_aload_n (pc := 67) C dX7_putSet_67 rfl 1 rfl ?_
            have hf1 : (up2 σ 1 (mrow (upd X j v))) 1 = mrow (upd X j v) := (up2_eq _ _ _)
            refine cw_callv (pc := 68) C dX7_putSet_68 (c_X7_letGo l D Z A (up2 σ 1 (mrow (upd X j v))) (upd X j v) hf1 ⟨inN X, (rowOK_in hO).1, by rw [upd_ne (by omega)]; exact (rowOK_in hO).2.1⟩) (cwV 0 C.1.2.2.2.2 gX7_putSet_X7_letGo rfl rfl rfl (by decide +kernel) ⟨Nat.le_of_ble_eq_true rfl, Nat.le_of_ble_eq_true rfl⟩) 0 rfl rfl rfl rfl (Nat.le_of_ble_eq_true rfl) (cw_effv (fun _ h => h) (up2 σ 1 (mrow (dropS (upd X j v)))) (congrArg (wM Z A) (up2_up2 _ 1 _ _)) ?_)
            refine cw_iload_n (pc := 71) C dX7_putSet_71 rfl 0 rfl ?_
            refine hret ((σ 1) j) (up2 σ 1 (mrow (dropS (upd X j v)))) _ _ dX7_putSet_72 ?_
            clear hret
            have hq : setB (nI j) v = true := by simp [setB, h4, h14]
            have hk : takB X (nI j) v = false := by rw [takB, tN_N (by omega), ha]; rfl
            exact ⟨by rw [show setR X (nI j) v = X j by simp [setR, hq, hk, tN_N (show j < 2 ^ 31 by omega)]]; exact mr hT (by omega) (by omega) (pm_se (by omega)), congrArg (up2 σ 1) (by rw [show setX X (nI j) v = dropS (upd X j v) by simp [setX, hq, hk, tN_N (show j < 2 ^ 31 by omega)]])⟩
          · -- 25 f
            have h25 : ¬ (7 < (i + 1)) := fun qq => h25 ((nc_gt (a := i + 1) (b := 7) (by omega) (by omega)).mpr qq)
            refine cw_iload_n (pc := 28) C dX7_putSet_28 rfl 3 rfl ?_
            refine cw_iload_n (pc := 29) C dX7_putSet_29 rfl 1 rfl ?_
            refine cw_icmp_eq (pc := 30) (tgt := 52) C dX7_putSet_30 (by decide) (fun h30 => ?_) (fun h30 => ?_)
            · -- 30 t
              have h30 : (i + 1) = j := (nc_eq (a := i + 1) (b := j) (by omega) (by omega)).mp h30
              refine cw_iinc (pc := 52) C dX7_putSet_52 3 rfl (nI (i + 1 + 1)) (nI_inc _ 1) (by decide) (lv' := [(3, .int (nI (i + 1 + 1))), (0, .ref (A 0)), (1, .int (nI j)), (2, .int (v))]) rfl ?_
              refine cw_goto (pc := 55) (tgt := 22) C dX7_putSet_55 (by decide) ?_
              refine cw_lv [1, 2, 3, 0] rfl ?_
              exact ih22 (i + 1) (by omega) (by omega) (by rw [allB, ha]; simp [takenP, h30])
            · -- 30 f
              have h30 : ¬ ((i + 1) = j) := fun qq => h30 ((nc_eq (a := i + 1) (b := j) (by omega) (by omega)).mpr qq)
              refine cw_iload_n (pc := 33) C dX7_putSet_33 rfl 2 rfl ?_
              refine cw_if_eq (pc := 34) (tgt := 52) C dX7_putSet_34 (by decide) (fun h34 => ?_) (fun h34 => ?_)
              · -- 34 t
                refine cw_iinc (pc := 52) C dX7_putSet_52 3 rfl (nI (i + 1 + 1)) (nI_inc _ 1) (by decide) (lv' := [(3, .int (nI (i + 1 + 1))), (0, .ref (A 0)), (1, .int (nI j)), (2, .int (v))]) rfl ?_
                refine cw_goto (pc := 55) (tgt := 22) C dX7_putSet_55 (by decide) ?_
                refine cw_lv [1, 2, 3, 0] rfl ?_
                exact ih22 (i + 1) (by omega) (by omega) (by rw [allB, ha]; simp [takenP, h34])
              · -- 34 f
                refine cw_aload_n (pc := 37) C dX7_putSet_37 rfl 0 rfl ?_
                refine cw_get (pc := 38) C dX7_putSet_38 0 (v := .ref (A 1)) rfl rfl 0 rfl (fun _ h => List.mem_cons_of_mem _ (List.mem_append_right _ h)) (by decide) (List.mem_of_getElem? (i := 1) rfl) ?_
                refine cw_iconst (pc := 41) C dX7_putSet_41 (nI 0) (by decide) ?_
                refine cw_iload_n (pc := 42) C dX7_putSet_42 rfl 3 rfl ?_
                refine cw_iadd (pc := 43) C dX7_putSet_43 (z := nI (i + 1)) (nI_0add _) ?_
                refine cw_iald2 (pc := 44) C dX7_putSet_44 1 1 (wM_g1 Z A) (f := σ 1) rfl (i + 1) rfl (by omega) (by decide) ?_
                refine cw_top (X (i + 1)) (mr hT (by omega) (by omega) (pm_se (by omega))) ?_
                refine cw_iload_n (pc := 45) C dX7_putSet_45 rfl 2 rfl ?_
                refine cw_icmp_ne (pc := 46) (tgt := 52) C dX7_putSet_46 (by decide) (fun h46 => ?_) (fun h46 => ?_)
                · -- 46 t
                  refine cw_iinc (pc := 52) C dX7_putSet_52 3 rfl (nI (i + 1 + 1)) (nI_inc _ 1) (by decide) (lv' := [(3, .int (nI (i + 1 + 1))), (0, .ref (A 0)), (1, .int (nI j)), (2, .int (v))]) rfl ?_
                  refine cw_goto (pc := 55) (tgt := 22) C dX7_putSet_55 (by decide) ?_
                  refine cw_lv [1, 2, 3, 0] rfl ?_
                  exact ih22 (i + 1) (by omega) (by omega) (by rw [allB, ha]; simp [takenP, h46])
                · -- 46 f
                  refine cw_bipush (pc := 49) C dX7_putSet_49 (-3) (by decide) ?_
                  refine hret (-3) σ _ _ dX7_putSet_51 ?_
                  clear hret
                  have hq : setB (nI j) v = true := by simp [setB, h4, h14]
                  have hk : takB X (nI j) v = true := by rw [takB, tN_N (by omega), allB_f (i := i) (by omega) (by simp [takenP, h30, h34, h46])]; rfl
                  exact ⟨by simp [setR, hq, hk], by rw [show setX X (nI j) v = X by simp [setX, hq, hk]]; exact selfM hT⟩
      refine cw_lv [1, 2, 3, 0] rfl ?_
      exact L22 8 0 (by omega) (by omega) rfl
    · -- 14 f
      have h14 := bI_z h14
      refine cw_bipush (pc := 17) C dX7_putSet_17 (-2) (by decide) ?_
      refine hret (-2) σ _ _ dX7_putSet_19 ?_
      clear hret
      have hq : setB (nI j) v = false := by simp [setB, h4, h14]
      exact ⟨by rw [setR_f hq], by rw [setX_f hq]; exact selfM hT⟩
set_option maxHeartbeats 4000000 in
set_option maxRecDepth 100000 in
theorem c_X7_drive (l : Launch) (D : va_G) (Z : CZ) (A : Nat → Nat) (σ : St) (X : Nat → Int32)  (v : Int32) (n : Int32) (hT : σ 1 = mrow X) (hO : rowOK X) : CTi l yX7_drive wsX7_drive 5 119 D Z (wM Z A) σ [.ref (A 0), .int (v), .int (n)] (fun r σ' => r = drvR X v n ∧ ∃ (nr : Int32) (fa ra : Nat → Int32), σ' = up2 (up2 (up2 (up2 σ 0 (upd (σ 0) 15 nr)) 1 (mrow (drvX X v n))) 9 fa) 10 ra) := by
  refine CTi.mk (cc := cX7_drive) (nL := 4) (own := RX7) rfl (by decide) rfl (Nat.le_of_ble_eq_true rfl) ?_
  intro p0 e0 s0 m0 g0 b0 t0 c0 A0 Q C hret
  refine cw_lv (lv' := [(0, .ref (A 0)), (1, .int (v)), (2, .int (n))]) [0, 1, 2] rfl ?_
  refine cw_iload_n (pc := 0) C dX7_drive_0 rfl 1 rfl ?_
  refine cw_iconst (pc := 1) C dX7_drive_1 (nI 0) (by decide) ?_
  refine cw_sipush (pc := 2) C dX7_drive_2 (nI 300) (by decide) ?_
  refine cw_calls (pc := 5) C dX7_drive_5 (c_X7_in l D Z A σ v (nI 0) (nI 300)) (va_cwS 3 C.1.2.2.2.2 gX7_drive_X7_in rfl rfl rfl (by decide +kernel) ⟨Nat.le_of_ble_eq_true rfl, Nat.le_of_ble_eq_true rfl⟩) rfl rfl (Nat.le_of_ble_eq_true rfl) (cw_purez (b := withinB v (nI 0) (nI 300)) (fun _ _ h => h) ?_)
  refine cw_if_eq (pc := 8) (tgt := 21) C dX7_drive_8 (by decide) (fun h8 => ?_) (fun h8 => ?_)
  · -- 8 t
    have h8 := bI_z h8
    refine cw_bipush (pc := 21) C dX7_drive_21 (-2) (by decide) ?_
    refine hret (-2) σ _ _ dX7_drive_23 ?_
    clear hret
    have hq : tkB v n = false := by simp [tkB, h8]
    exact ⟨by rw [drvR_f hq], σ 0 15, σ 9, σ 10, by rw [drvX_f hq, ← up4_self]; exact selfM hT⟩
  · -- 8 f
    have h8 := bI_nz h8
    refine cw_iload_n (pc := 11) C dX7_drive_11 rfl 2 rfl ?_
    refine cw_iconst (pc := 12) C dX7_drive_12 (nI 1) (by decide) ?_
    refine cw_bipush (pc := 13) C dX7_drive_13 (nI 60) (by decide) ?_
    refine cw_calls (pc := 15) C dX7_drive_15 (c_X7_in l D Z A σ n (nI 1) (nI 60)) (va_cwS 3 C.1.2.2.2.2 gX7_drive_X7_in rfl rfl rfl (by decide +kernel) ⟨Nat.le_of_ble_eq_true rfl, Nat.le_of_ble_eq_true rfl⟩) rfl rfl (Nat.le_of_ble_eq_true rfl) (cw_purez (b := withinB n (nI 1) (nI 60)) (fun _ _ h => h) ?_)
    refine cw_if_ne (pc := 18) (tgt := 24) C dX7_drive_18 (by decide) (fun h18 => ?_) (fun h18 => ?_)
    · -- 18 t
      have h18 := bI_nz h18
      have hq : tkB v n = true := by simp [tkB, h8, h18]
      obtain ⟨m1, hm0, hm1, rfl⟩ := tkB_t hq
      refine cw_eq (σ' := up2 (up2 (up2 (up2 σ 0 (upd (σ 0) 15 (σ 0 15))) 1 (mrow (tksS X v 0))) 9 (σ 9)) 10 (σ 10)) ((selfM hT).trans (up4_self σ (mrow X))) ?_
      refine cw_iconst (pc := 24) C dX7_drive_24 (nI 0) (by decide) ?_
      refine cw_istore_n (pc := 25) C dX7_drive_25 rfl (by decide) (lv' := [(3, .int (nI 0)), (0, .ref (A 0)), (1, .int (v)), (2, .int (nI m1))]) rfl ?_
      have L26 : ∀ (n26 : Nat) (i : Nat) (nr : Int32) (fa : Nat → Int32) (ra : Nat → Int32) (hi : i ≤ m1) (hm : m1 < i + n26), CW p0 l e0 (rmC 5 119) s0 m0 g0 b0 t0 c0 D A0 4 (wM Z A) Q (up2 (up2 (up2 (up2 σ 0 (upd (σ 0) 15 nr)) 1 (mrow (tksS X v i))) 9 fa) 10 ra) 26 [(0, .ref (A 0)), (1, .int (v)), (2, .int (nI m1)), (3, .int (nI i))] [] := by
        intro n26
        induction n26 with
        | zero => intro i nr fa ra hi hm; exact absurd hm (by omega)
        | succ n26 ih26 =>
          intro i nr fa ra hi hm
          refine cw_iload_n (pc := 26) C dX7_drive_26 rfl 3 rfl ?_
          refine cw_iload_n (pc := 27) C dX7_drive_27 rfl 2 rfl ?_
          refine cw_icmp_ge (pc := 28) (tgt := 42) C dX7_drive_28 (by decide) (fun h28 => ?_) (fun h28 => ?_)
          · -- 28 t
            have h28 : m1 ≤ i := (nc_ge (a := i) (b := m1) (by omega) (by omega)).mp h28
            have him : i = m1 := by omega
            refine cw_aload_n (pc := 42) C dX7_drive_42 rfl 0 rfl ?_
            refine cw_get (pc := 43) C dX7_drive_43 0 (v := .ref (A 1)) rfl rfl 0 rfl (fun _ h => List.mem_cons_of_mem _ (List.mem_append_right _ h)) (by decide) (List.mem_of_getElem? (i := 1) rfl) ?_
            refine cw_bipush (pc := 46) C dX7_drive_46 (nI 43) (by decide) ?_
            refine cw_iald2 (pc := 48) C dX7_drive_48 1 1 (wM_g1 Z A) (f := mrow (tksS X v i)) ((up2_ne _ _ (by decide)).trans ((up2_ne _ _ (by decide)).trans (up2_eq _ _ _))) 43 rfl (by decide) (by decide) ?_
            refine cw_top (nI (inN (tksS X v i))) ((mrow_at (by decide) (by decide)).trans (rowOK_in (tksS_ok hO v i)).2.1) ?_
            refine hret (nI (inN (tksS X v i))) (up2 (up2 (up2 (up2 σ 0 (upd (σ 0) 15 nr)) 1 (mrow (tksS X v i))) 9 fa) 10 ra) _ _ dX7_drive_49 ?_
            clear hret
            exact ⟨by rw [drvR, if_pos hq, tN_N (by omega), him], nr, fa, ra, by rw [drvX, if_pos hq, tN_N (by omega), him]⟩
          · -- 28 f
            have h28 : ¬ (m1 ≤ i) := fun qq => h28 ((nc_ge (a := i) (b := m1) (by omega) (by omega)).mpr qq)
            refine cw_aload_n (pc := 31) C dX7_drive_31 rfl 0 rfl ?_
            refine cw_iload_n (pc := 32) C dX7_drive_32 rfl 1 rfl ?_
            have hf1 : (up2 (up2 (up2 (up2 σ 0 (upd (σ 0) 15 nr)) 1 (mrow (tksS X v i))) 9 fa) 10 ra) 1 = mrow (tksS X v i) := ((up2_ne _ _ (by decide)).trans ((up2_ne _ _ (by decide)).trans (up2_eq _ _ _)))
            refine cw_callv (pc := 33) C dX7_drive_33 (c_X7_tick l D Z A (up2 (up2 (up2 (up2 σ 0 (upd (σ 0) 15 nr)) 1 (mrow (tksS X v i))) 9 fa) 10 ra) (tksS X v i) v hf1 (tksS_ok hO v i)) (cwV 1 C.1.2.2.2.2 gX7_drive_X7_tick rfl rfl rfl (by decide +kernel) ⟨Nat.le_of_ble_eq_true rfl, Nat.le_of_ble_eq_true rfl⟩) 0 rfl rfl rfl rfl (Nat.le_of_ble_eq_true rfl) (fun σ1 hr => ?_)
            obtain ⟨nr2, fa2, ra2, hr⟩ := hr
            subst hr
            refine cw_eq (σ' := up2 (up2 (up2 (up2 σ 0 (upd (σ 0) 15 nr2)) 1 (mrow (tksS X v (i + 1)))) 9 fa2) 10 ra2) (n8m _ _ _ _ _ _ _ _ _) ?_
            refine cw_iinc (pc := 36) C dX7_drive_36 3 rfl (nI (i + 1)) (nI_inc _ 1) (by decide) (lv' := [(3, .int (nI (i + 1))), (0, .ref (A 0)), (1, .int (v)), (2, .int (nI m1))]) rfl ?_
            refine cw_goto (pc := 39) (tgt := 26) C dX7_drive_39 (by decide) ?_
            refine cw_lv [1, 2, 3, 0] rfl ?_
            exact ih26 (i + 1) nr2 fa2 ra2 (by omega) (by omega)
      refine cw_lv [1, 2, 3, 0] rfl ?_
      exact L26 (m1 + 1) 0 (σ 0 15) (σ 9) (σ 10) (by omega) (by omega)
    · -- 18 f
      have h18 := bI_z h18
      refine cw_bipush (pc := 21) C dX7_drive_21 (-2) (by decide) ?_
      refine hret (-2) σ _ _ dX7_drive_23 ?_
      clear hret
      have hq : tkB v n = false := by simp [tkB, h8, h18]
      exact ⟨by rw [drvR_f hq], σ 0 15, σ 9, σ 10, by rw [drvX_f hq, ← up4_self]; exact selfM hT⟩
