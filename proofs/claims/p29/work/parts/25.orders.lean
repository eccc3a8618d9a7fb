set_option maxHeartbeats 4000000 in
set_option maxRecDepth 100000 in
theorem c_X2_replace (l : Launch) (D : va_G) (Z : CZ) (A : Nat → Nat) (σ : St)  (t : Bool) (j : Nat) (v : Int32) (hj : j < 51) : CTi l yX2_replace wsX2_replace 0 0 D Z (wC Z A) σ [.ref (A 8), .int (bI t), .int (nI j), .int (v)] (fun r σ' => r = parR t (σ 1) j ∧ σ' = up2 σ 1 (parX t (σ 1) j v)) := by
  refine CTi.mk (cc := cX2_replace) (nL := 5) (own := RX2) rfl (by decide) rfl (Nat.le_of_ble_eq_true rfl) ?_
  intro p0 e0 s0 m0 g0 b0 t0 c0 A0 Q C hret
  refine cw_lv (lv' := [(0, .ref (A 8)), (1, .int (bI t)), (2, .int (nI j)), (3, .int (v))]) [0, 1, 2, 3] rfl ?_
  refine cw_iload_n (pc := 0) C dX2_replace_0 rfl 1 rfl ?_
  refine cw_if_eq (pc := 1) (tgt := 14) C dX2_replace_1 (by decide) (fun h1 => ?_) (fun h1 => ?_)
  · -- 1 t
    have h1 := bI_z h1
    refine cw_bipush (pc := 14) C dX2_replace_14 (-2) (by decide) ?_
    refine hret (-2) σ _ _ dX2_replace_16 ?_
    clear hret
    exact ⟨by simp [parR, h1], by simp [parX, h1, up2_self]⟩
  · -- 1 f
    have h1 := bI_nz h1
    refine cw_iload_n (pc := 4) C dX2_replace_4 rfl 2 rfl ?_
    refine cw_if_lt (pc := 5) (tgt := 14) C dX2_replace_5 (by decide) (fun h5 => ?_) (fun h5 => ?_)
    · -- 5 t
      have h5 : j < 0 := (nc_lt (a := j) (b := 0) (by omega) (by omega)).mp h5
      exact absurd h5 (by omega)
    · -- 5 f
      have h5 : ¬ (j < 0) := fun qq => h5 ((nc_lt (a := j) (b := 0) (by omega) (by omega)).mpr qq)
      refine cw_iload_n (pc := 8) C dX2_replace_8 rfl 2 rfl ?_
      refine cw_bipush (pc := 9) C dX2_replace_9 (nI 51) (by decide) ?_
      refine cw_icmp_lt (pc := 11) (tgt := 17) C dX2_replace_11 (by decide) (fun h11 => ?_) (fun h11 => ?_)
      · -- 11 t
        have h11 : j < 51 := (nc_lt (a := j) (b := 51) (by omega) (by omega)).mp h11
        refine cw_aload_n (pc := 17) C dX2_replace_17 rfl 0 rfl ?_
        refine cw_get (pc := 18) C dX2_replace_18 8 (v := .ref (A 1)) rfl rfl 0 rfl (fun _ h => List.mem_cons_of_mem _ (List.mem_append_right _ h)) (by decide) (List.mem_of_getElem? (i := 1) rfl) ?_
        refine cw_iload_n (pc := 21) C dX2_replace_21 rfl 2 rfl ?_
        refine cw_iald2 (pc := 22) C dX2_replace_22 1 1 (wC_g1 Z A) (f := σ 1) rfl j rfl (by omega) (by decide) ?_
        refine cw_istore (pc := 23) C dX2_replace_23 (by decide) (lv' := [(4, .int (σ 1 j)), (0, .ref (A 8)), (1, .int (bI t)), (2, .int (nI j)), (3, .int (v))]) rfl ?_
        refine cw_aload_n (pc := 25) C dX2_replace_25 rfl 1 rfl ?_
        refine cw_get (pc := 26) C dX2_replace_26 8 (v := .ref (A 1)) rfl rfl 0 rfl (fun _ h => List.mem_cons_of_mem _ (List.mem_append_right _ h)) (by decide) (List.mem_of_getElem? (i := 1) rfl) ?_
        refine cw_iload_n (pc := 29) C dX2_replace_29 rfl 3 rfl ?_
        refine cw_iload_n (pc := 30) C dX2_replace_30 rfl 4 rfl ?_
        refine cw_iast2 (pc := 31) C dX2_replace_31 1 1 (wC_g1 Z A) (wC_s1 Z A) (f := σ 1) rfl j rfl (by omega) (by decide) (up2 σ 1 (upd (σ 1) j v)) rfl ?_
        refine cw_iload (pc := 32) C dX2_replace_32 0 rfl ?_
        refine hret (σ 1 j) (up2 σ 1 (upd (σ 1) j v)) _ _ dX2_replace_34 ?_
        clear hret
        exact ⟨by simp [parR, h1], by simp [parX, h1]⟩
      · -- 11 f
        have h11 : ¬ (j < 51) := fun qq => h11 ((nc_lt (a := j) (b := 51) (by omega) (by omega)).mpr qq)
        exact absurd h11 (by omega)
set_option maxHeartbeats 4000000 in
set_option maxRecDepth 100000 in
theorem c_X2_replaceF (l : Launch) (D : va_G) (Z : CZ) (A : Nat → Nat) (σ : St)  (p : Int32) (v : Int32)  : CTi l yX2_replace wsX2_replace 0 0 D Z (wC Z A) σ [.ref (A 8), .int (nI 0), .int (p), .int (v)] (fun r σ' => r = -2 ∧ σ' = σ) := by
  refine CTi.mk (cc := cX2_replace) (nL := 5) (own := RX2) rfl (by decide) rfl (Nat.le_of_ble_eq_true rfl) ?_
  intro p0 e0 s0 m0 g0 b0 t0 c0 A0 Q C hret
  refine cw_lv (lv' := [(0, .ref (A 8)), (1, .int (nI 0)), (2, .int (p)), (3, .int (v))]) [0, 1, 2, 3] rfl ?_
  refine cw_iload_n (pc := 0) C dX2_replace_0 rfl 1 rfl ?_
  refine cw_if_eq (pc := 1) (tgt := 14) C dX2_replace_1 (by decide) (fun _ => ?_) (fun h => False.elim (by revert h; decide))
  refine cw_bipush (pc := 14) C dX2_replace_14 (-2) (by decide) ?_
  refine hret (-2) σ _ _ dX2_replace_16 ?_
  clear hret
  exact ⟨rfl, rfl⟩
set_option maxHeartbeats 4000000 in
set_option maxRecDepth 100000 in
theorem c_X2_dropUnfit (l : Launch) (D : va_G) (Z : CZ) (A : Nat → Nat) (σ : St)    : CTv l yX2_dropUnfit wsX2_dropUnfit 1 23 D Z (wC Z A) σ [.ref (A 8)] (fun σ' => σ' = up2 σ 1 (dropS (σ 1))) := by
  refine CTv.mk (cc := cX2_dropUnfit) (nL := 1) (own := RX2) rfl (by decide) rfl (Nat.le_of_ble_eq_true rfl) ?_
  intro p0 e0 s0 m0 g0 b0 t0 c0 A0 Q C hret
  refine cw_lv (lv' := [(0, .ref (A 8))]) [0] rfl ?_
  refine cw_aload_n (pc := 0) C dX2_dropUnfit_0 rfl 0 rfl ?_
  refine cw_get (pc := 1) C dX2_dropUnfit_1 8 (v := .ref (A 3)) rfl rfl 1 rfl (fun _ h => List.mem_cons_of_mem _ (List.mem_append_left _ (List.mem_append_right _ h))) (by decide) (List.mem_of_getElem? (i := 1) rfl) ?_
  refine cw_aload_n (pc := 4) C dX2_dropUnfit_4 rfl 0 rfl ?_
  refine cw_get (pc := 5) C dX2_dropUnfit_5 8 (v := .ref (A 1)) rfl rfl 0 rfl (fun _ h => List.mem_cons_of_mem _ (List.mem_append_left _ (List.mem_append_right _ h))) (by decide) (List.mem_of_getElem? (i := 2) rfl) ?_
  refine cw_bipush (pc := 8) C dX2_dropUnfit_8 (nI 39) (by decide) ?_
  refine cw_iald2 (pc := 10) C dX2_dropUnfit_10 1 1 (wC_g1 Z A) (f := σ 1) rfl 39 rfl (by decide) (by decide) ?_
  refine cw_calli (pc := 11) C dX2_dropUnfit_11 (c_X1_isFit l D Z A σ (σ 1 39)) (cwV 1 C.1.2.2.2.2 gX2_dropUnfit_X1_isFit rfl rfl rfl (by decide +kernel) ⟨Nat.le_of_ble_eq_true rfl, Nat.le_of_ble_eq_true rfl⟩) 3 rfl rfl rfl rfl (Nat.le_of_ble_eq_true rfl) (cw_purez (b := fitI (σ 1) (σ 1 39)) (fun _ _ h => h) ?_)
  refine cw_if_ne (pc := 14) (tgt := 25) C dX2_dropUnfit_14 (by decide) (fun h14 => ?_) (fun h14 => ?_)
  · -- 14 t
    have h14 := bI_nz h14
    refine hret σ _ _ dX2_dropUnfit_25 ?_
    clear hret
    simp [dropS, h14, up2_self]
  · -- 14 f
    have h14 := bI_z h14
    refine cw_aload_n (pc := 17) C dX2_dropUnfit_17 rfl 0 rfl ?_
    refine cw_get (pc := 18) C dX2_dropUnfit_18 8 (v := .ref (A 1)) rfl rfl 0 rfl (fun _ h => List.mem_cons_of_mem _ (List.mem_append_left _ (List.mem_append_right _ h))) (by decide) (List.mem_of_getElem? (i := 2) rfl) ?_
    refine cw_bipush (pc := 21) C dX2_dropUnfit_21 (nI 39) (by decide) ?_
    refine cw_iconst (pc := 23) C dX2_dropUnfit_23 (nI 0) (by decide) ?_
    refine cw_iast2 (pc := 24) C dX2_dropUnfit_24 1 1 (wC_g1 Z A) (wC_s1 Z A) (f := σ 1) rfl 39 rfl (by decide) (by decide) (up2 σ 1 (upd (σ 1) 39 (nI 0))) rfl ?_
    refine hret (up2 σ 1 (upd (σ 1) 39 (nI 0))) _ _ dX2_dropUnfit_25 ?_
    clear hret
    simp [dropS, h14]
set_option maxHeartbeats 4000000 in
set_option maxRecDepth 100000 in
theorem c_X2_changeSet (l : Launch) (D : va_G) (Z : CZ) (A : Nat → Nat) (σ : St)  (g : Int32) (v : Int32)  : CTi l yX2_changeSet wsX2_changeSet 2 43 D Z (wC Z A) σ [.ref (A 8), .int (g), .int (v)] (fun r σ' => r = setR (σ 1) g v ∧ σ' = up2 σ 1 (setX (σ 1) g v)) := by
  refine CTi.mk (cc := cX2_changeSet) (nL := 4) (own := RX2) rfl (by decide) rfl (Nat.le_of_ble_eq_true rfl) ?_
  intro p0 e0 s0 m0 g0 b0 t0 c0 A0 Q C hret
  refine cw_lv (lv' := [(0, .ref (A 8)), (1, .int (g)), (2, .int (v))]) [0, 1, 2] rfl ?_
  refine cw_iload_n (pc := 0) C dX2_changeSet_0 rfl 1 rfl ?_
  refine cw_calln (pc := 1) C dX2_changeSet_1 (c_X6_isGear l D Z A σ g) (va_cnB 1 C.1.2.2.2.2 gX2_changeSet_X6_isGear_n42 rfl rfl rfl C.2.2.1.1 (C.1.2.2.2.2 _ (List.mem_of_getElem? (i := 3) rfl)) (by decide +kernel) ⟨Nat.le_of_ble_eq_true rfl, Nat.le_of_ble_eq_true rfl⟩) (List.mem_of_getElem? (i := 2) rfl) rfl rfl (Nat.le_of_ble_eq_true rfl) (cw_purez (b := gearB g) (fun _ _ h => h) ?_)
  refine cw_if_eq (pc := 4) (tgt := 17) C dX2_changeSet_4 (by decide) (fun h4 => ?_) (fun h4 => ?_)
  · -- 4 t
    have h4 := bI_z h4
    refine cw_bipush (pc := 17) C dX2_changeSet_17 (-2) (by decide) ?_
    refine hret (-2) σ _ _ dX2_changeSet_19 ?_
    clear hret
    have hq : setB g v = false := by simp [setB, h4]
    exact ⟨by simp [setR, hq], by simp [setX, hq, up2_self]⟩
  · -- 4 f
    have h4 := bI_nz h4
    obtain ⟨j, hj1, hj2, rfl⟩ := gearB_t h4
    have hjn : tN (nI j) = j := tN_N (by omega)
    refine cw_iload_n (pc := 7) C dX2_changeSet_7 rfl 2 rfl ?_
    refine cw_iconst (pc := 8) C dX2_changeSet_8 (nI 0) (by decide) ?_
    refine cw_bipush (pc := 9) C dX2_changeSet_9 (nI 31) (by decide) ?_
    refine cw_calln (pc := 11) C dX2_changeSet_11 (c_X6_isWithin l D Z A σ v (nI 0) (nI 31)) (va_cnB 3 C.1.2.2.2.2 gX2_changeSet_X6_isWithin_n34 rfl rfl rfl C.2.2.1.2.1 (C.1.2.2.2.2 _ (List.mem_of_getElem? (i := 3) rfl)) (by decide +kernel) ⟨Nat.le_of_ble_eq_true rfl, Nat.le_of_ble_eq_true rfl⟩) (List.mem_of_getElem? (i := 5) rfl) rfl rfl (Nat.le_of_ble_eq_true rfl) (cw_purez (b := withinB v (nI 0) (nI 31)) (fun _ _ h => h) ?_)
    refine cw_if_ne (pc := 14) (tgt := 20) C dX2_changeSet_14 (by decide) (fun h14 => ?_) (fun h14 => ?_)
    · -- 14 t
      have h14 := bI_nz h14
      refine cw_aload_n (pc := 20) C dX2_changeSet_20 rfl 0 rfl ?_
      refine cw_get (pc := 21) C dX2_changeSet_21 8 (v := .ref (A 3)) rfl rfl 1 rfl (fun _ h => List.mem_cons_of_mem _ (List.mem_append_left _ (List.mem_append_right _ h))) (by decide) (List.mem_of_getElem? (i := 1) rfl) ?_
      refine cw_iload_n (pc := 24) C dX2_changeSet_24 rfl 1 rfl ?_
      refine cw_iload_n (pc := 25) C dX2_changeSet_25 rfl 2 rfl ?_
      refine cw_calli (pc := 26) C dX2_changeSet_26 (c_X1_isTaken l D Z A σ j v (by omega)) (cwV 2 C.1.2.2.2.2 gX2_changeSet_X1_isTaken rfl rfl rfl (by decide +kernel) ⟨Nat.le_of_ble_eq_true rfl, Nat.le_of_ble_eq_true rfl⟩) 3 rfl rfl rfl rfl (Nat.le_of_ble_eq_true rfl) (cw_purez (b := !(allB (fun q9 => !(takenP (σ 1) j v (q9 + 1))) 7)) (fun _ _ h => h) ?_)
      refine cw_if_eq (pc := 29) (tgt := 35) C dX2_changeSet_29 (by decide) (fun h29 => ?_) (fun h29 => ?_)
      · -- 29 t
        have h29 := bI_z h29
        refine cw_aload_n (pc := 35) C dX2_changeSet_35 rfl 0 rfl ?_
        refine cw_iconst (pc := 36) C dX2_changeSet_36 (nI 1) (by decide) ?_
        refine cw_iconst (pc := 37) C dX2_changeSet_37 (nI 0) (by decide) ?_
        refine cw_iload_n (pc := 38) C dX2_changeSet_38 rfl 1 rfl ?_
        refine cw_iadd (pc := 39) C dX2_changeSet_39 (z := nI j) (nI_0add _) ?_
        refine cw_iload_n (pc := 40) C dX2_changeSet_40 rfl 2 rfl ?_
        refine cw_calli (pc := 41) C dX2_changeSet_41 (c_X2_replace l D Z A σ true j v (by omega)) (cwV 3 C.1.2.2.2.2 gX2_changeSet_X2_replace rfl rfl rfl (by decide +kernel) ⟨Nat.le_of_ble_eq_true rfl, Nat.le_of_ble_eq_true rfl⟩) 8 rfl rfl rfl rfl (Nat.le_of_ble_eq_true rfl) (cw_eff (v := (σ 1) j) (fun _ _ h => h) (up2 σ 1 (upd (σ 1) j v)) rfl ?_)
        refine cw_istore_n (pc := 44) C dX2_changeSet_44 rfl (by decide) (lv' := [(3, .int ((σ 1) j)), (0, .ref (A 8)), (1, .int (nI j)), (2, .int (v))]) rfl ?_
        refine cw_aload_n (pc := 45) C dX2_changeSet_45 rfl 1 rfl ?_
        have hf1 : (up2 σ 1 (upd (σ 1) j v)) 1 = upd (σ 1) j v := (up2_eq _ _ _)
        have ee0 := congrArg (fun qz => dropS qz) hf1
        have e3 := congrArg (fun qz => up2 σ 1 qz) ee0
        refine cw_callv (pc := 46) C dX2_changeSet_46 (c_X2_dropUnfit l D Z A (up2 σ 1 (upd (σ 1) j v)) ) (cwV 0 C.1.2.2.2.2 gX2_changeSet_X2_dropUnfit rfl rfl rfl (by decide +kernel) ⟨Nat.le_of_ble_eq_true rfl, Nat.le_of_ble_eq_true rfl⟩) 8 rfl rfl rfl rfl (Nat.le_of_ble_eq_true rfl) (cw_effv (fun _ h => h) (up2 σ 1 (dropS (upd (σ 1) j v))) (congrArg (wC Z A) ((up2_up2 _ 1 _ _).trans e3)) ?_)
        refine cw_iload_n (pc := 49) C dX2_changeSet_49 rfl 0 rfl ?_
        refine hret ((σ 1) j) (up2 σ 1 (dropS (upd (σ 1) j v))) _ _ dX2_changeSet_50 ?_
        clear hret
        have hq : setB (nI j) v = true := by simp [setB, h4, h14]
        have hk : takB (σ 1) (nI j) v = false := by rw [takB, hjn]; exact h29
        exact ⟨by simp [setR, hq, hk, hjn], by simp [setX, hq, hk, hjn]⟩
      · -- 29 f
        have h29 := bI_nz h29
        refine cw_bipush (pc := 32) C dX2_changeSet_32 (-3) (by decide) ?_
        refine hret (-3) σ _ _ dX2_changeSet_34 ?_
        clear hret
        have hq : setB (nI j) v = true := by simp [setB, h4, h14]
        have hk : takB (σ 1) (nI j) v = true := by rw [takB, hjn]; exact h29
        exact ⟨by simp [setR, hq, hk], by simp [setX, hq, hk, up2_self]⟩
    · -- 14 f
      have h14 := bI_z h14
      refine cw_bipush (pc := 17) C dX2_changeSet_17 (-2) (by decide) ?_
      refine hret (-2) σ _ _ dX2_changeSet_19 ?_
      clear hret
      have hq : setB (nI j) v = false := by simp [setB, h4, h14]
      exact ⟨by simp [setR, hq], by simp [setX, hq, up2_self]⟩
set_option maxHeartbeats 4000000 in
set_option maxRecDepth 100000 in
theorem c_X2_changeStatus (l : Launch) (D : va_G) (Z : CZ) (A : Nat → Nat) (σ : St)  (k : Int32) (v : Int32)  : CTi l yX2_changeStatus wsX2_changeStatus 2 43 D Z (wC Z A) σ [.ref (A 8), .int (k), .int (v)] (fun r σ' => r = staR (σ 1) k v ∧ σ' = up2 σ 1 (staX (σ 1) k v)) := by
  refine CTi.mk (cc := cX2_changeStatus) (nL := 4) (own := RX2) rfl (by decide) rfl (Nat.le_of_ble_eq_true rfl) ?_
  intro p0 e0 s0 m0 g0 b0 t0 c0 A0 Q C hret
  refine cw_lv (lv' := [(0, .ref (A 8)), (1, .int (k)), (2, .int (v))]) [0, 1, 2] rfl ?_
  refine cw_aload_n (pc := 0) C dX2_changeStatus_0 rfl 0 rfl ?_
  refine cw_iload_n (pc := 1) C dX2_changeStatus_1 rfl 1 rfl ?_
  refine cw_calln (pc := 2) C dX2_changeStatus_2 (c_X6_isClutch l D Z A σ k) (va_cnB 1 C.1.2.2.2.2 gX2_changeStatus_X6_isClutch_n30 rfl rfl rfl C.2.2.1.2.2.1 (C.1.2.2.2.2 _ (List.mem_of_getElem? (i := 2) rfl)) (by decide +kernel) ⟨Nat.le_of_ble_eq_true rfl, Nat.le_of_ble_eq_true rfl⟩) (List.mem_of_getElem? (i := 1) rfl) rfl rfl (Nat.le_of_ble_eq_true rfl) (cw_purez (b := clB k) (fun _ _ h => h) ?_)
  refine cw_if_eq (pc := 5) (tgt := 21) C dX2_changeStatus_5 (by decide) (fun h5 => ?_) (fun h5 => ?_)
  · -- 5 t
    have h5 := bI_z h5
    refine cw_iconst (pc := 21) C dX2_changeStatus_21 (nI 0) (by decide) ?_
    refine cw_bipush (pc := 22) C dX2_changeStatus_22 (nI 24) (by decide) ?_
    refine cw_iload_n (pc := 24) C dX2_changeStatus_24 rfl 1 rfl ?_
    refine cw_iadd (pc := 25) C dX2_changeStatus_25 (z := (nI 24) + k) rfl ?_
    refine cw_iload_n (pc := 26) C dX2_changeStatus_26 rfl 2 rfl ?_
    refine cw_calli (pc := 27) C dX2_changeStatus_27 (c_X2_replaceF l D Z A σ ((nI 24) + k) v) (cwV 3 C.1.2.2.2.2 gX2_changeStatus_X2_replace rfl rfl rfl (by decide +kernel) ⟨Nat.le_of_ble_eq_true rfl, Nat.le_of_ble_eq_true rfl⟩) 8 rfl rfl rfl rfl (Nat.le_of_ble_eq_true rfl) (cw_pure (v := (-2)) (fun _ _ h => h) ?_)
    refine cw_istore_n (pc := 30) C dX2_changeStatus_30 rfl (by decide) (lv' := [(3, .int ((-2))), (0, .ref (A 8)), (1, .int (k)), (2, .int (v))]) rfl ?_
    refine cw_aload_n (pc := 31) C dX2_changeStatus_31 rfl 1 rfl ?_
    refine cw_callv (pc := 32) C dX2_changeStatus_32 (c_X2_dropUnfit l D Z A σ ) (cwV 0 C.1.2.2.2.2 gX2_changeStatus_X2_dropUnfit rfl rfl rfl (by decide +kernel) ⟨Nat.le_of_ble_eq_true rfl, Nat.le_of_ble_eq_true rfl⟩) 8 rfl rfl rfl rfl (Nat.le_of_ble_eq_true rfl) (cw_effv (fun _ h => h) (up2 σ 1 (dropS (σ 1))) rfl ?_)
    refine cw_iload_n (pc := 35) C dX2_changeStatus_35 rfl 0 rfl ?_
    refine hret (-2) (up2 σ 1 (dropS (σ 1))) _ _ dX2_changeStatus_36 ?_
    clear hret
    have hq : staB k v = false := by simp [staB, h5]
    exact ⟨by simp [staR, parR, hq], by simp [staX, parX, hq]⟩
  · -- 5 f
    have h5 := bI_nz h5
    obtain ⟨j, hj1, rfl⟩ := clB_t h5
    have hjn : tN (nI j) = j := tN_N (by omega)
    refine cw_iload_n (pc := 8) C dX2_changeStatus_8 rfl 2 rfl ?_
    refine cw_iconst (pc := 9) C dX2_changeStatus_9 (nI 0) (by decide) ?_
    refine cw_iconst (pc := 10) C dX2_changeStatus_10 (nI 2) (by decide) ?_
    refine cw_calln (pc := 11) C dX2_changeStatus_11 (c_X6_isWithin l D Z A σ v (nI 0) (nI 2)) (va_cnB 3 C.1.2.2.2.2 gX2_changeStatus_X6_isWithin_n34 rfl rfl rfl C.2.2.1.2.1 (C.1.2.2.2.2 _ (List.mem_of_getElem? (i := 2) rfl)) (by decide +kernel) ⟨Nat.le_of_ble_eq_true rfl, Nat.le_of_ble_eq_true rfl⟩) (List.mem_of_getElem? (i := 4) rfl) rfl rfl (Nat.le_of_ble_eq_true rfl) (cw_purez (b := withinB v (nI 0) (nI 2)) (fun _ _ h => h) ?_)
    refine cw_if_eq (pc := 14) (tgt := 21) C dX2_changeStatus_14 (by decide) (fun h14 => ?_) (fun h14 => ?_)
    · -- 14 t
      have h14 := bI_z h14
      refine cw_iconst (pc := 21) C dX2_changeStatus_21 (nI 0) (by decide) ?_
      refine cw_bipush (pc := 22) C dX2_changeStatus_22 (nI 24) (by decide) ?_
      refine cw_iload_n (pc := 24) C dX2_changeStatus_24 rfl 1 rfl ?_
      refine cw_iadd (pc := 25) C dX2_changeStatus_25 (z := nI (24 + j)) (nI_add _ _) ?_
      refine cw_iload_n (pc := 26) C dX2_changeStatus_26 rfl 2 rfl ?_
      refine cw_calli (pc := 27) C dX2_changeStatus_27 (c_X2_replaceF l D Z A σ (nI (24 + j)) v) (cwV 3 C.1.2.2.2.2 gX2_changeStatus_X2_replace rfl rfl rfl (by decide +kernel) ⟨Nat.le_of_ble_eq_true rfl, Nat.le_of_ble_eq_true rfl⟩) 8 rfl rfl rfl rfl (Nat.le_of_ble_eq_true rfl) (cw_pure (v := (-2)) (fun _ _ h => h) ?_)
      refine cw_istore_n (pc := 30) C dX2_changeStatus_30 rfl (by decide) (lv' := [(3, .int ((-2))), (0, .ref (A 8)), (1, .int (nI j)), (2, .int (v))]) rfl ?_
      refine cw_aload_n (pc := 31) C dX2_changeStatus_31 rfl 1 rfl ?_
      refine cw_callv (pc := 32) C dX2_changeStatus_32 (c_X2_dropUnfit l D Z A σ ) (cwV 0 C.1.2.2.2.2 gX2_changeStatus_X2_dropUnfit rfl rfl rfl (by decide +kernel) ⟨Nat.le_of_ble_eq_true rfl, Nat.le_of_ble_eq_true rfl⟩) 8 rfl rfl rfl rfl (Nat.le_of_ble_eq_true rfl) (cw_effv (fun _ h => h) (up2 σ 1 (dropS (σ 1))) rfl ?_)
      refine cw_iload_n (pc := 35) C dX2_changeStatus_35 rfl 0 rfl ?_
      refine hret (-2) (up2 σ 1 (dropS (σ 1))) _ _ dX2_changeStatus_36 ?_
      clear hret
      have hq : staB (nI j) v = false := by simp [staB, h5, h14]
      exact ⟨by simp [staR, parR, hq, hjn], by simp [staX, parX, hq, hjn]⟩
    · -- 14 f
      have h14 := bI_nz h14
      refine cw_iconst (pc := 17) C dX2_changeStatus_17 (nI 1) (by decide) ?_
      refine cw_goto (pc := 18) (tgt := 22) C dX2_changeStatus_18 (by decide) ?_
      refine cw_bipush (pc := 22) C dX2_changeStatus_22 (nI 24) (by decide) ?_
      refine cw_iload_n (pc := 24) C dX2_changeStatus_24 rfl 1 rfl ?_
      refine cw_iadd (pc := 25) C dX2_changeStatus_25 (z := nI (24 + j)) (nI_add _ _) ?_
      refine cw_iload_n (pc := 26) C dX2_changeStatus_26 rfl 2 rfl ?_
      refine cw_calli (pc := 27) C dX2_changeStatus_27 (c_X2_replace l D Z A σ true (24 + j) v (by omega)) (cwV 3 C.1.2.2.2.2 gX2_changeStatus_X2_replace rfl rfl rfl (by decide +kernel) ⟨Nat.le_of_ble_eq_true rfl, Nat.le_of_ble_eq_true rfl⟩) 8 rfl rfl rfl rfl (Nat.le_of_ble_eq_true rfl) (cw_eff (v := (σ 1) (24 + j)) (fun _ _ h => h) (up2 σ 1 (upd (σ 1) (24 + j) v)) rfl ?_)
      refine cw_istore_n (pc := 30) C dX2_changeStatus_30 rfl (by decide) (lv' := [(3, .int ((σ 1) (24 + j))), (0, .ref (A 8)), (1, .int (nI j)), (2, .int (v))]) rfl ?_
      refine cw_aload_n (pc := 31) C dX2_changeStatus_31 rfl 1 rfl ?_
      have hf1 : (up2 σ 1 (upd (σ 1) (24 + j) v)) 1 = upd (σ 1) (24 + j) v := (up2_eq _ _ _)
      have ee0 := congrArg (fun qz => dropS qz) hf1
      have e3 := congrArg (fun qz => up2 σ 1 qz) ee0
      refine cw_callv (pc := 32) C dX2_changeStatus_32 (c_X2_dropUnfit l D Z A (up2 σ 1 (upd (σ 1) (24 + j) v)) ) (cwV 0 C.1.2.2.2.2 gX2_changeStatus_X2_dropUnfit rfl rfl rfl (by decide +kernel) ⟨Nat.le_of_ble_eq_true rfl, Nat.le_of_ble_eq_true rfl⟩) 8 rfl rfl rfl rfl (Nat.le_of_ble_eq_true rfl) (cw_effv (fun _ h => h) (up2 σ 1 (dropS (upd (σ 1) (24 + j) v))) (congrArg (wC Z A) ((up2_up2 _ 1 _ _).trans e3)) ?_)
      refine cw_iload_n (pc := 35) C dX2_changeStatus_35 rfl 0 rfl ?_
      refine hret ((σ 1) (24 + j)) (up2 σ 1 (dropS (upd (σ 1) (24 + j) v))) _ _ dX2_changeStatus_36 ?_
      clear hret
      have hq : staB (nI j) v = true := by simp [staB, h5, h14]
      exact ⟨by simp [staR, parR, hq, hjn], by simp [staX, parX, hq, hjn]⟩
set_option maxHeartbeats 4000000 in
set_option maxRecDepth 100000 in
theorem c_X2_changeRule (l : Launch) (D : va_G) (Z : CZ) (A : Nat → Nat) (σ : St)  (k : Int32) (v : Int32)  : CTi l yX2_changeRule wsX2_changeRule 1 24 D Z (wC Z A) σ [.ref (A 8), .int (k), .int (v)] (fun r σ' => r = rulR (σ 1) k v ∧ σ' = up2 σ 1 (rulX (σ 1) k v)) := by
  refine CTi.mk (cc := cX2_changeRule) (nL := 3) (own := RX2) rfl (by decide) rfl (Nat.le_of_ble_eq_true rfl) ?_
  intro p0 e0 s0 m0 g0 b0 t0 c0 A0 Q C hret
  refine cw_lv (lv' := [(0, .ref (A 8)), (1, .int (k)), (2, .int (v))]) [0, 1, 2] rfl ?_
  refine cw_iload_n (pc := 0) C dX2_changeRule_0 rfl 1 rfl ?_
  refine cw_if_ne (pc := 1) (tgt := 19) C dX2_changeRule_1 (by decide) (fun h1 => ?_) (fun h1 => ?_)
  · -- 1 t
    refine cw_aload_n (pc := 19) C dX2_changeRule_19 rfl 0 rfl ?_
    refine cw_iload_n (pc := 20) C dX2_changeRule_20 rfl 1 rfl ?_
    refine cw_iconst (pc := 21) C dX2_changeRule_21 (nI 1) (by decide) ?_
    refine cw_icmp_ne (pc := 22) (tgt := 40) C dX2_changeRule_22 (by decide) (fun h22 => ?_) (fun h22 => ?_)
    · -- 22 t
      refine cw_iconst (pc := 40) C dX2_changeRule_40 (nI 0) (by decide) ?_
      refine cw_bipush (pc := 41) C dX2_changeRule_41 (nI 50) (by decide) ?_
      refine cw_iload_n (pc := 43) C dX2_changeRule_43 rfl 2 rfl ?_
      refine cw_calli (pc := 44) C dX2_changeRule_44 (c_X2_replaceF l D Z A σ (nI 50) v) (cwV 3 C.1.2.2.2.2 gX2_changeRule_X2_replace rfl rfl rfl (by decide +kernel) ⟨Nat.le_of_ble_eq_true rfl, Nat.le_of_ble_eq_true rfl⟩) 8 rfl rfl rfl rfl (Nat.le_of_ble_eq_true rfl) (cw_pure (v := (-2)) (fun _ _ h => h) ?_)
      refine hret (-2) σ _ _ dX2_changeRule_47 ?_
      clear hret
      exact ⟨by rw [rulR, if_neg h1]; simp [parR, h22], by rw [rulX, if_neg h1]; simp [parX, h22, up2_self]⟩
    · -- 22 f
      refine cw_iload_n (pc := 25) C dX2_changeRule_25 rfl 2 rfl ?_
      refine cw_iconst (pc := 26) C dX2_changeRule_26 (nI 0) (by decide) ?_
      refine cw_sipush (pc := 27) C dX2_changeRule_27 (nI 999) (by decide) ?_
      refine cw_calln (pc := 30) C dX2_changeRule_30 (c_X6_isWithin l D Z A σ v (nI 0) (nI 999)) (va_cnB 3 C.1.2.2.2.2 gX2_changeRule_X6_isWithin_n34 rfl rfl rfl C.2.2.1.2.1 (C.1.2.2.2.2 _ (List.mem_of_getElem? (i := 2) rfl)) (by decide +kernel) ⟨Nat.le_of_ble_eq_true rfl, Nat.le_of_ble_eq_true rfl⟩) (List.mem_of_getElem? (i := 1) rfl) rfl rfl (Nat.le_of_ble_eq_true rfl) (cw_purez (b := withinB v (nI 0) (nI 999)) (fun _ _ h => h) ?_)
      refine cw_if_eq (pc := 33) (tgt := 40) C dX2_changeRule_33 (by decide) (fun h33 => ?_) (fun h33 => ?_)
      · -- 33 t
        have h33 := bI_z h33
        refine cw_iconst (pc := 40) C dX2_changeRule_40 (nI 0) (by decide) ?_
        refine cw_bipush (pc := 41) C dX2_changeRule_41 (nI 50) (by decide) ?_
        refine cw_iload_n (pc := 43) C dX2_changeRule_43 rfl 2 rfl ?_
        refine cw_calli (pc := 44) C dX2_changeRule_44 (c_X2_replaceF l D Z A σ (nI 50) v) (cwV 3 C.1.2.2.2.2 gX2_changeRule_X2_replace rfl rfl rfl (by decide +kernel) ⟨Nat.le_of_ble_eq_true rfl, Nat.le_of_ble_eq_true rfl⟩) 8 rfl rfl rfl rfl (Nat.le_of_ble_eq_true rfl) (cw_pure (v := (-2)) (fun _ _ h => h) ?_)
        refine hret (-2) σ _ _ dX2_changeRule_47 ?_
        clear hret
        exact ⟨by rw [rulR, if_neg h1]; simp [parR, h22, h33], by rw [rulX, if_neg h1]; simp [parX, h22, h33, up2_self]⟩
      · -- 33 f
        have h33 := bI_nz h33
        refine cw_iconst (pc := 36) C dX2_changeRule_36 (nI 1) (by decide) ?_
        refine cw_goto (pc := 37) (tgt := 41) C dX2_changeRule_37 (by decide) ?_
        refine cw_bipush (pc := 41) C dX2_changeRule_41 (nI 50) (by decide) ?_
        refine cw_iload_n (pc := 43) C dX2_changeRule_43 rfl 2 rfl ?_
        refine cw_calli (pc := 44) C dX2_changeRule_44 (c_X2_replace l D Z A σ true 50 v (by omega)) (cwV 3 C.1.2.2.2.2 gX2_changeRule_X2_replace rfl rfl rfl (by decide +kernel) ⟨Nat.le_of_ble_eq_true rfl, Nat.le_of_ble_eq_true rfl⟩) 8 rfl rfl rfl rfl (Nat.le_of_ble_eq_true rfl) (cw_eff (v := (σ 1) 50) (fun _ _ h => h) (up2 σ 1 (upd (σ 1) 50 v)) rfl ?_)
        refine hret ((σ 1) 50) (up2 σ 1 (upd (σ 1) 50 v)) _ _ dX2_changeRule_47 ?_
        clear hret
        exact ⟨by rw [rulR, if_neg h1]; simp [parR, h22, h33], by rw [rulX, if_neg h1]; simp [parX, h22, h33, up2_self]⟩
  · -- 1 f
    refine cw_aload_n (pc := 4) C dX2_changeRule_4 rfl 0 rfl ?_
    refine cw_iload_n (pc := 5) C dX2_changeRule_5 rfl 2 rfl ?_
    refine cw_iconst (pc := 6) C dX2_changeRule_6 (nI 1) (by decide) ?_
    refine cw_bipush (pc := 7) C dX2_changeRule_7 (nI 12) (by decide) ?_
    refine cw_calln (pc := 9) C dX2_changeRule_9 (c_X6_isWithin l D Z A σ v (nI 1) (nI 12)) (va_cnB 3 C.1.2.2.2.2 gX2_changeRule_X6_isWithin_n34 rfl rfl rfl C.2.2.1.2.1 (C.1.2.2.2.2 _ (List.mem_of_getElem? (i := 2) rfl)) (by decide +kernel) ⟨Nat.le_of_ble_eq_true rfl, Nat.le_of_ble_eq_true rfl⟩) (List.mem_of_getElem? (i := 1) rfl) rfl rfl (Nat.le_of_ble_eq_true rfl) (cw_purez (b := withinB v (nI 1) (nI 12)) (fun _ _ h => h) ?_)
    refine cw_bipush (pc := 12) C dX2_changeRule_12 (nI 49) (by decide) ?_
    refine cw_iload_n (pc := 14) C dX2_changeRule_14 rfl 2 rfl ?_
    refine cw_calli (pc := 15) C dX2_changeRule_15 (c_X2_replace l D Z A σ (withinB v (nI 1) (nI 12)) 49 v (by omega)) (cwV 3 C.1.2.2.2.2 gX2_changeRule_X2_replace rfl rfl rfl (by decide +kernel) ⟨Nat.le_of_ble_eq_true rfl, Nat.le_of_ble_eq_true rfl⟩) 8 rfl rfl rfl rfl (Nat.le_of_ble_eq_true rfl) (cw_eff (v := parR (withinB v (nI 1) (nI 12)) (σ 1) 49) (fun _ _ h => h) (up2 σ 1 (parX (withinB v (nI 1) (nI 12)) (σ 1) 49 v)) rfl ?_)
    refine hret (parR (withinB v (nI 1) (nI 12)) (σ 1) 49) (up2 σ 1 (parX (withinB v (nI 1) (nI 12)) (σ 1) 49 v)) _ _ dX2_changeRule_18 ?_
    clear hret
    exact ⟨by simp [rulR, h1], by simp [rulX, h1]⟩
set_option maxHeartbeats 4000000 in
set_option maxRecDepth 100000 in
theorem c_X2_areTicks (l : Launch) (D : va_G) (Z : CZ) (A : Nat → Nat) (σ : St)  (v : Int32) (k : Int32)  : CTz l yX2_areTicks wsX2_areTicks 1 22 D Z (wC Z A) σ [.int (v), .int (k)] (fun z σ' => z = tkB v k ∧ σ' = σ) := by
  refine CTz.mk (cc := cX2_areTicks) (nL := 2) (own := RX2) rfl (by decide) rfl (Nat.le_of_ble_eq_true rfl) ?_
  intro p0 e0 s0 m0 g0 b0 t0 c0 A0 Q C hret
  refine cw_lv (lv' := [(0, .int (v)), (1, .int (k))]) [0, 1] rfl ?_
  refine cw_iload_n (pc := 0) C dX2_areTicks_0 rfl 0 rfl ?_
  refine cw_iconst (pc := 1) C dX2_areTicks_1 (nI 0) (by decide) ?_
  refine cw_sipush (pc := 2) C dX2_areTicks_2 (nI 300) (by decide) ?_
  refine cw_calln (pc := 5) C dX2_areTicks_5 (c_X6_isWithin l D Z A σ v (nI 0) (nI 300)) (va_cnB 3 C.1.2.2.2.2 gX2_areTicks_X6_isWithin_n34 rfl rfl rfl C.2.2.1.2.1 (C.1.2.2.2.2 _ (List.mem_of_getElem? (i := 2) rfl)) (by decide +kernel) ⟨Nat.le_of_ble_eq_true rfl, Nat.le_of_ble_eq_true rfl⟩) (List.mem_of_getElem? (i := 1) rfl) rfl rfl (Nat.le_of_ble_eq_true rfl) (cw_purez (b := withinB v (nI 0) (nI 300)) (fun _ _ h => h) ?_)
  refine cw_if_eq (pc := 8) (tgt := 25) C dX2_areTicks_8 (by decide) (fun h8 => ?_) (fun h8 => ?_)
  · -- 8 t
    have h8 := bI_z h8
    refine cw_iconst (pc := 25) C dX2_areTicks_25 (nI 0) (by decide) ?_
    refine hret false σ _ _ dX2_areTicks_26 ?_
    clear hret
    exact ⟨by simp [tkB, h8], rfl⟩
  · -- 8 f
    have h8 := bI_nz h8
    refine cw_iload_n (pc := 11) C dX2_areTicks_11 rfl 1 rfl ?_
    refine cw_iconst (pc := 12) C dX2_areTicks_12 (nI 1) (by decide) ?_
    refine cw_bipush (pc := 13) C dX2_areTicks_13 (nI 60) (by decide) ?_
    refine cw_calln (pc := 15) C dX2_areTicks_15 (c_X6_isWithin l D Z A σ k (nI 1) (nI 60)) (va_cnB 3 C.1.2.2.2.2 gX2_areTicks_X6_isWithin_n34 rfl rfl rfl C.2.2.1.2.1 (C.1.2.2.2.2 _ (List.mem_of_getElem? (i := 2) rfl)) (by decide +kernel) ⟨Nat.le_of_ble_eq_true rfl, Nat.le_of_ble_eq_true rfl⟩) (List.mem_of_getElem? (i := 1) rfl) rfl rfl (Nat.le_of_ble_eq_true rfl) (cw_purez (b := withinB k (nI 1) (nI 60)) (fun _ _ h => h) ?_)
    refine cw_if_eq (pc := 18) (tgt := 25) C dX2_areTicks_18 (by decide) (fun h18 => ?_) (fun h18 => ?_)
    · -- 18 t
      have h18 := bI_z h18
      refine cw_iconst (pc := 25) C dX2_areTicks_25 (nI 0) (by decide) ?_
      refine hret false σ _ _ dX2_areTicks_26 ?_
      clear hret
      exact ⟨by simp [tkB, h8, h18], rfl⟩
    · -- 18 f
      have h18 := bI_nz h18
      refine cw_iconst (pc := 21) C dX2_areTicks_21 (nI 1) (by decide) ?_
      refine cw_goto (pc := 22) (tgt := 26) C dX2_areTicks_22 (by decide) ?_
      refine hret true σ _ _ dX2_areTicks_26 ?_
      clear hret
      exact ⟨by simp [tkB, h8, h18], rfl⟩
set_option maxHeartbeats 4000000 in
set_option maxRecDepth 100000 in
theorem c_X2_putIn (l : Launch) (D : va_G) (Z : CZ) (A : Nat → Nat) (σ : St)  (g : Int32)  : CTi l yX2_putIn wsX2_putIn 1 24 D Z (wC Z A) σ [.ref (A 8), .int (g)] (fun r σ' => r = putR (σ 1) g ∧ σ' = up2 σ 1 (putX (σ 1) g)) := by
  refine CTi.mk (cc := cX2_putIn) (nL := 2) (own := RX2) rfl (by decide) rfl (Nat.le_of_ble_eq_true rfl) ?_
  intro p0 e0 s0 m0 g0 b0 t0 c0 A0 Q C hret
  refine cw_lv (lv' := [(0, .ref (A 8)), (1, .int (g))]) [0, 1] rfl ?_
  refine cw_iload_n (pc := 0) C dX2_putIn_0 rfl 1 rfl ?_
  refine cw_if_eq (pc := 1) (tgt := 14) C dX2_putIn_1 (by decide) (fun h1 => ?_) (fun h1 => ?_)
  · -- 1 t
    refine cw_iload_n (pc := 14) C dX2_putIn_14 rfl 1 rfl ?_
    refine cw_if_eq (pc := 15) (tgt := 29) C dX2_putIn_15 (by decide) (fun h15 => ?_) (fun h15 => ?_)
    · -- 15 t
      refine cw_aload_n (pc := 29) C dX2_putIn_29 rfl 0 rfl ?_
      refine cw_iconst (pc := 30) C dX2_putIn_30 (nI 1) (by decide) ?_
      refine cw_bipush (pc := 31) C dX2_putIn_31 (nI 39) (by decide) ?_
      refine cw_iload_n (pc := 33) C dX2_putIn_33 rfl 1 rfl ?_
      refine cw_calli (pc := 34) C dX2_putIn_34 (c_X2_replace l D Z A σ true 39 g (by omega)) (cwV 3 C.1.2.2.2.2 gX2_putIn_X2_replace rfl rfl rfl (by decide +kernel) ⟨Nat.le_of_ble_eq_true rfl, Nat.le_of_ble_eq_true rfl⟩) 8 rfl rfl rfl rfl (Nat.le_of_ble_eq_true rfl) (cw_eff (v := (σ 1) 39) (fun _ _ h => h) (up2 σ 1 (upd (σ 1) 39 g)) rfl ?_)
      refine cw_goto (pc := 37) (tgt := 42) C dX2_putIn_37 (by decide) ?_
      refine hret ((σ 1) 39) (up2 σ 1 (upd (σ 1) 39 g)) _ _ dX2_putIn_42 ?_
      clear hret
      exact ⟨by simp [putR, h1, h15], by simp [putX, h1, h15, up2_self]⟩
    · -- 15 f
      exact absurd h1 h15
  · -- 1 f
    refine cw_iload_n (pc := 4) C dX2_putIn_4 rfl 1 rfl ?_
    refine cw_calln (pc := 5) C dX2_putIn_5 (c_X6_isGear l D Z A σ g) (va_cnB 1 C.1.2.2.2.2 gX2_putIn_X6_isGear_n42 rfl rfl rfl C.2.2.1.1 (C.1.2.2.2.2 _ (List.mem_of_getElem? (i := 3) rfl)) (by decide +kernel) ⟨Nat.le_of_ble_eq_true rfl, Nat.le_of_ble_eq_true rfl⟩) (List.mem_of_getElem? (i := 2) rfl) rfl rfl (Nat.le_of_ble_eq_true rfl) (cw_purez (b := gearB g) (fun _ _ h => h) ?_)
    refine cw_if_ne (pc := 8) (tgt := 14) C dX2_putIn_8 (by decide) (fun h8 => ?_) (fun h8 => ?_)
    · -- 8 t
      have h8 := bI_nz h8
      refine cw_iload_n (pc := 14) C dX2_putIn_14 rfl 1 rfl ?_
      refine cw_if_eq (pc := 15) (tgt := 29) C dX2_putIn_15 (by decide) (fun h15 => ?_) (fun h15 => ?_)
      · -- 15 t
        exact absurd h15 h1
      · -- 15 f
        refine cw_aload_n (pc := 18) C dX2_putIn_18 rfl 0 rfl ?_
        refine cw_get (pc := 19) C dX2_putIn_19 8 (v := .ref (A 3)) rfl rfl 1 rfl (fun _ h => List.mem_cons_of_mem _ (List.mem_append_left _ (List.mem_append_right _ h))) (by decide) (List.mem_of_getElem? (i := 1) rfl) ?_
        refine cw_iload_n (pc := 22) C dX2_putIn_22 rfl 1 rfl ?_
        refine cw_calli (pc := 23) C dX2_putIn_23 (c_X1_isFit l D Z A σ g) (cwV 1 C.1.2.2.2.2 gX2_putIn_X1_isFit rfl rfl rfl (by decide +kernel) ⟨Nat.le_of_ble_eq_true rfl, Nat.le_of_ble_eq_true rfl⟩) 3 rfl rfl rfl rfl (Nat.le_of_ble_eq_true rfl) (cw_purez (b := fitI (σ 1) g) (fun _ _ h => h) ?_)
        refine cw_if_eq (pc := 26) (tgt := 40) C dX2_putIn_26 (by decide) (fun h26 => ?_) (fun h26 => ?_)
        · -- 26 t
          have h26 := bI_z h26
          refine cw_bipush (pc := 40) C dX2_putIn_40 (-3) (by decide) ?_
          refine hret (-3) σ _ _ dX2_putIn_42 ?_
          clear hret
          exact ⟨by simp [putR, h1, h8, h15, h26], by simp [putX, h1, h8, h15, h26, up2_self]⟩
        · -- 26 f
          have h26 := bI_nz h26
          refine cw_aload_n (pc := 29) C dX2_putIn_29 rfl 0 rfl ?_
          refine cw_iconst (pc := 30) C dX2_putIn_30 (nI 1) (by decide) ?_
          refine cw_bipush (pc := 31) C dX2_putIn_31 (nI 39) (by decide) ?_
          refine cw_iload_n (pc := 33) C dX2_putIn_33 rfl 1 rfl ?_
          refine cw_calli (pc := 34) C dX2_putIn_34 (c_X2_replace l D Z A σ true 39 g (by omega)) (cwV 3 C.1.2.2.2.2 gX2_putIn_X2_replace rfl rfl rfl (by decide +kernel) ⟨Nat.le_of_ble_eq_true rfl, Nat.le_of_ble_eq_true rfl⟩) 8 rfl rfl rfl rfl (Nat.le_of_ble_eq_true rfl) (cw_eff (v := (σ 1) 39) (fun _ _ h => h) (up2 σ 1 (upd (σ 1) 39 g)) rfl ?_)
          refine cw_goto (pc := 37) (tgt := 42) C dX2_putIn_37 (by decide) ?_
          refine hret ((σ 1) 39) (up2 σ 1 (upd (σ 1) 39 g)) _ _ dX2_putIn_42 ?_
          clear hret
          exact ⟨by simp [putR, h1, h8, h15, h26], by simp [putX, h1, h8, h15, h26, up2_self]⟩
    · -- 8 f
      have h8 := bI_z h8
      refine cw_bipush (pc := 11) C dX2_putIn_11 (-2) (by decide) ?_
      refine hret (-2) σ _ _ dX2_putIn_13 ?_
      clear hret
      exact ⟨by simp [putR, h1, h8], by simp [putX, h1, h8, up2_self]⟩
set_option maxHeartbeats 4000000 in
set_option maxRecDepth 100000 in
theorem c_X2_obey (l : Launch) (D : va_G) (Z : CZ) (A : Nat → Nat) (σ : St)  (o : Nat) (a : Int32) (b : Int32) (hX : rowOK (σ 1)) (ho : o < 10) : CTi l yX2_obey wsX2_obey 5 119 D Z (wC Z A) σ [.ref (A 8), .int (nI o), .int (a), .int (b)] (fun r σ' => r = oR (σ 1) o a b ∧ ∃ aw pa : Nat → Int32, σ' = up2 (up2 (up2 σ 1 (oX (σ 1) o a b)) 4 aw) 5 pa) := by
  refine CTi.mk (cc := cX2_obey) (nL := 4) (own := RX2) rfl (by decide) rfl (Nat.le_of_ble_eq_true rfl) ?_
  intro p0 e0 s0 m0 g0 b0 t0 c0 A0 Q C hret
  refine cw_lv (lv' := [(0, .ref (A 8)), (1, .int (nI o)), (2, .int (a)), (3, .int (b))]) [0, 1, 2, 3] rfl ?_
  refine cw_iload_n (pc := 0) C dX2_obey_0 rfl 1 rfl ?_
  rcases (show o = 0 ∨ o = 1 ∨ o = 2 ∨ o = 3 ∨ o = 4 ∨ o = 5 ∨ o = 6 ∨ o = 7 ∨ o = 8 ∨ o = 9 by omega) with rfl | rfl | rfl | rfl | rfl | rfl | rfl | rfl | rfl | rfl
  · -- order 0
    refine cw_tableIn (pc := 1) (off := 55) (tgt := 56) C dX2_obey_1 (by decide) (by decide) (by decide +kernel) (by decide) ?_
    refine cw_aload_n (pc := 56) C dX2_obey_56 rfl 0 rfl ?_
    refine cw_iload_n (pc := 57) C dX2_obey_57 rfl 2 rfl ?_
    refine cw_iload_n (pc := 58) C dX2_obey_58 rfl 3 rfl ?_
    refine cw_calli (pc := 59) C dX2_obey_59 (c_X2_changeSet l D Z A σ a b) (cwV 2 C.1.2.2.2.2 gX2_obey_X2_changeSet rfl rfl rfl (by decide +kernel) ⟨Nat.le_of_ble_eq_true rfl, Nat.le_of_ble_eq_true rfl⟩) 8 rfl rfl rfl rfl (Nat.le_of_ble_eq_true rfl) (cw_eff (v := setR (σ 1) a b) (fun _ _ h => h) (up2 σ 1 (setX (σ 1) a b)) rfl ?_)
    refine hret (setR (σ 1) a b) (up2 σ 1 (setX (σ 1) a b)) _ _ dX2_obey_62 ?_
    clear hret
    refine ⟨rfl, σ 4, σ 5, ?_⟩
    rw [← up3_145]
    exact congrArg (up2 σ 1) rfl
  · -- order 1
    refine cw_tableIn (pc := 1) (off := 62) (tgt := 63) C dX2_obey_1 (by decide) (by decide) (by decide +kernel) (by decide) ?_
    refine cw_aload_n (pc := 63) C dX2_obey_63 rfl 0 rfl ?_
    refine cw_iload_n (pc := 64) C dX2_obey_64 rfl 2 rfl ?_
    refine cw_iload_n (pc := 65) C dX2_obey_65 rfl 3 rfl ?_
    refine cw_calli (pc := 66) C dX2_obey_66 (c_X2_changeStatus l D Z A σ a b) (cwV 2 C.1.2.2.2.2 gX2_obey_X2_changeStatus rfl rfl rfl (by decide +kernel) ⟨Nat.le_of_ble_eq_true rfl, Nat.le_of_ble_eq_true rfl⟩) 8 rfl rfl rfl rfl (Nat.le_of_ble_eq_true rfl) (cw_eff (v := staR (σ 1) a b) (fun _ _ h => h) (up2 σ 1 (staX (σ 1) a b)) rfl ?_)
    refine hret (staR (σ 1) a b) (up2 σ 1 (staX (σ 1) a b)) _ _ dX2_obey_69 ?_
    clear hret
    refine ⟨rfl, σ 4, σ 5, ?_⟩
    rw [← up3_145]
    exact congrArg (up2 σ 1) rfl
  · -- order 2
    refine cw_tableIn (pc := 1) (off := 69) (tgt := 70) C dX2_obey_1 (by decide) (by decide) (by decide +kernel) (by decide) ?_
    refine cw_aload_n (pc := 70) C dX2_obey_70 rfl 0 rfl ?_
    refine cw_iload_n (pc := 71) C dX2_obey_71 rfl 2 rfl ?_
    refine cw_calln (pc := 72) C dX2_obey_72 (c_X6_isClutch l D Z A σ a) (va_cnB 1 C.1.2.2.2.2 gX2_obey_X6_isClutch_n30 rfl rfl rfl C.2.2.1.2.2.1 (C.1.2.2.2.2 _ (List.mem_of_getElem? (i := 9) rfl)) (by decide +kernel) ⟨Nat.le_of_ble_eq_true rfl, Nat.le_of_ble_eq_true rfl⟩) (List.mem_of_getElem? (i := 36) rfl) rfl rfl (Nat.le_of_ble_eq_true rfl) (cw_purez (b := clB a) (fun _ _ h => h) ?_)
    refine cw_if_eq (pc := 75) (tgt := 92) C dX2_obey_75 (by decide) (fun h75 => ?_) (fun h75 => ?_)
    · -- 75 t
      have h75 := bI_z h75
      refine cw_iconst (pc := 92) C dX2_obey_92 (nI 0) (by decide) ?_
      refine cw_bipush (pc := 93) C dX2_obey_93 (nI 29) (by decide) ?_
      refine cw_iload_n (pc := 95) C dX2_obey_95 rfl 2 rfl ?_
      refine cw_iadd (pc := 96) C dX2_obey_96 (z := (nI 29) + a) rfl ?_
      refine cw_iload_n (pc := 97) C dX2_obey_97 rfl 3 rfl ?_
      refine cw_calli (pc := 98) C dX2_obey_98 (c_X2_replaceF l D Z A σ ((nI 29) + a) b) (cwV 3 C.1.2.2.2.2 gX2_obey_X2_replace rfl rfl rfl (by decide +kernel) ⟨Nat.le_of_ble_eq_true rfl, Nat.le_of_ble_eq_true rfl⟩) 8 rfl rfl rfl rfl (Nat.le_of_ble_eq_true rfl) (cw_pure (v := (-2)) (fun _ _ h => h) ?_)
      refine hret (-2) σ _ _ dX2_obey_101 ?_
      clear hret
      refine ⟨(by show _ = parR (truB a b) (σ 1) _; rw [parR, (show truB a b = false by simp [truB, h75])]; rfl), σ 4, σ 5, ?_⟩
      rw [← up3_145]
      exact (up2_self σ 1).symm.trans (congrArg (up2 σ 1) (by show _ = parX (truB a b) (σ 1) _ b; rw [parX, (show truB a b = false by simp [truB, h75])]; rfl))
    · -- 75 f
      have h75 := bI_nz h75
      obtain ⟨j, hj1, rfl⟩ := clB_t h75
      refine cw_iload_n (pc := 78) C dX2_obey_78 rfl 3 rfl ?_
      refine cw_iconst (pc := 79) C dX2_obey_79 (nI 1) (by decide) ?_
      refine cw_bipush (pc := 80) C dX2_obey_80 (nI 20) (by decide) ?_
      refine cw_calln (pc := 82) C dX2_obey_82 (c_X6_isWithin l D Z A σ b (nI 1) (nI 20)) (va_cnB 3 C.1.2.2.2.2 gX2_obey_X6_isWithin_n34 rfl rfl rfl C.2.2.1.2.1 (C.1.2.2.2.2 _ (List.mem_of_getElem? (i := 9) rfl)) (by decide +kernel) ⟨Nat.le_of_ble_eq_true rfl, Nat.le_of_ble_eq_true rfl⟩) (List.mem_of_getElem? (i := 11) rfl) rfl rfl (Nat.le_of_ble_eq_true rfl) (cw_purez (b := withinB b (nI 1) (nI 20)) (fun _ _ h => h) ?_)
      refine cw_if_eq (pc := 85) (tgt := 92) C dX2_obey_85 (by decide) (fun h85 => ?_) (fun h85 => ?_)
      · -- 85 t
        have h85 := bI_z h85
        refine cw_iconst (pc := 92) C dX2_obey_92 (nI 0) (by decide) ?_
        refine cw_bipush (pc := 93) C dX2_obey_93 (nI 29) (by decide) ?_
        refine cw_iload_n (pc := 95) C dX2_obey_95 rfl 2 rfl ?_
        refine cw_iadd (pc := 96) C dX2_obey_96 (z := nI (29 + j)) (nI_add _ _) ?_
        refine cw_iload_n (pc := 97) C dX2_obey_97 rfl 3 rfl ?_
        refine cw_calli (pc := 98) C dX2_obey_98 (c_X2_replaceF l D Z A σ (nI (29 + j)) b) (cwV 3 C.1.2.2.2.2 gX2_obey_X2_replace rfl rfl rfl (by decide +kernel) ⟨Nat.le_of_ble_eq_true rfl, Nat.le_of_ble_eq_true rfl⟩) 8 rfl rfl rfl rfl (Nat.le_of_ble_eq_true rfl) (cw_pure (v := (-2)) (fun _ _ h => h) ?_)
        refine hret (-2) σ _ _ dX2_obey_101 ?_
        clear hret
        refine ⟨(by show _ = parR (truB (nI j) b) (σ 1) _; rw [parR, (show truB (nI j) b = false by simp [truB, h75, h85])]; rfl), σ 4, σ 5, ?_⟩
        rw [← up3_145]
        exact (up2_self σ 1).symm.trans (congrArg (up2 σ 1) (by show _ = parX (truB (nI j) b) (σ 1) _ b; rw [parX, (show truB (nI j) b = false by simp [truB, h75, h85])]; rfl))
      · -- 85 f
        have h85 := bI_nz h85
        refine cw_iconst (pc := 88) C dX2_obey_88 (nI 1) (by decide) ?_
        refine cw_goto (pc := 89) (tgt := 93) C dX2_obey_89 (by decide) ?_
        refine cw_bipush (pc := 93) C dX2_obey_93 (nI 29) (by decide) ?_
        refine cw_iload_n (pc := 95) C dX2_obey_95 rfl 2 rfl ?_
        refine cw_iadd (pc := 96) C dX2_obey_96 (z := nI (29 + j)) (nI_add _ _) ?_
        refine cw_iload_n (pc := 97) C dX2_obey_97 rfl 3 rfl ?_
        refine cw_calli (pc := 98) C dX2_obey_98 (c_X2_replace l D Z A σ true (29 + j) b (by omega)) (cwV 3 C.1.2.2.2.2 gX2_obey_X2_replace rfl rfl rfl (by decide +kernel) ⟨Nat.le_of_ble_eq_true rfl, Nat.le_of_ble_eq_true rfl⟩) 8 rfl rfl rfl rfl (Nat.le_of_ble_eq_true rfl) (cw_eff (v := (σ 1) (29 + j)) (fun _ _ h => h) (up2 σ 1 (upd (σ 1) (29 + j) b)) rfl ?_)
        refine hret ((σ 1) (29 + j)) (up2 σ 1 (upd (σ 1) (29 + j) b)) _ _ dX2_obey_101 ?_
        clear hret
        refine ⟨(by show _ = parR (truB (nI j) b) (σ 1) (29 + tN (nI j)); rw [parR, if_pos (show truB (nI j) b = true by simp [truB, h75, h85]), tN_N (by omega)]), σ 4, σ 5, ?_⟩
        rw [← up3_145]
        exact congrArg (up2 σ 1) (by show _ = parX (truB (nI j) b) (σ 1) (29 + tN (nI j)) b; rw [parX, if_pos (show truB (nI j) b = true by simp [truB, h75, h85]), tN_N (by omega)])
  · -- order 3
    refine cw_tableIn (pc := 1) (off := 101) (tgt := 102) C dX2_obey_1 (by decide) (by decide) (by decide +kernel) (by decide) ?_
    refine cw_aload_n (pc := 102) C dX2_obey_102 rfl 0 rfl ?_
    refine cw_iload_n (pc := 103) C dX2_obey_103 rfl 2 rfl ?_
    refine cw_calln (pc := 104) C dX2_obey_104 (c_X6_isGear l D Z A σ a) (va_cnB 1 C.1.2.2.2.2 gX2_obey_X6_isGear_n42 rfl rfl rfl C.2.2.1.1 (C.1.2.2.2.2 _ (List.mem_of_getElem? (i := 9) rfl)) (by decide +kernel) ⟨Nat.le_of_ble_eq_true rfl, Nat.le_of_ble_eq_true rfl⟩) (List.mem_of_getElem? (i := 8) rfl) rfl rfl (Nat.le_of_ble_eq_true rfl) (cw_purez (b := gearB a) (fun _ _ h => h) ?_)
    refine cw_if_eq (pc := 107) (tgt := 125) C dX2_obey_107 (by decide) (fun h107 => ?_) (fun h107 => ?_)
    · -- 107 t
      have h107 := bI_z h107
      refine cw_iconst (pc := 125) C dX2_obey_125 (nI 0) (by decide) ?_
      refine cw_bipush (pc := 126) C dX2_obey_126 (nI 8) (by decide) ?_
      refine cw_iload_n (pc := 128) C dX2_obey_128 rfl 2 rfl ?_
      refine cw_iadd (pc := 129) C dX2_obey_129 (z := (nI 8) + a) rfl ?_
      refine cw_iload_n (pc := 130) C dX2_obey_130 rfl 3 rfl ?_
      refine cw_calli (pc := 131) C dX2_obey_131 (c_X2_replaceF l D Z A σ ((nI 8) + a) b) (cwV 3 C.1.2.2.2.2 gX2_obey_X2_replace rfl rfl rfl (by decide +kernel) ⟨Nat.le_of_ble_eq_true rfl, Nat.le_of_ble_eq_true rfl⟩) 8 rfl rfl rfl rfl (Nat.le_of_ble_eq_true rfl) (cw_pure (v := (-2)) (fun _ _ h => h) ?_)
      refine hret (-2) σ _ _ dX2_obey_134 ?_
      clear hret
      refine ⟨(by show _ = parR (spdB a b) (σ 1) _; rw [parR, (show spdB a b = false by simp [spdB, h107])]; rfl), σ 4, σ 5, ?_⟩
      rw [← up3_145]
      exact (up2_self σ 1).symm.trans (congrArg (up2 σ 1) (by show _ = parX (spdB a b) (σ 1) _ b; rw [parX, (show spdB a b = false by simp [spdB, h107])]; rfl))
    · -- 107 f
      have h107 := bI_nz h107
      obtain ⟨j, hj1, hj2, rfl⟩ := gearB_t h107
      refine cw_iload_n (pc := 110) C dX2_obey_110 rfl 3 rfl ?_
      refine cw_iconst (pc := 111) C dX2_obey_111 (nI 0) (by decide) ?_
      refine cw_sipush (pc := 112) C dX2_obey_112 (nI 300) (by decide) ?_
      refine cw_calln (pc := 115) C dX2_obey_115 (c_X6_isWithin l D Z A σ b (nI 0) (nI 300)) (va_cnB 3 C.1.2.2.2.2 gX2_obey_X6_isWithin_n34 rfl rfl rfl C.2.2.1.2.1 (C.1.2.2.2.2 _ (List.mem_of_getElem? (i := 9) rfl)) (by decide +kernel) ⟨Nat.le_of_ble_eq_true rfl, Nat.le_of_ble_eq_true rfl⟩) (List.mem_of_getElem? (i := 11) rfl) rfl rfl (Nat.le_of_ble_eq_true rfl) (cw_purez (b := withinB b (nI 0) (nI 300)) (fun _ _ h => h) ?_)
      refine cw_if_eq (pc := 118) (tgt := 125) C dX2_obey_118 (by decide) (fun h118 => ?_) (fun h118 => ?_)
      · -- 118 t
        have h118 := bI_z h118
        refine cw_iconst (pc := 125) C dX2_obey_125 (nI 0) (by decide) ?_
        refine cw_bipush (pc := 126) C dX2_obey_126 (nI 8) (by decide) ?_
        refine cw_iload_n (pc := 128) C dX2_obey_128 rfl 2 rfl ?_
        refine cw_iadd (pc := 129) C dX2_obey_129 (z := nI (8 + j)) (nI_add _ _) ?_
        refine cw_iload_n (pc := 130) C dX2_obey_130 rfl 3 rfl ?_
        refine cw_calli (pc := 131) C dX2_obey_131 (c_X2_replaceF l D Z A σ (nI (8 + j)) b) (cwV 3 C.1.2.2.2.2 gX2_obey_X2_replace rfl rfl rfl (by decide +kernel) ⟨Nat.le_of_ble_eq_true rfl, Nat.le_of_ble_eq_true rfl⟩) 8 rfl rfl rfl rfl (Nat.le_of_ble_eq_true rfl) (cw_pure (v := (-2)) (fun _ _ h => h) ?_)
        refine hret (-2) σ _ _ dX2_obey_134 ?_
        clear hret
        refine ⟨(by show _ = parR (spdB (nI j) b) (σ 1) _; rw [parR, (show spdB (nI j) b = false by simp [spdB, h107, h118])]; rfl), σ 4, σ 5, ?_⟩
        rw [← up3_145]
        exact (up2_self σ 1).symm.trans (congrArg (up2 σ 1) (by show _ = parX (spdB (nI j) b) (σ 1) _ b; rw [parX, (show spdB (nI j) b = false by simp [spdB, h107, h118])]; rfl))
      · -- 118 f
        have h118 := bI_nz h118
        refine cw_iconst (pc := 121) C dX2_obey_121 (nI 1) (by decide) ?_
        refine cw_goto (pc := 122) (tgt := 126) C dX2_obey_122 (by decide) ?_
        refine cw_bipush (pc := 126) C dX2_obey_126 (nI 8) (by decide) ?_
        refine cw_iload_n (pc := 128) C dX2_obey_128 rfl 2 rfl ?_
        refine cw_iadd (pc := 129) C dX2_obey_129 (z := nI (8 + j)) (nI_add _ _) ?_
        refine cw_iload_n (pc := 130) C dX2_obey_130 rfl 3 rfl ?_
        refine cw_calli (pc := 131) C dX2_obey_131 (c_X2_replace l D Z A σ true (8 + j) b (by omega)) (cwV 3 C.1.2.2.2.2 gX2_obey_X2_replace rfl rfl rfl (by decide +kernel) ⟨Nat.le_of_ble_eq_true rfl, Nat.le_of_ble_eq_true rfl⟩) 8 rfl rfl rfl rfl (Nat.le_of_ble_eq_true rfl) (cw_eff (v := (σ 1) (8 + j)) (fun _ _ h => h) (up2 σ 1 (upd (σ 1) (8 + j) b)) rfl ?_)
        refine hret ((σ 1) (8 + j)) (up2 σ 1 (upd (σ 1) (8 + j) b)) _ _ dX2_obey_134 ?_
        clear hret
        refine ⟨(by show _ = parR (spdB (nI j) b) (σ 1) (8 + tN (nI j)); rw [parR, if_pos (show spdB (nI j) b = true by simp [spdB, h107, h118]), tN_N (by omega)]), σ 4, σ 5, ?_⟩
        rw [← up3_145]
        exact congrArg (up2 σ 1) (by show _ = parX (spdB (nI j) b) (σ 1) (8 + tN (nI j)) b; rw [parX, if_pos (show spdB (nI j) b = true by simp [spdB, h107, h118]), tN_N (by omega)])
  · -- order 4
    refine cw_tableIn (pc := 1) (off := 134) (tgt := 135) C dX2_obey_1 (by decide) (by decide) (by decide +kernel) (by decide) ?_
    refine cw_aload_n (pc := 135) C dX2_obey_135 rfl 0 rfl ?_
    refine cw_iload_n (pc := 136) C dX2_obey_136 rfl 2 rfl ?_
    refine cw_calln (pc := 137) C dX2_obey_137 (c_X6_isGear l D Z A σ a) (va_cnB 1 C.1.2.2.2.2 gX2_obey_X6_isGear_n42 rfl rfl rfl C.2.2.1.1 (C.1.2.2.2.2 _ (List.mem_of_getElem? (i := 9) rfl)) (by decide +kernel) ⟨Nat.le_of_ble_eq_true rfl, Nat.le_of_ble_eq_true rfl⟩) (List.mem_of_getElem? (i := 8) rfl) rfl rfl (Nat.le_of_ble_eq_true rfl) (cw_purez (b := gearB a) (fun _ _ h => h) ?_)
    refine cw_if_eq (pc := 140) (tgt := 158) C dX2_obey_140 (by decide) (fun h140 => ?_) (fun h140 => ?_)
    · -- 140 t
      have h140 := bI_z h140
      refine cw_iconst (pc := 158) C dX2_obey_158 (nI 0) (by decide) ?_
      refine cw_bipush (pc := 159) C dX2_obey_159 (nI 16) (by decide) ?_
      refine cw_iload_n (pc := 161) C dX2_obey_161 rfl 2 rfl ?_
      refine cw_iadd (pc := 162) C dX2_obey_162 (z := (nI 16) + a) rfl ?_
      refine cw_iload_n (pc := 163) C dX2_obey_163 rfl 3 rfl ?_
      refine cw_calli (pc := 164) C dX2_obey_164 (c_X2_replaceF l D Z A σ ((nI 16) + a) b) (cwV 3 C.1.2.2.2.2 gX2_obey_X2_replace rfl rfl rfl (by decide +kernel) ⟨Nat.le_of_ble_eq_true rfl, Nat.le_of_ble_eq_true rfl⟩) 8 rfl rfl rfl rfl (Nat.le_of_ble_eq_true rfl) (cw_pure (v := (-2)) (fun _ _ h => h) ?_)
      refine hret (-2) σ _ _ dX2_obey_167 ?_
      clear hret
      refine ⟨(by show _ = parR (spdB a b) (σ 1) _; rw [parR, (show spdB a b = false by simp [spdB, h140])]; rfl), σ 4, σ 5, ?_⟩
      rw [← up3_145]
      exact (up2_self σ 1).symm.trans (congrArg (up2 σ 1) (by show _ = parX (spdB a b) (σ 1) _ b; rw [parX, (show spdB a b = false by simp [spdB, h140])]; rfl))
    · -- 140 f
      have h140 := bI_nz h140
      obtain ⟨j, hj1, hj2, rfl⟩ := gearB_t h140
      refine cw_iload_n (pc := 143) C dX2_obey_143 rfl 3 rfl ?_
      refine cw_iconst (pc := 144) C dX2_obey_144 (nI 0) (by decide) ?_
      refine cw_sipush (pc := 145) C dX2_obey_145 (nI 300) (by decide) ?_
      refine cw_calln (pc := 148) C dX2_obey_148 (c_X6_isWithin l D Z A σ b (nI 0) (nI 300)) (va_cnB 3 C.1.2.2.2.2 gX2_obey_X6_isWithin_n34 rfl rfl rfl C.2.2.1.2.1 (C.1.2.2.2.2 _ (List.mem_of_getElem? (i := 9) rfl)) (by decide +kernel) ⟨Nat.le_of_ble_eq_true rfl, Nat.le_of_ble_eq_true rfl⟩) (List.mem_of_getElem? (i := 11) rfl) rfl rfl (Nat.le_of_ble_eq_true rfl) (cw_purez (b := withinB b (nI 0) (nI 300)) (fun _ _ h => h) ?_)
      refine cw_if_eq (pc := 151) (tgt := 158) C dX2_obey_151 (by decide) (fun h151 => ?_) (fun h151 => ?_)
      · -- 151 t
        have h151 := bI_z h151
        refine cw_iconst (pc := 158) C dX2_obey_158 (nI 0) (by decide) ?_
        refine cw_bipush (pc := 159) C dX2_obey_159 (nI 16) (by decide) ?_
        refine cw_iload_n (pc := 161) C dX2_obey_161 rfl 2 rfl ?_
        refine cw_iadd (pc := 162) C dX2_obey_162 (z := nI (16 + j)) (nI_add _ _) ?_
        refine cw_iload_n (pc := 163) C dX2_obey_163 rfl 3 rfl ?_
        refine cw_calli (pc := 164) C dX2_obey_164 (c_X2_replaceF l D Z A σ (nI (16 + j)) b) (cwV 3 C.1.2.2.2.2 gX2_obey_X2_replace rfl rfl rfl (by decide +kernel) ⟨Nat.le_of_ble_eq_true rfl, Nat.le_of_ble_eq_true rfl⟩) 8 rfl rfl rfl rfl (Nat.le_of_ble_eq_true rfl) (cw_pure (v := (-2)) (fun _ _ h => h) ?_)
        refine hret (-2) σ _ _ dX2_obey_167 ?_
        clear hret
        refine ⟨(by show _ = parR (spdB (nI j) b) (σ 1) _; rw [parR, (show spdB (nI j) b = false by simp [spdB, h140, h151])]; rfl), σ 4, σ 5, ?_⟩
        rw [← up3_145]
        exact (up2_self σ 1).symm.trans (congrArg (up2 σ 1) (by show _ = parX (spdB (nI j) b) (σ 1) _ b; rw [parX, (show spdB (nI j) b = false by simp [spdB, h140, h151])]; rfl))
      · -- 151 f
        have h151 := bI_nz h151
        refine cw_iconst (pc := 154) C dX2_obey_154 (nI 1) (by decide) ?_
        refine cw_goto (pc := 155) (tgt := 159) C dX2_obey_155 (by decide) ?_
        refine cw_bipush (pc := 159) C dX2_obey_159 (nI 16) (by decide) ?_
        refine cw_iload_n (pc := 161) C dX2_obey_161 rfl 2 rfl ?_
        refine cw_iadd (pc := 162) C dX2_obey_162 (z := nI (16 + j)) (nI_add _ _) ?_
        refine cw_iload_n (pc := 163) C dX2_obey_163 rfl 3 rfl ?_
        refine cw_calli (pc := 164) C dX2_obey_164 (c_X2_replace l D Z A σ true (16 + j) b (by omega)) (cwV 3 C.1.2.2.2.2 gX2_obey_X2_replace rfl rfl rfl (by decide +kernel) ⟨Nat.le_of_ble_eq_true rfl, Nat.le_of_ble_eq_true rfl⟩) 8 rfl rfl rfl rfl (Nat.le_of_ble_eq_true rfl) (cw_eff (v := (σ 1) (16 + j)) (fun _ _ h => h) (up2 σ 1 (upd (σ 1) (16 + j) b)) rfl ?_)
        refine hret ((σ 1) (16 + j)) (up2 σ 1 (upd (σ 1) (16 + j) b)) _ _ dX2_obey_167 ?_
        clear hret
        refine ⟨(by show _ = parR (spdB (nI j) b) (σ 1) (16 + tN (nI j)); rw [parR, if_pos (show spdB (nI j) b = true by simp [spdB, h140, h151]), tN_N (by omega)]), σ 4, σ 5, ?_⟩
        rw [← up3_145]
        exact congrArg (up2 σ 1) (by show _ = parX (spdB (nI j) b) (σ 1) (16 + tN (nI j)) b; rw [parX, if_pos (show spdB (nI j) b = true by simp [spdB, h140, h151]), tN_N (by omega)])
  · -- order 5
    refine cw_tableIn (pc := 1) (off := 167) (tgt := 168) C dX2_obey_1 (by decide) (by decide) (by decide +kernel) (by decide) ?_
    refine cw_aload_n (pc := 168) C dX2_obey_168 rfl 0 rfl ?_
    refine cw_iload_n (pc := 169) C dX2_obey_169 rfl 2 rfl ?_
    refine cw_bipush (pc := 170) C dX2_obey_170 (-3) (by decide) ?_
    refine cw_iconst (pc := 172) C dX2_obey_172 (nI 3) (by decide) ?_
    refine cw_calln (pc := 173) C dX2_obey_173 (c_X6_isWithin l D Z A σ a (-3) (nI 3)) (va_cnB 3 C.1.2.2.2.2 gX2_obey_X6_isWithin_n34 rfl rfl rfl C.2.2.1.2.1 (C.1.2.2.2.2 _ (List.mem_of_getElem? (i := 9) rfl)) (by decide +kernel) ⟨Nat.le_of_ble_eq_true rfl, Nat.le_of_ble_eq_true rfl⟩) (List.mem_of_getElem? (i := 11) rfl) rfl rfl (Nat.le_of_ble_eq_true rfl) (cw_purez (b := withinB a (-3) (nI 3)) (fun _ _ h => h) ?_)
    refine cw_bipush (pc := 176) C dX2_obey_176 (nI 47) (by decide) ?_
    refine cw_iload_n (pc := 178) C dX2_obey_178 rfl 2 rfl ?_
    refine cw_iconst (pc := 179) C dX2_obey_179 (nI 3) (by decide) ?_
    refine cw_iadd (pc := 180) C dX2_obey_180 (z := a + (nI 3)) rfl ?_
    refine cw_calli (pc := 181) C dX2_obey_181 (c_X2_replace l D Z A σ (withinB a (-3) (nI 3)) 47 (a + (nI 3)) (by omega)) (cwV 3 C.1.2.2.2.2 gX2_obey_X2_replace rfl rfl rfl (by decide +kernel) ⟨Nat.le_of_ble_eq_true rfl, Nat.le_of_ble_eq_true rfl⟩) 8 rfl rfl rfl rfl (Nat.le_of_ble_eq_true rfl) (cw_eff (v := parR (withinB a (-3) (nI 3)) (σ 1) 47) (fun _ _ h => h) (up2 σ 1 (parX (withinB a (-3) (nI 3)) (σ 1) 47 (a + (nI 3)))) rfl ?_)
    refine hret (parR (withinB a (-3) (nI 3)) (σ 1) 47) (up2 σ 1 (parX (withinB a (-3) (nI 3)) (σ 1) 47 (a + (nI 3)))) _ _ dX2_obey_184 ?_
    clear hret
    refine ⟨rfl, σ 4, σ 5, ?_⟩
    rw [← up3_145]
    exact congrArg (up2 σ 1) rfl
  · -- order 6
    refine cw_tableIn (pc := 1) (off := 184) (tgt := 185) C dX2_obey_1 (by decide) (by decide) (by decide +kernel) (by decide) ?_
    refine cw_aload_n (pc := 185) C dX2_obey_185 rfl 0 rfl ?_
    refine cw_iload_n (pc := 186) C dX2_obey_186 rfl 2 rfl ?_
    refine cw_iconst (pc := 187) C dX2_obey_187 (nI 0) (by decide) ?_
    refine cw_iconst (pc := 188) C dX2_obey_188 (nI 3) (by decide) ?_
    refine cw_calln (pc := 189) C dX2_obey_189 (c_X6_isWithin l D Z A σ a (nI 0) (nI 3)) (va_cnB 3 C.1.2.2.2.2 gX2_obey_X6_isWithin_n34 rfl rfl rfl C.2.2.1.2.1 (C.1.2.2.2.2 _ (List.mem_of_getElem? (i := 9) rfl)) (by decide +kernel) ⟨Nat.le_of_ble_eq_true rfl, Nat.le_of_ble_eq_true rfl⟩) (List.mem_of_getElem? (i := 11) rfl) rfl rfl (Nat.le_of_ble_eq_true rfl) (cw_purez (b := withinB a (nI 0) (nI 3)) (fun _ _ h => h) ?_)
    refine cw_bipush (pc := 192) C dX2_obey_192 (nI 48) (by decide) ?_
    refine cw_iload_n (pc := 194) C dX2_obey_194 rfl 2 rfl ?_
    refine cw_calli (pc := 195) C dX2_obey_195 (c_X2_replace l D Z A σ (withinB a (nI 0) (nI 3)) 48 a (by omega)) (cwV 3 C.1.2.2.2.2 gX2_obey_X2_replace rfl rfl rfl (by decide +kernel) ⟨Nat.le_of_ble_eq_true rfl, Nat.le_of_ble_eq_true rfl⟩) 8 rfl rfl rfl rfl (Nat.le_of_ble_eq_true rfl) (cw_eff (v := parR (withinB a (nI 0) (nI 3)) (σ 1) 48) (fun _ _ h => h) (up2 σ 1 (parX (withinB a (nI 0) (nI 3)) (σ 1) 48 a)) rfl ?_)
    refine hret (parR (withinB a (nI 0) (nI 3)) (σ 1) 48) (up2 σ 1 (parX (withinB a (nI 0) (nI 3)) (σ 1) 48 a)) _ _ dX2_obey_198 ?_
    clear hret
    refine ⟨rfl, σ 4, σ 5, ?_⟩
    rw [← up3_145]
    exact congrArg (up2 σ 1) rfl
  · -- order 7
    refine cw_tableIn (pc := 1) (off := 198) (tgt := 199) C dX2_obey_1 (by decide) (by decide) (by decide +kernel) (by decide) ?_
    refine cw_iload_n (pc := 199) C dX2_obey_199 rfl 2 rfl ?_
    refine cw_iload_n (pc := 200) C dX2_obey_200 rfl 3 rfl ?_
    refine cw_calls (pc := 201) C dX2_obey_201 (c_X2_areTicks l D Z A σ a b) (va_cwS 2 C.1.2.2.2.2 gX2_obey_X2_areTicks rfl rfl rfl (by decide +kernel) ⟨Nat.le_of_ble_eq_true rfl, Nat.le_of_ble_eq_true rfl⟩) rfl rfl (Nat.le_of_ble_eq_true rfl) (cw_purez (b := tkB a b) (fun _ _ h => h) ?_)
    refine cw_if_eq (pc := 204) (tgt := 219) C dX2_obey_204 (by decide) (fun h204 => ?_) (fun h204 => ?_)
    · -- 204 t
      have h204 := bI_z h204
      refine cw_bipush (pc := 219) C dX2_obey_219 (-2) (by decide) ?_
      refine hret (-2) σ _ _ dX2_obey_221 ?_
      clear hret
      refine ⟨?_, σ 4, σ 5, ?_⟩
      · show _ = drvR (σ 1) a b
        rw [drvR, h204]
        rfl
      · show _ = up2 (up2 (up2 σ 1 (drvX (σ 1) a b)) 4 (σ 4)) 5 (σ 5)
        rw [drvX, h204]
        exact up3_self σ
    · -- 204 f
      have h204 := bI_nz h204
      obtain ⟨m1, hm0, hm1, rfl⟩ := tkB_t h204
      refine cw_aload_n (pc := 207) C dX2_obey_207 rfl 0 rfl ?_
      refine cw_get (pc := 208) C dX2_obey_208 8 (v := .ref (A 7)) rfl rfl 2 rfl (fun _ h => List.mem_cons_of_mem _ (List.mem_append_left _ (List.mem_append_left _ (List.mem_append_left _ (List.mem_append_right _ h))))) (by decide) (List.mem_of_getElem? (i := 1) rfl) ?_
      refine cw_iload_n (pc := 211) C dX2_obey_211 rfl 2 rfl ?_
      refine cw_iload_n (pc := 212) C dX2_obey_212 rfl 3 rfl ?_
      refine cw_calli (pc := 213) C dX2_obey_213 (c_X0_ticks l D Z A σ a m1 hX (by omega)) (cwV 2 C.1.2.2.2.2 gX2_obey_X0_ticks rfl rfl rfl (by decide +kernel) ⟨Nat.le_of_ble_eq_true rfl, Nat.le_of_ble_eq_true rfl⟩) 7 rfl rfl rfl rfl (Nat.le_of_ble_eq_true rfl) (fun r σ1 hr => ?_)
      obtain ⟨rfl, aw, pa, rfl⟩ := hr
      refine cw_goto (pc := 216) (tgt := 221) C dX2_obey_216 (by decide) ?_
      refine hret (nI (inN (tksS (σ 1) a m1))) (up2 (up2 (up2 σ 1 (tksS (σ 1) a m1)) 4 aw) 5 pa) _ _ dX2_obey_221 ?_
      clear hret
      refine ⟨?_, aw, pa, ?_⟩
      · show _ = drvR (σ 1) a (nI m1)
        rw [drvR, if_pos h204, tN_N (by omega)]
      · show _ = up2 (up2 (up2 σ 1 (drvX (σ 1) a (nI m1))) 4 aw) 5 pa
        rw [drvX, if_pos h204, tN_N (by omega)]
  · -- order 8
    refine cw_tableIn (pc := 1) (off := 221) (tgt := 222) C dX2_obey_1 (by decide) (by decide) (by decide +kernel) (by decide) ?_
    refine cw_aload_n (pc := 222) C dX2_obey_222 rfl 0 rfl ?_
    refine cw_iload_n (pc := 223) C dX2_obey_223 rfl 2 rfl ?_
    refine cw_iload_n (pc := 224) C dX2_obey_224 rfl 3 rfl ?_
    refine cw_calli (pc := 225) C dX2_obey_225 (c_X2_changeRule l D Z A σ a b) (cwV 2 C.1.2.2.2.2 gX2_obey_X2_changeRule rfl rfl rfl (by decide +kernel) ⟨Nat.le_of_ble_eq_true rfl, Nat.le_of_ble_eq_true rfl⟩) 8 rfl rfl rfl rfl (Nat.le_of_ble_eq_true rfl) (cw_eff (v := rulR (σ 1) a b) (fun _ _ h => h) (up2 σ 1 (rulX (σ 1) a b)) rfl ?_)
    refine hret (rulR (σ 1) a b) (up2 σ 1 (rulX (σ 1) a b)) _ _ dX2_obey_228 ?_
    clear hret
    refine ⟨rfl, σ 4, σ 5, ?_⟩
    rw [← up3_145]
    exact congrArg (up2 σ 1) rfl
  · -- order 9
    refine cw_tableIn (pc := 1) (off := 228) (tgt := 229) C dX2_obey_1 (by decide) (by decide) (by decide +kernel) (by decide) ?_
    refine cw_aload_n (pc := 229) C dX2_obey_229 rfl 0 rfl ?_
    refine cw_iload_n (pc := 230) C dX2_obey_230 rfl 2 rfl ?_
    refine cw_calli (pc := 231) C dX2_obey_231 (c_X2_putIn l D Z A σ a) (cwV 1 C.1.2.2.2.2 gX2_obey_X2_putIn rfl rfl rfl (by decide +kernel) ⟨Nat.le_of_ble_eq_true rfl, Nat.le_of_ble_eq_true rfl⟩) 8 rfl rfl rfl rfl (Nat.le_of_ble_eq_true rfl) (cw_eff (v := putR (σ 1) a) (fun _ _ h => h) (up2 σ 1 (putX (σ 1) a)) rfl ?_)
    refine hret (putR (σ 1) a) (up2 σ 1 (putX (σ 1) a)) _ _ dX2_obey_234 ?_
    clear hret
    refine ⟨rfl, σ 4, σ 5, ?_⟩
    rw [← up3_145]
    exact congrArg (up2 σ 1) rfl
