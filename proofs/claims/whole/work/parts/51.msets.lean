set_option maxHeartbeats 4000000 in
set_option maxRecDepth 100000 in
theorem c_X7_sets (l : Launch) (D : va_G) (Z : CZ) (A : Nat → Nat) (σ : St) (X F : Nat → Int32) (ck co : Int32) (K : Nat → Nat → Int32) (nn : Nat) (B : Nat → Int32) (L : Nat) (k : Int32) (v : Int32) (ha : absM σ X F ck co K nn B L) (hO : rowOK X) (hnn : nn ≤ 5) : CTi l yX7_sets wsX7_sets 2 46 D Z (wM Z A) σ [.ref (A 0), .int (k), .int (v)] (fun r σ' => chM σ' (oR X 8 k v) (oX X 8 k v) X F ck co K nn B L r) := by
  refine CTi.mk (cc := cX7_sets) (nL := 4) (own := RX7) rfl (by decide) rfl (Nat.le_of_ble_eq_true rfl) ?_
  intro p0 e0 s0 m0 g0 b0 t0 c0 A0 Q C hret
  have hT := ha.1
  refine cw_lv (lv' := [(0, .ref (A 0)), (1, .int (k)), (2, .int (v))]) [0, 1, 2] rfl ?_
  refine cw_aload_n (pc := 0) C dX7_sets_0 rfl 0 rfl ?_
  refine cw_callv (pc := 1) C dX7_sets_1 (c_X7_save l D Z A σ ) (cwV 0 C.1.2.2.2.2 gX7_sets_X7_save rfl rfl rfl (by decide +kernel) ⟨Nat.le_of_ble_eq_true rfl, Nat.le_of_ble_eq_true rfl⟩) 0 rfl rfl rfl rfl (Nat.le_of_ble_eq_true rfl) (cw_effv (fun _ h => h) (up2 σ 2 (va_cpy (σ 1) (σ 2) 0 0 51)) rfl ?_)
  refine cw_iload_n (pc := 4) C dX7_sets_4 rfl 1 rfl ?_
  refine cw_if_ne (pc := 5) (tgt := 18) C dX7_sets_5 (by decide) (fun h5 => ?_) (fun h5 => ?_)
  · -- 5 t
    refine cw_iload_n (pc := 18) C dX7_sets_18 rfl 1 rfl ?_
    refine cw_iconst (pc := 19) C dX7_sets_19 (nI 1) (by decide) ?_
    refine cw_icmp_ne (pc := 20) (tgt := 38) C dX7_sets_20 (by decide) (fun h20 => ?_) (fun h20 => ?_)
    · -- 20 t
      refine cw_iconst (pc := 38) C dX7_sets_38 (nI 0) (by decide) ?_
      refine cw_istore_n (pc := 39) C dX7_sets_39 rfl (by decide) (lv' := [(3, .int (nI 0)), (0, .ref (A 0)), (1, .int (k)), (2, .int (v))]) rfl ?_
      refine cw_aload_n (pc := 40) C dX7_sets_40 rfl 1 rfl ?_
      refine cw_iload_n (pc := 41) C dX7_sets_41 rfl 0 rfl ?_
      refine cw_if_eq (pc := 42) (tgt := 57) C dX7_sets_42 (by decide) (fun _ => ?_) (fun h => False.elim (by revert h; decide))
      refine cw_bipush (pc := 57) C dX7_sets_57 (-2) (by decide) ?_
      refine cw_top (oR X 8 k v) ((rul_no (X := X) (v := v) h5 h20).1.symm) ?_
      obtain ⟨σ1, hσ1⟩ : ∃ z, z = up2 σ 2 (va_cpy (σ 1) (σ 2) 0 0 51) := ⟨_, rfl⟩
      rw [← hσ1]
      have e1 : σ1 1 = mrow (oX X 8 k v) := by rw [hσ1, up2_ne _ _ (by decide)]; exact hT.trans (congrArg mrow (rul_no (X := X) (v := v) h5 h20).2.symm)
      have hs2 : σ1 2 = va_cpy (mrow X) (σ 2) 0 0 51 := by rw [hσ1, up2_eq, hT]
      have en : ∀ k, k ≠ 1 → k ≠ 2 → σ1 k = σ k := fun k k1 k2 => by rw [hσ1, up2_ne _ _ (by omega)]
      have hM : absM σ1 (oX X 8 k v) F ck co K nn B L := absM_rows ha e1 (en 3 (by decide) (by decide)) (en 4 (by decide) (by decide)) (en 5 (by decide) (by decide)) (fun k _ => congrFun (en 0 (by decide) (by decide)) k)
      clear hσ1
      refine cw_calli (pc := 59) C dX7_sets_59 (c_X7_finish l D Z A σ1 X K nn (oR X 8 k v) (fun k hk => by rw [hs2]; exact absM_aside k hk) hM.2.2.2.2.2.1 hM.2.2.2.2.1 hnn) (cwV 1 C.1.2.2.2.2 gX7_sets_X7_finish rfl rfl rfl (by decide +kernel) ⟨Nat.le_of_ble_eq_true rfl, Nat.le_of_ble_eq_true rfl⟩) 0 rfl rfl rfl rfl (Nat.le_of_ble_eq_true rfl) (fun r σ2 hr => ?_)
      refine hret r σ2 _ _ dX7_sets_62 ?_
      clear hret
      exact chM_of (ord_all hO (by decide) _ _) hM hr
    · -- 20 f
      obtain rfl : k = nI 1 := h20
      refine cw_iload_n (pc := 23) C dX7_sets_23 rfl 2 rfl ?_
      refine cw_iconst (pc := 24) C dX7_sets_24 (nI 0) (by decide) ?_
      refine cw_sipush (pc := 25) C dX7_sets_25 (nI 999) (by decide) ?_
      refine cw_calls (pc := 28) C dX7_sets_28 (c_X7_in l D Z A (up2 σ 2 (va_cpy (σ 1) (σ 2) 0 0 51)) v (nI 0) (nI 999)) (va_cwS 3 C.1.2.2.2.2 gX7_sets_X7_in rfl rfl rfl (by decide +kernel) ⟨Nat.le_of_ble_eq_true rfl, Nat.le_of_ble_eq_true rfl⟩) rfl rfl (Nat.le_of_ble_eq_true rfl) (cw_purez (b := withinB v (nI 0) (nI 999)) (fun _ _ h => h) ?_)
      refine cw_if_eq (pc := 31) (tgt := 38) C dX7_sets_31 (by decide) (fun h31 => ?_) (fun h31 => ?_)
      · -- 31 t
        have h31 := bI_z h31
        refine cw_iconst (pc := 38) C dX7_sets_38 (nI 0) (by decide) ?_
        refine cw_istore_n (pc := 39) C dX7_sets_39 rfl (by decide) (lv' := [(3, .int (nI 0)), (0, .ref (A 0)), (1, .int (nI 1)), (2, .int (v))]) rfl ?_
        refine cw_aload_n (pc := 40) C dX7_sets_40 rfl 1 rfl ?_
        refine cw_iload_n (pc := 41) C dX7_sets_41 rfl 0 rfl ?_
        refine cw_if_eq (pc := 42) (tgt := 57) C dX7_sets_42 (by decide) (fun _ => ?_) (fun h => False.elim (by revert h; decide))
        refine cw_bipush (pc := 57) C dX7_sets_57 (-2) (by decide) ?_
        refine cw_top (oR X 8 (nI 1) v) ((rul1_f (X := X) h31).1.symm) ?_
        obtain ⟨σ1, hσ1⟩ : ∃ z, z = up2 σ 2 (va_cpy (σ 1) (σ 2) 0 0 51) := ⟨_, rfl⟩
        rw [← hσ1]
        have e1 : σ1 1 = mrow (oX X 8 (nI 1) v) := by rw [hσ1, up2_ne _ _ (by decide)]; exact hT.trans (congrArg mrow (rul1_f (X := X) h31).2.symm)
        have hs2 : σ1 2 = va_cpy (mrow X) (σ 2) 0 0 51 := by rw [hσ1, up2_eq, hT]
        have en : ∀ k, k ≠ 1 → k ≠ 2 → σ1 k = σ k := fun k k1 k2 => by rw [hσ1, up2_ne _ _ (by omega)]
        have hM : absM σ1 (oX X 8 (nI 1) v) F ck co K nn B L := absM_rows ha e1 (en 3 (by decide) (by decide)) (en 4 (by decide) (by decide)) (en 5 (by decide) (by decide)) (fun k _ => congrFun (en 0 (by decide) (by decide)) k)
        clear hσ1
        refine cw_calli (pc := 59) C dX7_sets_59 (c_X7_finish l D Z A σ1 X K nn (oR X 8 (nI 1) v) (fun k hk => by rw [hs2]; exact absM_aside k hk) hM.2.2.2.2.2.1 hM.2.2.2.2.1 hnn) (cwV 1 C.1.2.2.2.2 gX7_sets_X7_finish rfl rfl rfl (by decide +kernel) ⟨Nat.le_of_ble_eq_true rfl, Nat.le_of_ble_eq_true rfl⟩) 0 rfl rfl rfl rfl (Nat.le_of_ble_eq_true rfl) (fun r σ2 hr => ?_)
        refine hret r σ2 _ _ dX7_sets_62 ?_
        clear hret
        exact chM_of (ord_all hO (by decide) _ _) hM hr
      · -- 31 f
        have h31 := bI_nz h31
        refine cw_iconst (pc := 34) C dX7_sets_34 (nI 1) (by decide) ?_
        refine cw_goto (pc := 35) (tgt := 39) C dX7_sets_35 (by decide) ?_
        refine cw_istore_n (pc := 39) C dX7_sets_39 rfl (by decide) (lv' := [(3, .int (nI 1)), (0, .ref (A 0)), (1, .int (nI 1)), (2, .int (v))]) rfl ?_
        refine cw_aload_n (pc := 40) C dX7_sets_40 rfl 1 rfl ?_
        refine cw_iload_n (pc := 41) C dX7_sets_41 rfl 0 rfl ?_
        refine cw_if_eq (pc := 42) (tgt := 57) C dX7_sets_42 (by decide) (fun h => False.elim (by revert h; decide)) (fun _ => ?_)
        refine cw_aload_n (pc := 45) C dX7_sets_45 rfl 1 rfl ?_
        refine cw_bipush (pc := 46) C dX7_sets_46 (nI 41) (by decide) ?_
        refine cw_iload_n (pc := 48) C dX7_sets_48 rfl 2 rfl ?_
        refine cw_iadd (pc := 49) C dX7_sets_49 (z := nI 42) (by decide) ?_
        refine cw_iload_n (pc := 50) C dX7_sets_50 rfl 3 rfl ?_
        have hf1 : (up2 σ 2 (va_cpy (σ 1) (σ 2) 0 0 51)) 1 = σ 1 := (up2_ne _ _ (by decide))
        have ev0 := congrArg (fun qz => qz 42) hf1
        have ee0 := congrArg (fun qz => upd qz 42 v) hf1
        have e3 := congrArg (fun qz => up2 (up2 σ 1 qz) 2 (va_cpy (σ 1) (σ 2) 0 0 51)) ee0
        refine cw_calli (pc := 51) C dX7_sets_51 (c_X7_change l D Z A (up2 σ 2 (va_cpy (σ 1) (σ 2) 0 0 51)) 42 v (by omega)) (cwV 2 C.1.2.2.2.2 gX7_sets_X7_change rfl rfl rfl (by decide +kernel) ⟨Nat.le_of_ble_eq_true rfl, Nat.le_of_ble_eq_true rfl⟩) 0 rfl rfl rfl rfl (Nat.le_of_ble_eq_true rfl) (cw_eff (v := (σ 1) 42) (fun _ _ h => ⟨h.1.trans (ev0), h.2⟩) (up2 (up2 σ 1 (upd (σ 1) 42 v)) 2 (va_cpy (σ 1) (σ 2) 0 0 51)) (congrArg (wM Z A) (((up2_comm _ _ _ (by decide)).trans (congrArg (fun qz => up2 qz 2 (va_cpy (σ 1) (σ 2) 0 0 51)) rfl)).trans e3)) ?_)
        refine cw_goto (pc := 54) (tgt := 59) C dX7_sets_54 (by decide) ?_
        refine cw_top (oR X 8 (nI 1) v) ((mr (k := 50) hT (by omega) (by omega) rfl).trans (rul1_t (X := X) h31).1.symm) ?_
        obtain ⟨σ1, hσ1⟩ : ∃ z, z = up2 (up2 σ 1 (upd (σ 1) 42 v)) 2 (va_cpy (σ 1) (σ 2) 0 0 51) := ⟨_, rfl⟩
        rw [← hσ1]
        have e1 : σ1 1 = mrow (oX X 8 (nI 1) v) := by rw [hσ1, up2_ne _ _ (by decide), up2_eq]; exact (mw (k := 50) hT (by omega) (by omega) rfl).trans (congrArg mrow (rul1_t (X := X) h31).2.symm)
        have hs2 : σ1 2 = va_cpy (mrow X) (σ 2) 0 0 51 := by rw [hσ1, up2_eq, hT]
        have en : ∀ k, k ≠ 1 → k ≠ 2 → σ1 k = σ k := fun k k1 k2 => by rw [hσ1, up2_ne _ _ (by omega), up2_ne _ _ (by omega)]
        have hM : absM σ1 (oX X 8 (nI 1) v) F ck co K nn B L := absM_rows ha e1 (en 3 (by decide) (by decide)) (en 4 (by decide) (by decide)) (en 5 (by decide) (by decide)) (fun k _ => congrFun (en 0 (by decide) (by decide)) k)
        clear hσ1
        refine cw_calli (pc := 59) C dX7_sets_59 (c_X7_finish l D Z A σ1 X K nn (oR X 8 (nI 1) v) (fun k hk => by rw [hs2]; exact absM_aside k hk) hM.2.2.2.2.2.1 hM.2.2.2.2.1 hnn) (cwV 1 C.1.2.2.2.2 gX7_sets_X7_finish rfl rfl rfl (by decide +kernel) ⟨Nat.le_of_ble_eq_true rfl, Nat.le_of_ble_eq_true rfl⟩) 0 rfl rfl rfl rfl (Nat.le_of_ble_eq_true rfl) (fun r σ2 hr => ?_)
        refine hret r σ2 _ _ dX7_sets_62 ?_
        clear hret
        exact chM_of (ord_all hO (by decide) _ _) hM hr
  · -- 5 f
    obtain rfl : k = nI 0 := h5
    refine cw_iload_n (pc := 8) C dX7_sets_8 rfl 2 rfl ?_
    refine cw_iconst (pc := 9) C dX7_sets_9 (nI 1) (by decide) ?_
    refine cw_bipush (pc := 10) C dX7_sets_10 (nI 12) (by decide) ?_
    refine cw_calls (pc := 12) C dX7_sets_12 (c_X7_in l D Z A (up2 σ 2 (va_cpy (σ 1) (σ 2) 0 0 51)) v (nI 1) (nI 12)) (va_cwS 3 C.1.2.2.2.2 gX7_sets_X7_in rfl rfl rfl (by decide +kernel) ⟨Nat.le_of_ble_eq_true rfl, Nat.le_of_ble_eq_true rfl⟩) rfl rfl (Nat.le_of_ble_eq_true rfl) (cw_purez (b := withinB v (nI 1) (nI 12)) (fun _ _ h => h) ?_)
    refine cw_goto (pc := 15) (tgt := 39) C dX7_sets_15 (by decide) ?_
    refine cw_istore_n (pc := 39) C dX7_sets_39 rfl (by decide) (lv' := [(3, .int (bI (withinB v (nI 1) (nI 12)))), (0, .ref (A 0)), (1, .int (nI 0)), (2, .int (v))]) rfl ?_
    refine cw_aload_n (pc := 40) C dX7_sets_40 rfl 1 rfl ?_
    refine cw_iload_n (pc := 41) C dX7_sets_41 rfl 0 rfl ?_
    refine cw_if_eq (pc := 42) (tgt := 57) C dX7_sets_42 (by decide) (fun h42 => ?_) (fun h42 => ?_)
    · -- 42 t
      have h42 := bI_z h42
      refine cw_bipush (pc := 57) C dX7_sets_57 (-2) (by decide) ?_
      refine cw_top (oR X 8 (nI 0) v) ((rul0_f (X := X) h42).1.symm) ?_
      obtain ⟨σ1, hσ1⟩ : ∃ z, z = up2 σ 2 (va_cpy (σ 1) (σ 2) 0 0 51) := ⟨_, rfl⟩
      rw [← hσ1]
      have e1 : σ1 1 = mrow (oX X 8 (nI 0) v) := by rw [hσ1, up2_ne _ _ (by decide)]; exact hT.trans (congrArg mrow (rul0_f (X := X) h42).2.symm)
      have hs2 : σ1 2 = va_cpy (mrow X) (σ 2) 0 0 51 := by rw [hσ1, up2_eq, hT]
      have en : ∀ k, k ≠ 1 → k ≠ 2 → σ1 k = σ k := fun k k1 k2 => by rw [hσ1, up2_ne _ _ (by omega)]
      have hM : absM σ1 (oX X 8 (nI 0) v) F ck co K nn B L := absM_rows ha e1 (en 3 (by decide) (by decide)) (en 4 (by decide) (by decide)) (en 5 (by decide) (by decide)) (fun k _ => congrFun (en 0 (by decide) (by decide)) k)
      clear hσ1
      refine cw_calli (pc := 59) C dX7_sets_59 (c_X7_finish l D Z A σ1 X K nn (oR X 8 (nI 0) v) (fun k hk => by rw [hs2]; exact absM_aside k hk) hM.2.2.2.2.2.1 hM.2.2.2.2.1 hnn) (cwV 1 C.1.2.2.2.2 gX7_sets_X7_finish rfl rfl rfl (by decide +kernel) ⟨Nat.le_of_ble_eq_true rfl, Nat.le_of_ble_eq_true rfl⟩) 0 rfl rfl rfl rfl (Nat.le_of_ble_eq_true rfl) (fun r σ2 hr => ?_)
      refine hret r σ2 _ _ dX7_sets_62 ?_
      clear hret
      exact chM_of (ord_all hO (by decide) _ _) hM hr
    · -- 42 f
      have h42 := bI_nz h42
      refine cw_aload_n (pc := 45) C dX7_sets_45 rfl 1 rfl ?_
      refine cw_bipush (pc := 46) C dX7_sets_46 (nI 41) (by decide) ?_
      refine cw_iload_n (pc := 48) C dX7_sets_48 rfl 2 rfl ?_
      refine cw_iadd (pc := 49) C dX7_sets_49 (z := nI 41) (by decide) ?_
      refine cw_iload_n (pc := 50) C dX7_sets_50 rfl 3 rfl ?_
      have hf1 : (up2 σ 2 (va_cpy (σ 1) (σ 2) 0 0 51)) 1 = σ 1 := (up2_ne _ _ (by decide))
      have ev0 := congrArg (fun qz => qz 41) hf1
      have ee0 := congrArg (fun qz => upd qz 41 v) hf1
      have e3 := congrArg (fun qz => up2 (up2 σ 1 qz) 2 (va_cpy (σ 1) (σ 2) 0 0 51)) ee0
      refine cw_calli (pc := 51) C dX7_sets_51 (c_X7_change l D Z A (up2 σ 2 (va_cpy (σ 1) (σ 2) 0 0 51)) 41 v (by omega)) (cwV 2 C.1.2.2.2.2 gX7_sets_X7_change rfl rfl rfl (by decide +kernel) ⟨Nat.le_of_ble_eq_true rfl, Nat.le_of_ble_eq_true rfl⟩) 0 rfl rfl rfl rfl (Nat.le_of_ble_eq_true rfl) (cw_eff (v := (σ 1) 41) (fun _ _ h => ⟨h.1.trans (ev0), h.2⟩) (up2 (up2 σ 1 (upd (σ 1) 41 v)) 2 (va_cpy (σ 1) (σ 2) 0 0 51)) (congrArg (wM Z A) (((up2_comm _ _ _ (by decide)).trans (congrArg (fun qz => up2 qz 2 (va_cpy (σ 1) (σ 2) 0 0 51)) rfl)).trans e3)) ?_)
      refine cw_goto (pc := 54) (tgt := 59) C dX7_sets_54 (by decide) ?_
      refine cw_top (oR X 8 (nI 0) v) ((mr (k := 49) hT (by omega) (by omega) rfl).trans (rul0_t (X := X) h42).1.symm) ?_
      obtain ⟨σ1, hσ1⟩ : ∃ z, z = up2 (up2 σ 1 (upd (σ 1) 41 v)) 2 (va_cpy (σ 1) (σ 2) 0 0 51) := ⟨_, rfl⟩
      rw [← hσ1]
      have e1 : σ1 1 = mrow (oX X 8 (nI 0) v) := by rw [hσ1, up2_ne _ _ (by decide), up2_eq]; exact (mw (k := 49) hT (by omega) (by omega) rfl).trans (congrArg mrow (rul0_t (X := X) h42).2.symm)
      have hs2 : σ1 2 = va_cpy (mrow X) (σ 2) 0 0 51 := by rw [hσ1, up2_eq, hT]
      have en : ∀ k, k ≠ 1 → k ≠ 2 → σ1 k = σ k := fun k k1 k2 => by rw [hσ1, up2_ne _ _ (by omega), up2_ne _ _ (by omega)]
      have hM : absM σ1 (oX X 8 (nI 0) v) F ck co K nn B L := absM_rows ha e1 (en 3 (by decide) (by decide)) (en 4 (by decide) (by decide)) (en 5 (by decide) (by decide)) (fun k _ => congrFun (en 0 (by decide) (by decide)) k)
      clear hσ1
      refine cw_calli (pc := 59) C dX7_sets_59 (c_X7_finish l D Z A σ1 X K nn (oR X 8 (nI 0) v) (fun k hk => by rw [hs2]; exact absM_aside k hk) hM.2.2.2.2.2.1 hM.2.2.2.2.1 hnn) (cwV 1 C.1.2.2.2.2 gX7_sets_X7_finish rfl rfl rfl (by decide +kernel) ⟨Nat.le_of_ble_eq_true rfl, Nat.le_of_ble_eq_true rfl⟩) 0 rfl rfl rfl rfl (Nat.le_of_ble_eq_true rfl) (fun r σ2 hr => ?_)
      refine hret r σ2 _ _ dX7_sets_62 ?_
      clear hret
      exact chM_of (ord_all hO (by decide) _ _) hM hr
