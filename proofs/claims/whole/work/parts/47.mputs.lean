set_option maxHeartbeats 4000000 in
set_option maxRecDepth 100000 in
theorem c_X7_drives (l : Launch) (D : va_G) (Z : CZ) (A : Nat → Nat) (σ : St) (X F : Nat → Int32) (ck co : Int32) (K : Nat → Nat → Int32) (nn : Nat) (B : Nat → Int32) (L : Nat) (v : Int32) (n : Int32) (ha : absM σ X F ck co K nn B L) (hO : rowOK X) (hnn : nn ≤ 5) : CTi l yX7_drives wsX7_drives 6 142 D Z (wM Z A) σ [.ref (A 0), .int (v), .int (n)] (fun r σ' => chM σ' (oR X 7 v n) (oX X 7 v n) X F ck co K nn B L r) := by
  refine CTi.mk (cc := cX7_drives) (nL := 3) (own := RX7) rfl (by decide) rfl (Nat.le_of_ble_eq_true rfl) ?_
  intro p0 e0 s0 m0 g0 b0 t0 c0 A0 Q C hret
  have hT := ha.1
  refine cw_lv (lv' := [(0, .ref (A 0)), (1, .int (v)), (2, .int (n))]) [0, 1, 2] rfl ?_
  refine cw_aload_n (pc := 0) C dX7_drives_0 rfl 0 rfl ?_
  refine cw_callv (pc := 1) C dX7_drives_1 (c_X7_save l D Z A σ ) (cwV 0 C.1.2.2.2.2 gX7_drives_X7_save rfl rfl rfl (by decide +kernel) ⟨Nat.le_of_ble_eq_true rfl, Nat.le_of_ble_eq_true rfl⟩) 0 rfl rfl rfl rfl (Nat.le_of_ble_eq_true rfl) (cw_effv (fun _ h => h) (up2 σ 2 (va_cpy (σ 1) (σ 2) 0 0 51)) rfl ?_)
  refine cw_aload_n (pc := 4) C dX7_drives_4 rfl 0 rfl ?_
  refine cw_aload_n (pc := 5) C dX7_drives_5 rfl 0 rfl ?_
  refine cw_iload_n (pc := 6) C dX7_drives_6 rfl 1 rfl ?_
  refine cw_iload_n (pc := 7) C dX7_drives_7 rfl 2 rfl ?_
  refine cw_calli (pc := 8) C dX7_drives_8 (c_X7_drive l D Z A (up2 σ 2 (va_cpy (σ 1) (σ 2) 0 0 51)) X v n (show up2 σ 2 (va_cpy (σ 1) (σ 2) 0 0 51) 1 = mrow X by rw [up2_ne _ _ (by decide)]; exact hT) hO) (cwV 2 C.1.2.2.2.2 gX7_drives_X7_drive rfl rfl rfl (by decide +kernel) ⟨Nat.le_of_ble_eq_true rfl, Nat.le_of_ble_eq_true rfl⟩) 0 rfl rfl rfl rfl (Nat.le_of_ble_eq_true rfl) (fun r σ1 hr => ?_)
  obtain ⟨hr1, nr, fa, ra, hr2⟩ := hr
  have hr1 : r = oR X 7 v n := hr1
  have e1 : σ1 1 = mrow (oX X 7 v n) := by rw [hr2, up2_ne _ _ (by decide), up2_ne _ _ (by decide), up2_eq]; rfl
  have hs2 : σ1 2 = va_cpy (mrow X) (σ 2) 0 0 51 := by rw [hr2, up2_ne _ _ (by decide), up2_ne _ _ (by decide), up2_ne _ _ (by decide), up2_ne _ _ (by decide), up2_eq, hT]
  have en : ∀ k, k < 9 → k ≠ 0 → k ≠ 1 → k ≠ 2 → σ1 k = σ k := fun k k0 k1 k2 k3 => by rw [hr2, up2_ne _ _ (by omega), up2_ne _ _ (by omega), up2_ne _ _ k2, up2_ne _ _ k1, up2_ne _ _ k3]
  have ez0 : ∀ k, k < 15 → σ1 0 k = σ 0 k := fun k hk => by rw [hr2, up2_ne _ _ (by decide), up2_ne _ _ (by decide), up2_ne _ _ (by decide), up2_eq, upd_ne (by omega), up2_ne _ _ (by decide)]
  have hM : absM σ1 (oX X 7 v n) F ck co K nn B L := absM_rows ha e1 (en 3 (by decide) (by decide) (by decide) (by decide)) (en 4 (by decide) (by decide) (by decide) (by decide)) (en 5 (by decide) (by decide) (by decide) (by decide)) ez0
  subst hr1
  refine cw_calli (pc := 11) C dX7_drives_11 (c_X7_finish l D Z A σ1 X K nn (oR X 7 v n) (fun k hk => by rw [hs2]; exact absM_aside k hk) hM.2.2.2.2.2.1 hM.2.2.2.2.1 hnn) (cwV 1 C.1.2.2.2.2 gX7_drives_X7_finish rfl rfl rfl (by decide +kernel) ⟨Nat.le_of_ble_eq_true rfl, Nat.le_of_ble_eq_true rfl⟩) 0 rfl rfl rfl rfl (Nat.le_of_ble_eq_true rfl) (fun r σ2 hr => ?_)
  refine hret r σ2 _ _ dX7_drives_14 ?_
  clear hret
  exact chM_of (ord_all hO (by decide) _ _) hM hr
set_option maxHeartbeats 4000000 in
set_option maxRecDepth 100000 in
theorem c_X7_puts (l : Launch) (D : va_G) (Z : CZ) (A : Nat → Nat) (σ : St) (X F : Nat → Int32) (ck co : Int32) (K : Nat → Nat → Int32) (nn : Nat) (B : Nat → Int32) (L : Nat) (g : Int32) (ha : absM σ X F ck co K nn B L) (hO : rowOK X) (hnn : nn ≤ 5) : CTi l yX7_puts wsX7_puts 2 46 D Z (wM Z A) σ [.ref (A 0), .int (g)] (fun r σ' => chM σ' (oR X 9 g 0) (oX X 9 g 0) X F ck co K nn B L r) := by
  refine CTi.mk (cc := cX7_puts) (nL := 2) (own := RX7) rfl (by decide) rfl (Nat.le_of_ble_eq_true rfl) ?_
  intro p0 e0 s0 m0 g0 b0 t0 c0 A0 Q C hret
  have hT := ha.1
  refine cw_lv (lv' := [(0, .ref (A 0)), (1, .int (g))]) [0, 1] rfl ?_
  refine cw_aload_n (pc := 0) C dX7_puts_0 rfl 0 rfl ?_
  refine cw_callv (pc := 1) C dX7_puts_1 (c_X7_save l D Z A σ ) (cwV 0 C.1.2.2.2.2 gX7_puts_X7_save rfl rfl rfl (by decide +kernel) ⟨Nat.le_of_ble_eq_true rfl, Nat.le_of_ble_eq_true rfl⟩) 0 rfl rfl rfl rfl (Nat.le_of_ble_eq_true rfl) (cw_effv (fun _ h => h) (up2 σ 2 (va_cpy (σ 1) (σ 2) 0 0 51)) rfl ?_)
  refine cw_aload_n (pc := 4) C dX7_puts_4 rfl 0 rfl ?_
  refine cw_iload_n (pc := 5) C dX7_puts_5 rfl 1 rfl ?_
  refine cw_iconst (pc := 6) C dX7_puts_6 (nI 0) (by decide) ?_
  refine cw_bipush (pc := 7) C dX7_puts_7 (nI 7) (by decide) ?_
  refine cw_calls (pc := 9) C dX7_puts_9 (c_X7_in l D Z A (up2 σ 2 (va_cpy (σ 1) (σ 2) 0 0 51)) g (nI 0) (nI 7)) (va_cwS 3 C.1.2.2.2.2 gX7_puts_X7_in rfl rfl rfl (by decide +kernel) ⟨Nat.le_of_ble_eq_true rfl, Nat.le_of_ble_eq_true rfl⟩) rfl rfl (Nat.le_of_ble_eq_true rfl) (cw_purez (b := withinB g (nI 0) (nI 7)) (fun _ _ h => h) ?_)
  refine cw_if_ne (pc := 12) (tgt := 20) C dX7_puts_12 (by decide) (fun h12 => ?_) (fun h12 => ?_)
  · -- 12 t
    have h12 := bI_nz h12
    obtain ⟨j, -, hj, rfl⟩ := withinB_t (by decide) (by decide) h12
    refine cw_iload_n (pc := 20) C dX7_puts_20 rfl 1 rfl ?_
    refine cw_if_le (pc := 21) (tgt := 37) C dX7_puts_21 (by decide) (fun h21 => ?_) (fun h21 => ?_)
    · -- 21 t
      have h21 : j ≤ 0 := (nc_le (a := j) (b := 0) (by omega) (by omega)).mp h21
      refine cw_aload_n (pc := 37) C dX7_puts_37 rfl 0 rfl ?_
      refine cw_bipush (pc := 38) C dX7_puts_38 (nI 43) (by decide) ?_
      refine cw_iload_n (pc := 40) C dX7_puts_40 rfl 1 rfl ?_
      have hf1 : (up2 σ 2 (va_cpy (σ 1) (σ 2) 0 0 51)) 1 = σ 1 := (up2_ne _ _ (by decide))
      have ev0 := congrArg (fun qz => qz 43) hf1
      have ee0 := congrArg (fun qz => upd qz 43 (nI j)) hf1
      have e3 := congrArg (fun qz => up2 (up2 σ 1 qz) 2 (va_cpy (σ 1) (σ 2) 0 0 51)) ee0
      refine cw_calli (pc := 41) C dX7_puts_41 (c_X7_change l D Z A (up2 σ 2 (va_cpy (σ 1) (σ 2) 0 0 51)) 43 (nI j) (by omega)) (cwV 2 C.1.2.2.2.2 gX7_puts_X7_change rfl rfl rfl (by decide +kernel) ⟨Nat.le_of_ble_eq_true rfl, Nat.le_of_ble_eq_true rfl⟩) 0 rfl rfl rfl rfl (Nat.le_of_ble_eq_true rfl) (cw_eff (v := (σ 1) 43) (fun _ _ h => ⟨h.1.trans (ev0), h.2⟩) (up2 (up2 σ 1 (upd (σ 1) 43 (nI j))) 2 (va_cpy (σ 1) (σ 2) 0 0 51)) (congrArg (wM Z A) (((up2_comm _ _ _ (by decide)).trans (congrArg (fun qz => up2 qz 2 (va_cpy (σ 1) (σ 2) 0 0 51)) rfl)).trans e3)) ?_)
      refine cw_top (oR X 9 (nI j) 0) ((mr (k := 39) hT (by omega) (by omega) rfl).trans (put_0 (X := X) h21).1.symm) ?_
      obtain ⟨σ1, hσ1⟩ : ∃ z, z = up2 (up2 σ 1 (upd (σ 1) 43 (nI j))) 2 (va_cpy (σ 1) (σ 2) 0 0 51) := ⟨_, rfl⟩
      rw [← hσ1]
      have e1 : σ1 1 = mrow (oX X 9 (nI j) 0) := by rw [hσ1, up2_ne _ _ (by decide), up2_eq]; exact (mw (k := 39) hT (by omega) (by omega) rfl).trans (congrArg mrow (put_0 (X := X) h21).2.symm)
      have hs2 : σ1 2 = va_cpy (mrow X) (σ 2) 0 0 51 := by rw [hσ1, up2_eq, hT]
      have en : ∀ k, k ≠ 1 → k ≠ 2 → σ1 k = σ k := fun k k1 k2 => by rw [hσ1, up2_ne _ _ (by omega), up2_ne _ _ (by omega)]
      have hM : absM σ1 (oX X 9 (nI j) 0) F ck co K nn B L := absM_rows ha e1 (en 3 (by decide) (by decide)) (en 4 (by decide) (by decide)) (en 5 (by decide) (by decide)) (fun k _ => congrFun (en 0 (by decide) (by decide)) k)
      clear hσ1
      refine cw_calli (pc := 44) C dX7_puts_44 (c_X7_finish l D Z A σ1 X K nn (oR X 9 (nI j) 0) (fun k hk => by rw [hs2]; exact absM_aside k hk) hM.2.2.2.2.2.1 hM.2.2.2.2.1 hnn) (cwV 1 C.1.2.2.2.2 gX7_puts_X7_finish rfl rfl rfl (by decide +kernel) ⟨Nat.le_of_ble_eq_true rfl, Nat.le_of_ble_eq_true rfl⟩) 0 rfl rfl rfl rfl (Nat.le_of_ble_eq_true rfl) (fun r σ2 hr => ?_)
      refine hret r σ2 _ _ dX7_puts_47 ?_
      clear hret
      exact chM_of (ord_all hO (by decide) _ _) hM hr
    · -- 21 f
      have h21 : ¬ (j ≤ 0) := fun qq => h21 ((nc_le (a := j) (b := 0) (by omega) (by omega)).mpr qq)
      refine cw_aload_n (pc := 24) C dX7_puts_24 rfl 0 rfl ?_
      refine cw_iload_n (pc := 25) C dX7_puts_25 rfl 1 rfl ?_
      refine cw_calli (pc := 26) C dX7_puts_26 (c_X7_isFit l D Z A (up2 σ 2 (va_cpy (σ 1) (σ 2) 0 0 51)) X j (show up2 σ 2 (va_cpy (σ 1) (σ 2) 0 0 51) 1 = mrow X by rw [up2_ne _ _ (by decide)]; exact hT) (by omega) hj) (cwV 1 C.1.2.2.2.2 gX7_puts_X7_isFit rfl rfl rfl (by decide +kernel) ⟨Nat.le_of_ble_eq_true rfl, Nat.le_of_ble_eq_true rfl⟩) 0 rfl rfl rfl rfl (Nat.le_of_ble_eq_true rfl) (cw_purez (b := fitN X j) (fun _ _ h => h) ?_)
      refine cw_if_ne (pc := 29) (tgt := 37) C dX7_puts_29 (by decide) (fun h29 => ?_) (fun h29 => ?_)
      · -- 29 t
        have h29 := bI_nz h29
        refine cw_aload_n (pc := 37) C dX7_puts_37 rfl 0 rfl ?_
        refine cw_bipush (pc := 38) C dX7_puts_38 (nI 43) (by decide) ?_
        refine cw_iload_n (pc := 40) C dX7_puts_40 rfl 1 rfl ?_
        have hf1 : (up2 σ 2 (va_cpy (σ 1) (σ 2) 0 0 51)) 1 = σ 1 := (up2_ne _ _ (by decide))
        have ev0 := congrArg (fun qz => qz 43) hf1
        have ee0 := congrArg (fun qz => upd qz 43 (nI j)) hf1
        have e3 := congrArg (fun qz => up2 (up2 σ 1 qz) 2 (va_cpy (σ 1) (σ 2) 0 0 51)) ee0
        refine cw_calli (pc := 41) C dX7_puts_41 (c_X7_change l D Z A (up2 σ 2 (va_cpy (σ 1) (σ 2) 0 0 51)) 43 (nI j) (by omega)) (cwV 2 C.1.2.2.2.2 gX7_puts_X7_change rfl rfl rfl (by decide +kernel) ⟨Nat.le_of_ble_eq_true rfl, Nat.le_of_ble_eq_true rfl⟩) 0 rfl rfl rfl rfl (Nat.le_of_ble_eq_true rfl) (cw_eff (v := (σ 1) 43) (fun _ _ h => ⟨h.1.trans (ev0), h.2⟩) (up2 (up2 σ 1 (upd (σ 1) 43 (nI j))) 2 (va_cpy (σ 1) (σ 2) 0 0 51)) (congrArg (wM Z A) (((up2_comm _ _ _ (by decide)).trans (congrArg (fun qz => up2 qz 2 (va_cpy (σ 1) (σ 2) 0 0 51)) rfl)).trans e3)) ?_)
        refine cw_top (oR X 9 (nI j) 0) ((mr (k := 39) hT (by omega) (by omega) rfl).trans (put_yes h21 hj h29).1.symm) ?_
        obtain ⟨σ1, hσ1⟩ : ∃ z, z = up2 (up2 σ 1 (upd (σ 1) 43 (nI j))) 2 (va_cpy (σ 1) (σ 2) 0 0 51) := ⟨_, rfl⟩
        rw [← hσ1]
        have e1 : σ1 1 = mrow (oX X 9 (nI j) 0) := by rw [hσ1, up2_ne _ _ (by decide), up2_eq]; exact (mw (k := 39) hT (by omega) (by omega) rfl).trans (congrArg mrow (put_yes h21 hj h29).2.symm)
        have hs2 : σ1 2 = va_cpy (mrow X) (σ 2) 0 0 51 := by rw [hσ1, up2_eq, hT]
        have en : ∀ k, k ≠ 1 → k ≠ 2 → σ1 k = σ k := fun k k1 k2 => by rw [hσ1, up2_ne _ _ (by omega), up2_ne _ _ (by omega)]
        have hM : absM σ1 (oX X 9 (nI j) 0) F ck co K nn B L := absM_rows ha e1 (en 3 (by decide) (by decide)) (en 4 (by decide) (by decide)) (en 5 (by decide) (by decide)) (fun k _ => congrFun (en 0 (by decide) (by decide)) k)
        clear hσ1
        refine cw_calli (pc := 44) C dX7_puts_44 (c_X7_finish l D Z A σ1 X K nn (oR X 9 (nI j) 0) (fun k hk => by rw [hs2]; exact absM_aside k hk) hM.2.2.2.2.2.1 hM.2.2.2.2.1 hnn) (cwV 1 C.1.2.2.2.2 gX7_puts_X7_finish rfl rfl rfl (by decide +kernel) ⟨Nat.le_of_ble_eq_true rfl, Nat.le_of_ble_eq_true rfl⟩) 0 rfl rfl rfl rfl (Nat.le_of_ble_eq_true rfl) (fun r σ2 hr => ?_)
        refine hret r σ2 _ _ dX7_puts_47 ?_
        clear hret
        exact chM_of (ord_all hO (by decide) _ _) hM hr
      · -- 29 f
        have h29 := bI_z h29
        refine cw_bipush (pc := 32) C dX7_puts_32 (-3) (by decide) ?_
        refine cw_goto (pc := 34) (tgt := 44) C dX7_puts_34 (by decide) ?_
        refine cw_top (oR X 9 (nI j) 0) ((put_no h21 hj h29).1.symm) ?_
        obtain ⟨σ1, hσ1⟩ : ∃ z, z = up2 σ 2 (va_cpy (σ 1) (σ 2) 0 0 51) := ⟨_, rfl⟩
        rw [← hσ1]
        have e1 : σ1 1 = mrow (oX X 9 (nI j) 0) := by rw [hσ1, up2_ne _ _ (by decide)]; exact hT.trans (congrArg mrow (put_no h21 hj h29).2.symm)
        have hs2 : σ1 2 = va_cpy (mrow X) (σ 2) 0 0 51 := by rw [hσ1, up2_eq, hT]
        have en : ∀ k, k ≠ 1 → k ≠ 2 → σ1 k = σ k := fun k k1 k2 => by rw [hσ1, up2_ne _ _ (by omega)]
        have hM : absM σ1 (oX X 9 (nI j) 0) F ck co K nn B L := absM_rows ha e1 (en 3 (by decide) (by decide)) (en 4 (by decide) (by decide)) (en 5 (by decide) (by decide)) (fun k _ => congrFun (en 0 (by decide) (by decide)) k)
        clear hσ1
        refine cw_calli (pc := 44) C dX7_puts_44 (c_X7_finish l D Z A σ1 X K nn (oR X 9 (nI j) 0) (fun k hk => by rw [hs2]; exact absM_aside k hk) hM.2.2.2.2.2.1 hM.2.2.2.2.1 hnn) (cwV 1 C.1.2.2.2.2 gX7_puts_X7_finish rfl rfl rfl (by decide +kernel) ⟨Nat.le_of_ble_eq_true rfl, Nat.le_of_ble_eq_true rfl⟩) 0 rfl rfl rfl rfl (Nat.le_of_ble_eq_true rfl) (fun r σ2 hr => ?_)
        refine hret r σ2 _ _ dX7_puts_47 ?_
        clear hret
        exact chM_of (ord_all hO (by decide) _ _) hM hr
  · -- 12 f
    have h12 := bI_z h12
    refine cw_bipush (pc := 15) C dX7_puts_15 (-2) (by decide) ?_
    refine cw_goto (pc := 17) (tgt := 44) C dX7_puts_17 (by decide) ?_
    refine cw_top (oR X 9 g 0) ((put_bad (X := X) h12).1.symm) ?_
    obtain ⟨σ1, hσ1⟩ : ∃ z, z = up2 σ 2 (va_cpy (σ 1) (σ 2) 0 0 51) := ⟨_, rfl⟩
    rw [← hσ1]
    have e1 : σ1 1 = mrow (oX X 9 g 0) := by rw [hσ1, up2_ne _ _ (by decide)]; exact hT.trans (congrArg mrow (put_bad (X := X) h12).2.symm)
    have hs2 : σ1 2 = va_cpy (mrow X) (σ 2) 0 0 51 := by rw [hσ1, up2_eq, hT]
    have en : ∀ k, k ≠ 1 → k ≠ 2 → σ1 k = σ k := fun k k1 k2 => by rw [hσ1, up2_ne _ _ (by omega)]
    have hM : absM σ1 (oX X 9 g 0) F ck co K nn B L := absM_rows ha e1 (en 3 (by decide) (by decide)) (en 4 (by decide) (by decide)) (en 5 (by decide) (by decide)) (fun k _ => congrFun (en 0 (by decide) (by decide)) k)
    clear hσ1
    refine cw_calli (pc := 44) C dX7_puts_44 (c_X7_finish l D Z A σ1 X K nn (oR X 9 g 0) (fun k hk => by rw [hs2]; exact absM_aside k hk) hM.2.2.2.2.2.1 hM.2.2.2.2.1 hnn) (cwV 1 C.1.2.2.2.2 gX7_puts_X7_finish rfl rfl rfl (by decide +kernel) ⟨Nat.le_of_ble_eq_true rfl, Nat.le_of_ble_eq_true rfl⟩) 0 rfl rfl rfl rfl (Nat.le_of_ble_eq_true rfl) (fun r σ2 hr => ?_)
    refine hret r σ2 _ _ dX7_puts_47 ?_
    clear hret
    exact chM_of (ord_all hO (by decide) _ _) hM hr
