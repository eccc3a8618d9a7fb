set_option maxHeartbeats 4000000 in
set_option maxRecDepth 100000 in
theorem c_X7_gear (l : Launch) (D : va_G) (Z : CZ) (A : Nat → Nat) (σ : St) (X F : Nat → Int32) (ck co : Int32) (K : Nat → Nat → Int32) (nn : Nat) (B : Nat → Int32) (L : Nat) (k : Int32) (v : Int32) (ha : absM σ X F ck co K nn B L) (hO : rowOK X) (hnn : nn ≤ 5) : CTi l yX7_gear wsX7_gear 3 68 D Z (wM Z A) σ [.ref (A 0), .int (k), .int (v)] (fun r σ' => chM σ' (oR X 0 k v) (oX X 0 k v) X F ck co K nn B L r) := by
  refine CTi.mk (cc := cX7_gear) (nL := 3) (own := RX7) rfl (by decide) rfl (Nat.le_of_ble_eq_true rfl) ?_
  intro p0 e0 s0 m0 g0 b0 t0 c0 A0 Q C hret
  obtain ⟨hT, m2, m3, m4, m5, m6, m7, m8⟩ := ha
  refine cw_lv (lv' := [(0, .ref (A 0)), (1, .int (k)), (2, .int (v))]) [0, 1, 2] rfl ?_
  refine cw_aload_n (pc := 0) C dX7_gear_0 rfl 0 rfl ?_
  refine cw_callv (pc := 1) C dX7_gear_1 (c_X7_save l D Z A σ ) (cwV 0 C.1.2.2.2.2 gX7_gear_X7_save rfl rfl rfl (by decide +kernel) ⟨Nat.le_of_ble_eq_true rfl, Nat.le_of_ble_eq_true rfl⟩) 0 rfl rfl rfl rfl (Nat.le_of_ble_eq_true rfl) (cw_effv (fun _ h => h) (up2 σ 2 (va_cpy (σ 1) (σ 2) 0 0 51)) rfl ?_)
  refine cw_aload_n (pc := 4) C dX7_gear_4 rfl 0 rfl ?_
  refine cw_aload_n (pc := 5) C dX7_gear_5 rfl 0 rfl ?_
  refine cw_iload_n (pc := 6) C dX7_gear_6 rfl 1 rfl ?_
  refine cw_iload_n (pc := 7) C dX7_gear_7 rfl 2 rfl ?_
  refine cw_calli (pc := 8) C dX7_gear_8 (c_X7_putSet l D Z A (up2 σ 2 (va_cpy (σ 1) (σ 2) 0 0 51)) X k v (show up2 σ 2 (va_cpy (σ 1) (σ 2) 0 0 51) 1 = mrow X by rw [up2_ne _ _ (by decide)]; exact hT) hO) (cwV 2 C.1.2.2.2.2 gX7_gear_X7_putSet rfl rfl rfl (by decide +kernel) ⟨Nat.le_of_ble_eq_true rfl, Nat.le_of_ble_eq_true rfl⟩) 0 rfl rfl rfl rfl (Nat.le_of_ble_eq_true rfl) (fun r σ1 hr => ?_)
  obtain ⟨hr1, hr2⟩ := hr
  have hr1 : r = oR X 0 k v := hr1
  have hr2 : σ1 = up2 (up2 σ 2 (va_cpy (σ 1) (σ 2) 0 0 51)) 1 (mrow (oX X 0 k v)) := hr2
  have e1 : σ1 1 = mrow (oX X 0 k v) := by rw [hr2, up2_eq]
  have hs2 : σ1 2 = va_cpy (mrow X) (σ 2) 0 0 51 := by rw [hr2, up2_ne _ _ (by decide), up2_eq, hT]
  have en : ∀ k, k ≠ 1 → k ≠ 2 → σ1 k = σ k := fun k k1 k2 => by rw [hr2, up2_ne _ _ k1, up2_ne _ _ k2]
  have e3 := en 3 (by decide) (by decide)
  have ez0 := en 0 (by decide) (by decide)
  have hM : absM σ1 (oX X 0 k v) F ck co K nn B L := ⟨e1, (en 4 (by decide) (by decide)).trans m2, by rw [ez0]; exact m3, by rw [ez0]; exact m4, by rw [ez0]; exact m5, by rw [e3]; exact m6, (en 5 (by decide) (by decide)).trans m7, by rw [ez0]; exact m8⟩
  subst hr1
  refine cw_calli (pc := 11) C dX7_gear_11 (c_X7_finish l D Z A σ1 X K nn (oR X 0 k v) (fun k hk => by rw [hs2]; exact absM_aside k hk) (by rw [e3]; exact m6) (by rw [ez0]; exact m5) hnn) (cwV 1 C.1.2.2.2.2 gX7_gear_X7_finish rfl rfl rfl (by decide +kernel) ⟨Nat.le_of_ble_eq_true rfl, Nat.le_of_ble_eq_true rfl⟩) 0 rfl rfl rfl rfl (Nat.le_of_ble_eq_true rfl) (fun r σ2 hr => ?_)
  refine hret r σ2 _ _ dX7_gear_14 ?_
  clear hret
  exact chM_of (ord_all hO (by decide) _ _) hM hr
set_option maxHeartbeats 4000000 in
set_option maxRecDepth 100000 in
theorem c_X7_fails (l : Launch) (D : va_G) (Z : CZ) (A : Nat → Nat) (σ : St) (X F : Nat → Int32) (ck co : Int32) (K : Nat → Nat → Int32) (nn : Nat) (B : Nat → Int32) (L : Nat) (k : Int32) (v : Int32) (ha : absM σ X F ck co K nn B L) (hO : rowOK X) (hnn : nn ≤ 5) : CTi l yX7_fails wsX7_fails 3 68 D Z (wM Z A) σ [.ref (A 0), .int (k), .int (v)] (fun r σ' => chM σ' (oR X 1 k v) (oX X 1 k v) X F ck co K nn B L r) := by
  refine CTi.mk (cc := cX7_fails) (nL := 3) (own := RX7) rfl (by decide) rfl (Nat.le_of_ble_eq_true rfl) ?_
  intro p0 e0 s0 m0 g0 b0 t0 c0 A0 Q C hret
  obtain ⟨hT, m2, m3, m4, m5, m6, m7, m8⟩ := ha
  refine cw_lv (lv' := [(0, .ref (A 0)), (1, .int (k)), (2, .int (v))]) [0, 1, 2] rfl ?_
  refine cw_aload_n (pc := 0) C dX7_fails_0 rfl 0 rfl ?_
  refine cw_callv (pc := 1) C dX7_fails_1 (c_X7_save l D Z A σ ) (cwV 0 C.1.2.2.2.2 gX7_fails_X7_save rfl rfl rfl (by decide +kernel) ⟨Nat.le_of_ble_eq_true rfl, Nat.le_of_ble_eq_true rfl⟩) 0 rfl rfl rfl rfl (Nat.le_of_ble_eq_true rfl) (cw_effv (fun _ h => h) (up2 σ 2 (va_cpy (σ 1) (σ 2) 0 0 51)) rfl ?_)
  refine cw_aload_n (pc := 4) C dX7_fails_4 rfl 0 rfl ?_
  refine cw_aload_n (pc := 5) C dX7_fails_5 rfl 0 rfl ?_
  refine cw_iload_n (pc := 6) C dX7_fails_6 rfl 1 rfl ?_
  refine cw_iload_n (pc := 7) C dX7_fails_7 rfl 2 rfl ?_
  refine cw_calli (pc := 8) C dX7_fails_8 (c_X7_putState l D Z A (up2 σ 2 (va_cpy (σ 1) (σ 2) 0 0 51)) X k v (show up2 σ 2 (va_cpy (σ 1) (σ 2) 0 0 51) 1 = mrow X by rw [up2_ne _ _ (by decide)]; exact hT) hO) (cwV 2 C.1.2.2.2.2 gX7_fails_X7_putState rfl rfl rfl (by decide +kernel) ⟨Nat.le_of_ble_eq_true rfl, Nat.le_of_ble_eq_true rfl⟩) 0 rfl rfl rfl rfl (Nat.le_of_ble_eq_true rfl) (fun r σ1 hr => ?_)
  obtain ⟨hr1, hr2⟩ := hr
  have hr1 : r = oR X 1 k v := hr1
  have hr2 : σ1 = up2 (up2 σ 2 (va_cpy (σ 1) (σ 2) 0 0 51)) 1 (mrow (oX X 1 k v)) := hr2
  have e1 : σ1 1 = mrow (oX X 1 k v) := by rw [hr2, up2_eq]
  have hs2 : σ1 2 = va_cpy (mrow X) (σ 2) 0 0 51 := by rw [hr2, up2_ne _ _ (by decide), up2_eq, hT]
  have en : ∀ k, k ≠ 1 → k ≠ 2 → σ1 k = σ k := fun k k1 k2 => by rw [hr2, up2_ne _ _ k1, up2_ne _ _ k2]
  have e3 := en 3 (by decide) (by decide)
  have ez0 := en 0 (by decide) (by decide)
  have hM : absM σ1 (oX X 1 k v) F ck co K nn B L := ⟨e1, (en 4 (by decide) (by decide)).trans m2, by rw [ez0]; exact m3, by rw [ez0]; exact m4, by rw [ez0]; exact m5, by rw [e3]; exact m6, (en 5 (by decide) (by decide)).trans m7, by rw [ez0]; exact m8⟩
  subst hr1
  refine cw_calli (pc := 11) C dX7_fails_11 (c_X7_finish l D Z A σ1 X K nn (oR X 1 k v) (fun k hk => by rw [hs2]; exact absM_aside k hk) (by rw [e3]; exact m6) (by rw [ez0]; exact m5) hnn) (cwV 1 C.1.2.2.2.2 gX7_fails_X7_finish rfl rfl rfl (by decide +kernel) ⟨Nat.le_of_ble_eq_true rfl, Nat.le_of_ble_eq_true rfl⟩) 0 rfl rfl rfl rfl (Nat.le_of_ble_eq_true rfl) (fun r σ2 hr => ?_)
  refine hret r σ2 _ _ dX7_fails_14 ?_
  clear hret
  exact chM_of (ord_all hO (by decide) _ _) hM hr
set_option maxHeartbeats 4000000 in
set_option maxRecDepth 100000 in
theorem c_X7_trues (l : Launch) (D : va_G) (Z : CZ) (A : Nat → Nat) (σ : St) (X F : Nat → Int32) (ck co : Int32) (K : Nat → Nat → Int32) (nn : Nat) (B : Nat → Int32) (L : Nat) (k : Int32) (v : Int32) (ha : absM σ X F ck co K nn B L) (hO : rowOK X) (hnn : nn ≤ 5) : CTi l yX7_trues wsX7_trues 3 64 D Z (wM Z A) σ [.ref (A 0), .int (k), .int (v)] (fun r σ' => chM σ' (oR X 2 k v) (oX X 2 k v) X F ck co K nn B L r) := by
  refine CTi.mk (cc := cX7_trues) (nL := 3) (own := RX7) rfl (by decide) rfl (Nat.le_of_ble_eq_true rfl) ?_
  intro p0 e0 s0 m0 g0 b0 t0 c0 A0 Q C hret
  obtain ⟨hT, m2, m3, m4, m5, m6, m7, m8⟩ := ha
  refine cw_lv (lv' := [(0, .ref (A 0)), (1, .int (k)), (2, .int (v))]) [0, 1, 2] rfl ?_
  refine cw_aload_n (pc := 0) C dX7_trues_0 rfl 0 rfl ?_
  refine cw_callv (pc := 1) C dX7_trues_1 (c_X7_save l D Z A σ ) (cwV 0 C.1.2.2.2.2 gX7_trues_X7_save rfl rfl rfl (by decide +kernel) ⟨Nat.le_of_ble_eq_true rfl, Nat.le_of_ble_eq_true rfl⟩) 0 rfl rfl rfl rfl (Nat.le_of_ble_eq_true rfl) (cw_effv (fun _ h => h) (up2 σ 2 (va_cpy (σ 1) (σ 2) 0 0 51)) rfl ?_)
  refine cw_aload_n (pc := 4) C dX7_trues_4 rfl 0 rfl ?_
  refine cw_aload_n (pc := 5) C dX7_trues_5 rfl 0 rfl ?_
  refine cw_iload_n (pc := 6) C dX7_trues_6 rfl 1 rfl ?_
  refine cw_iload_n (pc := 7) C dX7_trues_7 rfl 2 rfl ?_
  refine cw_calli (pc := 8) C dX7_trues_8 (c_X7_putTrue l D Z A (up2 σ 2 (va_cpy (σ 1) (σ 2) 0 0 51)) X k v (show up2 σ 2 (va_cpy (σ 1) (σ 2) 0 0 51) 1 = mrow X by rw [up2_ne _ _ (by decide)]; exact hT)) (cwV 2 C.1.2.2.2.2 gX7_trues_X7_putTrue rfl rfl rfl (by decide +kernel) ⟨Nat.le_of_ble_eq_true rfl, Nat.le_of_ble_eq_true rfl⟩) 0 rfl rfl rfl rfl (Nat.le_of_ble_eq_true rfl) (fun r σ1 hr => ?_)
  obtain ⟨hr1, hr2⟩ := hr
  have hr1 : r = oR X 2 k v := hr1
  have hr2 : σ1 = up2 (up2 σ 2 (va_cpy (σ 1) (σ 2) 0 0 51)) 1 (mrow (oX X 2 k v)) := hr2
  have e1 : σ1 1 = mrow (oX X 2 k v) := by rw [hr2, up2_eq]
  have hs2 : σ1 2 = va_cpy (mrow X) (σ 2) 0 0 51 := by rw [hr2, up2_ne _ _ (by decide), up2_eq, hT]
  have en : ∀ k, k ≠ 1 → k ≠ 2 → σ1 k = σ k := fun k k1 k2 => by rw [hr2, up2_ne _ _ k1, up2_ne _ _ k2]
  have e3 := en 3 (by decide) (by decide)
  have ez0 := en 0 (by decide) (by decide)
  have hM : absM σ1 (oX X 2 k v) F ck co K nn B L := ⟨e1, (en 4 (by decide) (by decide)).trans m2, by rw [ez0]; exact m3, by rw [ez0]; exact m4, by rw [ez0]; exact m5, by rw [e3]; exact m6, (en 5 (by decide) (by decide)).trans m7, by rw [ez0]; exact m8⟩
  subst hr1
  refine cw_calli (pc := 11) C dX7_trues_11 (c_X7_finish l D Z A σ1 X K nn (oR X 2 k v) (fun k hk => by rw [hs2]; exact absM_aside k hk) (by rw [e3]; exact m6) (by rw [ez0]; exact m5) hnn) (cwV 1 C.1.2.2.2.2 gX7_trues_X7_finish rfl rfl rfl (by decide +kernel) ⟨Nat.le_of_ble_eq_true rfl, Nat.le_of_ble_eq_true rfl⟩) 0 rfl rfl rfl rfl (Nat.le_of_ble_eq_true rfl) (fun r σ2 hr => ?_)
  refine hret r σ2 _ _ dX7_trues_14 ?_
  clear hret
  exact chM_of (ord_all hO (by decide) _ _) hM hr
set_option maxHeartbeats 4000000 in
set_option maxRecDepth 100000 in
theorem c_X7_up (l : Launch) (D : va_G) (Z : CZ) (A : Nat → Nat) (σ : St) (X F : Nat → Int32) (ck co : Int32) (K : Nat → Nat → Int32) (nn : Nat) (B : Nat → Int32) (L : Nat) (k : Int32) (v : Int32) (ha : absM σ X F ck co K nn B L) (hO : rowOK X) (hnn : nn ≤ 5) : CTi l yX7_up wsX7_up 3 64 D Z (wM Z A) σ [.ref (A 0), .int (k), .int (v)] (fun r σ' => chM σ' (oR X 3 k v) (oX X 3 k v) X F ck co K nn B L r) := by
  refine CTi.mk (cc := cX7_up) (nL := 3) (own := RX7) rfl (by decide) rfl (Nat.le_of_ble_eq_true rfl) ?_
  intro p0 e0 s0 m0 g0 b0 t0 c0 A0 Q C hret
  obtain ⟨hT, m2, m3, m4, m5, m6, m7, m8⟩ := ha
  refine cw_lv (lv' := [(0, .ref (A 0)), (1, .int (k)), (2, .int (v))]) [0, 1, 2] rfl ?_
  refine cw_aload_n (pc := 0) C dX7_up_0 rfl 0 rfl ?_
  refine cw_callv (pc := 1) C dX7_up_1 (c_X7_save l D Z A σ ) (cwV 0 C.1.2.2.2.2 gX7_up_X7_save rfl rfl rfl (by decide +kernel) ⟨Nat.le_of_ble_eq_true rfl, Nat.le_of_ble_eq_true rfl⟩) 0 rfl rfl rfl rfl (Nat.le_of_ble_eq_true rfl) (cw_effv (fun _ h => h) (up2 σ 2 (va_cpy (σ 1) (σ 2) 0 0 51)) rfl ?_)
  refine cw_aload_n (pc := 4) C dX7_up_4 rfl 0 rfl ?_
  refine cw_aload_n (pc := 5) C dX7_up_5 rfl 0 rfl ?_
  refine cw_iload_n (pc := 6) C dX7_up_6 rfl 1 rfl ?_
  refine cw_iload_n (pc := 7) C dX7_up_7 rfl 2 rfl ?_
  refine cw_calli (pc := 8) C dX7_up_8 (c_X7_putUp l D Z A (up2 σ 2 (va_cpy (σ 1) (σ 2) 0 0 51)) X k v (show up2 σ 2 (va_cpy (σ 1) (σ 2) 0 0 51) 1 = mrow X by rw [up2_ne _ _ (by decide)]; exact hT)) (cwV 2 C.1.2.2.2.2 gX7_up_X7_putUp rfl rfl rfl (by decide +kernel) ⟨Nat.le_of_ble_eq_true rfl, Nat.le_of_ble_eq_true rfl⟩) 0 rfl rfl rfl rfl (Nat.le_of_ble_eq_true rfl) (fun r σ1 hr => ?_)
  obtain ⟨hr1, hr2⟩ := hr
  have hr1 : r = oR X 3 k v := hr1
  have hr2 : σ1 = up2 (up2 σ 2 (va_cpy (σ 1) (σ 2) 0 0 51)) 1 (mrow (oX X 3 k v)) := hr2
  have e1 : σ1 1 = mrow (oX X 3 k v) := by rw [hr2, up2_eq]
  have hs2 : σ1 2 = va_cpy (mrow X) (σ 2) 0 0 51 := by rw [hr2, up2_ne _ _ (by decide), up2_eq, hT]
  have en : ∀ k, k ≠ 1 → k ≠ 2 → σ1 k = σ k := fun k k1 k2 => by rw [hr2, up2_ne _ _ k1, up2_ne _ _ k2]
  have e3 := en 3 (by decide) (by decide)
  have ez0 := en 0 (by decide) (by decide)
  have hM : absM σ1 (oX X 3 k v) F ck co K nn B L := ⟨e1, (en 4 (by decide) (by decide)).trans m2, by rw [ez0]; exact m3, by rw [ez0]; exact m4, by rw [ez0]; exact m5, by rw [e3]; exact m6, (en 5 (by decide) (by decide)).trans m7, by rw [ez0]; exact m8⟩
  subst hr1
  refine cw_calli (pc := 11) C dX7_up_11 (c_X7_finish l D Z A σ1 X K nn (oR X 3 k v) (fun k hk => by rw [hs2]; exact absM_aside k hk) (by rw [e3]; exact m6) (by rw [ez0]; exact m5) hnn) (cwV 1 C.1.2.2.2.2 gX7_up_X7_finish rfl rfl rfl (by decide +kernel) ⟨Nat.le_of_ble_eq_true rfl, Nat.le_of_ble_eq_true rfl⟩) 0 rfl rfl rfl rfl (Nat.le_of_ble_eq_true rfl) (fun r σ2 hr => ?_)
  refine hret r σ2 _ _ dX7_up_14 ?_
  clear hret
  exact chM_of (ord_all hO (by decide) _ _) hM hr
set_option maxHeartbeats 4000000 in
set_option maxRecDepth 100000 in
theorem c_X7_down (l : Launch) (D : va_G) (Z : CZ) (A : Nat → Nat) (σ : St) (X F : Nat → Int32) (ck co : Int32) (K : Nat → Nat → Int32) (nn : Nat) (B : Nat → Int32) (L : Nat) (k : Int32) (v : Int32) (ha : absM σ X F ck co K nn B L) (hO : rowOK X) (hnn : nn ≤ 5) : CTi l yX7_down wsX7_down 3 64 D Z (wM Z A) σ [.ref (A 0), .int (k), .int (v)] (fun r σ' => chM σ' (oR X 4 k v) (oX X 4 k v) X F ck co K nn B L r) := by
  refine CTi.mk (cc := cX7_down) (nL := 3) (own := RX7) rfl (by decide) rfl (Nat.le_of_ble_eq_true rfl) ?_
  intro p0 e0 s0 m0 g0 b0 t0 c0 A0 Q C hret
  obtain ⟨hT, m2, m3, m4, m5, m6, m7, m8⟩ := ha
  refine cw_lv (lv' := [(0, .ref (A 0)), (1, .int (k)), (2, .int (v))]) [0, 1, 2] rfl ?_
  refine cw_aload_n (pc := 0) C dX7_down_0 rfl 0 rfl ?_
  refine cw_callv (pc := 1) C dX7_down_1 (c_X7_save l D Z A σ ) (cwV 0 C.1.2.2.2.2 gX7_down_X7_save rfl rfl rfl (by decide +kernel) ⟨Nat.le_of_ble_eq_true rfl, Nat.le_of_ble_eq_true rfl⟩) 0 rfl rfl rfl rfl (Nat.le_of_ble_eq_true rfl) (cw_effv (fun _ h => h) (up2 σ 2 (va_cpy (σ 1) (σ 2) 0 0 51)) rfl ?_)
  refine cw_aload_n (pc := 4) C dX7_down_4 rfl 0 rfl ?_
  refine cw_aload_n (pc := 5) C dX7_down_5 rfl 0 rfl ?_
  refine cw_iload_n (pc := 6) C dX7_down_6 rfl 1 rfl ?_
  refine cw_iload_n (pc := 7) C dX7_down_7 rfl 2 rfl ?_
  refine cw_calli (pc := 8) C dX7_down_8 (c_X7_putDown l D Z A (up2 σ 2 (va_cpy (σ 1) (σ 2) 0 0 51)) X k v (show up2 σ 2 (va_cpy (σ 1) (σ 2) 0 0 51) 1 = mrow X by rw [up2_ne _ _ (by decide)]; exact hT)) (cwV 2 C.1.2.2.2.2 gX7_down_X7_putDown rfl rfl rfl (by decide +kernel) ⟨Nat.le_of_ble_eq_true rfl, Nat.le_of_ble_eq_true rfl⟩) 0 rfl rfl rfl rfl (Nat.le_of_ble_eq_true rfl) (fun r σ1 hr => ?_)
  obtain ⟨hr1, hr2⟩ := hr
  have hr1 : r = oR X 4 k v := hr1
  have hr2 : σ1 = up2 (up2 σ 2 (va_cpy (σ 1) (σ 2) 0 0 51)) 1 (mrow (oX X 4 k v)) := hr2
  have e1 : σ1 1 = mrow (oX X 4 k v) := by rw [hr2, up2_eq]
  have hs2 : σ1 2 = va_cpy (mrow X) (σ 2) 0 0 51 := by rw [hr2, up2_ne _ _ (by decide), up2_eq, hT]
  have en : ∀ k, k ≠ 1 → k ≠ 2 → σ1 k = σ k := fun k k1 k2 => by rw [hr2, up2_ne _ _ k1, up2_ne _ _ k2]
  have e3 := en 3 (by decide) (by decide)
  have ez0 := en 0 (by decide) (by decide)
  have hM : absM σ1 (oX X 4 k v) F ck co K nn B L := ⟨e1, (en 4 (by decide) (by decide)).trans m2, by rw [ez0]; exact m3, by rw [ez0]; exact m4, by rw [ez0]; exact m5, by rw [e3]; exact m6, (en 5 (by decide) (by decide)).trans m7, by rw [ez0]; exact m8⟩
  subst hr1
  refine cw_calli (pc := 11) C dX7_down_11 (c_X7_finish l D Z A σ1 X K nn (oR X 4 k v) (fun k hk => by rw [hs2]; exact absM_aside k hk) (by rw [e3]; exact m6) (by rw [ez0]; exact m5) hnn) (cwV 1 C.1.2.2.2.2 gX7_down_X7_finish rfl rfl rfl (by decide +kernel) ⟨Nat.le_of_ble_eq_true rfl, Nat.le_of_ble_eq_true rfl⟩) 0 rfl rfl rfl rfl (Nat.le_of_ble_eq_true rfl) (fun r σ2 hr => ?_)
  refine hret r σ2 _ _ dX7_down_14 ?_
  clear hret
  exact chM_of (ord_all hO (by decide) _ _) hM hr
set_option maxHeartbeats 4000000 in
set_option maxRecDepth 100000 in
theorem c_X7_slope (l : Launch) (D : va_G) (Z : CZ) (A : Nat → Nat) (σ : St) (X F : Nat → Int32) (ck co : Int32) (K : Nat → Nat → Int32) (nn : Nat) (B : Nat → Int32) (L : Nat) (v : Int32) (ha : absM σ X F ck co K nn B L) (hO : rowOK X) (hnn : nn ≤ 5) : CTi l yX7_slope wsX7_slope 2 46 D Z (wM Z A) σ [.ref (A 0), .int (v)] (fun r σ' => chM σ' (oR X 5 v 0) (oX X 5 v 0) X F ck co K nn B L r) := by
  refine CTi.mk (cc := cX7_slope) (nL := 2) (own := RX7) rfl (by decide) rfl (Nat.le_of_ble_eq_true rfl) ?_
  intro p0 e0 s0 m0 g0 b0 t0 c0 A0 Q C hret
  obtain ⟨hT, m2, m3, m4, m5, m6, m7, m8⟩ := ha
  refine cw_lv (lv' := [(0, .ref (A 0)), (1, .int (v))]) [0, 1] rfl ?_
  refine cw_aload_n (pc := 0) C dX7_slope_0 rfl 0 rfl ?_
  refine cw_callv (pc := 1) C dX7_slope_1 (c_X7_save l D Z A σ ) (cwV 0 C.1.2.2.2.2 gX7_slope_X7_save rfl rfl rfl (by decide +kernel) ⟨Nat.le_of_ble_eq_true rfl, Nat.le_of_ble_eq_true rfl⟩) 0 rfl rfl rfl rfl (Nat.le_of_ble_eq_true rfl) (cw_effv (fun _ h => h) (up2 σ 2 (va_cpy (σ 1) (σ 2) 0 0 51)) rfl ?_)
  refine cw_aload_n (pc := 4) C dX7_slope_4 rfl 0 rfl ?_
  refine cw_aload_n (pc := 5) C dX7_slope_5 rfl 0 rfl ?_
  refine cw_iload_n (pc := 6) C dX7_slope_6 rfl 1 rfl ?_
  refine cw_calli (pc := 7) C dX7_slope_7 (c_X7_putSlope l D Z A (up2 σ 2 (va_cpy (σ 1) (σ 2) 0 0 51)) X v (show up2 σ 2 (va_cpy (σ 1) (σ 2) 0 0 51) 1 = mrow X by rw [up2_ne _ _ (by decide)]; exact hT)) (cwV 1 C.1.2.2.2.2 gX7_slope_X7_putSlope rfl rfl rfl (by decide +kernel) ⟨Nat.le_of_ble_eq_true rfl, Nat.le_of_ble_eq_true rfl⟩) 0 rfl rfl rfl rfl (Nat.le_of_ble_eq_true rfl) (fun r σ1 hr => ?_)
  obtain ⟨hr1, hr2⟩ := hr
  have hr1 : r = oR X 5 v 0 := hr1
  have hr2 : σ1 = up2 (up2 σ 2 (va_cpy (σ 1) (σ 2) 0 0 51)) 1 (mrow (oX X 5 v 0)) := hr2
  have e1 : σ1 1 = mrow (oX X 5 v 0) := by rw [hr2, up2_eq]
  have hs2 : σ1 2 = va_cpy (mrow X) (σ 2) 0 0 51 := by rw [hr2, up2_ne _ _ (by decide), up2_eq, hT]
  have en : ∀ k, k ≠ 1 → k ≠ 2 → σ1 k = σ k := fun k k1 k2 => by rw [hr2, up2_ne _ _ k1, up2_ne _ _ k2]
  have e3 := en 3 (by decide) (by decide)
  have ez0 := en 0 (by decide) (by decide)
  have hM : absM σ1 (oX X 5 v 0) F ck co K nn B L := ⟨e1, (en 4 (by decide) (by decide)).trans m2, by rw [ez0]; exact m3, by rw [ez0]; exact m4, by rw [ez0]; exact m5, by rw [e3]; exact m6, (en 5 (by decide) (by decide)).trans m7, by rw [ez0]; exact m8⟩
  subst hr1
  refine cw_calli (pc := 10) C dX7_slope_10 (c_X7_finish l D Z A σ1 X K nn (oR X 5 v 0) (fun k hk => by rw [hs2]; exact absM_aside k hk) (by rw [e3]; exact m6) (by rw [ez0]; exact m5) hnn) (cwV 1 C.1.2.2.2.2 gX7_slope_X7_finish rfl rfl rfl (by decide +kernel) ⟨Nat.le_of_ble_eq_true rfl, Nat.le_of_ble_eq_true rfl⟩) 0 rfl rfl rfl rfl (Nat.le_of_ble_eq_true rfl) (fun r σ2 hr => ?_)
  refine hret r σ2 _ _ dX7_slope_13 ?_
  clear hret
  exact chM_of (ord_all hO (by decide) _ _) hM hr
set_option maxHeartbeats 4000000 in
set_option maxRecDepth 100000 in
theorem c_X7_driver (l : Launch) (D : va_G) (Z : CZ) (A : Nat → Nat) (σ : St) (X F : Nat → Int32) (ck co : Int32) (K : Nat → Nat → Int32) (nn : Nat) (B : Nat → Int32) (L : Nat) (v : Int32) (ha : absM σ X F ck co K nn B L) (hO : rowOK X) (hnn : nn ≤ 5) : CTi l yX7_driver wsX7_driver 2 46 D Z (wM Z A) σ [.ref (A 0), .int (v)] (fun r σ' => chM σ' (oR X 6 v 0) (oX X 6 v 0) X F ck co K nn B L r) := by
  refine CTi.mk (cc := cX7_driver) (nL := 2) (own := RX7) rfl (by decide) rfl (Nat.le_of_ble_eq_true rfl) ?_
  intro p0 e0 s0 m0 g0 b0 t0 c0 A0 Q C hret
  obtain ⟨hT, m2, m3, m4, m5, m6, m7, m8⟩ := ha
  refine cw_lv (lv' := [(0, .ref (A 0)), (1, .int (v))]) [0, 1] rfl ?_
  refine cw_aload_n (pc := 0) C dX7_driver_0 rfl 0 rfl ?_
  refine cw_callv (pc := 1) C dX7_driver_1 (c_X7_save l D Z A σ ) (cwV 0 C.1.2.2.2.2 gX7_driver_X7_save rfl rfl rfl (by decide +kernel) ⟨Nat.le_of_ble_eq_true rfl, Nat.le_of_ble_eq_true rfl⟩) 0 rfl rfl rfl rfl (Nat.le_of_ble_eq_true rfl) (cw_effv (fun _ h => h) (up2 σ 2 (va_cpy (σ 1) (σ 2) 0 0 51)) rfl ?_)
  refine cw_aload_n (pc := 4) C dX7_driver_4 rfl 0 rfl ?_
  refine cw_aload_n (pc := 5) C dX7_driver_5 rfl 0 rfl ?_
  refine cw_iload_n (pc := 6) C dX7_driver_6 rfl 1 rfl ?_
  refine cw_calli (pc := 7) C dX7_driver_7 (c_X7_putDriver l D Z A (up2 σ 2 (va_cpy (σ 1) (σ 2) 0 0 51)) X v (show up2 σ 2 (va_cpy (σ 1) (σ 2) 0 0 51) 1 = mrow X by rw [up2_ne _ _ (by decide)]; exact hT)) (cwV 1 C.1.2.2.2.2 gX7_driver_X7_putDriver rfl rfl rfl (by decide +kernel) ⟨Nat.le_of_ble_eq_true rfl, Nat.le_of_ble_eq_true rfl⟩) 0 rfl rfl rfl rfl (Nat.le_of_ble_eq_true rfl) (fun r σ1 hr => ?_)
  obtain ⟨hr1, hr2⟩ := hr
  have hr1 : r = oR X 6 v 0 := hr1
  have hr2 : σ1 = up2 (up2 σ 2 (va_cpy (σ 1) (σ 2) 0 0 51)) 1 (mrow (oX X 6 v 0)) := hr2
  have e1 : σ1 1 = mrow (oX X 6 v 0) := by rw [hr2, up2_eq]
  have hs2 : σ1 2 = va_cpy (mrow X) (σ 2) 0 0 51 := by rw [hr2, up2_ne _ _ (by decide), up2_eq, hT]
  have en : ∀ k, k ≠ 1 → k ≠ 2 → σ1 k = σ k := fun k k1 k2 => by rw [hr2, up2_ne _ _ k1, up2_ne _ _ k2]
  have e3 := en 3 (by decide) (by decide)
  have ez0 := en 0 (by decide) (by decide)
  have hM : absM σ1 (oX X 6 v 0) F ck co K nn B L := ⟨e1, (en 4 (by decide) (by decide)).trans m2, by rw [ez0]; exact m3, by rw [ez0]; exact m4, by rw [ez0]; exact m5, by rw [e3]; exact m6, (en 5 (by decide) (by decide)).trans m7, by rw [ez0]; exact m8⟩
  subst hr1
  refine cw_calli (pc := 10) C dX7_driver_10 (c_X7_finish l D Z A σ1 X K nn (oR X 6 v 0) (fun k hk => by rw [hs2]; exact absM_aside k hk) (by rw [e3]; exact m6) (by rw [ez0]; exact m5) hnn) (cwV 1 C.1.2.2.2.2 gX7_driver_X7_finish rfl rfl rfl (by decide +kernel) ⟨Nat.le_of_ble_eq_true rfl, Nat.le_of_ble_eq_true rfl⟩) 0 rfl rfl rfl rfl (Nat.le_of_ble_eq_true rfl) (fun r σ2 hr => ?_)
  refine hret r σ2 _ _ dX7_driver_13 ?_
  clear hret
  exact chM_of (ord_all hO (by decide) _ _) hM hr
