set_option maxHeartbeats 4000000 in
set_option maxRecDepth 100000 in
theorem c_X7_want (l : Launch) (D : va_G) (Z : CZ) (A : Nat → Nat) (σ : St) (X F : Nat → Int32) (ck co : Int32) (K : Nat → Nat → Int32) (nn : Nat) (B : Nat → Int32) (L : Nat) (v : Int32) (ha : absM σ X F ck co K nn B L) (hO : rowOK X) : CTi l yX7_want wsX7_want 4 90 D Z (wM Z A) σ [.ref (A 0), .int (v)] (fun r σ' => r = ansV (wnA X v) ∧ absM σ' X (ansF F (wnA X v)) ck co K nn B L) := by
  refine CTi.mk (cc := cX7_want) (nL := 2) (own := RX7) rfl (by decide) rfl (Nat.le_of_ble_eq_true rfl) ?_
  intro p0 e0 s0 m0 g0 b0 t0 c0 A0 Q C hret
  have hT := ha.1
  have hi := rowOK_in hO
  refine cw_lv (lv' := [(0, .ref (A 0)), (1, .int (v))]) [0, 1] rfl ?_
  refine cw_iload_n (pc := 0) C dX7_want_0 rfl 1 rfl ?_
  refine cw_iconst (pc := 1) C dX7_want_1 (nI 0) (by decide) ?_
  refine cw_sipush (pc := 2) C dX7_want_2 (nI 300) (by decide) ?_
  refine cw_calls (pc := 5) C dX7_want_5 (c_X7_in l D Z A σ v (nI 0) (nI 300)) (va_cwS 3 C.1.2.2.2.2 gX7_want_X7_in rfl rfl rfl (by decide +kernel) ⟨Nat.le_of_ble_eq_true rfl, Nat.le_of_ble_eq_true rfl⟩) rfl rfl (Nat.le_of_ble_eq_true rfl) (cw_purez (b := withinB v (nI 0) (nI 300)) (fun _ _ h => h) ?_)
  refine cw_if_eq (pc := 8) (tgt := 19) C dX7_want_8 (by decide) (fun h8 => ?_) (fun h8 => ?_)
  · -- 8 t
    have h8 := bI_z h8
    refine cw_aload_n (pc := 19) C dX7_want_19 rfl 0 rfl ?_
    refine cw_bipush (pc := 20) C dX7_want_20 (-2) (by decide) ?_
    refine cw_calli (pc := 22) C dX7_want_22 (c_X7_refuse0 l D Z A σ ) (cwV 1 C.1.2.2.2.2 gX7_want_X7_refuse rfl rfl rfl (by decide +kernel) ⟨Nat.le_of_ble_eq_true rfl, Nat.le_of_ble_eq_true rfl⟩) 0 rfl rfl rfl rfl (Nat.le_of_ble_eq_true rfl) (cw_eff (v := (-2)) (fun _ _ h => h) (up2 σ 4 (upd (σ 4) 0 ((σ 4) 0 + nI 1))) rfl ?_)
    refine hret (-2) (up2 σ 4 (upd (σ 4) 0 ((σ 4) 0 + nI 1))) _ _ dX7_want_25 ?_
    clear hret
    rw [show wnA X v = .inr 0 by rw [wnA, if_neg (by rw [h8]; decide)]]
    exact ⟨rfl, absM_ref ha 0⟩
  · -- 8 f
    have h8 := bI_nz h8
    refine cw_aload_n (pc := 11) C dX7_want_11 rfl 0 rfl ?_
    refine cw_iload_n (pc := 12) C dX7_want_12 rfl 1 rfl ?_
    refine cw_calli (pc := 13) C dX7_want_13 (c_X7_wantAt l D Z A σ X (inN X) v hT hi.1 hi.2.1) (cwV 1 C.1.2.2.2.2 gX7_want_X7_wantAt rfl rfl rfl (by decide +kernel) ⟨Nat.le_of_ble_eq_true rfl, Nat.le_of_ble_eq_true rfl⟩) 0 rfl rfl rfl rfl (Nat.le_of_ble_eq_true rfl) (cw_pure (v := nI (wntS X (inN X) v)) (fun _ _ h => h) ?_)
    refine cw_goto (pc := 16) (tgt := 25) C dX7_want_16 (by decide) ?_
    refine hret (nI (wntS X (inN X) v)) σ _ _ dX7_want_25 ?_
    clear hret
    rw [show wnA X v = .inl (nI (wntS X (inN X) v)) by rw [wnA, if_pos h8]]
    exact ⟨rfl, ha⟩
set_option maxHeartbeats 4000000 in
set_option maxRecDepth 100000 in
theorem c_X7_areTwo (l : Launch) (D : va_G) (Z : CZ) (A : Nat → Nat) (σ : St)  (g : Int32) (k : Int32)  : CTz l yX7_areTwo wsX7_areTwo 2 42 D Z (wM Z A) σ [.int (g), .int (k)] (fun z σ' => z = pairB g k ∧ σ' = σ) := by
  refine CTz.mk (cc := cX7_areTwo) (nL := 2) (own := RX7) rfl (by decide) rfl (Nat.le_of_ble_eq_true rfl) ?_
  intro p0 e0 s0 m0 g0 b0 t0 c0 A0 Q C hret
  refine cw_lv (lv' := [(0, .int (g)), (1, .int (k))]) [0, 1] rfl ?_
  refine cw_iload_n (pc := 0) C dX7_areTwo_0 rfl 0 rfl ?_
  refine cw_calls (pc := 1) C dX7_areTwo_1 (c_X7_isGear l D Z A σ g) (va_cwS 1 C.1.2.2.2.2 gX7_areTwo_X7_isGear rfl rfl rfl (by decide +kernel) ⟨Nat.le_of_ble_eq_true rfl, Nat.le_of_ble_eq_true rfl⟩) rfl rfl (Nat.le_of_ble_eq_true rfl) (cw_purez (b := gearB g) (fun _ _ h => h) ?_)
  refine cw_if_eq (pc := 4) (tgt := 23) C dX7_areTwo_4 (by decide) (fun h4 => ?_) (fun h4 => ?_)
  · -- 4 t
    have h4 := bI_z h4
    refine cw_iconst (pc := 23) C dX7_areTwo_23 (nI 0) (by decide) ?_
    refine hret false σ _ _ dX7_areTwo_24 ?_
    clear hret
    exact ⟨by simp [pairB, h4], rfl⟩
  · -- 4 f
    have h4 := bI_nz h4
    refine cw_iload_n (pc := 7) C dX7_areTwo_7 rfl 1 rfl ?_
    refine cw_calls (pc := 8) C dX7_areTwo_8 (c_X7_isGear l D Z A σ k) (va_cwS 1 C.1.2.2.2.2 gX7_areTwo_X7_isGear rfl rfl rfl (by decide +kernel) ⟨Nat.le_of_ble_eq_true rfl, Nat.le_of_ble_eq_true rfl⟩) rfl rfl (Nat.le_of_ble_eq_true rfl) (cw_purez (b := gearB k) (fun _ _ h => h) ?_)
    refine cw_if_eq (pc := 11) (tgt := 23) C dX7_areTwo_11 (by decide) (fun h11 => ?_) (fun h11 => ?_)
    · -- 11 t
      have h11 := bI_z h11
      refine cw_iconst (pc := 23) C dX7_areTwo_23 (nI 0) (by decide) ?_
      refine hret false σ _ _ dX7_areTwo_24 ?_
      clear hret
      exact ⟨by simp [pairB, h4, h11], rfl⟩
    · -- 11 f
      have h11 := bI_nz h11
      refine cw_iload_n (pc := 14) C dX7_areTwo_14 rfl 0 rfl ?_
      refine cw_iload_n (pc := 15) C dX7_areTwo_15 rfl 1 rfl ?_
      refine cw_icmp_eq (pc := 16) (tgt := 23) C dX7_areTwo_16 (by decide) (fun h16 => ?_) (fun h16 => ?_)
      · -- 16 t
        refine cw_iconst (pc := 23) C dX7_areTwo_23 (nI 0) (by decide) ?_
        refine hret false σ _ _ dX7_areTwo_24 ?_
        clear hret
        exact ⟨by simp [pairB, h4, h11, h16], rfl⟩
      · -- 16 f
        refine cw_iconst (pc := 19) C dX7_areTwo_19 (nI 1) (by decide) ?_
        refine cw_goto (pc := 20) (tgt := 24) C dX7_areTwo_20 (by decide) ?_
        refine hret true σ _ _ dX7_areTwo_24 ?_
        clear hret
        exact ⟨by simp [pairB, h4, h11, h16], rfl⟩
set_option maxHeartbeats 4000000 in
set_option maxRecDepth 100000 in
theorem c_X7_over (l : Launch) (D : va_G) (Z : CZ) (A : Nat → Nat) (σ : St) (X F : Nat → Int32) (ck co : Int32) (K : Nat → Nat → Int32) (nn : Nat) (B : Nat → Int32) (L : Nat) (g : Int32) (k : Int32) (t : Int32) (ha : absM σ X F ck co K nn B L) (hO : rowOK X) : CTi l yX7_over wsX7_over 3 63 D Z (wM Z A) σ [.ref (A 0), .int (g), .int (k), .int (t)] (fun r σ' => r = ansV (ovA X g k t) ∧ absM σ' X (ansF F (ovA X g k t)) ck co K nn B L) := by
  refine CTi.mk (cc := cX7_over) (nL := 4) (own := RX7) rfl (by decide) rfl (Nat.le_of_ble_eq_true rfl) ?_
  intro p0 e0 s0 m0 g0 b0 t0 c0 A0 Q C hret
  have hT := ha.1
  refine cw_lv (lv' := [(0, .ref (A 0)), (1, .int (g)), (2, .int (k)), (3, .int (t))]) [0, 1, 2, 3] rfl ?_
  refine cw_iload_n (pc := 0) C dX7_over_0 rfl 1 rfl ?_
  refine cw_iload_n (pc := 1) C dX7_over_1 rfl 2 rfl ?_
  refine cw_calls (pc := 2) C dX7_over_2 (c_X7_areTwo l D Z A σ g k) (va_cwS 2 C.1.2.2.2.2 gX7_over_X7_areTwo rfl rfl rfl (by decide +kernel) ⟨Nat.le_of_ble_eq_true rfl, Nat.le_of_ble_eq_true rfl⟩) rfl rfl (Nat.le_of_ble_eq_true rfl) (cw_purez (b := pairB g k) (fun _ _ h => h) ?_)
  refine cw_if_eq (pc := 5) (tgt := 18) C dX7_over_5 (by decide) (fun h5 => ?_) (fun h5 => ?_)
  · -- 5 t
    have h5 := bI_z h5
    refine cw_aload_n (pc := 18) C dX7_over_18 rfl 0 rfl ?_
    refine cw_bipush (pc := 19) C dX7_over_19 (-2) (by decide) ?_
    refine cw_calli (pc := 21) C dX7_over_21 (c_X7_refuse0 l D Z A σ ) (cwV 1 C.1.2.2.2.2 gX7_over_X7_refuse rfl rfl rfl (by decide +kernel) ⟨Nat.le_of_ble_eq_true rfl, Nat.le_of_ble_eq_true rfl⟩) 0 rfl rfl rfl rfl (Nat.le_of_ble_eq_true rfl) (cw_eff (v := (-2)) (fun _ _ h => h) (up2 σ 4 (upd (σ 4) 0 ((σ 4) 0 + nI 1))) rfl ?_)
    refine hret (-2) (up2 σ 4 (upd (σ 4) 0 ((σ 4) 0 + nI 1))) _ _ dX7_over_24 ?_
    clear hret
    rw [show ovA X g k t = .inr 0 by rw [ovA, if_neg (fun q => by rw [h5] at q; cases q.1)]]
    exact ⟨rfl, absM_ref ha 0⟩
  · -- 5 f
    have h5 := bI_nz h5
    obtain ⟨x, y, x1, x2, y1, y2, hxy, rfl, rfl⟩ := pairB_t h5
    refine cw_iload_n (pc := 8) C dX7_over_8 rfl 3 rfl ?_
    refine cw_iconst (pc := 9) C dX7_over_9 (nI 0) (by decide) ?_
    refine cw_bipush (pc := 10) C dX7_over_10 (nI 40) (by decide) ?_
    refine cw_calls (pc := 12) C dX7_over_12 (c_X7_in l D Z A σ t (nI 0) (nI 40)) (va_cwS 3 C.1.2.2.2.2 gX7_over_X7_in rfl rfl rfl (by decide +kernel) ⟨Nat.le_of_ble_eq_true rfl, Nat.le_of_ble_eq_true rfl⟩) rfl rfl (Nat.le_of_ble_eq_true rfl) (cw_purez (b := withinB t (nI 0) (nI 40)) (fun _ _ h => h) ?_)
    refine cw_if_ne (pc := 15) (tgt := 25) C dX7_over_15 (by decide) (fun h15 => ?_) (fun h15 => ?_)
    · -- 15 t
      have h15 := bI_nz h15
      obtain ⟨u, -, hu, rfl⟩ := withinB_t (by decide) (by decide) h15
      refine cw_aload_n (pc := 25) C dX7_over_25 rfl 0 rfl ?_
      refine cw_iload_n (pc := 26) C dX7_over_26 rfl 1 rfl ?_
      refine cw_iload_n (pc := 27) C dX7_over_27 rfl 2 rfl ?_
      refine cw_calli (pc := 28) C dX7_over_28 (c_X7_areSimple l D Z A σ X x y hT hO.1 x1 x2 y1 y2) (cwV 2 C.1.2.2.2.2 gX7_over_X7_areSimple rfl rfl rfl (by decide +kernel) ⟨Nat.le_of_ble_eq_true rfl, Nat.le_of_ble_eq_true rfl⟩) 0 rfl rfl rfl rfl (Nat.le_of_ble_eq_true rfl) (cw_purez (b := simN X x y) (fun _ _ h => h) ?_)
      refine cw_if_eq (pc := 31) (tgt := 52) C dX7_over_31 (by decide) (fun h31 => ?_) (fun h31 => ?_)
      · -- 31 t
        have h31 := bI_z h31
        refine cw_aload_n (pc := 52) C dX7_over_52 rfl 0 rfl ?_
        refine cw_bipush (pc := 53) C dX7_over_53 (-3) (by decide) ?_
        refine cw_calli (pc := 55) C dX7_over_55 (c_X7_refuse1 l D Z A σ ) (cwV 1 C.1.2.2.2.2 gX7_over_X7_refuse rfl rfl rfl (by decide +kernel) ⟨Nat.le_of_ble_eq_true rfl, Nat.le_of_ble_eq_true rfl⟩) 0 rfl rfl rfl rfl (Nat.le_of_ble_eq_true rfl) (cw_eff (v := (-3)) (fun _ _ h => h) (up2 σ 4 (upd (σ 4) 1 ((σ 4) 1 + nI 1))) rfl ?_)
        refine hret (-3) (up2 σ 4 (upd (σ 4) 1 ((σ 4) 1 + nI 1))) _ _ dX7_over_58 ?_
        clear hret
        rw [show ovA X (nI x) (nI y) (nI u) = .inr 1 by rw [ovA, if_pos ⟨h5, h15⟩, tN_N (show x < 2 ^ 31 by omega), tN_N (show y < 2 ^ 31 by omega), if_neg (by rw [h31]; decide)]]
        exact ⟨rfl, absM_ref ha 1⟩
      · -- 31 f
        have h31 := bI_nz h31
        refine cw_aload_n (pc := 34) C dX7_over_34 rfl 0 rfl ?_
        refine cw_aload_n (pc := 35) C dX7_over_35 rfl 0 rfl ?_
        refine cw_iload_n (pc := 36) C dX7_over_36 rfl 1 rfl ?_
        refine cw_iload_n (pc := 37) C dX7_over_37 rfl 2 rfl ?_
        refine cw_calli (pc := 38) C dX7_over_38 (c_X7_coming l D Z A σ X x y hT hO.1 x2 y2 h31) (cwV 2 C.1.2.2.2.2 gX7_over_X7_coming rfl rfl rfl (by decide +kernel) ⟨Nat.le_of_ble_eq_true rfl, Nat.le_of_ble_eq_true rfl⟩) 0 rfl rfl rfl rfl (Nat.le_of_ble_eq_true rfl) (cw_pure (v := nI (comS (X x) (X y))) (fun _ _ h => h) ?_)
        refine cw_iload_n (pc := 41) C dX7_over_41 rfl 3 rfl ?_
        refine cw_calli (pc := 42) C dX7_over_42 (c_X7_overAt l D Z A σ X (comS (X x) (X y)) u hT (rowOK_R hO) (comS_lt _ _)) (cwV 2 C.1.2.2.2.2 gX7_over_X7_overAt rfl rfl rfl (by decide +kernel) ⟨Nat.le_of_ble_eq_true rfl, Nat.le_of_ble_eq_true rfl⟩) 0 rfl rfl rfl rfl (Nat.le_of_ble_eq_true rfl) (cw_pure (v := ovN X (comS (X x) (X y)) u) (fun _ _ h => h) ?_)
        refine cw_sipush (pc := 45) C dX7_over_45 (nI 1000) (by decide) ?_
        refine cw_iadd (pc := 48) C dX7_over_48 (z := (ovN X (comS (X x) (X y)) u) + (nI 1000)) rfl ?_
        refine cw_goto (pc := 49) (tgt := 58) C dX7_over_49 (by decide) ?_
        refine hret ((ovN X (comS (X x) (X y)) u) + (nI 1000)) σ _ _ dX7_over_58 ?_
        clear hret
        rw [show ovA X (nI x) (nI y) (nI u) = .inl (ovN X (comS (X x) (X y)) u + nI 1000) by rw [ovA, if_pos ⟨h5, h15⟩, tN_N (show x < 2 ^ 31 by omega), tN_N (show y < 2 ^ 31 by omega), if_pos h31, tN_N (show u < 2 ^ 31 by omega)]]
        exact ⟨rfl, ha⟩
    · -- 15 f
      have h15 := bI_z h15
      refine cw_aload_n (pc := 18) C dX7_over_18 rfl 0 rfl ?_
      refine cw_bipush (pc := 19) C dX7_over_19 (-2) (by decide) ?_
      refine cw_calli (pc := 21) C dX7_over_21 (c_X7_refuse0 l D Z A σ ) (cwV 1 C.1.2.2.2.2 gX7_over_X7_refuse rfl rfl rfl (by decide +kernel) ⟨Nat.le_of_ble_eq_true rfl, Nat.le_of_ble_eq_true rfl⟩) 0 rfl rfl rfl rfl (Nat.le_of_ble_eq_true rfl) (cw_eff (v := (-2)) (fun _ _ h => h) (up2 σ 4 (upd (σ 4) 0 ((σ 4) 0 + nI 1))) rfl ?_)
      refine hret (-2) (up2 σ 4 (upd (σ 4) 0 ((σ 4) 0 + nI 1))) _ _ dX7_over_24 ?_
      clear hret
      rw [show ovA X (nI x) (nI y) t = .inr 0 by rw [ovA, if_neg (fun q => by rw [h15] at q; cases q.2)]]
      exact ⟨rfl, absM_ref ha 0⟩
