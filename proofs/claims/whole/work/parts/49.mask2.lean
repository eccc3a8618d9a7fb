set_option maxHeartbeats 4000000 in
set_option maxRecDepth 100000 in
theorem c_X7_want (l : Launch) (D : va_G) (Z : CZ) (A : Nat → Nat) (σ : St) (X F : Nat → Int32) (ck co : Int32) (K : Nat → Nat → Int32) (nn : Nat) (B : Nat → Int32) (L : Nat) (v : Int32) (ha : absM σ X F ck co K nn B L) (hO : rowOK X) : CTi l yX7_want wsX7_want 4 90 D Z (wM Z A) σ [.ref (A 0), .int (v)] (fun r σ' => r = ansV (wnA X v) ∧ absM σ' X (ansF F (wnA X v)) ck co K nn B L) := by
  refine CTi.mk (cc := cX7_want) (nL := 2) (own := RX7) rfl (by decide) rfl (Nat.le_of_ble_eq_true rfl) ?_
  intro p0 e0 s0 m0 g0 b0 t0 c0 A0 Q C hret
  have hT := ha.1
  have hi := rowOK_in hO
  refine cw_lv (lv' := [(0, .ref (A 0)), (1, .int (v))]) [0, 1] rfl ?_
  refine cw_iload_n (pc := 0) C dX7_want_0 rfl 1 rfl ?_
  refine cw_iconst (pc := 1) C dX7_want_1 (nI 0) (by decide) ?_
  refine cw_sipush (pc := 2) C dX7_want_2 (nI 300) (by decide) ?_
  refine cw_calls (pc := 5) C dX7_want_5 (c_X7_in l D Z A σ v (nI 0) (nI 300)) (va_cwS 3 C.1.2.2.2.2 gX7_want_X7_in rfl rfl rfl (by decide +kernel) ⟨Nat.le_of_ble_eq_true rfl, Nat.le_of_ble_eq_true rfl⟩) rfl rfl (Nat.le_of_ble_eq_true rfl) (cw_purez (b := withinB v (nI 0) (nI 300)) (fun _ _ h => h) ?_)
  refine cw_if_eq (pc := 8) (tgt := 19) C dX7_want_8 (by decide) (fun h8 => ?_) (fun h8 => ?_)
  · -- 8 t
    have h8 := bI_z h8
    refine cw_aload_n (pc := 19) C dX7_want_19 rfl 0 rfl ?_
    refine cw_bipush (pc := 20) C dX7_want_20 (-2) (by decide) ?_
    refine cw_calli (pc := 22) C dX7_want_22 (c_X7_refuse0 l D Z A σ ) (cwV 1 C.1.2.2.2.2 gX7_want_X7_refuse rfl rfl rfl (by decide +kernel) ⟨Nat.le_of_ble_eq_true rfl, Nat.le_of_ble_eq_true rfl⟩) 0 rfl rfl rfl rfl (Nat.le_of_ble_eq_true rfl) (cw_eff (v := (-2)) (fun _ _ h => h) (up2 σ 4 (upd (σ 4) 0 ((σ 4) 0 + nI 1))) rfl ?_)
    refine hret (-2) (up2 σ 4 (upd (σ 4) 0 ((σ 4) 0 + nI 1))) _ _ dX7_want_25 ?_
    clear hret
    rw [show wnA X v = .inr 0 by rw [wnA, if_neg (by rw [h8]; decide)]]
    exact ⟨rfl, absM_ref ha 0⟩
  · -- 8 f
    have h8 := bI_nz h8
    refine cw_aload_n (pc := 11) C dX7_want_11 rfl 0 rfl ?_
    refine cw_iload_n (pc := 12) C dX7_want_12 rfl 1 rfl ?_
    refine cw_calli (pc := 13) C dX7_want_13 (c_X7_wantAt l D Z A σ X (inN X) v hT hi.1 hi.2.1) (cwV 1 C.1.2.2.2.2 gX7_want_X7_wantAt rfl rfl rfl (by decide +kernel) ⟨Nat.le_of_ble_eq_true rfl, Nat.le_of_ble_eq_true rfl⟩) 0 rfl rfl rfl rfl (Nat.le_of_ble_eq_true rfl) (cw_pure (v := nI (wntS X (inN X) v)) (fun _ _ h => h) ?_)
    refine cw_goto (pc := 16) (tgt := 25) C dX7_want_16 (by decide) ?_
    refine hret (nI (wntS X (inN X) v)) σ _ _ dX7_want_25 ?_
    clear hret
    rw [show wnA X v = .inl (nI (wntS X (inN X) v)) by rw [wnA, if_pos h8]]
    exact ⟨rfl, ha⟩
