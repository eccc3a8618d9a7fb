set_option maxHeartbeats 4000000 in
set_option maxRecDepth 100000 in
theorem c_X5_length (l : Launch) (D : va_G) (Z : CZ) (A : Nat → Nat) (σ : St) (L o p : Nat)    : CTi l yX5_length wsX5_length 0 0 D Z (wC Z A) (up2 σ 17 (txR L o p)) [.ref (A 17)] (fun r σ' => r = nI L ∧ σ' = up2 σ 17 (txR L o p)) := by
  refine CTi.mk (cc := cX5_length) (nL := 1) (own := RX5) rfl (by decide) rfl (Nat.le_of_ble_eq_true rfl) ?_
  intro p0 e0 s0 m0 g0 b0 t0 c0 A0 Q C hret
  refine cw_lv (lv' := [(0, .ref (A 17))]) [0] rfl ?_
  refine cw_aload_n (pc := 0) C dX5_length_0 rfl 0 rfl ?_
  refine cw_get (pc := 1) C dX5_length_1 17 (v := .int (nI L)) rfl rfl 4 rfl (fun _ h => List.mem_cons_of_mem _ (List.mem_append_right _ h)) (by decide) (List.mem_of_getElem? (i := 1) rfl) ?_
  refine hret (nI L) (up2 σ 17 (txR L o p)) _ _ dX5_length_4 ?_
  clear hret
  exact ⟨rfl, rfl⟩
set_option maxHeartbeats 4000000 in
set_option maxRecDepth 100000 in
theorem c_X5_append (l : Launch) (D : va_G) (Z : CZ) (A : Nat → Nat) (σ : St) (L o p : Nat)  (v : Int32) (hL : L ≤ 150) : CTz l yX5_append wsX5_append 0 0 D Z (wC Z A) (up2 σ 17 (txR L o p)) [.ref (A 17), .int (v)] (fun z σ' => (L < 150 ∧ z = true ∧ σ' = up2 (up2 σ 17 (txR (L + 1) o p)) 18 (upd (σ 18) L v)) ∨ (L = 150 ∧ z = false ∧ σ' = up2 σ 17 (txR L o p))) := by
  refine CTz.mk (cc := cX5_append) (nL := 2) (own := RX5) rfl (by decide) rfl (Nat.le_of_ble_eq_true rfl) ?_
  intro p0 e0 s0 m0 g0 b0 t0 c0 A0 Q C hret
  refine cw_lv (lv' := [(0, .ref (A 17)), (1, .int (v))]) [0, 1] rfl ?_
  refine cw_aload_n (pc := 0) C dX5_append_0 rfl 0 rfl ?_
  refine cw_get (pc := 1) C dX5_append_1 17 (v := .int (nI L)) rfl rfl 4 rfl (fun _ h => List.mem_cons_of_mem _ (List.mem_append_right _ h)) (by decide) (List.mem_of_getElem? (i := 1) rfl) ?_
  refine cw_sipush (pc := 4) C dX5_append_4 (nI 150) (by decide) ?_
  refine cw_icmp_lt (pc := 7) (tgt := 12) C dX5_append_7 (by decide) (fun h7 => ?_) (fun h7 => ?_)
  · -- 7 t
    have h7 : L < 150 := (nc_lt (a := L) (b := 150) (by omega) (by omega)).mp h7
    refine cw_aload_n (pc := 12) C dX5_append_12 rfl 0 rfl ?_
    refine cw_get (pc := 13) C dX5_append_13 17 (v := .ref (A 18)) rfl rfl 0 rfl (fun _ h => List.mem_cons_of_mem _ (List.mem_append_right _ h)) (by decide) (List.mem_of_getElem? (i := 2) rfl) ?_
    refine cw_aload_n (pc := 16) C dX5_append_16 rfl 0 rfl ?_
    refine cw_get (pc := 17) C dX5_append_17 17 (v := .int (nI L)) rfl rfl 4 rfl (fun _ h => List.mem_cons_of_mem _ (List.mem_append_right _ h)) (by decide) (List.mem_of_getElem? (i := 1) rfl) ?_
    refine cw_iload_n (pc := 20) C dX5_append_20 rfl 1 rfl ?_
    refine cw_iast2 (pc := 21) C dX5_append_21 18 18 (wC_g18 Z A) (wC_s18 Z A) (f := σ 18) (up2_ne _ _ (by decide)) L rfl (by omega) (by decide) (up2 (up2 σ 17 (txR L o p)) 18 (upd (σ 18) L v)) rfl ?_
    refine cw_aload_n (pc := 22) C dX5_append_22 rfl 0 rfl ?_
    refine cw_dup (pc := 23) C dX5_append_23 rfl ?_
    refine cw_get (pc := 24) C dX5_append_24 17 (v := .int (nI L)) rfl rfl 4 rfl (fun _ h => List.mem_cons_of_mem _ (List.mem_append_right _ h)) (by decide) (List.mem_of_getElem? (i := 1) rfl) ?_
    refine cw_iconst (pc := 27) C dX5_append_27 (nI 1) (by decide) ?_
    refine cw_iadd (pc := 28) C dX5_append_28 (z := nI (L + 1)) (nI_add _ _) ?_
    have e17 : upd ((up2 (up2 σ 17 (txR L o p)) 18 (upd (σ 18) L v)) 17) 4 (nI (L + 1)) = txR (L + 1) o p := (congrArg (fun f => upd f 4 (nI (L + 1))) (show (up2 (up2 σ 17 (txR L o p)) 18 (upd (σ 18) L v)) 17 = txR L o p from ((up2_ne _ _ (by decide)).trans (up2_eq _ _ _)))).trans (txR_4 _ _ _ _)
    refine cw_put (pc := 29) C dX5_append_29 17 (ty := .int) rfl rfl 4 (fun _ h => List.mem_cons_of_mem _ (List.mem_append_right _ h)) tyX5_ok nmX5 (by decide) (List.mem_of_getElem? (i := 1) rfl) rfl (by decide +kernel) rfl rfl (Nat.le_of_ble_eq_true rfl) (up2 (up2 σ 17 (txR (L + 1) o p)) 18 (upd (σ 18) L v)) ((wC_p17_4 Z A _ _).trans (congrArg (wC Z A) ((congrArg (fun f => up2 (up2 (up2 σ 17 (txR L o p)) 18 (upd (σ 18) L v)) 17 f) e17).trans ((up2_comm _ _ _ (by decide)).trans (congrArg (fun qz => up2 qz 18 (upd (σ 18) L v)) (up2_up2 _ 17 _ _)))))) ?_
    refine cw_iconst (pc := 32) C dX5_append_32 (nI 1) (by decide) ?_
    refine hret true (up2 (up2 σ 17 (txR (L + 1) o p)) 18 (upd (σ 18) L v)) _ _ dX5_append_33 ?_
    clear hret
    exact Or.inl ⟨h7, rfl, rfl⟩
  · -- 7 f
    have h7 : ¬ (L < 150) := fun qq => h7 ((nc_lt (a := L) (b := 150) (by omega) (by omega)).mpr qq)
    refine cw_iconst (pc := 10) C dX5_append_10 (nI 0) (by decide) ?_
    refine hret false (up2 σ 17 (txR L o p)) _ _ dX5_append_11 ?_
    clear hret
    exact Or.inr ⟨by omega, rfl, rfl⟩
