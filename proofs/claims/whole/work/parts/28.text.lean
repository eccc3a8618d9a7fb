set_option maxHeartbeats 4000000 in
set_option maxRecDepth 100000 in
theorem c_X5_length (l : Launch) (D : va_G) (Z : CZ) (A : Nat → Nat) (σ : St) (L o p : Nat)    : CTi l yX5_length wsX5_length 0 0 D Z (wC Z A) (up2 σ 17 (txR L o p)) [.ref (A 17)] (fun r σ' => r = nI L ∧ σ' = up2 σ 17 (txR L o p)) := by
  refine CTi.mk (cc := cX5_length) (nL := 1) (own := RX5) rfl (by decide) rfl (Nat.le_of_ble_eq_true rfl) ?_
  intro p0 e0 s0 m0 g0 b0 t0 c0 A0 Q C hret
  refine cw_lv (lv' := [(0, .ref (A 17))]) [0] rfl ?_
  refine cw_aload_n (pc := 0) C dX5_length_0 rfl 0 rfl ?_
  refine cw_get (pc := 1) C dX5_length_1 17 (v := .int (nI L)) rfl rfl 4 rfl (fun _ h => List.mem_cons_of_mem _ (List.mem_append_right _ h)) (by decide) (List.mem_of_getElem? (i := 1) rfl) ?_
  refine hret (nI L) (up2 σ 17 (txR L o p)) _ _ dX5_length_4 ?_
  clear hret
  exact ⟨rfl, rfl⟩
set_option maxHeartbeats 4000000 in
set_option maxRecDepth 100000 in
theorem c_X5_orders (l : Launch) (D : va_G) (Z : CZ) (A : Nat → Nat) (σ : St) (L o p : Nat)    : CTi l yX5_orders wsX5_orders 0 0 D Z (wC Z A) (up2 σ 17 (txR L o p)) [.ref (A 17)] (fun r σ' => r = nI o ∧ σ' = up2 σ 17 (txR L o p)) := by
  refine CTi.mk (cc := cX5_orders) (nL := 1) (own := RX5) rfl (by decide) rfl (Nat.le_of_ble_eq_true rfl) ?_
  intro p0 e0 s0 m0 g0 b0 t0 c0 A0 Q C hret
  refine cw_lv (lv' := [(0, .ref (A 17))]) [0] rfl ?_
  refine cw_aload_n (pc := 0) C dX5_orders_0 rfl 0 rfl ?_
  refine cw_get (pc := 1) C dX5_orders_1 17 (v := .int (nI o)) rfl rfl 5 rfl (fun _ h => List.mem_cons_of_mem _ (List.mem_append_right _ h)) (by decide) (List.mem_of_getElem? (i := 1) rfl) ?_
  refine hret (nI o) (up2 σ 17 (txR L o p)) _ _ dX5_orders_4 ?_
  clear hret
  exact ⟨rfl, rfl⟩
set_option maxHeartbeats 4000000 in
set_option maxRecDepth 100000 in
theorem c_X5_append (l : Launch) (D : va_G) (Z : CZ) (A : Nat → Nat) (σ : St) (L o p : Nat)  (v : Int32) (hL : L ≤ 150) : CTz l yX5_append wsX5_append 0 0 D Z (wC Z A) (up2 σ 17 (txR L o p)) [.ref (A 17), .int (v)] (fun z σ' => (L < 150 ∧ z = true ∧ σ' = up2 (up2 σ 17 (txR (L + 1) o p)) 18 (upd (σ 18) L v)) ∨ (L = 150 ∧ z = false ∧ σ' = up2 σ 17 (txR L o p))) := by
  refine CTz.mk (cc := cX5_append) (nL := 2) (own := RX5) rfl (by decide) rfl (Nat.le_of_ble_eq_true rfl) ?_
  intro p0 e0 s0 m0 g0 b0 t0 c0 A0 Q C hret
  refine cw_lv (lv' := [(0, .ref (A 17)), (1, .int (v))]) [0, 1] rfl ?_
  refine cw_aload_n (pc := 0) C dX5_append_0 rfl 0 rfl ?_
  refine cw_get (pc := 1) C dX5_append_1 17 (v := .int (nI L)) rfl rfl 4 rfl (fun _ h => List.mem_cons_of_mem _ (List.mem_append_right _ h)) (by decide) (List.mem_of_getElem? (i := 1) rfl) ?_
  refine cw_sipush (pc := 4) C dX5_append_4 (nI 150) (by decide) ?_
  refine cw_icmp_lt (pc := 7) (tgt := 12) C dX5_append_7 (by decide) (fun h7 => ?_) (fun h7 => ?_)
  · -- 7 t
    have h7 : L < 150 := (nc_lt (a := L) (b := 150) (by omega) (by omega)).mp h7
    refine cw_aload_n (pc := 12) C dX5_append_12 rfl 0 rfl ?_
    refine cw_get (pc := 13) C dX5_append_13 17 (v := .ref (A 18)) rfl rfl 0 rfl (fun _ h => List.mem_cons_of_mem _ (List.mem_append_right _ h)) (by decide) (List.mem_of_getElem? (i := 2) rfl) ?_
    refine cw_aload_n (pc := 16) C dX5_append_16 rfl 0 rfl ?_
    refine cw_get (pc := 17) C dX5_append_17 17 (v := .int (nI L)) rfl rfl 4 rfl (fun _ h => List.mem_cons_of_mem _ (List.mem_append_right _ h)) (by decide) (List.mem_of_getElem? (i := 1) rfl) ?_
    refine cw_iload_n (pc := 20) C dX5_append_20 rfl 1 rfl ?_
    refine cw_iast2 (pc := 21) C dX5_append_21 18 18 (wC_g18 Z A) (wC_s18 Z A) (f := σ 18) (up2_ne _ _ (by decide)) L rfl (by omega) (by decide) (up2 (up2 σ 17 (txR L o p)) 18 (upd (σ 18) L v)) rfl ?_
    refine cw_aload_n (pc := 22) C dX5_append_22 rfl 0 rfl ?_
    refine cw_dup (pc := 23) C dX5_append_23 rfl ?_
    refine cw_get (pc := 24) C dX5_append_24 17 (v := .int (nI L)) rfl rfl 4 rfl (fun _ h => List.mem_cons_of_mem _ (List.mem_append_right _ h)) (by decide) (List.mem_of_getElem? (i := 1) rfl) ?_
    refine cw_iconst (pc := 27) C dX5_append_27 (nI 1) (by decide) ?_
    refine cw_iadd (pc := 28) C dX5_append_28 (z := nI (L + 1)) (nI_add _ _) ?_
    have e17 : upd ((up2 (up2 σ 17 (txR L o p)) 18 (upd (σ 18) L v)) 17) 4 (nI (L + 1)) = txR (L + 1) o p := (congrArg (fun f => upd f 4 (nI (L + 1))) (show (up2 (up2 σ 17 (txR L o p)) 18 (upd (σ 18) L v)) 17 = txR L o p from ((up2_ne _ _ (by decide)).trans (up2_eq _ _ _)))).trans (txR_4 _ _ _ _)
    refine cw_put (pc := 29) C dX5_append_29 17 (ty := .int) rfl rfl 4 (fun _ h => List.mem_cons_of_mem _ (List.mem_append_right _ h)) tyX5_ok nmX5 (by decide) (List.mem_of_getElem? (i := 1) rfl) rfl (by decide +kernel) rfl rfl (Nat.le_of_ble_eq_true rfl) (up2 (up2 σ 17 (txR (L + 1) o p)) 18 (upd (σ 18) L v)) ((wC_p17_4 Z A _ _).trans (congrArg (wC Z A) ((congrArg (fun f => up2 (up2 (up2 σ 17 (txR L o p)) 18 (upd (σ 18) L v)) 17 f) e17).trans ((up2_comm _ _ _ (by decide)).trans (congrArg (fun qz => up2 qz 18 (upd (σ 18) L v)) (up2_up2 _ 17 _ _)))))) ?_
    refine cw_iconst (pc := 32) C dX5_append_32 (nI 1) (by decide) ?_
    refine hret true (up2 (up2 σ 17 (txR (L + 1) o p)) 18 (upd (σ 18) L v)) _ _ dX5_append_33 ?_
    clear hret
    exact Or.inl ⟨h7, rfl, rfl⟩
  · -- 7 f
    have h7 : ¬ (L < 150) := fun qq => h7 ((nc_lt (a := L) (b := 150) (by omega) (by omega)).mpr qq)
    refine cw_iconst (pc := 10) C dX5_append_10 (nI 0) (by decide) ?_
    refine hret false (up2 σ 17 (txR L o p)) _ _ dX5_append_11 ?_
    clear hret
    exact Or.inr ⟨by omega, rfl, rfl⟩
set_option maxHeartbeats 4000000 in
set_option maxRecDepth 100000 in
theorem c_X5_empty (l : Launch) (D : va_G) (Z : CZ) (A : Nat → Nat) (σ : St) (L o p : Nat)    : CTi l yX5_empty wsX5_empty 0 0 D Z (wC Z A) (up2 σ 17 (txR L o p)) [.ref (A 17)] (fun r σ' => r = nI L ∧ σ' = up2 σ 17 (txR 0 o p)) := by
  refine CTi.mk (cc := cX5_empty) (nL := 2) (own := RX5) rfl (by decide) rfl (Nat.le_of_ble_eq_true rfl) ?_
  intro p0 e0 s0 m0 g0 b0 t0 c0 A0 Q C hret
  refine cw_lv (lv' := [(0, .ref (A 17))]) [0] rfl ?_
  refine cw_aload_n (pc := 0) C dX5_empty_0 rfl 0 rfl ?_
  refine cw_get (pc := 1) C dX5_empty_1 17 (v := .int (nI L)) rfl rfl 4 rfl (fun _ h => List.mem_cons_of_mem _ (List.mem_append_right _ h)) (by decide) (List.mem_of_getElem? (i := 1) rfl) ?_
  refine cw_istore_n (pc := 4) C dX5_empty_4 rfl (by decide) (lv' := [(1, .int (nI L)), (0, .ref (A 17))]) rfl ?_
  refine cw_aload_n (pc := 5) C dX5_empty_5 rfl 1 rfl ?_
  refine cw_iconst (pc := 6) C dX5_empty_6 (nI 0) (by decide) ?_
  have e17 : upd ((up2 σ 17 (txR L o p)) 17) 4 (nI 0) = txR 0 o p := (congrArg (fun f => upd f 4 (nI 0)) (show (up2 σ 17 (txR L o p)) 17 = txR L o p from (up2_eq _ _ _))).trans (txR_4 _ _ _ _)
  refine cw_put (pc := 7) C dX5_empty_7 17 (ty := .int) rfl rfl 4 (fun _ h => List.mem_cons_of_mem _ (List.mem_append_right _ h)) tyX5_ok nmX5 (by decide) (List.mem_of_getElem? (i := 1) rfl) rfl (by decide +kernel) rfl rfl (Nat.le_of_ble_eq_true rfl) (up2 σ 17 (txR 0 o p)) ((wC_p17_4 Z A _ _).trans (congrArg (wC Z A) ((congrArg (fun f => up2 (up2 σ 17 (txR L o p)) 17 f) e17).trans (up2_up2 _ 17 _ _)))) ?_
  refine cw_iload_n (pc := 10) C dX5_empty_10 rfl 0 rfl ?_
  refine hret (nI L) (up2 σ 17 (txR 0 o p)) _ _ dX5_empty_11 ?_
  clear hret
  exact ⟨rfl, rfl⟩
set_option maxHeartbeats 4000000 in
set_option maxRecDepth 100000 in
theorem c_X5_kindOf (l : Launch) (D : va_G) (Z : CZ) (A : Nat → Nat) (σ : St) (L o p : Nat)  (i : Nat) (hi : i < o) (ho : o ≤ 50) : CTi l yX5_kindOf wsX5_kindOf 0 0 D Z (wC Z A) (up2 σ 17 (txR L o p)) [.ref (A 17), .int (nI i)] (fun r σ' => r = σ 19 i ∧ σ' = up2 σ 17 (txR L o p)) := by
  refine CTi.mk (cc := cX5_kindOf) (nL := 2) (own := RX5) rfl (by decide) rfl (Nat.le_of_ble_eq_true rfl) ?_
  intro p0 e0 s0 m0 g0 b0 t0 c0 A0 Q C hret
  refine cw_lv (lv' := [(0, .ref (A 17)), (1, .int (nI i))]) [0, 1] rfl ?_
  refine cw_iload_n (pc := 0) C dX5_kindOf_0 rfl 1 rfl ?_
  refine cw_if_lt (pc := 1) (tgt := 21) C dX5_kindOf_1 (by decide) (fun h1 => ?_) (fun h1 => ?_)
  · -- 1 t
    have h1 : i < 0 := (nc_lt (a := i) (b := 0) (by omega) (by omega)).mp h1
    exact absurd h1 (by omega)
  · -- 1 f
    have h1 : ¬ (i < 0) := fun qq => h1 ((nc_lt (a := i) (b := 0) (by omega) (by omega)).mpr qq)
    refine cw_iload_n (pc := 4) C dX5_kindOf_4 rfl 1 rfl ?_
    refine cw_aload_n (pc := 5) C dX5_kindOf_5 rfl 0 rfl ?_
    refine cw_get (pc := 6) C dX5_kindOf_6 17 (v := .int (nI o)) rfl rfl 5 rfl (fun _ h => List.mem_cons_of_mem _ (List.mem_append_right _ h)) (by decide) (List.mem_of_getElem? (i := 1) rfl) ?_
    refine cw_icmp_ge (pc := 9) (tgt := 21) C dX5_kindOf_9 (by decide) (fun h9 => ?_) (fun h9 => ?_)
    · -- 9 t
      have h9 : o ≤ i := (nc_ge (a := i) (b := o) (by omega) (by omega)).mp h9
      exact absurd h9 (by omega)
    · -- 9 f
      have h9 : ¬ (o ≤ i) := fun qq => h9 ((nc_ge (a := i) (b := o) (by omega) (by omega)).mpr qq)
      refine cw_aload_n (pc := 12) C dX5_kindOf_12 rfl 0 rfl ?_
      refine cw_get (pc := 13) C dX5_kindOf_13 17 (v := .ref (A 19)) rfl rfl 1 rfl (fun _ h => List.mem_cons_of_mem _ (List.mem_append_right _ h)) (by decide) (List.mem_of_getElem? (i := 2) rfl) ?_
      refine cw_iload_n (pc := 16) C dX5_kindOf_16 rfl 1 rfl ?_
      refine cw_iald2 (pc := 17) C dX5_kindOf_17 19 19 (wC_g19 Z A) (f := σ 19) (up2_ne _ _ (by decide)) i rfl (by omega) (by decide) ?_
      refine cw_goto (pc := 18) (tgt := 22) C dX5_kindOf_18 (by decide) ?_
      refine hret (σ 19 i) (up2 σ 17 (txR L o p)) _ _ dX5_kindOf_22 ?_
      clear hret
      exact ⟨rfl, rfl⟩
set_option maxHeartbeats 4000000 in
set_option maxRecDepth 100000 in
theorem c_X5_firstOf (l : Launch) (D : va_G) (Z : CZ) (A : Nat → Nat) (σ : St) (L o p : Nat)  (i : Nat) (hi : i < o) (ho : o ≤ 50) : CTi l yX5_firstOf wsX5_firstOf 0 0 D Z (wC Z A) (up2 σ 17 (txR L o p)) [.ref (A 17), .int (nI i)] (fun r σ' => r = σ 20 i ∧ σ' = up2 σ 17 (txR L o p)) := by
  refine CTi.mk (cc := cX5_firstOf) (nL := 2) (own := RX5) rfl (by decide) rfl (Nat.le_of_ble_eq_true rfl) ?_
  intro p0 e0 s0 m0 g0 b0 t0 c0 A0 Q C hret
  refine cw_lv (lv' := [(0, .ref (A 17)), (1, .int (nI i))]) [0, 1] rfl ?_
  refine cw_iload_n (pc := 0) C dX5_firstOf_0 rfl 1 rfl ?_
  refine cw_if_lt (pc := 1) (tgt := 21) C dX5_firstOf_1 (by decide) (fun h1 => ?_) (fun h1 => ?_)
  · -- 1 t
    have h1 : i < 0 := (nc_lt (a := i) (b := 0) (by omega) (by omega)).mp h1
    exact absurd h1 (by omega)
  · -- 1 f
    have h1 : ¬ (i < 0) := fun qq => h1 ((nc_lt (a := i) (b := 0) (by omega) (by omega)).mpr qq)
    refine cw_iload_n (pc := 4) C dX5_firstOf_4 rfl 1 rfl ?_
    refine cw_aload_n (pc := 5) C dX5_firstOf_5 rfl 0 rfl ?_
    refine cw_get (pc := 6) C dX5_firstOf_6 17 (v := .int (nI o)) rfl rfl 5 rfl (fun _ h => List.mem_cons_of_mem _ (List.mem_append_right _ h)) (by decide) (List.mem_of_getElem? (i := 1) rfl) ?_
    refine cw_icmp_ge (pc := 9) (tgt := 21) C dX5_firstOf_9 (by decide) (fun h9 => ?_) (fun h9 => ?_)
    · -- 9 t
      have h9 : o ≤ i := (nc_ge (a := i) (b := o) (by omega) (by omega)).mp h9
      exact absurd h9 (by omega)
    · -- 9 f
      have h9 : ¬ (o ≤ i) := fun qq => h9 ((nc_ge (a := i) (b := o) (by omega) (by omega)).mpr qq)
      refine cw_aload_n (pc := 12) C dX5_firstOf_12 rfl 0 rfl ?_
      refine cw_get (pc := 13) C dX5_firstOf_13 17 (v := .ref (A 20)) rfl rfl 2 rfl (fun _ h => List.mem_cons_of_mem _ (List.mem_append_right _ h)) (by decide) (List.mem_of_getElem? (i := 2) rfl) ?_
      refine cw_iload_n (pc := 16) C dX5_firstOf_16 rfl 1 rfl ?_
      refine cw_iald2 (pc := 17) C dX5_firstOf_17 20 20 (wC_g20 Z A) (f := σ 20) (up2_ne _ _ (by decide)) i rfl (by omega) (by decide) ?_
      refine cw_goto (pc := 18) (tgt := 22) C dX5_firstOf_18 (by decide) ?_
      refine hret (σ 20 i) (up2 σ 17 (txR L o p)) _ _ dX5_firstOf_22 ?_
      clear hret
      exact ⟨rfl, rfl⟩
set_option maxHeartbeats 4000000 in
set_option maxRecDepth 100000 in
theorem c_X5_secondOf (l : Launch) (D : va_G) (Z : CZ) (A : Nat → Nat) (σ : St) (L o p : Nat)  (i : Nat) (hi : i < o) (ho : o ≤ 50) : CTi l yX5_secondOf wsX5_secondOf 0 0 D Z (wC Z A) (up2 σ 17 (txR L o p)) [.ref (A 17), .int (nI i)] (fun r σ' => r = σ 21 i ∧ σ' = up2 σ 17 (txR L o p)) := by
  refine CTi.mk (cc := cX5_secondOf) (nL := 2) (own := RX5) rfl (by decide) rfl (Nat.le_of_ble_eq_true rfl) ?_
  intro p0 e0 s0 m0 g0 b0 t0 c0 A0 Q C hret
  refine cw_lv (lv' := [(0, .ref (A 17)), (1, .int (nI i))]) [0, 1] rfl ?_
  refine cw_iload_n (pc := 0) C dX5_secondOf_0 rfl 1 rfl ?_
  refine cw_if_lt (pc := 1) (tgt := 21) C dX5_secondOf_1 (by decide) (fun h1 => ?_) (fun h1 => ?_)
  · -- 1 t
    have h1 : i < 0 := (nc_lt (a := i) (b := 0) (by omega) (by omega)).mp h1
    exact absurd h1 (by omega)
  · -- 1 f
    have h1 : ¬ (i < 0) := fun qq => h1 ((nc_lt (a := i) (b := 0) (by omega) (by omega)).mpr qq)
    refine cw_iload_n (pc := 4) C dX5_secondOf_4 rfl 1 rfl ?_
    refine cw_aload_n (pc := 5) C dX5_secondOf_5 rfl 0 rfl ?_
    refine cw_get (pc := 6) C dX5_secondOf_6 17 (v := .int (nI o)) rfl rfl 5 rfl (fun _ h => List.mem_cons_of_mem _ (List.mem_append_right _ h)) (by decide) (List.mem_of_getElem? (i := 1) rfl) ?_
    refine cw_icmp_ge (pc := 9) (tgt := 21) C dX5_secondOf_9 (by decide) (fun h9 => ?_) (fun h9 => ?_)
    · -- 9 t
      have h9 : o ≤ i := (nc_ge (a := i) (b := o) (by omega) (by omega)).mp h9
      exact absurd h9 (by omega)
    · -- 9 f
      have h9 : ¬ (o ≤ i) := fun qq => h9 ((nc_ge (a := i) (b := o) (by omega) (by omega)).mpr qq)
      refine cw_aload_n (pc := 12) C dX5_secondOf_12 rfl 0 rfl ?_
      refine cw_get (pc := 13) C dX5_secondOf_13 17 (v := .ref (A 21)) rfl rfl 3 rfl (fun _ h => List.mem_cons_of_mem _ (List.mem_append_right _ h)) (by decide) (List.mem_of_getElem? (i := 2) rfl) ?_
      refine cw_iload_n (pc := 16) C dX5_secondOf_16 rfl 1 rfl ?_
      refine cw_iald2 (pc := 17) C dX5_secondOf_17 21 21 (wC_g21 Z A) (f := σ 21) (up2_ne _ _ (by decide)) i rfl (by omega) (by decide) ?_
      refine cw_goto (pc := 18) (tgt := 22) C dX5_secondOf_18 (by decide) ?_
      refine hret (σ 21 i) (up2 σ 17 (txR L o p)) _ _ dX5_secondOf_22 ?_
      clear hret
      exact ⟨rfl, rfl⟩
set_option maxHeartbeats 4000000 in
set_option maxRecDepth 100000 in
theorem c_X5_next (l : Launch) (D : va_G) (Z : CZ) (A : Nat → Nat) (σ : St) (L o p : Nat)   (hL : L ≤ 150) (hp : p ≤ 150) : CTi l yX5_next wsX5_next 0 0 D Z (wC Z A) (up2 σ 17 (txR L o p)) [.ref (A 17)] (fun r σ' => r = nxt (σ 18) L p ∧ σ' = up2 σ 17 (txR L o p)) := by
  refine CTi.mk (cc := cX5_next) (nL := 1) (own := RX5) rfl (by decide) rfl (Nat.le_of_ble_eq_true rfl) ?_
  intro p0 e0 s0 m0 g0 b0 t0 c0 A0 Q C hret
  refine cw_lv (lv' := [(0, .ref (A 17))]) [0] rfl ?_
  refine cw_aload_n (pc := 0) C dX5_next_0 rfl 0 rfl ?_
  refine cw_get (pc := 1) C dX5_next_1 17 (v := .int (nI p)) rfl rfl 6 rfl (fun _ h => List.mem_cons_of_mem _ (List.mem_append_right _ h)) (by decide) (List.mem_of_getElem? (i := 1) rfl) ?_
  refine cw_if_lt (pc := 4) (tgt := 40) C dX5_next_4 (by decide) (fun h4 => ?_) (fun h4 => ?_)
  · -- 4 t
    have h4 : p < 0 := (nc_lt (a := p) (b := 0) (by omega) (by omega)).mp h4
    exact absurd h4 (by omega)
  · -- 4 f
    have h4 : ¬ (p < 0) := fun qq => h4 ((nc_lt (a := p) (b := 0) (by omega) (by omega)).mpr qq)
    refine cw_aload_n (pc := 7) C dX5_next_7 rfl 0 rfl ?_
    refine cw_get (pc := 8) C dX5_next_8 17 (v := .int (nI p)) rfl rfl 6 rfl (fun _ h => List.mem_cons_of_mem _ (List.mem_append_right _ h)) (by decide) (List.mem_of_getElem? (i := 1) rfl) ?_
    refine cw_aload_n (pc := 11) C dX5_next_11 rfl 0 rfl ?_
    refine cw_get (pc := 12) C dX5_next_12 17 (v := .int (nI L)) rfl rfl 4 rfl (fun _ h => List.mem_cons_of_mem _ (List.mem_append_right _ h)) (by decide) (List.mem_of_getElem? (i := 2) rfl) ?_
    refine cw_icmp_ge (pc := 15) (tgt := 40) C dX5_next_15 (by decide) (fun h15 => ?_) (fun h15 => ?_)
    · -- 15 t
      have h15 : L ≤ p := (nc_ge (a := p) (b := L) (by omega) (by omega)).mp h15
      refine cw_iconst (pc := 40) C dX5_next_40 (-1) (by decide) ?_
      refine hret (-1) (up2 σ 17 (txR L o p)) _ _ dX5_next_41 ?_
      clear hret
      exact ⟨by rw [nxt, if_neg (by omega)], rfl⟩
    · -- 15 f
      have h15 : ¬ (L ≤ p) := fun qq => h15 ((nc_ge (a := p) (b := L) (by omega) (by omega)).mpr qq)
      refine cw_aload_n (pc := 18) C dX5_next_18 rfl 0 rfl ?_
      refine cw_get (pc := 19) C dX5_next_19 17 (v := .int (nI p)) rfl rfl 6 rfl (fun _ h => List.mem_cons_of_mem _ (List.mem_append_right _ h)) (by decide) (List.mem_of_getElem? (i := 1) rfl) ?_
      refine cw_sipush (pc := 22) C dX5_next_22 (nI 150) (by decide) ?_
      refine cw_icmp_ge (pc := 25) (tgt := 40) C dX5_next_25 (by decide) (fun h25 => ?_) (fun h25 => ?_)
      · -- 25 t
        have h25 : 150 ≤ p := (nc_ge (a := p) (b := 150) (by omega) (by omega)).mp h25
        exact absurd h25 (by omega)
      · -- 25 f
        have h25 : ¬ (150 ≤ p) := fun qq => h25 ((nc_ge (a := p) (b := 150) (by omega) (by omega)).mpr qq)
        refine cw_aload_n (pc := 28) C dX5_next_28 rfl 0 rfl ?_
        refine cw_get (pc := 29) C dX5_next_29 17 (v := .ref (A 18)) rfl rfl 0 rfl (fun _ h => List.mem_cons_of_mem _ (List.mem_append_right _ h)) (by decide) (List.mem_of_getElem? (i := 3) rfl) ?_
        refine cw_aload_n (pc := 32) C dX5_next_32 rfl 0 rfl ?_
        refine cw_get (pc := 33) C dX5_next_33 17 (v := .int (nI p)) rfl rfl 6 rfl (fun _ h => List.mem_cons_of_mem _ (List.mem_append_right _ h)) (by decide) (List.mem_of_getElem? (i := 1) rfl) ?_
        refine cw_iald2 (pc := 36) C dX5_next_36 18 18 (wC_g18 Z A) (f := σ 18) (up2_ne _ _ (by decide)) p rfl (by omega) (by decide) ?_
        refine cw_goto (pc := 37) (tgt := 41) C dX5_next_37 (by decide) ?_
        refine hret (σ 18 p) (up2 σ 17 (txR L o p)) _ _ dX5_next_41 ?_
        clear hret
        exact ⟨by rw [nxt, if_pos (by omega)], rfl⟩
set_option maxHeartbeats 4000000 in
set_option maxRecDepth 100000 in
theorem c_X5_isFigure (l : Launch) (D : va_G) (Z : CZ) (A : Nat → Nat) (σ : St) (L o p : Nat)   (hL : L ≤ 150) (hp : p ≤ 150) : CTz l yX5_isFigure wsX5_isFigure 1 20 D Z (wC Z A) (up2 σ 17 (txR L o p)) [.ref (A 17)] (fun z σ' => z = figB (σ 18) L p ∧ σ' = up2 σ 17 (txR L o p)) := by
  refine CTz.mk (cc := cX5_isFigure) (nL := 1) (own := RX5) rfl (by decide) rfl (Nat.le_of_ble_eq_true rfl) ?_
  intro p0 e0 s0 m0 g0 b0 t0 c0 A0 Q C hret
  refine cw_lv (lv' := [(0, .ref (A 17))]) [0] rfl ?_
  refine cw_aload_n (pc := 0) C dX5_isFigure_0 rfl 0 rfl ?_
  refine cw_calli (pc := 1) C dX5_isFigure_1 (c_X5_next l D Z A σ L o p (by omega) (by omega)) (cwV 0 C.1.2.2.2.2 gX5_isFigure_X5_next rfl rfl rfl (by decide +kernel) ⟨Nat.le_of_ble_eq_true rfl, Nat.le_of_ble_eq_true rfl⟩) 17 rfl rfl rfl rfl (Nat.le_of_ble_eq_true rfl) (cw_pure (v := nxt (σ 18) L p) (fun _ _ h => h) ?_)
  refine cw_bipush (pc := 4) C dX5_isFigure_4 (nI 48) (by decide) ?_
  refine cw_icmp_lt (pc := 6) (tgt := 22) C dX5_isFigure_6 (by decide) (fun h6 => ?_) (fun h6 => ?_)
  · -- 6 t
    refine cw_iconst (pc := 22) C dX5_isFigure_22 (nI 0) (by decide) ?_
    refine hret false (up2 σ 17 (txR L o p)) _ _ dX5_isFigure_23 ?_
    clear hret
    exact ⟨by simp [figB, h6], rfl⟩
  · -- 6 f
    refine cw_aload_n (pc := 9) C dX5_isFigure_9 rfl 0 rfl ?_
    refine cw_calli (pc := 10) C dX5_isFigure_10 (c_X5_next l D Z A σ L o p (by omega) (by omega)) (cwV 0 C.1.2.2.2.2 gX5_isFigure_X5_next rfl rfl rfl (by decide +kernel) ⟨Nat.le_of_ble_eq_true rfl, Nat.le_of_ble_eq_true rfl⟩) 17 rfl rfl rfl rfl (Nat.le_of_ble_eq_true rfl) (cw_pure (v := nxt (σ 18) L p) (fun _ _ h => h) ?_)
    refine cw_bipush (pc := 13) C dX5_isFigure_13 (nI 57) (by decide) ?_
    refine cw_icmp_gt (pc := 15) (tgt := 22) C dX5_isFigure_15 (by decide) (fun h15 => ?_) (fun h15 => ?_)
    · -- 15 t
      refine cw_iconst (pc := 22) C dX5_isFigure_22 (nI 0) (by decide) ?_
      refine hret false (up2 σ 17 (txR L o p)) _ _ dX5_isFigure_23 ?_
      clear hret
      exact ⟨by simp [figB, h6, h15], rfl⟩
    · -- 15 f
      refine cw_iconst (pc := 18) C dX5_isFigure_18 (nI 1) (by decide) ?_
      refine cw_goto (pc := 19) (tgt := 23) C dX5_isFigure_19 (by decide) ?_
      refine hret true (up2 σ 17 (txR L o p)) _ _ dX5_isFigure_23 ?_
      clear hret
      exact ⟨by simp [figB, h6, h15], rfl⟩
set_option maxHeartbeats 4000000 in
set_option maxRecDepth 100000 in
theorem c_X5_skipBlanks (l : Launch) (D : va_G) (Z : CZ) (A : Nat → Nat) (σ : St) (L o p : Nat)   (hL : L ≤ 150) (hp : p ≤ L) : CTv l yX5_skipBlanks wsX5_skipBlanks 1 20 D Z (wC Z A) (up2 σ 17 (txR L o p)) [.ref (A 17)] (fun σ' => σ' = up2 σ 17 (txR L o (skB (σ 18) L p))) := by
  refine CTv.mk (cc := cX5_skipBlanks) (nL := 1) (own := RX5) rfl (by decide) rfl (Nat.le_of_ble_eq_true rfl) ?_
  intro p0 e0 s0 m0 g0 b0 t0 c0 A0 Q C hret
  refine cw_lv (lv' := [(0, .ref (A 17))]) [0] rfl ?_
  have L0 : ∀ (n0 : Nat) (q : Nat) (hq : q ≤ L) (hm : L < q + n0) (he : skB (σ 18) L p = skB (σ 18) L q), CW p0 l e0 (rmC 1 20) s0 m0 g0 b0 t0 c0 D A0 1 (wC Z A) Q (up2 σ 17 (txR L o q)) 0 [(0, .ref (A 17))] [] := by
    intro n0
    induction n0 with
    | zero => intro q hq hm he; exact absurd hm (by omega)
    | succ n0 ih0 =>
      intro q hq hm he
      refine cw_aload_n (pc := 0) C dX5_skipBlanks_0 rfl 0 rfl ?_
      refine cw_get (pc := 1) C dX5_skipBlanks_1 17 (v := .int (nI q)) rfl rfl 6 rfl (fun _ h => List.mem_cons_of_mem _ (List.mem_append_right _ h)) (by decide) (List.mem_of_getElem? (i := 1) rfl) ?_
      refine cw_aload_n (pc := 4) C dX5_skipBlanks_4 rfl 0 rfl ?_
      refine cw_get (pc := 5) C dX5_skipBlanks_5 17 (v := .int (nI L)) rfl rfl 4 rfl (fun _ h => List.mem_cons_of_mem _ (List.mem_append_right _ h)) (by decide) (List.mem_of_getElem? (i := 2) rfl) ?_
      refine cw_icmp_ge (pc := 8) (tgt := 33) C dX5_skipBlanks_8 (by decide) (fun h8 => ?_) (fun h8 => ?_)
      · -- 8 t
        have h8 : L ≤ q := (nc_ge (a := q) (b := L) (by omega) (by omega)).mp h8
        refine hret (up2 σ 17 (txR L o q)) _ _ dX5_skipBlanks_33 ?_
        clear hret
        rw [he, skB_no (fun z => absurd z (by omega))]
      · -- 8 f
        have h8 : ¬ (L ≤ q) := fun qq => h8 ((nc_ge (a := q) (b := L) (by omega) (by omega)).mpr qq)
        refine cw_aload_n (pc := 11) C dX5_skipBlanks_11 rfl 0 rfl ?_
        refine cw_calli (pc := 12) C dX5_skipBlanks_12 (c_X5_next l D Z A σ L o q (by omega) (by omega)) (cwV 0 C.1.2.2.2.2 gX5_skipBlanks_X5_next rfl rfl rfl (by decide +kernel) ⟨Nat.le_of_ble_eq_true rfl, Nat.le_of_ble_eq_true rfl⟩) 17 rfl rfl rfl rfl (Nat.le_of_ble_eq_true rfl) (cw_pure (v := nxt (σ 18) L q) (fun _ _ h => h) ?_)
        refine cw_bipush (pc := 15) C dX5_skipBlanks_15 (nI 32) (by decide) ?_
        refine cw_icmp_ne (pc := 17) (tgt := 33) C dX5_skipBlanks_17 (by decide) (fun h17 => ?_) (fun h17 => ?_)
        · -- 17 t
          refine hret (up2 σ 17 (txR L o q)) _ _ dX5_skipBlanks_33 ?_
          clear hret
          rw [he, skB_no (fun z => fun y => h17 (by rw [nxt, if_pos z]; exact y))]
        · -- 17 f
          refine cw_aload_n (pc := 20) C dX5_skipBlanks_20 rfl 0 rfl ?_
          refine cw_dup (pc := 21) C dX5_skipBlanks_21 rfl ?_
          refine cw_get (pc := 22) C dX5_skipBlanks_22 17 (v := .int (nI q)) rfl rfl 6 rfl (fun _ h => List.mem_cons_of_mem _ (List.mem_append_right _ h)) (by decide) (List.mem_of_getElem? (i := 1) rfl) ?_
          refine cw_iconst (pc := 25) C dX5_skipBlanks_25 (nI 1) (by decide) ?_
          refine cw_iadd (pc := 26) C dX5_skipBlanks_26 (z := nI (q + 1)) (nI_add _ _) ?_
          have e17 : upd ((up2 σ 17 (txR L o q)) 17) 6 (nI (q + 1)) = txR L o (q + 1) := (congrArg (fun f => upd f 6 (nI (q + 1))) (show (up2 σ 17 (txR L o q)) 17 = txR L o q from (up2_eq _ _ _))).trans (txR_6 _ _ _ _)
          refine cw_put (pc := 27) C dX5_skipBlanks_27 17 (ty := .int) rfl rfl 6 (fun _ h => List.mem_cons_of_mem _ (List.mem_append_right _ h)) tyX5_ok nmX5 (by decide) (List.mem_of_getElem? (i := 1) rfl) rfl (by decide +kernel) rfl rfl (Nat.le_of_ble_eq_true rfl) (up2 σ 17 (txR L o (q + 1))) ((wC_p17_6 Z A _ _).trans (congrArg (wC Z A) ((congrArg (fun f => up2 (up2 σ 17 (txR L o q)) 17 f) e17).trans (up2_up2 _ 17 _ _)))) ?_
          refine cw_goto (pc := 30) (tgt := 0) C dX5_skipBlanks_30 (by decide) ?_
          refine cw_lv [0] rfl ?_
          exact ih0 (q + 1) (by omega) (by omega) (by rw [he]; exact skB_go (by omega) (by rw [nxt, if_pos (by omega)] at h17; exact h17))
  refine cw_lv [0] rfl ?_
  exact L0 (L + 1) p (by omega) (by omega) rfl
set_option maxHeartbeats 4000000 in
set_option maxRecDepth 100000 in
theorem c_X5_parseNumber (l : Launch) (D : va_G) (Z : CZ) (A : Nat → Nat) (σ : St) (L o p : Nat)   (hL : L ≤ 150) (hp : p ≤ L) : CTi l yX5_parseNumber wsX5_parseNumber 2 40 D Z (wC Z A) (up2 σ 17 (txR L o p)) [.ref (A 17)] (fun r σ' => r = numR (σ 18) L p ∧ σ' = up2 σ 17 (txR L o (p + nk (σ 18) L p))) := by
  refine CTi.mk (cc := cX5_parseNumber) (nL := 3) (own := RX5) rfl (by decide) rfl (Nat.le_of_ble_eq_true rfl) ?_
  intro p0 e0 s0 m0 g0 b0 t0 c0 A0 Q C hret
  refine cw_lv (lv' := [(0, .ref (A 17))]) [0] rfl ?_
  refine cw_iconst (pc := 0) C dX5_parseNumber_0 (nI 0) (by decide) ?_
  refine cw_istore_n (pc := 1) C dX5_parseNumber_1 rfl (by decide) (lv' := [(1, .int (nI 0)), (0, .ref (A 17))]) rfl ?_
  refine cw_iconst (pc := 2) C dX5_parseNumber_2 (nI 0) (by decide) ?_
  refine cw_istore_n (pc := 3) C dX5_parseNumber_3 rfl (by decide) (lv' := [(2, .int (nI 0)), (1, .int (nI 0)), (0, .ref (A 17))]) rfl ?_
  have L4 : ∀ (n4 : Nat) (k : Nat) (v : Int32) (hk : k ≤ 3) (hm : 3 < k + n4) (hf : ∀ j, j < k → figB (σ 18) L (p + j) = true) (hv : v = nvF (σ 18) L p k) (hpk : p + k ≤ L), CW p0 l e0 (rmC 2 40) s0 m0 g0 b0 t0 c0 D A0 3 (wC Z A) Q (up2 σ 17 (txR L o (p + k))) 4 [(0, .ref (A 17)), (1, .int (v)), (2, .int (nI k))] [] := by
    intro n4
    induction n4 with
    | zero => intro k v hk hm hf hv hpk; exact absurd hm (by omega)
    | succ n4 ih4 =>
      intro k v hk hm hf hv hpk
      refine cw_iload_n (pc := 4) C dX5_parseNumber_4 rfl 2 rfl ?_
      refine cw_iconst (pc := 5) C dX5_parseNumber_5 (nI 3) (by decide) ?_
      refine cw_icmp_ge (pc := 6) (tgt := 45) C dX5_parseNumber_6 (by decide) (fun h6 => ?_) (fun h6 => ?_)
      · -- 6 t
        have h6 : 3 ≤ k := (nc_ge (a := k) (b := 3) (by omega) (by omega)).mp h6
        have hnk : nk (σ 18) L p = k := nk_is hk hf (Or.inl (by omega))
        refine cw_iload_n (pc := 45) C dX5_parseNumber_45 rfl 2 rfl ?_
        refine cw_if_eq (pc := 46) (tgt := 56) C dX5_parseNumber_46 (by decide) (fun h46 => ?_) (fun h46 => ?_)
        · -- 46 t
          have h46 : k = 0 := (nc_eq (a := k) (b := 0) (by omega) (by omega)).mp h46
          refine cw_iconst (pc := 56) C dX5_parseNumber_56 (-1) (by decide) ?_
          refine cw_goto (pc := 57) (tgt := 61) C dX5_parseNumber_57 (by decide) ?_
          refine hret (-1) (up2 σ 17 (txR L o (p + k))) _ _ dX5_parseNumber_61 ?_
          clear hret
          refine ⟨?_, by rw [hnk]⟩
          rw [numR, hnk, if_pos (Or.inl h46)]
        · -- 46 f
          have h46 : ¬ (k = 0) := fun qq => h46 ((nc_eq (a := k) (b := 0) (by omega) (by omega)).mpr qq)
          refine cw_aload_n (pc := 49) C dX5_parseNumber_49 rfl 0 rfl ?_
          refine cw_calli (pc := 50) C dX5_parseNumber_50 (c_X5_isFigure l D Z A σ L o (p + k) (by omega) (by omega)) (cwV 0 C.1.2.2.2.2 gX5_parseNumber_X5_isFigure rfl rfl rfl (by decide +kernel) ⟨Nat.le_of_ble_eq_true rfl, Nat.le_of_ble_eq_true rfl⟩) 17 rfl rfl rfl rfl (Nat.le_of_ble_eq_true rfl) (cw_purez (b := figB (σ 18) L (p + k)) (fun _ _ h => h) ?_)
          refine cw_if_eq (pc := 53) (tgt := 60) C dX5_parseNumber_53 (by decide) (fun h53 => ?_) (fun h53 => ?_)
          · -- 53 t
            have h53 := bI_z h53
            refine cw_iload_n (pc := 60) C dX5_parseNumber_60 rfl 1 rfl ?_
            refine hret v (up2 σ 17 (txR L o (p + k))) _ _ dX5_parseNumber_61 ?_
            clear hret
            refine ⟨?_, by rw [hnk]⟩
            rw [numR, hnk, if_neg (by rintro (z | z); exact h46 z; rw [h53] at z; cases z), hv]
          · -- 53 f
            have h53 := bI_nz h53
            refine cw_iconst (pc := 56) C dX5_parseNumber_56 (-1) (by decide) ?_
            refine cw_goto (pc := 57) (tgt := 61) C dX5_parseNumber_57 (by decide) ?_
            refine hret (-1) (up2 σ 17 (txR L o (p + k))) _ _ dX5_parseNumber_61 ?_
            clear hret
            refine ⟨?_, by rw [hnk]⟩
            rw [numR, hnk, if_pos (Or.inr h53)]
      · -- 6 f
        have h6 : ¬ (3 ≤ k) := fun qq => h6 ((nc_ge (a := k) (b := 3) (by omega) (by omega)).mpr qq)
        refine cw_aload_n (pc := 9) C dX5_parseNumber_9 rfl 0 rfl ?_
        refine cw_calli (pc := 10) C dX5_parseNumber_10 (c_X5_isFigure l D Z A σ L o (p + k) (by omega) (by omega)) (cwV 0 C.1.2.2.2.2 gX5_parseNumber_X5_isFigure rfl rfl rfl (by decide +kernel) ⟨Nat.le_of_ble_eq_true rfl, Nat.le_of_ble_eq_true rfl⟩) 17 rfl rfl rfl rfl (Nat.le_of_ble_eq_true rfl) (cw_purez (b := figB (σ 18) L (p + k)) (fun _ _ h => h) ?_)
        refine cw_if_eq (pc := 13) (tgt := 45) C dX5_parseNumber_13 (by decide) (fun h13 => ?_) (fun h13 => ?_)
        · -- 13 t
          have h13 := bI_z h13
          have hnk : nk (σ 18) L p = k := nk_is hk hf (Or.inr h13)
          refine cw_iload_n (pc := 45) C dX5_parseNumber_45 rfl 2 rfl ?_
          refine cw_if_eq (pc := 46) (tgt := 56) C dX5_parseNumber_46 (by decide) (fun h46 => ?_) (fun h46 => ?_)
          · -- 46 t
            have h46 : k = 0 := (nc_eq (a := k) (b := 0) (by omega) (by omega)).mp h46
            refine cw_iconst (pc := 56) C dX5_parseNumber_56 (-1) (by decide) ?_
            refine cw_goto (pc := 57) (tgt := 61) C dX5_parseNumber_57 (by decide) ?_
            refine hret (-1) (up2 σ 17 (txR L o (p + k))) _ _ dX5_parseNumber_61 ?_
            clear hret
            refine ⟨?_, by rw [hnk]⟩
            rw [numR, hnk, if_pos (Or.inl h46)]
          · -- 46 f
            have h46 : ¬ (k = 0) := fun qq => h46 ((nc_eq (a := k) (b := 0) (by omega) (by omega)).mpr qq)
            refine cw_aload_n (pc := 49) C dX5_parseNumber_49 rfl 0 rfl ?_
            refine cw_calli (pc := 50) C dX5_parseNumber_50 (c_X5_isFigure l D Z A σ L o (p + k) (by omega) (by omega)) (cwV 0 C.1.2.2.2.2 gX5_parseNumber_X5_isFigure rfl rfl rfl (by decide +kernel) ⟨Nat.le_of_ble_eq_true rfl, Nat.le_of_ble_eq_true rfl⟩) 17 rfl rfl rfl rfl (Nat.le_of_ble_eq_true rfl) (cw_purez (b := figB (σ 18) L (p + k)) (fun _ _ h => h) ?_)
            refine cw_if_eq (pc := 53) (tgt := 60) C dX5_parseNumber_53 (by decide) (fun h53 => ?_) (fun h53 => ?_)
            · -- 53 t
              have h53 := bI_z h53
              refine cw_iload_n (pc := 60) C dX5_parseNumber_60 rfl 1 rfl ?_
              refine hret v (up2 σ 17 (txR L o (p + k))) _ _ dX5_parseNumber_61 ?_
              clear hret
              refine ⟨?_, by rw [hnk]⟩
              rw [numR, hnk, if_neg (by rintro (z | z); exact h46 z; rw [h53] at z; cases z), hv]
            · -- 53 f
              have h53 := bI_nz h53
              refine cw_iconst (pc := 56) C dX5_parseNumber_56 (-1) (by decide) ?_
              refine cw_goto (pc := 57) (tgt := 61) C dX5_parseNumber_57 (by decide) ?_
              refine hret (-1) (up2 σ 17 (txR L o (p + k))) _ _ dX5_parseNumber_61 ?_
              clear hret
              refine ⟨?_, by rw [hnk]⟩
              rw [numR, hnk, if_pos (Or.inr h53)]
        · -- 13 f
          have h13 := bI_nz h13
          have hlt := figB_lt h13
          refine cw_bipush (pc := 16) C dX5_parseNumber_16 (nI 10) (by decide) ?_
          refine cw_iload_n (pc := 18) C dX5_parseNumber_18 rfl 1 rfl ?_
          refine cw_imul (pc := 19) C dX5_parseNumber_19 (z := (nI 10) * v) rfl ?_
          refine cw_aload_n (pc := 20) C dX5_parseNumber_20 rfl 0 rfl ?_
          refine cw_calli (pc := 21) C dX5_parseNumber_21 (c_X5_next l D Z A σ L o (p + k) (by omega) (by omega)) (cwV 0 C.1.2.2.2.2 gX5_parseNumber_X5_next rfl rfl rfl (by decide +kernel) ⟨Nat.le_of_ble_eq_true rfl, Nat.le_of_ble_eq_true rfl⟩) 17 rfl rfl rfl rfl (Nat.le_of_ble_eq_true rfl) (cw_pure (v := nxt (σ 18) L (p + k)) (fun _ _ h => h) ?_)
          refine cw_iadd (pc := 24) C dX5_parseNumber_24 (z := ((nI 10) * v) + (nxt (σ 18) L (p + k))) rfl ?_
          refine cw_bipush (pc := 25) C dX5_parseNumber_25 (nI 48) (by decide) ?_
          refine cw_isub (pc := 27) C dX5_parseNumber_27 (z := (((nI 10) * v) + (nxt (σ 18) L (p + k))) - (nI 48)) rfl ?_
          refine cw_istore_n (pc := 28) C dX5_parseNumber_28 rfl (by decide) (lv' := [(1, .int ((((nI 10) * v) + (nxt (σ 18) L (p + k))) - (nI 48))), (0, .ref (A 17)), (2, .int (nI k))]) rfl ?_
          refine cw_iinc (pc := 29) C dX5_parseNumber_29 2 rfl (nI (k + 1)) (nI_inc _ 1) (by decide) (lv' := [(2, .int (nI (k + 1))), (1, .int ((((nI 10) * v) + (nxt (σ 18) L (p + k))) - (nI 48))), (0, .ref (A 17))]) rfl ?_
          refine cw_aload_n (pc := 32) C dX5_parseNumber_32 rfl 2 rfl ?_
          refine cw_dup (pc := 33) C dX5_parseNumber_33 rfl ?_
          refine cw_get (pc := 34) C dX5_parseNumber_34 17 (v := .int (nI (p + k))) rfl rfl 6 rfl (fun _ h => List.mem_cons_of_mem _ (List.mem_append_right _ h)) (by decide) (List.mem_of_getElem? (i := 1) rfl) ?_
          refine cw_iconst (pc := 37) C dX5_parseNumber_37 (nI 1) (by decide) ?_
          refine cw_iadd (pc := 38) C dX5_parseNumber_38 (z := nI (p + k + 1)) (nI_add _ _) ?_
          have e17 : upd ((up2 σ 17 (txR L o (p + k))) 17) 6 (nI (p + k + 1)) = txR L o (p + k + 1) := (congrArg (fun f => upd f 6 (nI (p + k + 1))) (show (up2 σ 17 (txR L o (p + k))) 17 = txR L o (p + k) from (up2_eq _ _ _))).trans (txR_6 _ _ _ _)
          refine cw_put (pc := 39) C dX5_parseNumber_39 17 (ty := .int) rfl rfl 6 (fun _ h => List.mem_cons_of_mem _ (List.mem_append_right _ h)) tyX5_ok nmX5 (by decide) (List.mem_of_getElem? (i := 1) rfl) rfl (by decide +kernel) rfl rfl (Nat.le_of_ble_eq_true rfl) (up2 σ 17 (txR L o (p + k + 1))) ((wC_p17_6 Z A _ _).trans (congrArg (wC Z A) ((congrArg (fun f => up2 (up2 σ 17 (txR L o (p + k))) 17 f) e17).trans (up2_up2 _ 17 _ _)))) ?_
          refine cw_goto (pc := 42) (tgt := 4) C dX5_parseNumber_42 (by decide) ?_
          refine cw_lv [2, 1, 0] rfl ?_
          exact ih4 (k + 1) ((((nI 10) * v) + (nxt (σ 18) L (p + k))) - (nI 48)) (by omega) (by omega) (fun j hj => by rcases Nat.lt_or_ge j k with z | z; exact hf j z; rw [show j = k by omega]; exact h13) (by rw [nvF, hv]) (by omega)
  refine cw_lv [2, 1, 0] rfl ?_
  exact L4 4 0 (nI 0) (by omega) (by omega) (fun j hj => absurd hj (by omega)) rfl (by omega)
set_option maxHeartbeats 4000000 in
set_option maxRecDepth 100000 in
theorem c_X5_addOrder (l : Launch) (D : va_G) (Z : CZ) (A : Nat → Nat) (σ : St) (L o p : Nat)  (k : Int32) (a : Int32) (y : Int32) (ho : o < 50) : CTv l yX5_addOrder wsX5_addOrder 0 0 D Z (wC Z A) (up2 σ 17 (txR L o p)) [.ref (A 17), .int (k), .int (a), .int (y)] (fun σ' => σ' = up2 (up2 (up2 (up2 σ 17 (txR L (o + 1) p)) 19 (upd (σ 19) o k)) 20 (upd (σ 20) o a)) 21 (upd (σ 21) o y)) := by
  refine CTv.mk (cc := cX5_addOrder) (nL := 4) (own := RX5) rfl (by decide) rfl (Nat.le_of_ble_eq_true rfl) ?_
  intro p0 e0 s0 m0 g0 b0 t0 c0 A0 Q C hret
  refine cw_lv (lv' := [(0, .ref (A 17)), (1, .int (k)), (2, .int (a)), (3, .int (y))]) [0, 1, 2, 3] rfl ?_
  refine cw_aload_n (pc := 0) C dX5_addOrder_0 rfl 0 rfl ?_
  refine cw_get (pc := 1) C dX5_addOrder_1 17 (v := .int (nI o)) rfl rfl 5 rfl (fun _ h => List.mem_cons_of_mem _ (List.mem_append_right _ h)) (by decide) (List.mem_of_getElem? (i := 1) rfl) ?_
  refine cw_bipush (pc := 4) C dX5_addOrder_4 (nI 50) (by decide) ?_
  refine cw_icmp_ge (pc := 6) (tgt := 49) C dX5_addOrder_6 (by decide) (fun h6 => ?_) (fun h6 => ?_)
  · -- 6 t
    have h6 : 50 ≤ o := (nc_ge (a := o) (b := 50) (by omega) (by omega)).mp h6
    exact absurd h6 (by omega)
  · -- 6 f
    have h6 : ¬ (50 ≤ o) := fun qq => h6 ((nc_ge (a := o) (b := 50) (by omega) (by omega)).mpr qq)
    refine cw_aload_n (pc := 9) C dX5_addOrder_9 rfl 0 rfl ?_
    refine cw_get (pc := 10) C dX5_addOrder_10 17 (v := .ref (A 19)) rfl rfl 1 rfl (fun _ h => List.mem_cons_of_mem _ (List.mem_append_right _ h)) (by decide) (List.mem_of_getElem? (i := 2) rfl) ?_
    refine cw_aload_n (pc := 13) C dX5_addOrder_13 rfl 0 rfl ?_
    refine cw_get (pc := 14) C dX5_addOrder_14 17 (v := .int (nI o)) rfl rfl 5 rfl (fun _ h => List.mem_cons_of_mem _ (List.mem_append_right _ h)) (by decide) (List.mem_of_getElem? (i := 1) rfl) ?_
    refine cw_iload_n (pc := 17) C dX5_addOrder_17 rfl 1 rfl ?_
    refine cw_iast2 (pc := 18) C dX5_addOrder_18 19 19 (wC_g19 Z A) (wC_s19 Z A) (f := σ 19) (up2_ne _ _ (by decide)) o rfl (by omega) (by decide) (up2 (up2 σ 17 (txR L o p)) 19 (upd (σ 19) o k)) rfl ?_
    refine cw_aload_n (pc := 19) C dX5_addOrder_19 rfl 0 rfl ?_
    refine cw_get (pc := 20) C dX5_addOrder_20 17 (v := .ref (A 20)) rfl rfl 2 rfl (fun _ h => List.mem_cons_of_mem _ (List.mem_append_right _ h)) (by decide) (List.mem_of_getElem? (i := 3) rfl) ?_
    refine cw_aload_n (pc := 23) C dX5_addOrder_23 rfl 0 rfl ?_
    refine cw_get (pc := 24) C dX5_addOrder_24 17 (v := .int (nI o)) rfl rfl 5 rfl (fun _ h => List.mem_cons_of_mem _ (List.mem_append_right _ h)) (by decide) (List.mem_of_getElem? (i := 1) rfl) ?_
    refine cw_iload_n (pc := 27) C dX5_addOrder_27 rfl 2 rfl ?_
    refine cw_iast2 (pc := 28) C dX5_addOrder_28 20 20 (wC_g20 Z A) (wC_s20 Z A) (f := σ 20) ((up2_ne _ _ (by decide)).trans (up2_ne _ _ (by decide))) o rfl (by omega) (by decide) (up2 (up2 (up2 σ 17 (txR L o p)) 19 (upd (σ 19) o k)) 20 (upd (σ 20) o a)) rfl ?_
    refine cw_aload_n (pc := 29) C dX5_addOrder_29 rfl 0 rfl ?_
    refine cw_get (pc := 30) C dX5_addOrder_30 17 (v := .ref (A 21)) rfl rfl 3 rfl (fun _ h => List.mem_cons_of_mem _ (List.mem_append_right _ h)) (by decide) (List.mem_of_getElem? (i := 4) rfl) ?_
    refine cw_aload_n (pc := 33) C dX5_addOrder_33 rfl 0 rfl ?_
    refine cw_get (pc := 34) C dX5_addOrder_34 17 (v := .int (nI o)) rfl rfl 5 rfl (fun _ h => List.mem_cons_of_mem _ (List.mem_append_right _ h)) (by decide) (List.mem_of_getElem? (i := 1) rfl) ?_
    refine cw_iload_n (pc := 37) C dX5_addOrder_37 rfl 3 rfl ?_
    refine cw_iast2 (pc := 38) C dX5_addOrder_38 21 21 (wC_g21 Z A) (wC_s21 Z A) (f := σ 21) ((up2_ne _ _ (by decide)).trans ((up2_ne _ _ (by decide)).trans (up2_ne _ _ (by decide)))) o rfl (by omega) (by decide) (up2 (up2 (up2 (up2 σ 17 (txR L o p)) 19 (upd (σ 19) o k)) 20 (upd (σ 20) o a)) 21 (upd (σ 21) o y)) rfl ?_
    refine cw_aload_n (pc := 39) C dX5_addOrder_39 rfl 0 rfl ?_
    refine cw_dup (pc := 40) C dX5_addOrder_40 rfl ?_
    refine cw_get (pc := 41) C dX5_addOrder_41 17 (v := .int (nI o)) rfl rfl 5 rfl (fun _ h => List.mem_cons_of_mem _ (List.mem_append_right _ h)) (by decide) (List.mem_of_getElem? (i := 1) rfl) ?_
    refine cw_iconst (pc := 44) C dX5_addOrder_44 (nI 1) (by decide) ?_
    refine cw_iadd (pc := 45) C dX5_addOrder_45 (z := nI (o + 1)) (nI_add _ _) ?_
    have e17 : upd ((up2 (up2 (up2 (up2 σ 17 (txR L o p)) 19 (upd (σ 19) o k)) 20 (upd (σ 20) o a)) 21 (upd (σ 21) o y)) 17) 5 (nI (o + 1)) = txR L (o + 1) p := (congrArg (fun f => upd f 5 (nI (o + 1))) (show (up2 (up2 (up2 (up2 σ 17 (txR L o p)) 19 (upd (σ 19) o k)) 20 (upd (σ 20) o a)) 21 (upd (σ 21) o y)) 17 = txR L o p from ((up2_ne _ _ (by decide)).trans ((up2_ne _ _ (by decide)).trans ((up2_ne _ _ (by decide)).trans (up2_eq _ _ _)))))).trans (txR_5 _ _ _ _)
    refine cw_put (pc := 46) C dX5_addOrder_46 17 (ty := .int) rfl rfl 5 (fun _ h => List.mem_cons_of_mem _ (List.mem_append_right _ h)) tyX5_ok nmX5 (by decide) (List.mem_of_getElem? (i := 1) rfl) rfl (by decide +kernel) rfl rfl (Nat.le_of_ble_eq_true rfl) (up2 (up2 (up2 (up2 σ 17 (txR L (o + 1) p)) 19 (upd (σ 19) o k)) 20 (upd (σ 20) o a)) 21 (upd (σ 21) o y)) ((wC_p17_5 Z A _ _).trans (congrArg (wC Z A) ((congrArg (fun f => up2 (up2 (up2 (up2 (up2 σ 17 (txR L o p)) 19 (upd (σ 19) o k)) 20 (upd (σ 20) o a)) 21 (upd (σ 21) o y)) 17 f) e17).trans ((up2_comm _ _ _ (by decide)).trans (congrArg (fun qz => up2 qz 21 (upd (σ 21) o y)) ((up2_comm _ _ _ (by decide)).trans (congrArg (fun qz => up2 qz 20 (upd (σ 20) o a)) ((up2_comm _ _ _ (by decide)).trans (congrArg (fun qz => up2 qz 19 (upd (σ 19) o k)) (up2_up2 _ 17 _ _)))))))))) ?_
    refine hret (up2 (up2 (up2 (up2 σ 17 (txR L (o + 1) p)) 19 (upd (σ 19) o k)) 20 (upd (σ 20) o a)) 21 (upd (σ 21) o y)) _ _ dX5_addOrder_49 ?_
    clear hret
    exact rfl
set_option maxHeartbeats 4000000 in
set_option maxRecDepth 100000 in
theorem c_X5_parseOrder (l : Launch) (D : va_G) (Z : CZ) (A : Nat → Nat) (σ : St) (L o p : Nat)   (hL : L ≤ 150) (hp : p ≤ L) (ho : o < 50) (hB : byOK (σ 18) L) : CTz l yX5_parseOrder wsX5_parseOrder 4 91 D Z (wC Z A) (up2 σ 17 (txR L o p)) [.ref (A 17)] (fun z σ' => (∃ q, oF (σ 18) L p = some q ∧ z = false ∧ σ' = up2 σ 17 (txR L o q)) ∨ (oF (σ 18) L p = none ∧ z = true ∧ σ' = up2 (up2 (up2 (up2 σ 17 (txR L (o + 1) (oq6 (σ 18) L p + 1))) 19 (upd (σ 19) o (nI (oL (σ 18) L p)))) 20 (upd (σ 20) o (oAs (σ 18) L p))) 21 (upd (σ 21) o (oB (σ 18) L p)))) := by
  refine CTz.mk (cc := cX5_parseOrder) (nL := 5) (own := RX5) rfl (by decide) rfl (Nat.le_of_ble_eq_true rfl) ?_
  intro p0 e0 s0 m0 g0 b0 t0 c0 A0 Q C hret
  refine cw_lv (lv' := [(0, .ref (A 17))]) [0] rfl ?_
  refine cw_aload_n (pc := 0) C dX5_parseOrder_0 rfl 0 rfl ?_
  refine cw_calli (pc := 1) C dX5_parseOrder_1 (c_X5_next l D Z A σ L o p (by omega) (by omega)) (cwV 0 C.1.2.2.2.2 gX5_parseOrder_X5_next rfl rfl rfl (by decide +kernel) ⟨Nat.le_of_ble_eq_true rfl, Nat.le_of_ble_eq_true rfl⟩) 17 rfl rfl rfl rfl (Nat.le_of_ble_eq_true rfl) (cw_pure (v := nxt (σ 18) L p) (fun _ _ h => h) ?_)
  refine cw_if_ge (pc := 4) (tgt := 11) C dX5_parseOrder_4 (by decide) (fun h4 => ?_) (fun h4 => ?_)
  · -- 4 t
    obtain ⟨hpl, x, hx, ex0⟩ := nxt_pos hB h4
    have e4 : nxt (σ 18) L p = nI x := by rw [nxt, if_pos hpl]; exact ex0
    refine cw_ldcS (pc := 11) C dX5_parseOrder_11 ?_
    refine cw_aload_n (pc := 13) C dX5_parseOrder_13 rfl 0 rfl ?_
    refine cw_calli (pc := 14) C dX5_parseOrder_14 (c_X5_next l D Z A σ L o p (by omega) (by omega)) (cwV 0 C.1.2.2.2.2 gX5_parseOrder_X5_next rfl rfl rfl (by decide +kernel) ⟨Nat.le_of_ble_eq_true rfl, Nat.le_of_ble_eq_true rfl⟩) 17 rfl rfl rfl rfl (Nat.le_of_ble_eq_true rfl) (cw_pure (v := nxt (σ 18) L p) (fun _ _ h => h) ?_)
    refine cw_i2c (pc := 17) C dX5_parseOrder_17 (z := nI x) (by rw [e4]; exact i2c_all x hx) ?_
    refine cw_callK (pc := 18) C dX5_parseOrder_18 (c_J0_indexOf_0f7a4 l D Z A (up2 σ 17 (txR L o p)) x (by omega)) (cwV 1 C.1.2.2.2.2 gX5_parseOrder_J0_indexOf_0f7a4 rfl rfl rfl (by decide +kernel) ⟨Nat.le_of_ble_eq_true rfl, Nat.le_of_ble_eq_true rfl⟩) rfl rfl (Nat.le_of_ble_eq_true rfl) (cw_pure (v := lixI x) (fun _ _ h => h) ?_)
    refine cw_istore_n (pc := 21) C dX5_parseOrder_21 rfl (by decide) (lv' := [(1, .int (lixI x)), (0, .ref (A 17))]) rfl ?_
    refine cw_iload_n (pc := 22) C dX5_parseOrder_22 rfl 0 rfl ?_
    refine cw_if_ge (pc := 23) (tgt := 28) C dX5_parseOrder_23 (by decide) (fun h23 => ?_) (fun h23 => ?_)
    · -- 23 t
      have hl8 := lixI_t h23
      rw [show lixI x = nI (lixN x) from if_pos hl8]
      have hol0 : oL (σ 18) L p = lixN x := by rw [oL, if_pos hpl, ex0, tN_N (by omega)]
      obtain ⟨lt, hlt⟩ : ∃ z, z = lixN x := ⟨_, rfl⟩
      rw [← hlt]
      have hol : oL (σ 18) L p = lt := hol0.trans hlt.symm
      have hlt8 : lt < 8 := by omega
      refine cw_aload_n (pc := 28) C dX5_parseOrder_28 rfl 1 rfl ?_
      refine cw_dup (pc := 29) C dX5_parseOrder_29 rfl ?_
      refine cw_get (pc := 30) C dX5_parseOrder_30 17 (v := .int (nI p)) rfl rfl 6 rfl (fun _ h => List.mem_cons_of_mem _ (List.mem_append_right _ h)) (by decide) (List.mem_of_getElem? (i := 1) rfl) ?_
      refine cw_iconst (pc := 33) C dX5_parseOrder_33 (nI 1) (by decide) ?_
      refine cw_iadd (pc := 34) C dX5_parseOrder_34 (z := nI (p + 1)) (nI_add _ _) ?_
      have e17 : upd ((up2 σ 17 (txR L o p)) 17) 6 (nI (p + 1)) = txR L o (p + 1) := (congrArg (fun f => upd f 6 (nI (p + 1))) (show (up2 σ 17 (txR L o p)) 17 = txR L o p from (up2_eq _ _ _))).trans (txR_6 _ _ _ _)
      refine cw_put (pc := 35) C dX5_parseOrder_35 17 (ty := .int) rfl rfl 6 (fun _ h => List.mem_cons_of_mem _ (List.mem_append_right _ h)) tyX5_ok nmX5 (by decide) (List.mem_of_getElem? (i := 1) rfl) rfl (by decide +kernel) rfl rfl (Nat.le_of_ble_eq_true rfl) (up2 σ 17 (txR L o (p + 1))) ((wC_p17_6 Z A _ _).trans (congrArg (wC Z A) ((congrArg (fun f => up2 (up2 σ 17 (txR L o p)) 17 f) e17).trans (up2_up2 _ 17 _ _)))) ?_
      refine cw_aload_n (pc := 38) C dX5_parseOrder_38 rfl 1 rfl ?_
      refine cw_callv (pc := 39) C dX5_parseOrder_39 (c_X5_skipBlanks l D Z A σ L o (p + 1) (by omega) (by omega)) (cwV 0 C.1.2.2.2.2 gX5_parseOrder_X5_skipBlanks rfl rfl rfl (by decide +kernel) ⟨Nat.le_of_ble_eq_true rfl, Nat.le_of_ble_eq_true rfl⟩) 17 rfl rfl rfl rfl (Nat.le_of_ble_eq_true rfl) (cw_effv (fun _ h => h) (up2 σ 17 (txR L o (skB (σ 18) L (p + 1)))) rfl ?_)
      obtain ⟨q1, hq1⟩ : ∃ z, z = skB (σ 18) L (p + 1) := ⟨_, rfl⟩
      rw [← hq1]
      have k1 : oq1 (σ 18) L p = q1 := hq1.symm
      have hr1 : p + 1 ≤ q1 ∧ q1 ≤ L := by rw [hq1]; exact skB_le (by omega)
      refine cw_iload_n (pc := 42) C dX5_parseOrder_42 rfl 0 rfl ?_
      refine cw_iconst (pc := 43) C dX5_parseOrder_43 (nI 5) (by decide) ?_
      refine cw_icmp_ne (pc := 44) (tgt := 60) C dX5_parseOrder_44 (by decide) (fun h44 => ?_) (fun h44 => ?_)
      · -- 44 t
        have h44 : ¬ lt = 5 := (nc_ne (a := lt) (b := 5) (by omega) (by omega)).mp h44
        refine cw_iconst (pc := 60) C dX5_parseOrder_60 (nI 0) (by decide) ?_
        refine cw_istore_n (pc := 61) C dX5_parseOrder_61 rfl (by decide) (lv' := [(2, .int (nI 0)), (1, .int (nI lt)), (0, .ref (A 17))]) rfl ?_
        refine cw_iload_n (pc := 62) C dX5_parseOrder_62 rfl 0 rfl ?_
        refine cw_if_eq (pc := 63) (tgt := 76) C dX5_parseOrder_63 (by decide) (fun _ => ?_) (fun h => False.elim (by revert h; decide))
        have kN : oN (σ 18) L p = false := by simp [oN, hol, k1, h44]
        have k2 : oq2 (σ 18) L p = q1 := by rw [oq2, kN, k1]; rfl
        refine cw_aload_n (pc := 76) C dX5_parseOrder_76 rfl 2 rfl ?_
        refine cw_calli (pc := 77) C dX5_parseOrder_77 (c_X5_parseNumber l D Z A σ L o q1 (by omega) (by omega)) (cwV 0 C.1.2.2.2.2 gX5_parseOrder_X5_parseNumber rfl rfl rfl (by decide +kernel) ⟨Nat.le_of_ble_eq_true rfl, Nat.le_of_ble_eq_true rfl⟩) 17 rfl rfl rfl rfl (Nat.le_of_ble_eq_true rfl) (cw_eff (v := numR (σ 18) L q1) (fun _ _ h => h) (up2 σ 17 (txR L o (q1 + nk (σ 18) L q1))) rfl ?_)
        have hk3 := nk_le (B := σ 18) (L := L) (p := q1) (by omega)
        obtain ⟨q3, hq3⟩ : ∃ z, z = q1 + nk (σ 18) L q1 := ⟨_, rfl⟩
        rw [← hq3]
        obtain ⟨av, hav⟩ : ∃ z, z = numR (σ 18) L q1 := ⟨_, rfl⟩
        rw [← hav]
        have kA : oA (σ 18) L p = av := by rw [oA, k2]; exact hav.symm
        have k3 : oq3 (σ 18) L p = q3 := by rw [oq3, k2]; exact hq3.symm
        refine cw_istore_n (pc := 80) C dX5_parseOrder_80 rfl (by decide) (lv' := [(3, .int (av)), (2, .int (nI 0)), (1, .int (nI lt)), (0, .ref (A 17))]) rfl ?_
        refine cw_iload_n (pc := 81) C dX5_parseOrder_81 rfl 0 rfl ?_
        refine cw_iconst (pc := 82) C dX5_parseOrder_82 (-1) (by decide) ?_
        refine cw_icmp_ne (pc := 83) (tgt := 88) C dX5_parseOrder_83 (by decide) (fun h83 => ?_) (fun h83 => ?_)
        · -- 83 t
          refine cw_iconst (pc := 88) C dX5_parseOrder_88 (nI 0) (by decide) ?_
          refine cw_istore (pc := 89) C dX5_parseOrder_89 (by decide) (lv' := [(4, .int (nI 0)), (3, .int (av)), (2, .int (nI 0)), (1, .int (nI lt)), (0, .ref (A 17))]) rfl ?_
          refine cw_iload_n (pc := 91) C dX5_parseOrder_91 rfl 3 rfl ?_
          refine cw_iconst (pc := 92) C dX5_parseOrder_92 (nI 5) (by decide) ?_
          refine cw_icmp_eq (pc := 93) (tgt := 112) C dX5_parseOrder_93 (by decide) (fun h93 => ?_) (fun h93 => ?_)
          · -- 93 t
            have h93 : lt = 5 := (nc_eq (a := lt) (b := 5) (by omega) (by omega)).mp h93
            refine cw_iload (pc := 112) C dX5_parseOrder_112 0 rfl ?_
            refine cw_iconst (pc := 114) C dX5_parseOrder_114 (-1) (by decide) ?_
            refine cw_icmp_ne (pc := 115) (tgt := 120) C dX5_parseOrder_115 (by decide) (fun _ => ?_) (fun h => False.elim (by revert h; decide))
            have kT : oTwo (σ 18) L p = false := by simp [oTwo, hol, h93]
            have kB : oB (σ 18) L p = nI 0 := by rw [oB, kT]; rfl
            have k5 : oq5 (σ 18) L p = q3 := by rw [oq5, kT, k3]; rfl
            refine cw_aload_n (pc := 120) C dX5_parseOrder_120 rfl 4 rfl ?_
            refine cw_callv (pc := 121) C dX5_parseOrder_121 (c_X5_skipBlanks l D Z A σ L o q3 (by omega) (by omega)) (cwV 0 C.1.2.2.2.2 gX5_parseOrder_X5_skipBlanks rfl rfl rfl (by decide +kernel) ⟨Nat.le_of_ble_eq_true rfl, Nat.le_of_ble_eq_true rfl⟩) 17 rfl rfl rfl rfl (Nat.le_of_ble_eq_true rfl) (cw_effv (fun _ h => h) (up2 σ 17 (txR L o (skB (σ 18) L q3))) rfl ?_)
            obtain ⟨q6, hq6⟩ : ∃ z, z = skB (σ 18) L q3 := ⟨_, rfl⟩
            rw [← hq6]
            have k6 : oq6 (σ 18) L p = q6 := by rw [oq6, k5]; exact hq6.symm
            have hr6 : q3 ≤ q6 ∧ q6 ≤ L := by rw [hq6]; exact skB_le (by omega)
            refine cw_aload_n (pc := 124) C dX5_parseOrder_124 rfl 4 rfl ?_
            refine cw_calli (pc := 125) C dX5_parseOrder_125 (c_X5_next l D Z A σ L o q6 (by omega) (by omega)) (cwV 0 C.1.2.2.2.2 gX5_parseOrder_X5_next rfl rfl rfl (by decide +kernel) ⟨Nat.le_of_ble_eq_true rfl, Nat.le_of_ble_eq_true rfl⟩) 17 rfl rfl rfl rfl (Nat.le_of_ble_eq_true rfl) (cw_pure (v := nxt (σ 18) L q6) (fun _ _ h => h) ?_)
            refine cw_bipush (pc := 128) C dX5_parseOrder_128 (nI 59) (by decide) ?_
            refine cw_icmp_eq (pc := 130) (tgt := 135) C dX5_parseOrder_130 (by decide) (fun h130 => ?_) (fun h130 => ?_)
            · -- 130 t
              have hlt6 := nxt_lt (by decide) h130
              refine cw_aload_n (pc := 135) C dX5_parseOrder_135 rfl 4 rfl ?_
              refine cw_dup (pc := 136) C dX5_parseOrder_136 rfl ?_
              refine cw_get (pc := 137) C dX5_parseOrder_137 17 (v := .int (nI q6)) rfl rfl 6 rfl (fun _ h => List.mem_cons_of_mem _ (List.mem_append_right _ h)) (by decide) (List.mem_of_getElem? (i := 1) rfl) ?_
              refine cw_iconst (pc := 140) C dX5_parseOrder_140 (nI 1) (by decide) ?_
              refine cw_iadd (pc := 141) C dX5_parseOrder_141 (z := nI (q6 + 1)) (nI_add _ _) ?_
              have e17 : upd ((up2 σ 17 (txR L o q6)) 17) 6 (nI (q6 + 1)) = txR L o (q6 + 1) := (congrArg (fun f => upd f 6 (nI (q6 + 1))) (show (up2 σ 17 (txR L o q6)) 17 = txR L o q6 from (up2_eq _ _ _))).trans (txR_6 _ _ _ _)
              refine cw_put (pc := 142) C dX5_parseOrder_142 17 (ty := .int) rfl rfl 6 (fun _ h => List.mem_cons_of_mem _ (List.mem_append_right _ h)) tyX5_ok nmX5 (by decide) (List.mem_of_getElem? (i := 1) rfl) rfl (by decide +kernel) rfl rfl (Nat.le_of_ble_eq_true rfl) (up2 σ 17 (txR L o (q6 + 1))) ((wC_p17_6 Z A _ _).trans (congrArg (wC Z A) ((congrArg (fun f => up2 (up2 σ 17 (txR L o q6)) 17 f) e17).trans (up2_up2 _ 17 _ _)))) ?_
              refine cw_aload_n (pc := 145) C dX5_parseOrder_145 rfl 4 rfl ?_
              refine cw_iload_n (pc := 146) C dX5_parseOrder_146 rfl 3 rfl ?_
              refine cw_iload_n (pc := 147) C dX5_parseOrder_147 rfl 2 rfl ?_
              refine cw_if_eq (pc := 148) (tgt := 156) C dX5_parseOrder_148 (by decide) (fun _ => ?_) (fun h => False.elim (by revert h; decide))
              refine cw_iload_n (pc := 156) C dX5_parseOrder_156 rfl 1 rfl ?_
              refine cw_iload (pc := 157) C dX5_parseOrder_157 0 rfl ?_
              refine cw_callv (pc := 159) C dX5_parseOrder_159 (c_X5_addOrder l D Z A σ L o (q6 + 1) (nI lt) av (nI 0) (by omega)) (cwV 3 C.1.2.2.2.2 gX5_parseOrder_X5_addOrder rfl rfl rfl (by decide +kernel) ⟨Nat.le_of_ble_eq_true rfl, Nat.le_of_ble_eq_true rfl⟩) 17 rfl rfl rfl rfl (Nat.le_of_ble_eq_true rfl) (cw_effv (fun _ h => h) (up2 (up2 (up2 (up2 σ 17 (txR L (o + 1) (q6 + 1))) 19 (upd (σ 19) o (nI lt))) 20 (upd (σ 20) o av)) 21 (upd (σ 21) o (nI 0))) rfl ?_)
              refine cw_iconst (pc := 162) C dX5_parseOrder_162 (nI 1) (by decide) ?_
              refine hret true (up2 (up2 (up2 (up2 σ 17 (txR L (o + 1) (q6 + 1))) 19 (upd (σ 19) o (nI lt))) 20 (upd (σ 20) o av)) 21 (upd (σ 21) o (nI 0))) _ _ dX5_parseOrder_163 ?_
              clear hret
              refine Or.inr ⟨?_, rfl, ?_⟩
              · rw [oF, if_neg (by rw [hol]; omega), if_neg (by rw [kA]; exact h83), if_neg (by rw [kB]; decide), if_pos (by rw [k6]; exact h130)]
              · rw [k6, hol, kB, oAs, kN, kA]
                rfl
            · -- 130 f
              refine cw_iconst (pc := 133) C dX5_parseOrder_133 (nI 0) (by decide) ?_
              refine hret false (up2 σ 17 (txR L o q6)) _ _ dX5_parseOrder_134 ?_
              clear hret
              refine Or.inl ⟨q6, ?_, rfl, rfl⟩
              rw [oF, if_neg (by rw [hol]; omega), if_neg (by rw [kA]; exact h83), if_neg (by rw [kB]; decide), if_neg (by rw [k6]; exact h130), k6]
          · -- 93 f
            have h93 : ¬ (lt = 5) := fun qq => h93 ((nc_eq (a := lt) (b := 5) (by omega) (by omega)).mpr qq)
            refine cw_iload_n (pc := 96) C dX5_parseOrder_96 rfl 3 rfl ?_
            refine cw_bipush (pc := 97) C dX5_parseOrder_97 (nI 6) (by decide) ?_
            refine cw_icmp_eq (pc := 99) (tgt := 112) C dX5_parseOrder_99 (by decide) (fun h99 => ?_) (fun h99 => ?_)
            · -- 99 t
              have h99 : lt = 6 := (nc_eq (a := lt) (b := 6) (by omega) (by omega)).mp h99
              refine cw_iload (pc := 112) C dX5_parseOrder_112 0 rfl ?_
              refine cw_iconst (pc := 114) C dX5_parseOrder_114 (-1) (by decide) ?_
              refine cw_icmp_ne (pc := 115) (tgt := 120) C dX5_parseOrder_115 (by decide) (fun _ => ?_) (fun h => False.elim (by revert h; decide))
              have kT : oTwo (σ 18) L p = false := by simp [oTwo, hol, h99]
              have kB : oB (σ 18) L p = nI 0 := by rw [oB, kT]; rfl
              have k5 : oq5 (σ 18) L p = q3 := by rw [oq5, kT, k3]; rfl
              refine cw_aload_n (pc := 120) C dX5_parseOrder_120 rfl 4 rfl ?_
              refine cw_callv (pc := 121) C dX5_parseOrder_121 (c_X5_skipBlanks l D Z A σ L o q3 (by omega) (by omega)) (cwV 0 C.1.2.2.2.2 gX5_parseOrder_X5_skipBlanks rfl rfl rfl (by decide +kernel) ⟨Nat.le_of_ble_eq_true rfl, Nat.le_of_ble_eq_true rfl⟩) 17 rfl rfl rfl rfl (Nat.le_of_ble_eq_true rfl) (cw_effv (fun _ h => h) (up2 σ 17 (txR L o (skB (σ 18) L q3))) rfl ?_)
              obtain ⟨q6, hq6⟩ : ∃ z, z = skB (σ 18) L q3 := ⟨_, rfl⟩
              rw [← hq6]
              have k6 : oq6 (σ 18) L p = q6 := by rw [oq6, k5]; exact hq6.symm
              have hr6 : q3 ≤ q6 ∧ q6 ≤ L := by rw [hq6]; exact skB_le (by omega)
              refine cw_aload_n (pc := 124) C dX5_parseOrder_124 rfl 4 rfl ?_
              refine cw_calli (pc := 125) C dX5_parseOrder_125 (c_X5_next l D Z A σ L o q6 (by omega) (by omega)) (cwV 0 C.1.2.2.2.2 gX5_parseOrder_X5_next rfl rfl rfl (by decide +kernel) ⟨Nat.le_of_ble_eq_true rfl, Nat.le_of_ble_eq_true rfl⟩) 17 rfl rfl rfl rfl (Nat.le_of_ble_eq_true rfl) (cw_pure (v := nxt (σ 18) L q6) (fun _ _ h => h) ?_)
              refine cw_bipush (pc := 128) C dX5_parseOrder_128 (nI 59) (by decide) ?_
              refine cw_icmp_eq (pc := 130) (tgt := 135) C dX5_parseOrder_130 (by decide) (fun h130 => ?_) (fun h130 => ?_)
              · -- 130 t
                have hlt6 := nxt_lt (by decide) h130
                refine cw_aload_n (pc := 135) C dX5_parseOrder_135 rfl 4 rfl ?_
                refine cw_dup (pc := 136) C dX5_parseOrder_136 rfl ?_
                refine cw_get (pc := 137) C dX5_parseOrder_137 17 (v := .int (nI q6)) rfl rfl 6 rfl (fun _ h => List.mem_cons_of_mem _ (List.mem_append_right _ h)) (by decide) (List.mem_of_getElem? (i := 1) rfl) ?_
                refine cw_iconst (pc := 140) C dX5_parseOrder_140 (nI 1) (by decide) ?_
                refine cw_iadd (pc := 141) C dX5_parseOrder_141 (z := nI (q6 + 1)) (nI_add _ _) ?_
                have e17 : upd ((up2 σ 17 (txR L o q6)) 17) 6 (nI (q6 + 1)) = txR L o (q6 + 1) := (congrArg (fun f => upd f 6 (nI (q6 + 1))) (show (up2 σ 17 (txR L o q6)) 17 = txR L o q6 from (up2_eq _ _ _))).trans (txR_6 _ _ _ _)
                refine cw_put (pc := 142) C dX5_parseOrder_142 17 (ty := .int) rfl rfl 6 (fun _ h => List.mem_cons_of_mem _ (List.mem_append_right _ h)) tyX5_ok nmX5 (by decide) (List.mem_of_getElem? (i := 1) rfl) rfl (by decide +kernel) rfl rfl (Nat.le_of_ble_eq_true rfl) (up2 σ 17 (txR L o (q6 + 1))) ((wC_p17_6 Z A _ _).trans (congrArg (wC Z A) ((congrArg (fun f => up2 (up2 σ 17 (txR L o q6)) 17 f) e17).trans (up2_up2 _ 17 _ _)))) ?_
                refine cw_aload_n (pc := 145) C dX5_parseOrder_145 rfl 4 rfl ?_
                refine cw_iload_n (pc := 146) C dX5_parseOrder_146 rfl 3 rfl ?_
                refine cw_iload_n (pc := 147) C dX5_parseOrder_147 rfl 2 rfl ?_
                refine cw_if_eq (pc := 148) (tgt := 156) C dX5_parseOrder_148 (by decide) (fun _ => ?_) (fun h => False.elim (by revert h; decide))
                refine cw_iload_n (pc := 156) C dX5_parseOrder_156 rfl 1 rfl ?_
                refine cw_iload (pc := 157) C dX5_parseOrder_157 0 rfl ?_
                refine cw_callv (pc := 159) C dX5_parseOrder_159 (c_X5_addOrder l D Z A σ L o (q6 + 1) (nI lt) av (nI 0) (by omega)) (cwV 3 C.1.2.2.2.2 gX5_parseOrder_X5_addOrder rfl rfl rfl (by decide +kernel) ⟨Nat.le_of_ble_eq_true rfl, Nat.le_of_ble_eq_true rfl⟩) 17 rfl rfl rfl rfl (Nat.le_of_ble_eq_true rfl) (cw_effv (fun _ h => h) (up2 (up2 (up2 (up2 σ 17 (txR L (o + 1) (q6 + 1))) 19 (upd (σ 19) o (nI lt))) 20 (upd (σ 20) o av)) 21 (upd (σ 21) o (nI 0))) rfl ?_)
                refine cw_iconst (pc := 162) C dX5_parseOrder_162 (nI 1) (by decide) ?_
                refine hret true (up2 (up2 (up2 (up2 σ 17 (txR L (o + 1) (q6 + 1))) 19 (upd (σ 19) o (nI lt))) 20 (upd (σ 20) o av)) 21 (upd (σ 21) o (nI 0))) _ _ dX5_parseOrder_163 ?_
                clear hret
                refine Or.inr ⟨?_, rfl, ?_⟩
                · rw [oF, if_neg (by rw [hol]; omega), if_neg (by rw [kA]; exact h83), if_neg (by rw [kB]; decide), if_pos (by rw [k6]; exact h130)]
                · rw [k6, hol, kB, oAs, kN, kA]
                  rfl
              · -- 130 f
                refine cw_iconst (pc := 133) C dX5_parseOrder_133 (nI 0) (by decide) ?_
                refine hret false (up2 σ 17 (txR L o q6)) _ _ dX5_parseOrder_134 ?_
                clear hret
                refine Or.inl ⟨q6, ?_, rfl, rfl⟩
                rw [oF, if_neg (by rw [hol]; omega), if_neg (by rw [kA]; exact h83), if_neg (by rw [kB]; decide), if_neg (by rw [k6]; exact h130), k6]
            · -- 99 f
              have h99 : ¬ (lt = 6) := fun qq => h99 ((nc_eq (a := lt) (b := 6) (by omega) (by omega)).mpr qq)
              have kT : oTwo (σ 18) L p = true := by simp [oTwo, hol, h93, h99]
              refine cw_aload_n (pc := 102) C dX5_parseOrder_102 rfl 4 rfl ?_
              refine cw_callv (pc := 103) C dX5_parseOrder_103 (c_X5_skipBlanks l D Z A σ L o q3 (by omega) (by omega)) (cwV 0 C.1.2.2.2.2 gX5_parseOrder_X5_skipBlanks rfl rfl rfl (by decide +kernel) ⟨Nat.le_of_ble_eq_true rfl, Nat.le_of_ble_eq_true rfl⟩) 17 rfl rfl rfl rfl (Nat.le_of_ble_eq_true rfl) (cw_effv (fun _ h => h) (up2 σ 17 (txR L o (skB (σ 18) L q3))) rfl ?_)
              obtain ⟨q4, hq4⟩ : ∃ z, z = skB (σ 18) L q3 := ⟨_, rfl⟩
              rw [← hq4]
              have k4 : oq4 (σ 18) L p = q4 := by rw [oq4, k3]; exact hq4.symm
              have hr4 : q3 ≤ q4 ∧ q4 ≤ L := by rw [hq4]; exact skB_le (by omega)
              refine cw_aload_n (pc := 106) C dX5_parseOrder_106 rfl 4 rfl ?_
              refine cw_calli (pc := 107) C dX5_parseOrder_107 (c_X5_parseNumber l D Z A σ L o q4 (by omega) (by omega)) (cwV 0 C.1.2.2.2.2 gX5_parseOrder_X5_parseNumber rfl rfl rfl (by decide +kernel) ⟨Nat.le_of_ble_eq_true rfl, Nat.le_of_ble_eq_true rfl⟩) 17 rfl rfl rfl rfl (Nat.le_of_ble_eq_true rfl) (cw_eff (v := numR (σ 18) L q4) (fun _ _ h => h) (up2 σ 17 (txR L o (q4 + nk (σ 18) L q4))) rfl ?_)
              have hk5 := nk_le (B := σ 18) (L := L) (p := q4) (by omega)
              obtain ⟨q5, hq5⟩ : ∃ z, z = q4 + nk (σ 18) L q4 := ⟨_, rfl⟩
              rw [← hq5]
              obtain ⟨bv, hbv⟩ : ∃ z, z = numR (σ 18) L q4 := ⟨_, rfl⟩
              rw [← hbv]
              have kB : oB (σ 18) L p = bv := by rw [oB, if_pos kT, k4]; exact hbv.symm
              have k5 : oq5 (σ 18) L p = q5 := by rw [oq5, if_pos kT, k4]; exact hq5.symm
              refine cw_istore (pc := 110) C dX5_parseOrder_110 (by decide) (lv' := [(4, .int (bv)), (3, .int (av)), (2, .int (nI 0)), (1, .int (nI lt)), (0, .ref (A 17))]) rfl ?_
              refine cw_iload (pc := 112) C dX5_parseOrder_112 0 rfl ?_
              refine cw_iconst (pc := 114) C dX5_parseOrder_114 (-1) (by decide) ?_
              refine cw_icmp_ne (pc := 115) (tgt := 120) C dX5_parseOrder_115 (by decide) (fun h115 => ?_) (fun h115 => ?_)
              · -- 115 t
                refine cw_aload_n (pc := 120) C dX5_parseOrder_120 rfl 4 rfl ?_
                refine cw_callv (pc := 121) C dX5_parseOrder_121 (c_X5_skipBlanks l D Z A σ L o q5 (by omega) (by omega)) (cwV 0 C.1.2.2.2.2 gX5_parseOrder_X5_skipBlanks rfl rfl rfl (by decide +kernel) ⟨Nat.le_of_ble_eq_true rfl, Nat.le_of_ble_eq_true rfl⟩) 17 rfl rfl rfl rfl (Nat.le_of_ble_eq_true rfl) (cw_effv (fun _ h => h) (up2 σ 17 (txR L o (skB (σ 18) L q5))) rfl ?_)
                obtain ⟨q6, hq6⟩ : ∃ z, z = skB (σ 18) L q5 := ⟨_, rfl⟩
                rw [← hq6]
                have k6 : oq6 (σ 18) L p = q6 := by rw [oq6, k5]; exact hq6.symm
                have hr6 : q5 ≤ q6 ∧ q6 ≤ L := by rw [hq6]; exact skB_le (by omega)
                refine cw_aload_n (pc := 124) C dX5_parseOrder_124 rfl 4 rfl ?_
                refine cw_calli (pc := 125) C dX5_parseOrder_125 (c_X5_next l D Z A σ L o q6 (by omega) (by omega)) (cwV 0 C.1.2.2.2.2 gX5_parseOrder_X5_next rfl rfl rfl (by decide +kernel) ⟨Nat.le_of_ble_eq_true rfl, Nat.le_of_ble_eq_true rfl⟩) 17 rfl rfl rfl rfl (Nat.le_of_ble_eq_true rfl) (cw_pure (v := nxt (σ 18) L q6) (fun _ _ h => h) ?_)
                refine cw_bipush (pc := 128) C dX5_parseOrder_128 (nI 59) (by decide) ?_
                refine cw_icmp_eq (pc := 130) (tgt := 135) C dX5_parseOrder_130 (by decide) (fun h130 => ?_) (fun h130 => ?_)
                · -- 130 t
                  have hlt6 := nxt_lt (by decide) h130
                  refine cw_aload_n (pc := 135) C dX5_parseOrder_135 rfl 4 rfl ?_
                  refine cw_dup (pc := 136) C dX5_parseOrder_136 rfl ?_
                  refine cw_get (pc := 137) C dX5_parseOrder_137 17 (v := .int (nI q6)) rfl rfl 6 rfl (fun _ h => List.mem_cons_of_mem _ (List.mem_append_right _ h)) (by decide) (List.mem_of_getElem? (i := 1) rfl) ?_
                  refine cw_iconst (pc := 140) C dX5_parseOrder_140 (nI 1) (by decide) ?_
                  refine cw_iadd (pc := 141) C dX5_parseOrder_141 (z := nI (q6 + 1)) (nI_add _ _) ?_
                  have e17 : upd ((up2 σ 17 (txR L o q6)) 17) 6 (nI (q6 + 1)) = txR L o (q6 + 1) := (congrArg (fun f => upd f 6 (nI (q6 + 1))) (show (up2 σ 17 (txR L o q6)) 17 = txR L o q6 from (up2_eq _ _ _))).trans (txR_6 _ _ _ _)
                  refine cw_put (pc := 142) C dX5_parseOrder_142 17 (ty := .int) rfl rfl 6 (fun _ h => List.mem_cons_of_mem _ (List.mem_append_right _ h)) tyX5_ok nmX5 (by decide) (List.mem_of_getElem? (i := 1) rfl) rfl (by decide +kernel) rfl rfl (Nat.le_of_ble_eq_true rfl) (up2 σ 17 (txR L o (q6 + 1))) ((wC_p17_6 Z A _ _).trans (congrArg (wC Z A) ((congrArg (fun f => up2 (up2 σ 17 (txR L o q6)) 17 f) e17).trans (up2_up2 _ 17 _ _)))) ?_
                  refine cw_aload_n (pc := 145) C dX5_parseOrder_145 rfl 4 rfl ?_
                  refine cw_iload_n (pc := 146) C dX5_parseOrder_146 rfl 3 rfl ?_
                  refine cw_iload_n (pc := 147) C dX5_parseOrder_147 rfl 2 rfl ?_
                  refine cw_if_eq (pc := 148) (tgt := 156) C dX5_parseOrder_148 (by decide) (fun _ => ?_) (fun h => False.elim (by revert h; decide))
                  refine cw_iload_n (pc := 156) C dX5_parseOrder_156 rfl 1 rfl ?_
                  refine cw_iload (pc := 157) C dX5_parseOrder_157 0 rfl ?_
                  refine cw_callv (pc := 159) C dX5_parseOrder_159 (c_X5_addOrder l D Z A σ L o (q6 + 1) (nI lt) av bv (by omega)) (cwV 3 C.1.2.2.2.2 gX5_parseOrder_X5_addOrder rfl rfl rfl (by decide +kernel) ⟨Nat.le_of_ble_eq_true rfl, Nat.le_of_ble_eq_true rfl⟩) 17 rfl rfl rfl rfl (Nat.le_of_ble_eq_true rfl) (cw_effv (fun _ h => h) (up2 (up2 (up2 (up2 σ 17 (txR L (o + 1) (q6 + 1))) 19 (upd (σ 19) o (nI lt))) 20 (upd (σ 20) o av)) 21 (upd (σ 21) o bv)) rfl ?_)
                  refine cw_iconst (pc := 162) C dX5_parseOrder_162 (nI 1) (by decide) ?_
                  refine hret true (up2 (up2 (up2 (up2 σ 17 (txR L (o + 1) (q6 + 1))) 19 (upd (σ 19) o (nI lt))) 20 (upd (σ 20) o av)) 21 (upd (σ 21) o bv)) _ _ dX5_parseOrder_163 ?_
                  clear hret
                  refine Or.inr ⟨?_, rfl, ?_⟩
                  · rw [oF, if_neg (by rw [hol]; omega), if_neg (by rw [kA]; exact h83), if_neg (by rw [kB]; exact h115), if_pos (by rw [k6]; exact h130)]
                  · rw [k6, hol, kB, oAs, kN, kA]
                    rfl
                · -- 130 f
                  refine cw_iconst (pc := 133) C dX5_parseOrder_133 (nI 0) (by decide) ?_
                  refine hret false (up2 σ 17 (txR L o q6)) _ _ dX5_parseOrder_134 ?_
                  clear hret
                  refine Or.inl ⟨q6, ?_, rfl, rfl⟩
                  rw [oF, if_neg (by rw [hol]; omega), if_neg (by rw [kA]; exact h83), if_neg (by rw [kB]; exact h115), if_neg (by rw [k6]; exact h130), k6]
              · -- 115 f
                refine cw_iconst (pc := 118) C dX5_parseOrder_118 (nI 0) (by decide) ?_
                refine hret false (up2 σ 17 (txR L o q5)) _ _ dX5_parseOrder_119 ?_
                clear hret
                refine Or.inl ⟨q5, ?_, rfl, rfl⟩
                rw [oF, if_neg (by rw [hol]; omega), if_neg (by rw [kA]; exact h83), if_pos (by rw [kB]; exact h115), k5]
        · -- 83 f
          refine cw_iconst (pc := 86) C dX5_parseOrder_86 (nI 0) (by decide) ?_
          refine hret false (up2 σ 17 (txR L o q3)) _ _ dX5_parseOrder_87 ?_
          clear hret
          refine Or.inl ⟨q3, ?_, rfl, rfl⟩
          rw [oF, if_neg (by rw [hol]; omega), if_pos (by rw [kA]; exact h83), k3]
      · -- 44 f
        have h44 : lt = 5 := (nc_eq (a := lt) (b := 5) (by omega) (by omega)).mp h44
        refine cw_aload_n (pc := 47) C dX5_parseOrder_47 rfl 1 rfl ?_
        refine cw_calli (pc := 48) C dX5_parseOrder_48 (c_X5_next l D Z A σ L o q1 (by omega) (by omega)) (cwV 0 C.1.2.2.2.2 gX5_parseOrder_X5_next rfl rfl rfl (by decide +kernel) ⟨Nat.le_of_ble_eq_true rfl, Nat.le_of_ble_eq_true rfl⟩) 17 rfl rfl rfl rfl (Nat.le_of_ble_eq_true rfl) (cw_pure (v := nxt (σ 18) L q1) (fun _ _ h => h) ?_)
        refine cw_bipush (pc := 51) C dX5_parseOrder_51 (nI 45) (by decide) ?_
        refine cw_icmp_ne (pc := 53) (tgt := 60) C dX5_parseOrder_53 (by decide) (fun h53 => ?_) (fun h53 => ?_)
        · -- 53 t
          refine cw_iconst (pc := 60) C dX5_parseOrder_60 (nI 0) (by decide) ?_
          refine cw_istore_n (pc := 61) C dX5_parseOrder_61 rfl (by decide) (lv' := [(2, .int (nI 0)), (1, .int (nI lt)), (0, .ref (A 17))]) rfl ?_
          refine cw_iload_n (pc := 62) C dX5_parseOrder_62 rfl 0 rfl ?_
          refine cw_if_eq (pc := 63) (tgt := 76) C dX5_parseOrder_63 (by decide) (fun _ => ?_) (fun h => False.elim (by revert h; decide))
          have kN : oN (σ 18) L p = false := by simp [oN, hol, k1, h44, h53]
          have k2 : oq2 (σ 18) L p = q1 := by rw [oq2, kN, k1]; rfl
          refine cw_aload_n (pc := 76) C dX5_parseOrder_76 rfl 2 rfl ?_
          refine cw_calli (pc := 77) C dX5_parseOrder_77 (c_X5_parseNumber l D Z A σ L o q1 (by omega) (by omega)) (cwV 0 C.1.2.2.2.2 gX5_parseOrder_X5_parseNumber rfl rfl rfl (by decide +kernel) ⟨Nat.le_of_ble_eq_true rfl, Nat.le_of_ble_eq_true rfl⟩) 17 rfl rfl rfl rfl (Nat.le_of_ble_eq_true rfl) (cw_eff (v := numR (σ 18) L q1) (fun _ _ h => h) (up2 σ 17 (txR L o (q1 + nk (σ 18) L q1))) rfl ?_)
          have hk3 := nk_le (B := σ 18) (L := L) (p := q1) (by omega)
          obtain ⟨q3, hq3⟩ : ∃ z, z = q1 + nk (σ 18) L q1 := ⟨_, rfl⟩
          rw [← hq3]
          obtain ⟨av, hav⟩ : ∃ z, z = numR (σ 18) L q1 := ⟨_, rfl⟩
          rw [← hav]
          have kA : oA (σ 18) L p = av := by rw [oA, k2]; exact hav.symm
          have k3 : oq3 (σ 18) L p = q3 := by rw [oq3, k2]; exact hq3.symm
          refine cw_istore_n (pc := 80) C dX5_parseOrder_80 rfl (by decide) (lv' := [(3, .int (av)), (2, .int (nI 0)), (1, .int (nI lt)), (0, .ref (A 17))]) rfl ?_
          refine cw_iload_n (pc := 81) C dX5_parseOrder_81 rfl 0 rfl ?_
          refine cw_iconst (pc := 82) C dX5_parseOrder_82 (-1) (by decide) ?_
          refine cw_icmp_ne (pc := 83) (tgt := 88) C dX5_parseOrder_83 (by decide) (fun h83 => ?_) (fun h83 => ?_)
          · -- 83 t
            refine cw_iconst (pc := 88) C dX5_parseOrder_88 (nI 0) (by decide) ?_
            refine cw_istore (pc := 89) C dX5_parseOrder_89 (by decide) (lv' := [(4, .int (nI 0)), (3, .int (av)), (2, .int (nI 0)), (1, .int (nI lt)), (0, .ref (A 17))]) rfl ?_
            refine cw_iload_n (pc := 91) C dX5_parseOrder_91 rfl 3 rfl ?_
            refine cw_iconst (pc := 92) C dX5_parseOrder_92 (nI 5) (by decide) ?_
            refine cw_icmp_eq (pc := 93) (tgt := 112) C dX5_parseOrder_93 (by decide) (fun h93 => ?_) (fun h93 => ?_)
            · -- 93 t
              have h93 : lt = 5 := (nc_eq (a := lt) (b := 5) (by omega) (by omega)).mp h93
              refine cw_iload (pc := 112) C dX5_parseOrder_112 0 rfl ?_
              refine cw_iconst (pc := 114) C dX5_parseOrder_114 (-1) (by decide) ?_
              refine cw_icmp_ne (pc := 115) (tgt := 120) C dX5_parseOrder_115 (by decide) (fun _ => ?_) (fun h => False.elim (by revert h; decide))
              have kT : oTwo (σ 18) L p = false := by simp [oTwo, hol, h93]
              have kB : oB (σ 18) L p = nI 0 := by rw [oB, kT]; rfl
              have k5 : oq5 (σ 18) L p = q3 := by rw [oq5, kT, k3]; rfl
              refine cw_aload_n (pc := 120) C dX5_parseOrder_120 rfl 4 rfl ?_
              refine cw_callv (pc := 121) C dX5_parseOrder_121 (c_X5_skipBlanks l D Z A σ L o q3 (by omega) (by omega)) (cwV 0 C.1.2.2.2.2 gX5_parseOrder_X5_skipBlanks rfl rfl rfl (by decide +kernel) ⟨Nat.le_of_ble_eq_true rfl, Nat.le_of_ble_eq_true rfl⟩) 17 rfl rfl rfl rfl (Nat.le_of_ble_eq_true rfl) (cw_effv (fun _ h => h) (up2 σ 17 (txR L o (skB (σ 18) L q3))) rfl ?_)
              obtain ⟨q6, hq6⟩ : ∃ z, z = skB (σ 18) L q3 := ⟨_, rfl⟩
              rw [← hq6]
              have k6 : oq6 (σ 18) L p = q6 := by rw [oq6, k5]; exact hq6.symm
              have hr6 : q3 ≤ q6 ∧ q6 ≤ L := by rw [hq6]; exact skB_le (by omega)
              refine cw_aload_n (pc := 124) C dX5_parseOrder_124 rfl 4 rfl ?_
              refine cw_calli (pc := 125) C dX5_parseOrder_125 (c_X5_next l D Z A σ L o q6 (by omega) (by omega)) (cwV 0 C.1.2.2.2.2 gX5_parseOrder_X5_next rfl rfl rfl (by decide +kernel) ⟨Nat.le_of_ble_eq_true rfl, Nat.le_of_ble_eq_true rfl⟩) 17 rfl rfl rfl rfl (Nat.le_of_ble_eq_true rfl) (cw_pure (v := nxt (σ 18) L q6) (fun _ _ h => h) ?_)
              refine cw_bipush (pc := 128) C dX5_parseOrder_128 (nI 59) (by decide) ?_
              refine cw_icmp_eq (pc := 130) (tgt := 135) C dX5_parseOrder_130 (by decide) (fun h130 => ?_) (fun h130 => ?_)
              · -- 130 t
                have hlt6 := nxt_lt (by decide) h130
                refine cw_aload_n (pc := 135) C dX5_parseOrder_135 rfl 4 rfl ?_
                refine cw_dup (pc := 136) C dX5_parseOrder_136 rfl ?_
                refine cw_get (pc := 137) C dX5_parseOrder_137 17 (v := .int (nI q6)) rfl rfl 6 rfl (fun _ h => List.mem_cons_of_mem _ (List.mem_append_right _ h)) (by decide) (List.mem_of_getElem? (i := 1) rfl) ?_
                refine cw_iconst (pc := 140) C dX5_parseOrder_140 (nI 1) (by decide) ?_
                refine cw_iadd (pc := 141) C dX5_parseOrder_141 (z := nI (q6 + 1)) (nI_add _ _) ?_
                have e17 : upd ((up2 σ 17 (txR L o q6)) 17) 6 (nI (q6 + 1)) = txR L o (q6 + 1) := (congrArg (fun f => upd f 6 (nI (q6 + 1))) (show (up2 σ 17 (txR L o q6)) 17 = txR L o q6 from (up2_eq _ _ _))).trans (txR_6 _ _ _ _)
                refine cw_put (pc := 142) C dX5_parseOrder_142 17 (ty := .int) rfl rfl 6 (fun _ h => List.mem_cons_of_mem _ (List.mem_append_right _ h)) tyX5_ok nmX5 (by decide) (List.mem_of_getElem? (i := 1) rfl) rfl (by decide +kernel) rfl rfl (Nat.le_of_ble_eq_true rfl) (up2 σ 17 (txR L o (q6 + 1))) ((wC_p17_6 Z A _ _).trans (congrArg (wC Z A) ((congrArg (fun f => up2 (up2 σ 17 (txR L o q6)) 17 f) e17).trans (up2_up2 _ 17 _ _)))) ?_
                refine cw_aload_n (pc := 145) C dX5_parseOrder_145 rfl 4 rfl ?_
                refine cw_iload_n (pc := 146) C dX5_parseOrder_146 rfl 3 rfl ?_
                refine cw_iload_n (pc := 147) C dX5_parseOrder_147 rfl 2 rfl ?_
                refine cw_if_eq (pc := 148) (tgt := 156) C dX5_parseOrder_148 (by decide) (fun _ => ?_) (fun h => False.elim (by revert h; decide))
                refine cw_iload_n (pc := 156) C dX5_parseOrder_156 rfl 1 rfl ?_
                refine cw_iload (pc := 157) C dX5_parseOrder_157 0 rfl ?_
                refine cw_callv (pc := 159) C dX5_parseOrder_159 (c_X5_addOrder l D Z A σ L o (q6 + 1) (nI lt) av (nI 0) (by omega)) (cwV 3 C.1.2.2.2.2 gX5_parseOrder_X5_addOrder rfl rfl rfl (by decide +kernel) ⟨Nat.le_of_ble_eq_true rfl, Nat.le_of_ble_eq_true rfl⟩) 17 rfl rfl rfl rfl (Nat.le_of_ble_eq_true rfl) (cw_effv (fun _ h => h) (up2 (up2 (up2 (up2 σ 17 (txR L (o + 1) (q6 + 1))) 19 (upd (σ 19) o (nI lt))) 20 (upd (σ 20) o av)) 21 (upd (σ 21) o (nI 0))) rfl ?_)
                refine cw_iconst (pc := 162) C dX5_parseOrder_162 (nI 1) (by decide) ?_
                refine hret true (up2 (up2 (up2 (up2 σ 17 (txR L (o + 1) (q6 + 1))) 19 (upd (σ 19) o (nI lt))) 20 (upd (σ 20) o av)) 21 (upd (σ 21) o (nI 0))) _ _ dX5_parseOrder_163 ?_
                clear hret
                refine Or.inr ⟨?_, rfl, ?_⟩
                · rw [oF, if_neg (by rw [hol]; omega), if_neg (by rw [kA]; exact h83), if_neg (by rw [kB]; decide), if_pos (by rw [k6]; exact h130)]
                · rw [k6, hol, kB, oAs, kN, kA]
                  rfl
              · -- 130 f
                refine cw_iconst (pc := 133) C dX5_parseOrder_133 (nI 0) (by decide) ?_
                refine hret false (up2 σ 17 (txR L o q6)) _ _ dX5_parseOrder_134 ?_
                clear hret
                refine Or.inl ⟨q6, ?_, rfl, rfl⟩
                rw [oF, if_neg (by rw [hol]; omega), if_neg (by rw [kA]; exact h83), if_neg (by rw [kB]; decide), if_neg (by rw [k6]; exact h130), k6]
            · -- 93 f
              have h93 : ¬ (lt = 5) := fun qq => h93 ((nc_eq (a := lt) (b := 5) (by omega) (by omega)).mpr qq)
              refine cw_iload_n (pc := 96) C dX5_parseOrder_96 rfl 3 rfl ?_
              refine cw_bipush (pc := 97) C dX5_parseOrder_97 (nI 6) (by decide) ?_
              refine cw_icmp_eq (pc := 99) (tgt := 112) C dX5_parseOrder_99 (by decide) (fun h99 => ?_) (fun h99 => ?_)
              · -- 99 t
                have h99 : lt = 6 := (nc_eq (a := lt) (b := 6) (by omega) (by omega)).mp h99
                refine cw_iload (pc := 112) C dX5_parseOrder_112 0 rfl ?_
                refine cw_iconst (pc := 114) C dX5_parseOrder_114 (-1) (by decide) ?_
                refine cw_icmp_ne (pc := 115) (tgt := 120) C dX5_parseOrder_115 (by decide) (fun _ => ?_) (fun h => False.elim (by revert h; decide))
                have kT : oTwo (σ 18) L p = false := by simp [oTwo, hol, h99]
                have kB : oB (σ 18) L p = nI 0 := by rw [oB, kT]; rfl
                have k5 : oq5 (σ 18) L p = q3 := by rw [oq5, kT, k3]; rfl
                refine cw_aload_n (pc := 120) C dX5_parseOrder_120 rfl 4 rfl ?_
                refine cw_callv (pc := 121) C dX5_parseOrder_121 (c_X5_skipBlanks l D Z A σ L o q3 (by omega) (by omega)) (cwV 0 C.1.2.2.2.2 gX5_parseOrder_X5_skipBlanks rfl rfl rfl (by decide +kernel) ⟨Nat.le_of_ble_eq_true rfl, Nat.le_of_ble_eq_true rfl⟩) 17 rfl rfl rfl rfl (Nat.le_of_ble_eq_true rfl) (cw_effv (fun _ h => h) (up2 σ 17 (txR L o (skB (σ 18) L q3))) rfl ?_)
                obtain ⟨q6, hq6⟩ : ∃ z, z = skB (σ 18) L q3 := ⟨_, rfl⟩
                rw [← hq6]
                have k6 : oq6 (σ 18) L p = q6 := by rw [oq6, k5]; exact hq6.symm
                have hr6 : q3 ≤ q6 ∧ q6 ≤ L := by rw [hq6]; exact skB_le (by omega)
                refine cw_aload_n (pc := 124) C dX5_parseOrder_124 rfl 4 rfl ?_
                refine cw_calli (pc := 125) C dX5_parseOrder_125 (c_X5_next l D Z A σ L o q6 (by omega) (by omega)) (cwV 0 C.1.2.2.2.2 gX5_parseOrder_X5_next rfl rfl rfl (by decide +kernel) ⟨Nat.le_of_ble_eq_true rfl, Nat.le_of_ble_eq_true rfl⟩) 17 rfl rfl rfl rfl (Nat.le_of_ble_eq_true rfl) (cw_pure (v := nxt (σ 18) L q6) (fun _ _ h => h) ?_)
                refine cw_bipush (pc := 128) C dX5_parseOrder_128 (nI 59) (by decide) ?_
                refine cw_icmp_eq (pc := 130) (tgt := 135) C dX5_parseOrder_130 (by decide) (fun h130 => ?_) (fun h130 => ?_)
                · -- 130 t
                  have hlt6 := nxt_lt (by decide) h130
                  refine cw_aload_n (pc := 135) C dX5_parseOrder_135 rfl 4 rfl ?_
                  refine cw_dup (pc := 136) C dX5_parseOrder_136 rfl ?_
                  refine cw_get (pc := 137) C dX5_parseOrder_137 17 (v := .int (nI q6)) rfl rfl 6 rfl (fun _ h => List.mem_cons_of_mem _ (List.mem_append_right _ h)) (by decide) (List.mem_of_getElem? (i := 1) rfl) ?_
                  refine cw_iconst (pc := 140) C dX5_parseOrder_140 (nI 1) (by decide) ?_
                  refine cw_iadd (pc := 141) C dX5_parseOrder_141 (z := nI (q6 + 1)) (nI_add _ _) ?_
                  have e17 : upd ((up2 σ 17 (txR L o q6)) 17) 6 (nI (q6 + 1)) = txR L o (q6 + 1) := (congrArg (fun f => upd f 6 (nI (q6 + 1))) (show (up2 σ 17 (txR L o q6)) 17 = txR L o q6 from (up2_eq _ _ _))).trans (txR_6 _ _ _ _)
                  refine cw_put (pc := 142) C dX5_parseOrder_142 17 (ty := .int) rfl rfl 6 (fun _ h => List.mem_cons_of_mem _ (List.mem_append_right _ h)) tyX5_ok nmX5 (by decide) (List.mem_of_getElem? (i := 1) rfl) rfl (by decide +kernel) rfl rfl (Nat.le_of_ble_eq_true rfl) (up2 σ 17 (txR L o (q6 + 1))) ((wC_p17_6 Z A _ _).trans (congrArg (wC Z A) ((congrArg (fun f => up2 (up2 σ 17 (txR L o q6)) 17 f) e17).trans (up2_up2 _ 17 _ _)))) ?_
                  refine cw_aload_n (pc := 145) C dX5_parseOrder_145 rfl 4 rfl ?_
                  refine cw_iload_n (pc := 146) C dX5_parseOrder_146 rfl 3 rfl ?_
                  refine cw_iload_n (pc := 147) C dX5_parseOrder_147 rfl 2 rfl ?_
                  refine cw_if_eq (pc := 148) (tgt := 156) C dX5_parseOrder_148 (by decide) (fun _ => ?_) (fun h => False.elim (by revert h; decide))
                  refine cw_iload_n (pc := 156) C dX5_parseOrder_156 rfl 1 rfl ?_
                  refine cw_iload (pc := 157) C dX5_parseOrder_157 0 rfl ?_
                  refine cw_callv (pc := 159) C dX5_parseOrder_159 (c_X5_addOrder l D Z A σ L o (q6 + 1) (nI lt) av (nI 0) (by omega)) (cwV 3 C.1.2.2.2.2 gX5_parseOrder_X5_addOrder rfl rfl rfl (by decide +kernel) ⟨Nat.le_of_ble_eq_true rfl, Nat.le_of_ble_eq_true rfl⟩) 17 rfl rfl rfl rfl (Nat.le_of_ble_eq_true rfl) (cw_effv (fun _ h => h) (up2 (up2 (up2 (up2 σ 17 (txR L (o + 1) (q6 + 1))) 19 (upd (σ 19) o (nI lt))) 20 (upd (σ 20) o av)) 21 (upd (σ 21) o (nI 0))) rfl ?_)
                  refine cw_iconst (pc := 162) C dX5_parseOrder_162 (nI 1) (by decide) ?_
                  refine hret true (up2 (up2 (up2 (up2 σ 17 (txR L (o + 1) (q6 + 1))) 19 (upd (σ 19) o (nI lt))) 20 (upd (σ 20) o av)) 21 (upd (σ 21) o (nI 0))) _ _ dX5_parseOrder_163 ?_
                  clear hret
                  refine Or.inr ⟨?_, rfl, ?_⟩
                  · rw [oF, if_neg (by rw [hol]; omega), if_neg (by rw [kA]; exact h83), if_neg (by rw [kB]; decide), if_pos (by rw [k6]; exact h130)]
                  · rw [k6, hol, kB, oAs, kN, kA]
                    rfl
                · -- 130 f
                  refine cw_iconst (pc := 133) C dX5_parseOrder_133 (nI 0) (by decide) ?_
                  refine hret false (up2 σ 17 (txR L o q6)) _ _ dX5_parseOrder_134 ?_
                  clear hret
                  refine Or.inl ⟨q6, ?_, rfl, rfl⟩
                  rw [oF, if_neg (by rw [hol]; omega), if_neg (by rw [kA]; exact h83), if_neg (by rw [kB]; decide), if_neg (by rw [k6]; exact h130), k6]
              · -- 99 f
                have h99 : ¬ (lt = 6) := fun qq => h99 ((nc_eq (a := lt) (b := 6) (by omega) (by omega)).mpr qq)
                have kT : oTwo (σ 18) L p = true := by simp [oTwo, hol, h93, h99]
                refine cw_aload_n (pc := 102) C dX5_parseOrder_102 rfl 4 rfl ?_
                refine cw_callv (pc := 103) C dX5_parseOrder_103 (c_X5_skipBlanks l D Z A σ L o q3 (by omega) (by omega)) (cwV 0 C.1.2.2.2.2 gX5_parseOrder_X5_skipBlanks rfl rfl rfl (by decide +kernel) ⟨Nat.le_of_ble_eq_true rfl, Nat.le_of_ble_eq_true rfl⟩) 17 rfl rfl rfl rfl (Nat.le_of_ble_eq_true rfl) (cw_effv (fun _ h => h) (up2 σ 17 (txR L o (skB (σ 18) L q3))) rfl ?_)
                obtain ⟨q4, hq4⟩ : ∃ z, z = skB (σ 18) L q3 := ⟨_, rfl⟩
                rw [← hq4]
                have k4 : oq4 (σ 18) L p = q4 := by rw [oq4, k3]; exact hq4.symm
                have hr4 : q3 ≤ q4 ∧ q4 ≤ L := by rw [hq4]; exact skB_le (by omega)
                refine cw_aload_n (pc := 106) C dX5_parseOrder_106 rfl 4 rfl ?_
                refine cw_calli (pc := 107) C dX5_parseOrder_107 (c_X5_parseNumber l D Z A σ L o q4 (by omega) (by omega)) (cwV 0 C.1.2.2.2.2 gX5_parseOrder_X5_parseNumber rfl rfl rfl (by decide +kernel) ⟨Nat.le_of_ble_eq_true rfl, Nat.le_of_ble_eq_true rfl⟩) 17 rfl rfl rfl rfl (Nat.le_of_ble_eq_true rfl) (cw_eff (v := numR (σ 18) L q4) (fun _ _ h => h) (up2 σ 17 (txR L o (q4 + nk (σ 18) L q4))) rfl ?_)
                have hk5 := nk_le (B := σ 18) (L := L) (p := q4) (by omega)
                obtain ⟨q5, hq5⟩ : ∃ z, z = q4 + nk (σ 18) L q4 := ⟨_, rfl⟩
                rw [← hq5]
                obtain ⟨bv, hbv⟩ : ∃ z, z = numR (σ 18) L q4 := ⟨_, rfl⟩
                rw [← hbv]
                have kB : oB (σ 18) L p = bv := by rw [oB, if_pos kT, k4]; exact hbv.symm
                have k5 : oq5 (σ 18) L p = q5 := by rw [oq5, if_pos kT, k4]; exact hq5.symm
                refine cw_istore (pc := 110) C dX5_parseOrder_110 (by decide) (lv' := [(4, .int (bv)), (3, .int (av)), (2, .int (nI 0)), (1, .int (nI lt)), (0, .ref (A 17))]) rfl ?_
                refine cw_iload (pc := 112) C dX5_parseOrder_112 0 rfl ?_
                refine cw_iconst (pc := 114) C dX5_parseOrder_114 (-1) (by decide) ?_
                refine cw_icmp_ne (pc := 115) (tgt := 120) C dX5_parseOrder_115 (by decide) (fun h115 => ?_) (fun h115 => ?_)
                · -- 115 t
                  refine cw_aload_n (pc := 120) C dX5_parseOrder_120 rfl 4 rfl ?_
                  refine cw_callv (pc := 121) C dX5_parseOrder_121 (c_X5_skipBlanks l D Z A σ L o q5 (by omega) (by omega)) (cwV 0 C.1.2.2.2.2 gX5_parseOrder_X5_skipBlanks rfl rfl rfl (by decide +kernel) ⟨Nat.le_of_ble_eq_true rfl, Nat.le_of_ble_eq_true rfl⟩) 17 rfl rfl rfl rfl (Nat.le_of_ble_eq_true rfl) (cw_effv (fun _ h => h) (up2 σ 17 (txR L o (skB (σ 18) L q5))) rfl ?_)
                  obtain ⟨q6, hq6⟩ : ∃ z, z = skB (σ 18) L q5 := ⟨_, rfl⟩
                  rw [← hq6]
                  have k6 : oq6 (σ 18) L p = q6 := by rw [oq6, k5]; exact hq6.symm
                  have hr6 : q5 ≤ q6 ∧ q6 ≤ L := by rw [hq6]; exact skB_le (by omega)
                  refine cw_aload_n (pc := 124) C dX5_parseOrder_124 rfl 4 rfl ?_
                  refine cw_calli (pc := 125) C dX5_parseOrder_125 (c_X5_next l D Z A σ L o q6 (by omega) (by omega)) (cwV 0 C.1.2.2.2.2 gX5_parseOrder_X5_next rfl rfl rfl (by decide +kernel) ⟨Nat.le_of_ble_eq_true rfl, Nat.le_of_ble_eq_true rfl⟩) 17 rfl rfl rfl rfl (Nat.le_of_ble_eq_true rfl) (cw_pure (v := nxt (σ 18) L q6) (fun _ _ h => h) ?_)
                  refine cw_bipush (pc := 128) C dX5_parseOrder_128 (nI 59) (by decide) ?_
                  refine cw_icmp_eq (pc := 130) (tgt := 135) C dX5_parseOrder_130 (by decide) (fun h130 => ?_) (fun h130 => ?_)
                  · -- 130 t
                    have hlt6 := nxt_lt (by decide) h130
                    refine cw_aload_n (pc := 135) C dX5_parseOrder_135 rfl 4 rfl ?_
                    refine cw_dup (pc := 136) C dX5_parseOrder_136 rfl ?_
                    refine cw_get (pc := 137) C dX5_parseOrder_137 17 (v := .int (nI q6)) rfl rfl 6 rfl (fun _ h => List.mem_cons_of_mem _ (List.mem_append_right _ h)) (by decide) (List.mem_of_getElem? (i := 1) rfl) ?_
                    refine cw_iconst (pc := 140) C dX5_parseOrder_140 (nI 1) (by decide) ?_
                    refine cw_iadd (pc := 141) C dX5_parseOrder_141 (z := nI (q6 + 1)) (nI_add _ _) ?_
                    have e17 : upd ((up2 σ 17 (txR L o q6)) 17) 6 (nI (q6 + 1)) = txR L o (q6 + 1) := (congrArg (fun f => upd f 6 (nI (q6 + 1))) (show (up2 σ 17 (txR L o q6)) 17 = txR L o q6 from (up2_eq _ _ _))).trans (txR_6 _ _ _ _)
                    refine cw_put (pc := 142) C dX5_parseOrder_142 17 (ty := .int) rfl rfl 6 (fun _ h => List.mem_cons_of_mem _ (List.mem_append_right _ h)) tyX5_ok nmX5 (by decide) (List.mem_of_getElem? (i := 1) rfl) rfl (by decide +kernel) rfl rfl (Nat.le_of_ble_eq_true rfl) (up2 σ 17 (txR L o (q6 + 1))) ((wC_p17_6 Z A _ _).trans (congrArg (wC Z A) ((congrArg (fun f => up2 (up2 σ 17 (txR L o q6)) 17 f) e17).trans (up2_up2 _ 17 _ _)))) ?_
                    refine cw_aload_n (pc := 145) C dX5_parseOrder_145 rfl 4 rfl ?_
                    refine cw_iload_n (pc := 146) C dX5_parseOrder_146 rfl 3 rfl ?_
                    refine cw_iload_n (pc := 147) C dX5_parseOrder_147 rfl 2 rfl ?_
                    refine cw_if_eq (pc := 148) (tgt := 156) C dX5_parseOrder_148 (by decide) (fun _ => ?_) (fun h => False.elim (by revert h; decide))
                    refine cw_iload_n (pc := 156) C dX5_parseOrder_156 rfl 1 rfl ?_
                    refine cw_iload (pc := 157) C dX5_parseOrder_157 0 rfl ?_
                    refine cw_callv (pc := 159) C dX5_parseOrder_159 (c_X5_addOrder l D Z A σ L o (q6 + 1) (nI lt) av bv (by omega)) (cwV 3 C.1.2.2.2.2 gX5_parseOrder_X5_addOrder rfl rfl rfl (by decide +kernel) ⟨Nat.le_of_ble_eq_true rfl, Nat.le_of_ble_eq_true rfl⟩) 17 rfl rfl rfl rfl (Nat.le_of_ble_eq_true rfl) (cw_effv (fun _ h => h) (up2 (up2 (up2 (up2 σ 17 (txR L (o + 1) (q6 + 1))) 19 (upd (σ 19) o (nI lt))) 20 (upd (σ 20) o av)) 21 (upd (σ 21) o bv)) rfl ?_)
                    refine cw_iconst (pc := 162) C dX5_parseOrder_162 (nI 1) (by decide) ?_
                    refine hret true (up2 (up2 (up2 (up2 σ 17 (txR L (o + 1) (q6 + 1))) 19 (upd (σ 19) o (nI lt))) 20 (upd (σ 20) o av)) 21 (upd (σ 21) o bv)) _ _ dX5_parseOrder_163 ?_
                    clear hret
                    refine Or.inr ⟨?_, rfl, ?_⟩
                    · rw [oF, if_neg (by rw [hol]; omega), if_neg (by rw [kA]; exact h83), if_neg (by rw [kB]; exact h115), if_pos (by rw [k6]; exact h130)]
                    · rw [k6, hol, kB, oAs, kN, kA]
                      rfl
                  · -- 130 f
                    refine cw_iconst (pc := 133) C dX5_parseOrder_133 (nI 0) (by decide) ?_
                    refine hret false (up2 σ 17 (txR L o q6)) _ _ dX5_parseOrder_134 ?_
                    clear hret
                    refine Or.inl ⟨q6, ?_, rfl, rfl⟩
                    rw [oF, if_neg (by rw [hol]; omega), if_neg (by rw [kA]; exact h83), if_neg (by rw [kB]; exact h115), if_neg (by rw [k6]; exact h130), k6]
                · -- 115 f
                  refine cw_iconst (pc := 118) C dX5_parseOrder_118 (nI 0) (by decide) ?_
                  refine hret false (up2 σ 17 (txR L o q5)) _ _ dX5_parseOrder_119 ?_
                  clear hret
                  refine Or.inl ⟨q5, ?_, rfl, rfl⟩
                  rw [oF, if_neg (by rw [hol]; omega), if_neg (by rw [kA]; exact h83), if_pos (by rw [kB]; exact h115), k5]
          · -- 83 f
            refine cw_iconst (pc := 86) C dX5_parseOrder_86 (nI 0) (by decide) ?_
            refine hret false (up2 σ 17 (txR L o q3)) _ _ dX5_parseOrder_87 ?_
            clear hret
            refine Or.inl ⟨q3, ?_, rfl, rfl⟩
            rw [oF, if_neg (by rw [hol]; omega), if_pos (by rw [kA]; exact h83), k3]
        · -- 53 f
          refine cw_iconst (pc := 56) C dX5_parseOrder_56 (nI 1) (by decide) ?_
          refine cw_goto (pc := 57) (tgt := 61) C dX5_parseOrder_57 (by decide) ?_
          refine cw_istore_n (pc := 61) C dX5_parseOrder_61 rfl (by decide) (lv' := [(2, .int (nI 1)), (1, .int (nI lt)), (0, .ref (A 17))]) rfl ?_
          refine cw_iload_n (pc := 62) C dX5_parseOrder_62 rfl 0 rfl ?_
          refine cw_if_eq (pc := 63) (tgt := 76) C dX5_parseOrder_63 (by decide) (fun h => False.elim (by revert h; decide)) (fun _ => ?_)
          refine cw_aload_n (pc := 66) C dX5_parseOrder_66 rfl 2 rfl ?_
          refine cw_dup (pc := 67) C dX5_parseOrder_67 rfl ?_
          refine cw_get (pc := 68) C dX5_parseOrder_68 17 (v := .int (nI q1)) rfl rfl 6 rfl (fun _ h => List.mem_cons_of_mem _ (List.mem_append_right _ h)) (by decide) (List.mem_of_getElem? (i := 1) rfl) ?_
          refine cw_iconst (pc := 71) C dX5_parseOrder_71 (nI 1) (by decide) ?_
          refine cw_iadd (pc := 72) C dX5_parseOrder_72 (z := nI (q1 + 1)) (nI_add _ _) ?_
          have e17 : upd ((up2 σ 17 (txR L o q1)) 17) 6 (nI (q1 + 1)) = txR L o (q1 + 1) := (congrArg (fun f => upd f 6 (nI (q1 + 1))) (show (up2 σ 17 (txR L o q1)) 17 = txR L o q1 from (up2_eq _ _ _))).trans (txR_6 _ _ _ _)
          refine cw_put (pc := 73) C dX5_parseOrder_73 17 (ty := .int) rfl rfl 6 (fun _ h => List.mem_cons_of_mem _ (List.mem_append_right _ h)) tyX5_ok nmX5 (by decide) (List.mem_of_getElem? (i := 1) rfl) rfl (by decide +kernel) rfl rfl (Nat.le_of_ble_eq_true rfl) (up2 σ 17 (txR L o (q1 + 1))) ((wC_p17_6 Z A _ _).trans (congrArg (wC Z A) ((congrArg (fun f => up2 (up2 σ 17 (txR L o q1)) 17 f) e17).trans (up2_up2 _ 17 _ _)))) ?_
          have kN : oN (σ 18) L p = true := by simp [oN, hol, k1, h44, h53]
          have k2 : oq2 (σ 18) L p = q1 + 1 := by rw [oq2, kN, k1]; rfl
          have hlt2 := nxt_lt (by decide) h53
          refine cw_aload_n (pc := 76) C dX5_parseOrder_76 rfl 2 rfl ?_
          refine cw_calli (pc := 77) C dX5_parseOrder_77 (c_X5_parseNumber l D Z A σ L o (q1 + 1) (by omega) (by omega)) (cwV 0 C.1.2.2.2.2 gX5_parseOrder_X5_parseNumber rfl rfl rfl (by decide +kernel) ⟨Nat.le_of_ble_eq_true rfl, Nat.le_of_ble_eq_true rfl⟩) 17 rfl rfl rfl rfl (Nat.le_of_ble_eq_true rfl) (cw_eff (v := numR (σ 18) L (q1 + 1)) (fun _ _ h => h) (up2 σ 17 (txR L o ((q1 + 1) + nk (σ 18) L (q1 + 1)))) rfl ?_)
          have hk3 := nk_le (B := σ 18) (L := L) (p := q1 + 1) (by omega)
          obtain ⟨q3, hq3⟩ : ∃ z, z = q1 + 1 + nk (σ 18) L (q1 + 1) := ⟨_, rfl⟩
          rw [← hq3]
          obtain ⟨av, hav⟩ : ∃ z, z = numR (σ 18) L (q1 + 1) := ⟨_, rfl⟩
          rw [← hav]
          have kA : oA (σ 18) L p = av := by rw [oA, k2]; exact hav.symm
          have k3 : oq3 (σ 18) L p = q3 := by rw [oq3, k2]; exact hq3.symm
          refine cw_istore_n (pc := 80) C dX5_parseOrder_80 rfl (by decide) (lv' := [(3, .int (av)), (2, .int (nI 1)), (1, .int (nI lt)), (0, .ref (A 17))]) rfl ?_
          refine cw_iload_n (pc := 81) C dX5_parseOrder_81 rfl 0 rfl ?_
          refine cw_iconst (pc := 82) C dX5_parseOrder_82 (-1) (by decide) ?_
          refine cw_icmp_ne (pc := 83) (tgt := 88) C dX5_parseOrder_83 (by decide) (fun h83 => ?_) (fun h83 => ?_)
          · -- 83 t
            refine cw_iconst (pc := 88) C dX5_parseOrder_88 (nI 0) (by decide) ?_
            refine cw_istore (pc := 89) C dX5_parseOrder_89 (by decide) (lv' := [(4, .int (nI 0)), (3, .int (av)), (2, .int (nI 1)), (1, .int (nI lt)), (0, .ref (A 17))]) rfl ?_
            refine cw_iload_n (pc := 91) C dX5_parseOrder_91 rfl 3 rfl ?_
            refine cw_iconst (pc := 92) C dX5_parseOrder_92 (nI 5) (by decide) ?_
            refine cw_icmp_eq (pc := 93) (tgt := 112) C dX5_parseOrder_93 (by decide) (fun h93 => ?_) (fun h93 => ?_)
            · -- 93 t
              have h93 : lt = 5 := (nc_eq (a := lt) (b := 5) (by omega) (by omega)).mp h93
              refine cw_iload (pc := 112) C dX5_parseOrder_112 0 rfl ?_
              refine cw_iconst (pc := 114) C dX5_parseOrder_114 (-1) (by decide) ?_
              refine cw_icmp_ne (pc := 115) (tgt := 120) C dX5_parseOrder_115 (by decide) (fun _ => ?_) (fun h => False.elim (by revert h; decide))
              have kT : oTwo (σ 18) L p = false := by simp [oTwo, hol, h93]
              have kB : oB (σ 18) L p = nI 0 := by rw [oB, kT]; rfl
              have k5 : oq5 (σ 18) L p = q3 := by rw [oq5, kT, k3]; rfl
              refine cw_aload_n (pc := 120) C dX5_parseOrder_120 rfl 4 rfl ?_
              refine cw_callv (pc := 121) C dX5_parseOrder_121 (c_X5_skipBlanks l D Z A σ L o q3 (by omega) (by omega)) (cwV 0 C.1.2.2.2.2 gX5_parseOrder_X5_skipBlanks rfl rfl rfl (by decide +kernel) ⟨Nat.le_of_ble_eq_true rfl, Nat.le_of_ble_eq_true rfl⟩) 17 rfl rfl rfl rfl (Nat.le_of_ble_eq_true rfl) (cw_effv (fun _ h => h) (up2 σ 17 (txR L o (skB (σ 18) L q3))) rfl ?_)
              obtain ⟨q6, hq6⟩ : ∃ z, z = skB (σ 18) L q3 := ⟨_, rfl⟩
              rw [← hq6]
              have k6 : oq6 (σ 18) L p = q6 := by rw [oq6, k5]; exact hq6.symm
              have hr6 : q3 ≤ q6 ∧ q6 ≤ L := by rw [hq6]; exact skB_le (by omega)
              refine cw_aload_n (pc := 124) C dX5_parseOrder_124 rfl 4 rfl ?_
              refine cw_calli (pc := 125) C dX5_parseOrder_125 (c_X5_next l D Z A σ L o q6 (by omega) (by omega)) (cwV 0 C.1.2.2.2.2 gX5_parseOrder_X5_next rfl rfl rfl (by decide +kernel) ⟨Nat.le_of_ble_eq_true rfl, Nat.le_of_ble_eq_true rfl⟩) 17 rfl rfl rfl rfl (Nat.le_of_ble_eq_true rfl) (cw_pure (v := nxt (σ 18) L q6) (fun _ _ h => h) ?_)
              refine cw_bipush (pc := 128) C dX5_parseOrder_128 (nI 59) (by decide) ?_
              refine cw_icmp_eq (pc := 130) (tgt := 135) C dX5_parseOrder_130 (by decide) (fun h130 => ?_) (fun h130 => ?_)
              · -- 130 t
                have hlt6 := nxt_lt (by decide) h130
                refine cw_aload_n (pc := 135) C dX5_parseOrder_135 rfl 4 rfl ?_
                refine cw_dup (pc := 136) C dX5_parseOrder_136 rfl ?_
                refine cw_get (pc := 137) C dX5_parseOrder_137 17 (v := .int (nI q6)) rfl rfl 6 rfl (fun _ h => List.mem_cons_of_mem _ (List.mem_append_right _ h)) (by decide) (List.mem_of_getElem? (i := 1) rfl) ?_
                refine cw_iconst (pc := 140) C dX5_parseOrder_140 (nI 1) (by decide) ?_
                refine cw_iadd (pc := 141) C dX5_parseOrder_141 (z := nI (q6 + 1)) (nI_add _ _) ?_
                have e17 : upd ((up2 σ 17 (txR L o q6)) 17) 6 (nI (q6 + 1)) = txR L o (q6 + 1) := (congrArg (fun f => upd f 6 (nI (q6 + 1))) (show (up2 σ 17 (txR L o q6)) 17 = txR L o q6 from (up2_eq _ _ _))).trans (txR_6 _ _ _ _)
                refine cw_put (pc := 142) C dX5_parseOrder_142 17 (ty := .int) rfl rfl 6 (fun _ h => List.mem_cons_of_mem _ (List.mem_append_right _ h)) tyX5_ok nmX5 (by decide) (List.mem_of_getElem? (i := 1) rfl) rfl (by decide +kernel) rfl rfl (Nat.le_of_ble_eq_true rfl) (up2 σ 17 (txR L o (q6 + 1))) ((wC_p17_6 Z A _ _).trans (congrArg (wC Z A) ((congrArg (fun f => up2 (up2 σ 17 (txR L o q6)) 17 f) e17).trans (up2_up2 _ 17 _ _)))) ?_
                refine cw_aload_n (pc := 145) C dX5_parseOrder_145 rfl 4 rfl ?_
                refine cw_iload_n (pc := 146) C dX5_parseOrder_146 rfl 3 rfl ?_
                refine cw_iload_n (pc := 147) C dX5_parseOrder_147 rfl 2 rfl ?_
                refine cw_if_eq (pc := 148) (tgt := 156) C dX5_parseOrder_148 (by decide) (fun h => False.elim (by revert h; decide)) (fun _ => ?_)
                refine cw_iload_n (pc := 151) C dX5_parseOrder_151 rfl 1 rfl ?_
                refine cw_ineg (pc := 152) C dX5_parseOrder_152 (z := -av) rfl ?_
                refine cw_goto (pc := 153) (tgt := 157) C dX5_parseOrder_153 (by decide) ?_
                refine cw_iload (pc := 157) C dX5_parseOrder_157 0 rfl ?_
                refine cw_callv (pc := 159) C dX5_parseOrder_159 (c_X5_addOrder l D Z A σ L o (q6 + 1) (nI lt) (-av) (nI 0) (by omega)) (cwV 3 C.1.2.2.2.2 gX5_parseOrder_X5_addOrder rfl rfl rfl (by decide +kernel) ⟨Nat.le_of_ble_eq_true rfl, Nat.le_of_ble_eq_true rfl⟩) 17 rfl rfl rfl rfl (Nat.le_of_ble_eq_true rfl) (cw_effv (fun _ h => h) (up2 (up2 (up2 (up2 σ 17 (txR L (o + 1) (q6 + 1))) 19 (upd (σ 19) o (nI lt))) 20 (upd (σ 20) o (-av))) 21 (upd (σ 21) o (nI 0))) rfl ?_)
                refine cw_iconst (pc := 162) C dX5_parseOrder_162 (nI 1) (by decide) ?_
                refine hret true (up2 (up2 (up2 (up2 σ 17 (txR L (o + 1) (q6 + 1))) 19 (upd (σ 19) o (nI lt))) 20 (upd (σ 20) o (-av))) 21 (upd (σ 21) o (nI 0))) _ _ dX5_parseOrder_163 ?_
                clear hret
                refine Or.inr ⟨?_, rfl, ?_⟩
                · rw [oF, if_neg (by rw [hol]; omega), if_neg (by rw [kA]; exact h83), if_neg (by rw [kB]; decide), if_pos (by rw [k6]; exact h130)]
                · rw [k6, hol, kB, oAs, kN, kA]
                  rfl
              · -- 130 f
                refine cw_iconst (pc := 133) C dX5_parseOrder_133 (nI 0) (by decide) ?_
                refine hret false (up2 σ 17 (txR L o q6)) _ _ dX5_parseOrder_134 ?_
                clear hret
                refine Or.inl ⟨q6, ?_, rfl, rfl⟩
                rw [oF, if_neg (by rw [hol]; omega), if_neg (by rw [kA]; exact h83), if_neg (by rw [kB]; decide), if_neg (by rw [k6]; exact h130), k6]
            · -- 93 f
              have h93 : ¬ (lt = 5) := fun qq => h93 ((nc_eq (a := lt) (b := 5) (by omega) (by omega)).mpr qq)
              refine cw_iload_n (pc := 96) C dX5_parseOrder_96 rfl 3 rfl ?_
              refine cw_bipush (pc := 97) C dX5_parseOrder_97 (nI 6) (by decide) ?_
              refine cw_icmp_eq (pc := 99) (tgt := 112) C dX5_parseOrder_99 (by decide) (fun h99 => ?_) (fun h99 => ?_)
              · -- 99 t
                have h99 : lt = 6 := (nc_eq (a := lt) (b := 6) (by omega) (by omega)).mp h99
                refine cw_iload (pc := 112) C dX5_parseOrder_112 0 rfl ?_
                refine cw_iconst (pc := 114) C dX5_parseOrder_114 (-1) (by decide) ?_
                refine cw_icmp_ne (pc := 115) (tgt := 120) C dX5_parseOrder_115 (by decide) (fun _ => ?_) (fun h => False.elim (by revert h; decide))
                have kT : oTwo (σ 18) L p = false := by simp [oTwo, hol, h99]
                have kB : oB (σ 18) L p = nI 0 := by rw [oB, kT]; rfl
                have k5 : oq5 (σ 18) L p = q3 := by rw [oq5, kT, k3]; rfl
                refine cw_aload_n (pc := 120) C dX5_parseOrder_120 rfl 4 rfl ?_
                refine cw_callv (pc := 121) C dX5_parseOrder_121 (c_X5_skipBlanks l D Z A σ L o q3 (by omega) (by omega)) (cwV 0 C.1.2.2.2.2 gX5_parseOrder_X5_skipBlanks rfl rfl rfl (by decide +kernel) ⟨Nat.le_of_ble_eq_true rfl, Nat.le_of_ble_eq_true rfl⟩) 17 rfl rfl rfl rfl (Nat.le_of_ble_eq_true rfl) (cw_effv (fun _ h => h) (up2 σ 17 (txR L o (skB (σ 18) L q3))) rfl ?_)
                obtain ⟨q6, hq6⟩ : ∃ z, z = skB (σ 18) L q3 := ⟨_, rfl⟩
                rw [← hq6]
                have k6 : oq6 (σ 18) L p = q6 := by rw [oq6, k5]; exact hq6.symm
                have hr6 : q3 ≤ q6 ∧ q6 ≤ L := by rw [hq6]; exact skB_le (by omega)
                refine cw_aload_n (pc := 124) C dX5_parseOrder_124 rfl 4 rfl ?_
                refine cw_calli (pc := 125) C dX5_parseOrder_125 (c_X5_next l D Z A σ L o q6 (by omega) (by omega)) (cwV 0 C.1.2.2.2.2 gX5_parseOrder_X5_next rfl rfl rfl (by decide +kernel) ⟨Nat.le_of_ble_eq_true rfl, Nat.le_of_ble_eq_true rfl⟩) 17 rfl rfl rfl rfl (Nat.le_of_ble_eq_true rfl) (cw_pure (v := nxt (σ 18) L q6) (fun _ _ h => h) ?_)
                refine cw_bipush (pc := 128) C dX5_parseOrder_128 (nI 59) (by decide) ?_
                refine cw_icmp_eq (pc := 130) (tgt := 135) C dX5_parseOrder_130 (by decide) (fun h130 => ?_) (fun h130 => ?_)
                · -- 130 t
                  have hlt6 := nxt_lt (by decide) h130
                  refine cw_aload_n (pc := 135) C dX5_parseOrder_135 rfl 4 rfl ?_
                  refine cw_dup (pc := 136) C dX5_parseOrder_136 rfl ?_
                  refine cw_get (pc := 137) C dX5_parseOrder_137 17 (v := .int (nI q6)) rfl rfl 6 rfl (fun _ h => List.mem_cons_of_mem _ (List.mem_append_right _ h)) (by decide) (List.mem_of_getElem? (i := 1) rfl) ?_
                  refine cw_iconst (pc := 140) C dX5_parseOrder_140 (nI 1) (by decide) ?_
                  refine cw_iadd (pc := 141) C dX5_parseOrder_141 (z := nI (q6 + 1)) (nI_add _ _) ?_
                  have e17 : upd ((up2 σ 17 (txR L o q6)) 17) 6 (nI (q6 + 1)) = txR L o (q6 + 1) := (congrArg (fun f => upd f 6 (nI (q6 + 1))) (show (up2 σ 17 (txR L o q6)) 17 = txR L o q6 from (up2_eq _ _ _))).trans (txR_6 _ _ _ _)
                  refine cw_put (pc := 142) C dX5_parseOrder_142 17 (ty := .int) rfl rfl 6 (fun _ h => List.mem_cons_of_mem _ (List.mem_append_right _ h)) tyX5_ok nmX5 (by decide) (List.mem_of_getElem? (i := 1) rfl) rfl (by decide +kernel) rfl rfl (Nat.le_of_ble_eq_true rfl) (up2 σ 17 (txR L o (q6 + 1))) ((wC_p17_6 Z A _ _).trans (congrArg (wC Z A) ((congrArg (fun f => up2 (up2 σ 17 (txR L o q6)) 17 f) e17).trans (up2_up2 _ 17 _ _)))) ?_
                  refine cw_aload_n (pc := 145) C dX5_parseOrder_145 rfl 4 rfl ?_
                  refine cw_iload_n (pc := 146) C dX5_parseOrder_146 rfl 3 rfl ?_
                  refine cw_iload_n (pc := 147) C dX5_parseOrder_147 rfl 2 rfl ?_
                  refine cw_if_eq (pc := 148) (tgt := 156) C dX5_parseOrder_148 (by decide) (fun h => False.elim (by revert h; decide)) (fun _ => ?_)
                  refine cw_iload_n (pc := 151) C dX5_parseOrder_151 rfl 1 rfl ?_
                  refine cw_ineg (pc := 152) C dX5_parseOrder_152 (z := -av) rfl ?_
                  refine cw_goto (pc := 153) (tgt := 157) C dX5_parseOrder_153 (by decide) ?_
                  refine cw_iload (pc := 157) C dX5_parseOrder_157 0 rfl ?_
                  refine cw_callv (pc := 159) C dX5_parseOrder_159 (c_X5_addOrder l D Z A σ L o (q6 + 1) (nI lt) (-av) (nI 0) (by omega)) (cwV 3 C.1.2.2.2.2 gX5_parseOrder_X5_addOrder rfl rfl rfl (by decide +kernel) ⟨Nat.le_of_ble_eq_true rfl, Nat.le_of_ble_eq_true rfl⟩) 17 rfl rfl rfl rfl (Nat.le_of_ble_eq_true rfl) (cw_effv (fun _ h => h) (up2 (up2 (up2 (up2 σ 17 (txR L (o + 1) (q6 + 1))) 19 (upd (σ 19) o (nI lt))) 20 (upd (σ 20) o (-av))) 21 (upd (σ 21) o (nI 0))) rfl ?_)
                  refine cw_iconst (pc := 162) C dX5_parseOrder_162 (nI 1) (by decide) ?_
                  refine hret true (up2 (up2 (up2 (up2 σ 17 (txR L (o + 1) (q6 + 1))) 19 (upd (σ 19) o (nI lt))) 20 (upd (σ 20) o (-av))) 21 (upd (σ 21) o (nI 0))) _ _ dX5_parseOrder_163 ?_
                  clear hret
                  refine Or.inr ⟨?_, rfl, ?_⟩
                  · rw [oF, if_neg (by rw [hol]; omega), if_neg (by rw [kA]; exact h83), if_neg (by rw [kB]; decide), if_pos (by rw [k6]; exact h130)]
                  · rw [k6, hol, kB, oAs, kN, kA]
                    rfl
                · -- 130 f
                  refine cw_iconst (pc := 133) C dX5_parseOrder_133 (nI 0) (by decide) ?_
                  refine hret false (up2 σ 17 (txR L o q6)) _ _ dX5_parseOrder_134 ?_
                  clear hret
                  refine Or.inl ⟨q6, ?_, rfl, rfl⟩
                  rw [oF, if_neg (by rw [hol]; omega), if_neg (by rw [kA]; exact h83), if_neg (by rw [kB]; decide), if_neg (by rw [k6]; exact h130), k6]
              · -- 99 f
                have h99 : ¬ (lt = 6) := fun qq => h99 ((nc_eq (a := lt) (b := 6) (by omega) (by omega)).mpr qq)
                have kT : oTwo (σ 18) L p = true := by simp [oTwo, hol, h93, h99]
                refine cw_aload_n (pc := 102) C dX5_parseOrder_102 rfl 4 rfl ?_
                refine cw_callv (pc := 103) C dX5_parseOrder_103 (c_X5_skipBlanks l D Z A σ L o q3 (by omega) (by omega)) (cwV 0 C.1.2.2.2.2 gX5_parseOrder_X5_skipBlanks rfl rfl rfl (by decide +kernel) ⟨Nat.le_of_ble_eq_true rfl, Nat.le_of_ble_eq_true rfl⟩) 17 rfl rfl rfl rfl (Nat.le_of_ble_eq_true rfl) (cw_effv (fun _ h => h) (up2 σ 17 (txR L o (skB (σ 18) L q3))) rfl ?_)
                obtain ⟨q4, hq4⟩ : ∃ z, z = skB (σ 18) L q3 := ⟨_, rfl⟩
                rw [← hq4]
                have k4 : oq4 (σ 18) L p = q4 := by rw [oq4, k3]; exact hq4.symm
                have hr4 : q3 ≤ q4 ∧ q4 ≤ L := by rw [hq4]; exact skB_le (by omega)
                refine cw_aload_n (pc := 106) C dX5_parseOrder_106 rfl 4 rfl ?_
                refine cw_calli (pc := 107) C dX5_parseOrder_107 (c_X5_parseNumber l D Z A σ L o q4 (by omega) (by omega)) (cwV 0 C.1.2.2.2.2 gX5_parseOrder_X5_parseNumber rfl rfl rfl (by decide +kernel) ⟨Nat.le_of_ble_eq_true rfl, Nat.le_of_ble_eq_true rfl⟩) 17 rfl rfl rfl rfl (Nat.le_of_ble_eq_true rfl) (cw_eff (v := numR (σ 18) L q4) (fun _ _ h => h) (up2 σ 17 (txR L o (q4 + nk (σ 18) L q4))) rfl ?_)
                have hk5 := nk_le (B := σ 18) (L := L) (p := q4) (by omega)
                obtain ⟨q5, hq5⟩ : ∃ z, z = q4 + nk (σ 18) L q4 := ⟨_, rfl⟩
                rw [← hq5]
                obtain ⟨bv, hbv⟩ : ∃ z, z = numR (σ 18) L q4 := ⟨_, rfl⟩
                rw [← hbv]
                have kB : oB (σ 18) L p = bv := by rw [oB, if_pos kT, k4]; exact hbv.symm
                have k5 : oq5 (σ 18) L p = q5 := by rw [oq5, if_pos kT, k4]; exact hq5.symm
                refine cw_istore (pc := 110) C dX5_parseOrder_110 (by decide) (lv' := [(4, .int (bv)), (3, .int (av)), (2, .int (nI 1)), (1, .int (nI lt)), (0, .ref (A 17))]) rfl ?_
                refine cw_iload (pc := 112) C dX5_parseOrder_112 0 rfl ?_
                refine cw_iconst (pc := 114) C dX5_parseOrder_114 (-1) (by decide) ?_
                refine cw_icmp_ne (pc := 115) (tgt := 120) C dX5_parseOrder_115 (by decide) (fun h115 => ?_) (fun h115 => ?_)
                · -- 115 t
                  refine cw_aload_n (pc := 120) C dX5_parseOrder_120 rfl 4 rfl ?_
                  refine cw_callv (pc := 121) C dX5_parseOrder_121 (c_X5_skipBlanks l D Z A σ L o q5 (by omega) (by omega)) (cwV 0 C.1.2.2.2.2 gX5_parseOrder_X5_skipBlanks rfl rfl rfl (by decide +kernel) ⟨Nat.le_of_ble_eq_true rfl, Nat.le_of_ble_eq_true rfl⟩) 17 rfl rfl rfl rfl (Nat.le_of_ble_eq_true rfl) (cw_effv (fun _ h => h) (up2 σ 17 (txR L o (skB (σ 18) L q5))) rfl ?_)
                  obtain ⟨q6, hq6⟩ : ∃ z, z = skB (σ 18) L q5 := ⟨_, rfl⟩
                  rw [← hq6]
                  have k6 : oq6 (σ 18) L p = q6 := by rw [oq6, k5]; exact hq6.symm
                  have hr6 : q5 ≤ q6 ∧ q6 ≤ L := by rw [hq6]; exact skB_le (by omega)
                  refine cw_aload_n (pc := 124) C dX5_parseOrder_124 rfl 4 rfl ?_
                  refine cw_calli (pc := 125) C dX5_parseOrder_125 (c_X5_next l D Z A σ L o q6 (by omega) (by omega)) (cwV 0 C.1.2.2.2.2 gX5_parseOrder_X5_next rfl rfl rfl (by decide +kernel) ⟨Nat.le_of_ble_eq_true rfl, Nat.le_of_ble_eq_true rfl⟩) 17 rfl rfl rfl rfl (Nat.le_of_ble_eq_true rfl) (cw_pure (v := nxt (σ 18) L q6) (fun _ _ h => h) ?_)
                  refine cw_bipush (pc := 128) C dX5_parseOrder_128 (nI 59) (by decide) ?_
                  refine cw_icmp_eq (pc := 130) (tgt := 135) C dX5_parseOrder_130 (by decide) (fun h130 => ?_) (fun h130 => ?_)
                  · -- 130 t
                    have hlt6 := nxt_lt (by decide) h130
                    refine cw_aload_n (pc := 135) C dX5_parseOrder_135 rfl 4 rfl ?_
                    refine cw_dup (pc := 136) C dX5_parseOrder_136 rfl ?_
                    refine cw_get (pc := 137) C dX5_parseOrder_137 17 (v := .int (nI q6)) rfl rfl 6 rfl (fun _ h => List.mem_cons_of_mem _ (List.mem_append_right _ h)) (by decide) (List.mem_of_getElem? (i := 1) rfl) ?_
                    refine cw_iconst (pc := 140) C dX5_parseOrder_140 (nI 1) (by decide) ?_
                    refine cw_iadd (pc := 141) C dX5_parseOrder_141 (z := nI (q6 + 1)) (nI_add _ _) ?_
                    have e17 : upd ((up2 σ 17 (txR L o q6)) 17) 6 (nI (q6 + 1)) = txR L o (q6 + 1) := (congrArg (fun f => upd f 6 (nI (q6 + 1))) (show (up2 σ 17 (txR L o q6)) 17 = txR L o q6 from (up2_eq _ _ _))).trans (txR_6 _ _ _ _)
                    refine cw_put (pc := 142) C dX5_parseOrder_142 17 (ty := .int) rfl rfl 6 (fun _ h => List.mem_cons_of_mem _ (List.mem_append_right _ h)) tyX5_ok nmX5 (by decide) (List.mem_of_getElem? (i := 1) rfl) rfl (by decide +kernel) rfl rfl (Nat.le_of_ble_eq_true rfl) (up2 σ 17 (txR L o (q6 + 1))) ((wC_p17_6 Z A _ _).trans (congrArg (wC Z A) ((congrArg (fun f => up2 (up2 σ 17 (txR L o q6)) 17 f) e17).trans (up2_up2 _ 17 _ _)))) ?_
                    refine cw_aload_n (pc := 145) C dX5_parseOrder_145 rfl 4 rfl ?_
                    refine cw_iload_n (pc := 146) C dX5_parseOrder_146 rfl 3 rfl ?_
                    refine cw_iload_n (pc := 147) C dX5_parseOrder_147 rfl 2 rfl ?_
                    refine cw_if_eq (pc := 148) (tgt := 156) C dX5_parseOrder_148 (by decide) (fun h => False.elim (by revert h; decide)) (fun _ => ?_)
                    refine cw_iload_n (pc := 151) C dX5_parseOrder_151 rfl 1 rfl ?_
                    refine cw_ineg (pc := 152) C dX5_parseOrder_152 (z := -av) rfl ?_
                    refine cw_goto (pc := 153) (tgt := 157) C dX5_parseOrder_153 (by decide) ?_
                    refine cw_iload (pc := 157) C dX5_parseOrder_157 0 rfl ?_
                    refine cw_callv (pc := 159) C dX5_parseOrder_159 (c_X5_addOrder l D Z A σ L o (q6 + 1) (nI lt) (-av) bv (by omega)) (cwV 3 C.1.2.2.2.2 gX5_parseOrder_X5_addOrder rfl rfl rfl (by decide +kernel) ⟨Nat.le_of_ble_eq_true rfl, Nat.le_of_ble_eq_true rfl⟩) 17 rfl rfl rfl rfl (Nat.le_of_ble_eq_true rfl) (cw_effv (fun _ h => h) (up2 (up2 (up2 (up2 σ 17 (txR L (o + 1) (q6 + 1))) 19 (upd (σ 19) o (nI lt))) 20 (upd (σ 20) o (-av))) 21 (upd (σ 21) o bv)) rfl ?_)
                    refine cw_iconst (pc := 162) C dX5_parseOrder_162 (nI 1) (by decide) ?_
                    refine hret true (up2 (up2 (up2 (up2 σ 17 (txR L (o + 1) (q6 + 1))) 19 (upd (σ 19) o (nI lt))) 20 (upd (σ 20) o (-av))) 21 (upd (σ 21) o bv)) _ _ dX5_parseOrder_163 ?_
                    clear hret
                    refine Or.inr ⟨?_, rfl, ?_⟩
                    · rw [oF, if_neg (by rw [hol]; omega), if_neg (by rw [kA]; exact h83), if_neg (by rw [kB]; exact h115), if_pos (by rw [k6]; exact h130)]
                    · rw [k6, hol, kB, oAs, kN, kA]
                      rfl
                  · -- 130 f
                    refine cw_iconst (pc := 133) C dX5_parseOrder_133 (nI 0) (by decide) ?_
                    refine hret false (up2 σ 17 (txR L o q6)) _ _ dX5_parseOrder_134 ?_
                    clear hret
                    refine Or.inl ⟨q6, ?_, rfl, rfl⟩
                    rw [oF, if_neg (by rw [hol]; omega), if_neg (by rw [kA]; exact h83), if_neg (by rw [kB]; exact h115), if_neg (by rw [k6]; exact h130), k6]
                · -- 115 f
                  refine cw_iconst (pc := 118) C dX5_parseOrder_118 (nI 0) (by decide) ?_
                  refine hret false (up2 σ 17 (txR L o q5)) _ _ dX5_parseOrder_119 ?_
                  clear hret
                  refine Or.inl ⟨q5, ?_, rfl, rfl⟩
                  rw [oF, if_neg (by rw [hol]; omega), if_neg (by rw [kA]; exact h83), if_pos (by rw [kB]; exact h115), k5]
          · -- 83 f
            refine cw_iconst (pc := 86) C dX5_parseOrder_86 (nI 0) (by decide) ?_
            refine hret false (up2 σ 17 (txR L o q3)) _ _ dX5_parseOrder_87 ?_
            clear hret
            refine Or.inl ⟨q3, ?_, rfl, rfl⟩
            rw [oF, if_neg (by rw [hol]; omega), if_pos (by rw [kA]; exact h83), k3]
    · -- 23 f
      refine cw_iconst (pc := 26) C dX5_parseOrder_26 (nI 0) (by decide) ?_
      refine hret false (up2 σ 17 (txR L o p)) _ _ dX5_parseOrder_27 ?_
      clear hret
      refine Or.inl ⟨p, ?_, rfl, rfl⟩
      rw [oF, if_pos (by rw [oL, if_pos hpl, ex0, tN_N (by omega)]; exact lixI_f h23)]
  · -- 4 f
    refine cw_iconst (pc := 7) C dX5_parseOrder_7 (-1) (by decide) ?_
    refine cw_goto (pc := 8) (tgt := 21) C dX5_parseOrder_8 (by decide) ?_
    refine cw_istore_n (pc := 21) C dX5_parseOrder_21 rfl (by decide) (lv' := [(1, .int ((-1))), (0, .ref (A 17))]) rfl ?_
    refine cw_iload_n (pc := 22) C dX5_parseOrder_22 rfl 0 rfl ?_
    refine cw_if_ge (pc := 23) (tgt := 28) C dX5_parseOrder_23 (by decide) (fun h => False.elim (by revert h; decide)) (fun _ => ?_)
    refine cw_iconst (pc := 26) C dX5_parseOrder_26 (nI 0) (by decide) ?_
    refine hret false (up2 σ 17 (txR L o p)) _ _ dX5_parseOrder_27 ?_
    clear hret
    refine Or.inl ⟨p, ?_, rfl, rfl⟩
    rw [oF, if_pos (by rw [oL, if_neg (nxt_neg hB h4)])]
set_option maxHeartbeats 4000000 in
set_option maxRecDepth 100000 in
theorem c_X5_parse (l : Launch) (D : va_G) (Z : CZ) (A : Nat → Nat) (σ : St) (L o p : Nat)   (hL : L ≤ 150) (hB : byOK (σ 18) L) : CTi l yX5_parse wsX5_parse 5 115 D Z (wC Z A) (up2 σ 17 (txR L o p)) [.ref (A 17)] (fun r σ' => ∃ (n q : Nat) (n1 n2 n3 : Nat → Int32), σ' = up2 (up2 (up2 (up2 σ 17 (txR L n q)) 19 n1) 20 n2) 21 n3 ∧ ordsC (σ 18) L n n1 n2 n3 ∧ prsC (σ 18) L n r) := by
  refine CTi.mk (cc := cX5_parse) (nL := 2) (own := RX5) rfl (by decide) rfl (Nat.le_of_ble_eq_true rfl) ?_
  intro p0 e0 s0 m0 g0 b0 t0 c0 A0 Q C hret
  refine cw_lv (lv' := [(0, .ref (A 17))]) [0] rfl ?_
  refine cw_aload_n (pc := 0) C dX5_parse_0 rfl 0 rfl ?_
  refine cw_iconst (pc := 1) C dX5_parse_1 (nI 0) (by decide) ?_
  have e17 : upd ((up2 σ 17 (txR L o p)) 17) 5 (nI 0) = txR L 0 p := (congrArg (fun f => upd f 5 (nI 0)) (show (up2 σ 17 (txR L o p)) 17 = txR L o p from (up2_eq _ _ _))).trans (txR_5 _ _ _ _)
  refine cw_put (pc := 2) C dX5_parse_2 17 (ty := .int) rfl rfl 5 (fun _ h => List.mem_cons_of_mem _ (List.mem_append_right _ h)) tyX5_ok nmX5 (by decide) (List.mem_of_getElem? (i := 1) rfl) rfl (by decide +kernel) rfl rfl (Nat.le_of_ble_eq_true rfl) (up2 σ 17 (txR L 0 p)) ((wC_p17_5 Z A _ _).trans (congrArg (wC Z A) ((congrArg (fun f => up2 (up2 σ 17 (txR L o p)) 17 f) e17).trans (up2_up2 _ 17 _ _)))) ?_
  refine cw_aload_n (pc := 5) C dX5_parse_5 rfl 0 rfl ?_
  refine cw_iconst (pc := 6) C dX5_parse_6 (nI 0) (by decide) ?_
  have e17 : upd ((up2 σ 17 (txR L 0 p)) 17) 6 (nI 0) = txR L 0 0 := (congrArg (fun f => upd f 6 (nI 0)) (show (up2 σ 17 (txR L 0 p)) 17 = txR L 0 p from (up2_eq _ _ _))).trans (txR_6 _ _ _ _)
  refine cw_put (pc := 7) C dX5_parse_7 17 (ty := .int) rfl rfl 6 (fun _ h => List.mem_cons_of_mem _ (List.mem_append_right _ h)) tyX5_ok nmX5 (by decide) (List.mem_of_getElem? (i := 2) rfl) rfl (by decide +kernel) rfl rfl (Nat.le_of_ble_eq_true rfl) (up2 σ 17 (txR L 0 0)) ((wC_p17_6 Z A _ _).trans (congrArg (wC Z A) ((congrArg (fun f => up2 (up2 σ 17 (txR L 0 p)) 17 f) e17).trans (up2_up2 _ 17 _ _)))) ?_
  refine cw_aload_n (pc := 10) C dX5_parse_10 rfl 0 rfl ?_
  refine cw_callv (pc := 11) C dX5_parse_11 (c_X5_skipBlanks l D Z A σ L 0 0 hL (by omega)) (cwV 0 C.1.2.2.2.2 gX5_parse_X5_skipBlanks rfl rfl rfl (by decide +kernel) ⟨Nat.le_of_ble_eq_true rfl, Nat.le_of_ble_eq_true rfl⟩) 17 rfl rfl rfl rfl (Nat.le_of_ble_eq_true rfl) (cw_effv (fun _ h => h) (up2 σ 17 (txR L 0 (skB (σ 18) L 0))) rfl ?_)
  refine cw_iconst (pc := 14) C dX5_parse_14 (nI 0) (by decide) ?_
  refine cw_istore_n (pc := 15) C dX5_parse_15 rfl (by decide) (lv' := [(1, .int (nI 0)), (0, .ref (A 17))]) rfl ?_
  have L16 : ∀ (n16 : Nat) (i : Nat) (q : Nat) (n1 : Nat → Int32) (n2 : Nat → Int32) (n3 : Nat → Int32) (hi : i ≤ 50) (hm : 50 < i + n16) (hqL : q ≤ L) (hqe : q = oP (σ 18) L i) (hnd : i = 0 ∨ q < L) (hord : ordsC (σ 18) L i n1 n2 n3) (hps : ∀ j, 0 < j → j < i → oP (σ 18) L j < L), CW p0 l e0 (rmC 5 115) s0 m0 g0 b0 t0 c0 D A0 2 (wC Z A) Q (up2 (up2 (up2 (up2 σ 17 (txR L i q)) 19 n1) 20 n2) 21 n3) 16 [(0, .ref (A 17)), (1, .int (nI i))] [] := by
    intro n16
    induction n16 with
    | zero => intro i q n1 n2 n3 hi hm hqL hqe hnd hord hps; exact absurd hm (by omega)
    | succ n16 ih16 =>
      intro i q n1 n2 n3 hi hm hqL hqe hnd hord hps
      refine cw_iload_n (pc := 16) C dX5_parse_16 rfl 1 rfl ?_
      refine cw_bipush (pc := 17) C dX5_parse_17 (nI 50) (by decide) ?_
      refine cw_icmp_ge (pc := 19) (tgt := 57) C dX5_parse_19 (by decide) (fun h19 => ?_) (fun h19 => ?_)
      · -- 19 t
        have h19 : 50 ≤ i := (nc_ge (a := i) (b := 50) (by omega) (by omega)).mp h19
        exact absurd (oP_le i (fun j hj => (hord j hj).1)) (by rw [← hqe]; omega)
      · -- 19 f
        have h19 : ¬ (50 ≤ i) := fun qq => h19 ((nc_ge (a := i) (b := 50) (by omega) (by omega)).mpr qq)
        refine cw_aload_n (pc := 22) C dX5_parse_22 rfl 0 rfl ?_
        refine cw_eq (σ' := up2 (up2 (up2 (up2 σ 19 n1) 20 n2) 21 n3) 17 (txR L i q)) ((up2_comm _ _ _ (by decide)).trans (congrArg (fun qz => up2 qz 21 n3) ((up2_comm _ _ _ (by decide)).trans (congrArg (fun qz => up2 qz 20 n2) ((up2_comm _ _ _ (by decide)).trans (congrArg (fun qz => up2 qz 19 n1) rfl)))))).symm ?_
        refine cw_calli (pc := 23) C dX5_parse_23 (c_X5_parseOrder l D Z A (up2 (up2 (up2 σ 19 n1) 20 n2) 21 n3) L i q hL (by omega) (by omega) hB) (cwV 0 C.1.2.2.2.2 gX5_parse_X5_parseOrder rfl rfl rfl (by decide +kernel) ⟨Nat.le_of_ble_eq_true rfl, Nat.le_of_ble_eq_true rfl⟩) 17 rfl rfl rfl rfl (Nat.le_of_ble_eq_true rfl) (fun r σ1 hr => ?_)
        obtain ⟨z, rfl, hr⟩ := hr
        rcases hr with ⟨qf, hf, rfl, rfl⟩ | ⟨hf, rfl, rfl⟩
        · -- a fault
          replace hf : oF (σ 18) L q = some qf := hf
          refine cw_eq (σ' := up2 (up2 (up2 (up2 σ 17 (txR L i qf)) 19 n1) 20 n2) 21 n3) ((up2_comm _ _ _ (by decide)).trans (congrArg (fun q => up2 q 21 n3) ((up2_comm _ _ _ (by decide)).trans (congrArg (fun q => up2 q 20 n2) (up2_comm _ _ _ (by decide)))))) ?_
          refine cw_if_ne (pc := 26) (tgt := 34) C dX5_parse_26 (by decide) (fun h => False.elim (by revert h; decide)) (fun _ => ?_)
          refine cw_aload_n (pc := 29) C dX5_parse_29 rfl 0 rfl ?_
          refine cw_get (pc := 30) C dX5_parse_30 17 (v := .int (nI qf)) rfl rfl 6 rfl (fun _ h => List.mem_cons_of_mem _ (List.mem_append_right _ h)) (by decide) (List.mem_of_getElem? (i := 2) rfl) ?_
          refine hret (nI qf) (up2 (up2 (up2 (up2 σ 17 (txR L i qf)) 19 n1) 20 n2) 21 n3) _ _ dX5_parse_33 ?_
          clear hret
          exact ⟨i, qf, n1, n2, n3, rfl, hord, hi, fun j hj => (hord j hj).1, hps, Or.inr ⟨qf, rfl, oF_le hqL hf, by rw [← hqe]; exact hf, by rw [← hqe]; exact hnd⟩⟩
        · -- an order
          replace hf : oF (σ 18) L q = none := hf
          have hon := oF_none hf
          refine cw_eq (σ' := up2 (up2 (up2 (up2 σ 17 (txR L (i + 1) (oq6 (σ 18) L q + 1))) 19 (upd n1 i (nI (oL (σ 18) L q)))) 20 (upd n2 i (oAs (σ 18) L q))) 21 (upd n3 i (oB (σ 18) L q))) (n_po _ _ _ _ _ _ _ _) ?_
          refine cw_if_ne (pc := 26) (tgt := 34) C dX5_parse_26 (by decide) (fun _ => ?_) (fun h => False.elim (by revert h; decide))
          refine cw_aload_n (pc := 34) C dX5_parse_34 rfl 0 rfl ?_
          refine cw_eq (σ' := up2 (up2 (up2 (up2 σ 19 (upd n1 i (nI (oL (σ 18) L q)))) 20 (upd n2 i (oAs (σ 18) L q))) 21 (upd n3 i (oB (σ 18) L q))) 17 (txR L (i + 1) (oq6 (σ 18) L q + 1))) ((up2_comm _ _ _ (by decide)).trans (congrArg (fun qz => up2 qz 21 (upd n3 i (oB (σ 18) L q))) ((up2_comm _ _ _ (by decide)).trans (congrArg (fun qz => up2 qz 20 (upd n2 i (oAs (σ 18) L q))) ((up2_comm _ _ _ (by decide)).trans (congrArg (fun qz => up2 qz 19 (upd n1 i (nI (oL (σ 18) L q)))) rfl)))))).symm ?_
          refine cw_callv (pc := 35) C dX5_parse_35 (c_X5_skipBlanks l D Z A (up2 (up2 (up2 σ 19 (upd n1 i (nI (oL (σ 18) L q)))) 20 (upd n2 i (oAs (σ 18) L q))) 21 (upd n3 i (oB (σ 18) L q))) L (i + 1) (oq6 (σ 18) L q + 1) hL (by omega)) (cwV 0 C.1.2.2.2.2 gX5_parse_X5_skipBlanks rfl rfl rfl (by decide +kernel) ⟨Nat.le_of_ble_eq_true rfl, Nat.le_of_ble_eq_true rfl⟩) 17 rfl rfl rfl rfl (Nat.le_of_ble_eq_true rfl) (cw_effv (fun _ h => h) (up2 (up2 (up2 (up2 σ 17 (txR L (i + 1) (skB (σ 18) L (oq6 (σ 18) L q + 1)))) 19 (upd n1 i (nI (oL (σ 18) L q)))) 20 (upd n2 i (oAs (σ 18) L q))) 21 (upd n3 i (oB (σ 18) L q))) (congrArg (wC Z A) ((up2_comm _ _ _ (by decide)).trans (congrArg (fun qz => up2 qz 21 (upd n3 i (oB (σ 18) L q))) ((up2_comm _ _ _ (by decide)).trans (congrArg (fun qz => up2 qz 20 (upd n2 i (oAs (σ 18) L q))) ((up2_comm _ _ _ (by decide)).trans (congrArg (fun qz => up2 qz 19 (upd n1 i (nI (oL (σ 18) L q)))) rfl))))))) ?_)
          have hsk := skB_le (B := σ 18) (show oq6 (σ 18) L q + 1 ≤ L by omega)
          refine cw_aload_n (pc := 38) C dX5_parse_38 rfl 0 rfl ?_
          refine cw_get (pc := 39) C dX5_parse_39 17 (v := .int (nI (skB (σ 18) L (oq6 (σ 18) L q + 1)))) rfl rfl 6 rfl (fun _ h => List.mem_cons_of_mem _ (List.mem_append_right _ h)) (by decide) (List.mem_of_getElem? (i := 2) rfl) ?_
          refine cw_aload_n (pc := 42) C dX5_parse_42 rfl 0 rfl ?_
          refine cw_get (pc := 43) C dX5_parse_43 17 (v := .int (nI L)) rfl rfl 4 rfl (fun _ h => List.mem_cons_of_mem _ (List.mem_append_right _ h)) (by decide) (List.mem_of_getElem? (i := 3) rfl) ?_
          refine cw_icmp_lt (pc := 46) (tgt := 51) C dX5_parse_46 (by decide) (fun h46 => ?_) (fun h46 => ?_)
          · -- 46 t
            have h46 : (skB (σ 18) L (oq6 (σ 18) L q + 1)) < L := (nc_lt (a := skB (σ 18) L (oq6 (σ 18) L q + 1)) (b := L) (by omega) (by omega)).mp h46
            refine cw_iinc (pc := 51) C dX5_parse_51 1 rfl (nI (i + 1)) (nI_inc _ 1) (by decide) (lv' := [(1, .int (nI (i + 1))), (0, .ref (A 17))]) rfl ?_
            refine cw_goto (pc := 54) (tgt := 16) C dX5_parse_54 (by decide) ?_
            refine cw_lv [1, 0] rfl ?_
            exact ih16 (i + 1) (skB (σ 18) L (oq6 (σ 18) L q + 1)) (upd n1 i (nI (oL (σ 18) L q))) (upd n2 i (oAs (σ 18) L q)) (upd n3 i (oB (σ 18) L q)) (by omega) (by omega) (by omega) (by rw [hqe]; rfl) (Or.inr h46) (by rw [hqe]; exact ordsC_push hord (by rw [← hqe]; exact hf)) (fun j h1 h2 => by rcases Nat.lt_or_ge j i with z | z; exact hps j h1 z; rw [show j = i by omega, ← hqe]; omega)
          · -- 46 f
            have h46 : ¬ ((skB (σ 18) L (oq6 (σ 18) L q + 1)) < L) := fun qq => h46 ((nc_lt (a := skB (σ 18) L (oq6 (σ 18) L q + 1)) (b := L) (by omega) (by omega)).mpr qq)
            refine cw_iconst (pc := 49) C dX5_parse_49 (-1) (by decide) ?_
            refine hret (-1) (up2 (up2 (up2 (up2 σ 17 (txR L (i + 1) (skB (σ 18) L (oq6 (σ 18) L q + 1)))) 19 (upd n1 i (nI (oL (σ 18) L q)))) 20 (upd n2 i (oAs (σ 18) L q))) 21 (upd n3 i (oB (σ 18) L q))) _ _ dX5_parse_50 ?_
            clear hret
            have ho2 := ordsC_push hord (by rw [← hqe]; exact hf)
            rw [← hqe] at ho2
            exact ⟨i + 1, _, _, _, _, rfl, ho2, by omega, fun j hj => (ho2 j hj).1, fun j h1 h2 => by rcases Nat.lt_or_ge j i with z | z; exact hps j h1 z; rw [show j = i by omega, ← hqe]; omega, Or.inl ⟨rfl, by omega, by show L ≤ skB _ _ _; rw [← hqe]; omega⟩⟩
  refine cw_eq (σ' := up2 (up2 σ 17 (txR L 0 (skB (σ 18) L 0))) 19 (σ 19)) ((up2_self (up2 σ 17 (txR L 0 (skB (σ 18) L 0))) 19).symm) ?_
  refine cw_eq (σ' := up2 (up2 (up2 σ 17 (txR L 0 (skB (σ 18) L 0))) 19 (σ 19)) 20 (σ 20)) ((up2_self (up2 (up2 σ 17 (txR L 0 (skB (σ 18) L 0))) 19 (σ 19)) 20).symm) ?_
  refine cw_eq (σ' := up2 (up2 (up2 (up2 σ 17 (txR L 0 (skB (σ 18) L 0))) 19 (σ 19)) 20 (σ 20)) 21 (σ 21)) ((up2_self (up2 (up2 (up2 σ 17 (txR L 0 (skB (σ 18) L 0))) 19 (σ 19)) 20 (σ 20)) 21).symm) ?_
  refine cw_lv [1, 0] rfl ?_
  exact L16 51 0 (skB (σ 18) L 0) (σ 19) (σ 20) (σ 21) (by omega) (by omega) (skB_le (Nat.zero_le _)).2 rfl (Or.inl rfl) (fun j hj => absurd hj (by omega)) (fun j h1 h2 => absurd h2 (by omega))
