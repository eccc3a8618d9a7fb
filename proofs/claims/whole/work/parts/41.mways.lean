set_option maxHeartbeats 4000000 in
set_option maxRecDepth 100000 in
theorem c_X7_share (l : Launch) (D : va_G) (Z : CZ) (A : Nat → Nat) (σ : St) (X : Nat → Int32)  (x : Int32) (hT : σ 1 = mrow X) (hR : ¬ X 49 = 0) : CTi l yX7_share wsX7_share 0 0 D Z (wM Z A) σ [.ref (A 0), .int (x)] (fun r σ' => r = shS (X 49) x ∧ σ' = σ) := by
  refine CTi.mk (cc := cX7_share) (nL := 3) (own := RX7) rfl (by decide) rfl (Nat.le_of_ble_eq_true rfl) ?_
  intro p0 e0 s0 m0 g0 b0 t0 c0 A0 Q C hret
  refine cw_lv (lv' := [(0, .ref (A 0)), (1, .int (x))]) [0, 1] rfl ?_
  refine cw_sipush (pc := 0) C dX7_share_0 (nI 1000) (by decide) ?_
  refine cw_iload_n (pc := 3) C dX7_share_3 rfl 1 rfl ?_
  refine cw_imul (pc := 4) C dX7_share_4 (z := (nI 1000) * x) rfl ?_
  refine cw_aload_n (pc := 5) C dX7_share_5 rfl 0 rfl ?_
  refine cw_get (pc := 6) C dX7_share_6 0 (v := .ref (A 1)) rfl rfl 0 rfl (fun _ h => List.mem_cons_of_mem _ (List.mem_append_right _ h)) (by decide) (List.mem_of_getElem? (i := 1) rfl) ?_
  refine cw_bipush (pc := 9) C dX7_share_9 (nI 41) (by decide) ?_
  refine cw_iald2 (pc := 11) C dX7_share_11 1 1 (wM_g1 Z A) (f := σ 1) rfl 41 rfl (by decide) (by decide) ?_
  refine cw_top (X 49) (mr hT (by omega) (by omega) rfl) ?_
  refine cw_idiv (pc := 12) C dX7_share_12 hR (z := ((nI 1000) * x) / (X 49)) rfl ?_
  refine cw_istore_n (pc := 13) C dX7_share_13 rfl (by decide) (lv' := [(2, .int (((nI 1000) * x) / (X 49))), (0, .ref (A 0)), (1, .int (x))]) rfl ?_
  refine cw_iload_n (pc := 14) C dX7_share_14 rfl 0 rfl ?_
  refine cw_if_ge (pc := 15) (tgt := 22) C dX7_share_15 (by decide) (fun h15 => ?_) (fun h15 => ?_)
  · -- 15 t
    refine cw_iload_n (pc := 22) C dX7_share_22 rfl 0 rfl ?_
    refine cw_sipush (pc := 23) C dX7_share_23 (nI 1000) (by decide) ?_
    refine cw_icmp_le (pc := 26) (tgt := 35) C dX7_share_26 (by decide) (fun h26 => ?_) (fun h26 => ?_)
    · -- 26 t
      refine cw_iload_n (pc := 35) C dX7_share_35 rfl 0 rfl ?_
      refine hret (((nI 1000) * x) / (X 49)) σ _ _ dX7_share_36 ?_
      clear hret
      exact ⟨by rw [shS, clip_mid h15 h26], rfl⟩
    · -- 26 f
      refine cw_sipush (pc := 29) C dX7_share_29 (nI 1000) (by decide) ?_
      refine cw_goto (pc := 32) (tgt := 36) C dX7_share_32 (by decide) ?_
      refine hret (nI 1000) σ _ _ dX7_share_36 ?_
      clear hret
      exact ⟨by rw [shS, clip_hi h26], rfl⟩
  · -- 15 f
    refine cw_iconst (pc := 18) C dX7_share_18 (nI 0) (by decide) ?_
    refine cw_goto (pc := 19) (tgt := 36) C dX7_share_19 (by decide) ?_
    refine hret (nI 0) σ _ _ dX7_share_36 ?_
    clear hret
    exact ⟨by rw [shS, clip_lo h15], rfl⟩
set_option maxHeartbeats 4000000 in
set_option maxRecDepth 100000 in
theorem c_X7_overAt (l : Launch) (D : va_G) (Z : CZ) (A : Nat → Nat) (σ : St) (X : Nat → Int32)  (c : Nat) (t : Nat) (hT : σ 1 = mrow X) (hR : ¬ X 49 = 0) (hc : c < 5) : CTi l yX7_overAt wsX7_overAt 1 22 D Z (wM Z A) σ [.ref (A 0), .int (nI c), .int (nI t)] (fun r σ' => r = ovN X c t ∧ σ' = σ) := by
  refine CTi.mk (cc := cX7_overAt) (nL := 3) (own := RX7) rfl (by decide) rfl (Nat.le_of_ble_eq_true rfl) ?_
  intro p0 e0 s0 m0 g0 b0 t0 c0 A0 Q C hret
  refine cw_lv (lv' := [(0, .ref (A 0)), (1, .int (nI c)), (2, .int (nI t))]) [0, 1, 2] rfl ?_
  refine cw_aload_n (pc := 0) C dX7_overAt_0 rfl 0 rfl ?_
  refine cw_iload_n (pc := 1) C dX7_overAt_1 rfl 2 rfl ?_
  refine cw_aload_n (pc := 2) C dX7_overAt_2 rfl 0 rfl ?_
  refine cw_get (pc := 3) C dX7_overAt_3 0 (v := .ref (A 1)) rfl rfl 0 rfl (fun _ h => List.mem_cons_of_mem _ (List.mem_append_right _ h)) (by decide) (List.mem_of_getElem? (i := 1) rfl) ?_
  refine cw_bipush (pc := 6) C dX7_overAt_6 (nI 13) (by decide) ?_
  refine cw_iload_n (pc := 8) C dX7_overAt_8 rfl 1 rfl ?_
  refine cw_iadd (pc := 9) C dX7_overAt_9 (z := nI (13 + c)) (nI_add _ _) ?_
  refine cw_iald2 (pc := 10) C dX7_overAt_10 1 1 (wM_g1 Z A) (f := σ 1) rfl (13 + c) rfl (by omega) (by decide) ?_
  refine cw_top (X (29 + c)) (mr hT (by omega) (by omega) (pm_tr (by omega))) ?_
  refine cw_isub (pc := 11) C dX7_overAt_11 (z := (nI t) - (X (29 + c))) rfl ?_
  refine cw_calli (pc := 12) C dX7_overAt_12 (c_X7_share l D Z A σ X ((nI t) - (X (29 + c))) hT hR) (cwV 1 C.1.2.2.2.2 gX7_overAt_X7_share rfl rfl rfl (by decide +kernel) ⟨Nat.le_of_ble_eq_true rfl, Nat.le_of_ble_eq_true rfl⟩) 0 rfl rfl rfl rfl (Nat.le_of_ble_eq_true rfl) (cw_pure (v := shS (X 49) ((nI t) - (X (29 + c)))) (fun _ _ h => h) ?_)
  refine cw_aload_n (pc := 15) C dX7_overAt_15 rfl 0 rfl ?_
  refine cw_iload_n (pc := 16) C dX7_overAt_16 rfl 2 rfl ?_
  refine cw_aload_n (pc := 17) C dX7_overAt_17 rfl 0 rfl ?_
  refine cw_get (pc := 18) C dX7_overAt_18 0 (v := .ref (A 1)) rfl rfl 0 rfl (fun _ h => List.mem_cons_of_mem _ (List.mem_append_right _ h)) (by decide) (List.mem_of_getElem? (i := 1) rfl) ?_
  refine cw_bipush (pc := 21) C dX7_overAt_21 (nI 18) (by decide) ?_
  refine cw_iload_n (pc := 23) C dX7_overAt_23 rfl 1 rfl ?_
  refine cw_iadd (pc := 24) C dX7_overAt_24 (z := nI (18 + c)) (nI_add _ _) ?_
  refine cw_iald2 (pc := 25) C dX7_overAt_25 1 1 (wM_g1 Z A) (f := σ 1) rfl (18 + c) rfl (by omega) (by decide) ?_
  refine cw_top (X (34 + c)) (mr hT (by omega) (by omega) (pm_fi (by omega))) ?_
  refine cw_isub (pc := 26) C dX7_overAt_26 (z := (nI t) - (X (34 + c))) rfl ?_
  refine cw_calli (pc := 27) C dX7_overAt_27 (c_X7_share l D Z A σ X ((nI t) - (X (34 + c))) hT hR) (cwV 1 C.1.2.2.2.2 gX7_overAt_X7_share rfl rfl rfl (by decide +kernel) ⟨Nat.le_of_ble_eq_true rfl, Nat.le_of_ble_eq_true rfl⟩) 0 rfl rfl rfl rfl (Nat.le_of_ble_eq_true rfl) (cw_pure (v := shS (X 49) ((nI t) - (X (34 + c)))) (fun _ _ h => h) ?_)
  refine cw_isub (pc := 30) C dX7_overAt_30 (z := (shS (X 49) ((nI t) - (X (29 + c)))) - (shS (X 49) ((nI t) - (X (34 + c))))) rfl ?_
  refine hret ((shS (X 49) ((nI t) - (X (29 + c)))) - (shS (X 49) ((nI t) - (X (34 + c))))) σ _ _ dX7_overAt_31 ?_
  clear hret
  exact ⟨rfl, rfl⟩
set_option maxHeartbeats 4000000 in
set_option maxRecDepth 100000 in
theorem c_X7_worst0 (l : Launch) (D : va_G) (Z : CZ) (A : Nat → Nat) (σ : St) (X : Nat → Int32)  (c : Nat) (hT : σ 1 = mrow X) (hR : ¬ X 49 = 0) (hc : c < 5) : CTi l yX7_worstOf wsX7_worstOf 2 44 D Z (wM Z A) σ [.ref (A 0), .int (nI c), .int (nI 0)] (fun r σ' => r = flS X c ∧ σ' = σ) := by
  refine CTi.mk (cc := cX7_worstOf) (nL := 6) (own := RX7) rfl (by decide) rfl (Nat.le_of_ble_eq_true rfl) ?_
  intro p0 e0 s0 m0 g0 b0 t0 c0 A0 Q C hret
  refine cw_lv (lv' := [(0, .ref (A 0)), (1, .int (nI c)), (2, .int (nI 0))]) [0, 1, 2] rfl ?_
  refine cw_iconst (pc := 0) C dX7_worstOf_0 (nI 0) (by decide) ?_
  refine cw_istore_n (pc := 1) C dX7_worstOf_1 rfl (by decide) (lv' := [(3, .int (nI 0)), (0, .ref (A 0)), (1, .int (nI c)), (2, .int (nI 0))]) rfl ?_
  refine cw_iconst (pc := 2) C dX7_worstOf_2 (nI 0) (by decide) ?_
  refine cw_istore (pc := 3) C dX7_worstOf_3 (by decide) (lv' := [(4, .int (nI 0)), (3, .int (nI 0)), (0, .ref (A 0)), (1, .int (nI c)), (2, .int (nI 0))]) rfl ?_
  have L5 : ∀ (n5 : Nat) (i : Nat) (acc : Int32) (hi : i ≤ 41) (hm : 41 < i + n5) (ha : acc = mxF (fun t => -(ovN X c t)) i), CW p0 l e0 (rmC 2 44) s0 m0 g0 b0 t0 c0 D A0 6 (wM Z A) Q σ 5 [(0, .ref (A 0)), (1, .int (nI c)), (2, .int (nI 0)), (3, .int (acc)), (4, .int (nI i))] [] := by
    intro n5
    induction n5 with
    | zero => intro i acc hi hm ha; exact absurd hm (by omega)
    | succ n5 ih5 =>
      intro i acc hi hm ha
      refine cw_iload (pc := 5) C dX7_worstOf_5 4 rfl ?_
      refine cw_bipush (pc := 7) C dX7_worstOf_7 (nI 40) (by decide) ?_
      refine cw_icmp_gt (pc := 9) (tgt := 55) C dX7_worstOf_9 (by decide) (fun h9 => ?_) (fun h9 => ?_)
      · -- 9 t
        have h9 : 40 < i := (nc_gt (a := i) (b := 40) (by omega) (by omega)).mp h9
        obtain rfl : i = 41 := by omega
        refine cw_iload_n (pc := 55) C dX7_worstOf_55 rfl 3 rfl ?_
        refine hret acc σ _ _ dX7_worstOf_56 ?_
        clear hret
        exact ⟨by rw [ha]; exact mx_neg (ovN_rng X c) 41, rfl⟩
      · -- 9 f
        have h9 : ¬ (40 < i) := fun qq => h9 ((nc_gt (a := i) (b := 40) (by omega) (by omega)).mpr qq)
        refine cw_iload_n (pc := 12) C dX7_worstOf_12 rfl 2 rfl ?_
        refine cw_if_ne (pc := 13) (tgt := 27) C dX7_worstOf_13 (by decide) (fun h => False.elim (by revert h; decide)) (fun _ => ?_)
        refine cw_aload_n (pc := 16) C dX7_worstOf_16 rfl 0 rfl ?_
        refine cw_iload_n (pc := 17) C dX7_worstOf_17 rfl 1 rfl ?_
        refine cw_iload (pc := 18) C dX7_worstOf_18 4 rfl ?_
        refine cw_calli (pc := 20) C dX7_worstOf_20 (c_X7_overAt l D Z A σ X c i hT hR hc) (cwV 2 C.1.2.2.2.2 gX7_worstOf_X7_overAt rfl rfl rfl (by decide +kernel) ⟨Nat.le_of_ble_eq_true rfl, Nat.le_of_ble_eq_true rfl⟩) 0 rfl rfl rfl rfl (Nat.le_of_ble_eq_true rfl) (cw_pure (v := ovN X c i) (fun _ _ h => h) ?_)
        refine cw_ineg (pc := 23) C dX7_worstOf_23 (z := -(ovN X c i)) rfl ?_
        refine cw_goto (pc := 24) (tgt := 34) C dX7_worstOf_24 (by decide) ?_
        refine cw_istore (pc := 34) C dX7_worstOf_34 (by decide) (lv' := [(5, .int (-(ovN X c i))), (0, .ref (A 0)), (1, .int (nI c)), (2, .int (nI 0)), (3, .int (acc)), (4, .int (nI i))]) rfl ?_
        refine cw_iload (pc := 36) C dX7_worstOf_36 0 rfl ?_
        refine cw_iload_n (pc := 38) C dX7_worstOf_38 rfl 4 rfl ?_
        refine cw_icmp_le (pc := 39) (tgt := 47) C dX7_worstOf_39 (by decide) (fun h39 => ?_) (fun h39 => ?_)
        · -- 39 t
          refine cw_iload_n (pc := 47) C dX7_worstOf_47 rfl 4 rfl ?_
          refine cw_istore_n (pc := 48) C dX7_worstOf_48 rfl (by decide) (lv' := [(3, .int (acc)), (5, .int (-(ovN X c i))), (0, .ref (A 0)), (1, .int (nI c)), (2, .int (nI 0)), (4, .int (nI i))]) rfl ?_
          refine cw_iinc (pc := 49) C dX7_worstOf_49 5 rfl (nI (i + 1)) (nI_inc _ 1) (by decide) (lv' := [(4, .int (nI (i + 1))), (3, .int (acc)), (5, .int (-(ovN X c i))), (0, .ref (A 0)), (1, .int (nI c)), (2, .int (nI 0))]) rfl ?_
          refine cw_goto (pc := 52) (tgt := 5) C dX7_worstOf_52 (by decide) ?_
          refine cw_lv [3, 4, 5, 1, 0] rfl ?_
          exact ih5 (i + 1) acc (by omega) (by omega) (by rw [mxF, ← ha, if_neg (Int32.not_lt.mpr h39)])
        · -- 39 f
          refine cw_iload (pc := 42) C dX7_worstOf_42 0 rfl ?_
          refine cw_goto (pc := 44) (tgt := 48) C dX7_worstOf_44 (by decide) ?_
          refine cw_istore_n (pc := 48) C dX7_worstOf_48 rfl (by decide) (lv' := [(3, .int (-(ovN X c i))), (5, .int (-(ovN X c i))), (0, .ref (A 0)), (1, .int (nI c)), (2, .int (nI 0)), (4, .int (nI i))]) rfl ?_
          refine cw_iinc (pc := 49) C dX7_worstOf_49 5 rfl (nI (i + 1)) (nI_inc _ 1) (by decide) (lv' := [(4, .int (nI (i + 1))), (3, .int (-(ovN X c i))), (5, .int (-(ovN X c i))), (0, .ref (A 0)), (1, .int (nI c)), (2, .int (nI 0))]) rfl ?_
          refine cw_goto (pc := 52) (tgt := 5) C dX7_worstOf_52 (by decide) ?_
          refine cw_lv [3, 4, 5, 1, 0] rfl ?_
          exact ih5 (i + 1) (-(ovN X c i)) (by omega) (by omega) (by rw [mxF, ← ha, if_pos (Int32.not_le.mp h39)])
  refine cw_lv [2, 3, 4, 1, 0] rfl ?_
  exact L5 42 0 (nI 0) (by omega) (by omega) rfl
set_option maxHeartbeats 4000000 in
set_option maxRecDepth 100000 in
theorem c_X7_worst1 (l : Launch) (D : va_G) (Z : CZ) (A : Nat → Nat) (σ : St) (X : Nat → Int32)  (c : Nat) (hT : σ 1 = mrow X) (hR : ¬ X 49 = 0) (hc : c < 5) : CTi l yX7_worstOf wsX7_worstOf 2 44 D Z (wM Z A) σ [.ref (A 0), .int (nI c), .int (nI 1)] (fun r σ' => r = bdS X c ∧ σ' = σ) := by
  refine CTi.mk (cc := cX7_worstOf) (nL := 6) (own := RX7) rfl (by decide) rfl (Nat.le_of_ble_eq_true rfl) ?_
  intro p0 e0 s0 m0 g0 b0 t0 c0 A0 Q C hret
  refine cw_lv (lv' := [(0, .ref (A 0)), (1, .int (nI c)), (2, .int (nI 1))]) [0, 1, 2] rfl ?_
  refine cw_iconst (pc := 0) C dX7_worstOf_0 (nI 0) (by decide) ?_
  refine cw_istore_n (pc := 1) C dX7_worstOf_1 rfl (by decide) (lv' := [(3, .int (nI 0)), (0, .ref (A 0)), (1, .int (nI c)), (2, .int (nI 1))]) rfl ?_
  refine cw_iconst (pc := 2) C dX7_worstOf_2 (nI 0) (by decide) ?_
  refine cw_istore (pc := 3) C dX7_worstOf_3 (by decide) (lv' := [(4, .int (nI 0)), (3, .int (nI 0)), (0, .ref (A 0)), (1, .int (nI c)), (2, .int (nI 1))]) rfl ?_
  have L5 : ∀ (n5 : Nat) (i : Nat) (acc : Int32) (hi : i ≤ 41) (hm : 41 < i + n5) (ha : acc = mxF (ovN X c) i), CW p0 l e0 (rmC 2 44) s0 m0 g0 b0 t0 c0 D A0 6 (wM Z A) Q σ 5 [(0, .ref (A 0)), (1, .int (nI c)), (2, .int (nI 1)), (3, .int (acc)), (4, .int (nI i))] [] := by
    intro n5
    induction n5 with
    | zero => intro i acc hi hm ha; exact absurd hm (by omega)
    | succ n5 ih5 =>
      intro i acc hi hm ha
      refine cw_iload (pc := 5) C dX7_worstOf_5 4 rfl ?_
      refine cw_bipush (pc := 7) C dX7_worstOf_7 (nI 40) (by decide) ?_
      refine cw_icmp_gt (pc := 9) (tgt := 55) C dX7_worstOf_9 (by decide) (fun h9 => ?_) (fun h9 => ?_)
      · -- 9 t
        have h9 : 40 < i := (nc_gt (a := i) (b := 40) (by omega) (by omega)).mp h9
        obtain rfl : i = 41 := by omega
        refine cw_iload_n (pc := 55) C dX7_worstOf_55 rfl 3 rfl ?_
        refine hret acc σ _ _ dX7_worstOf_56 ?_
        clear hret
        exact ⟨ha, rfl⟩
      · -- 9 f
        have h9 : ¬ (40 < i) := fun qq => h9 ((nc_gt (a := i) (b := 40) (by omega) (by omega)).mpr qq)
        refine cw_iload_n (pc := 12) C dX7_worstOf_12 rfl 2 rfl ?_
        refine cw_if_ne (pc := 13) (tgt := 27) C dX7_worstOf_13 (by decide) (fun _ => ?_) (fun h => False.elim (by revert h; decide))
        refine cw_aload_n (pc := 27) C dX7_worstOf_27 rfl 0 rfl ?_
        refine cw_iload_n (pc := 28) C dX7_worstOf_28 rfl 1 rfl ?_
        refine cw_iload (pc := 29) C dX7_worstOf_29 4 rfl ?_
        refine cw_calli (pc := 31) C dX7_worstOf_31 (c_X7_overAt l D Z A σ X c i hT hR hc) (cwV 2 C.1.2.2.2.2 gX7_worstOf_X7_overAt rfl rfl rfl (by decide +kernel) ⟨Nat.le_of_ble_eq_true rfl, Nat.le_of_ble_eq_true rfl⟩) 0 rfl rfl rfl rfl (Nat.le_of_ble_eq_true rfl) (cw_pure (v := ovN X c i) (fun _ _ h => h) ?_)
        refine cw_istore (pc := 34) C dX7_worstOf_34 (by decide) (lv' := [(5, .int (ovN X c i)), (0, .ref (A 0)), (1, .int (nI c)), (2, .int (nI 1)), (3, .int (acc)), (4, .int (nI i))]) rfl ?_
        refine cw_iload (pc := 36) C dX7_worstOf_36 0 rfl ?_
        refine cw_iload_n (pc := 38) C dX7_worstOf_38 rfl 4 rfl ?_
        refine cw_icmp_le (pc := 39) (tgt := 47) C dX7_worstOf_39 (by decide) (fun h39 => ?_) (fun h39 => ?_)
        · -- 39 t
          refine cw_iload_n (pc := 47) C dX7_worstOf_47 rfl 4 rfl ?_
          refine cw_istore_n (pc := 48) C dX7_worstOf_48 rfl (by decide) (lv' := [(3, .int (acc)), (5, .int (ovN X c i)), (0, .ref (A 0)), (1, .int (nI c)), (2, .int (nI 1)), (4, .int (nI i))]) rfl ?_
          refine cw_iinc (pc := 49) C dX7_worstOf_49 5 rfl (nI (i + 1)) (nI_inc _ 1) (by decide) (lv' := [(4, .int (nI (i + 1))), (3, .int (acc)), (5, .int (ovN X c i)), (0, .ref (A 0)), (1, .int (nI c)), (2, .int (nI 1))]) rfl ?_
          refine cw_goto (pc := 52) (tgt := 5) C dX7_worstOf_52 (by decide) ?_
          refine cw_lv [3, 4, 5, 1, 0] rfl ?_
          exact ih5 (i + 1) acc (by omega) (by omega) (by rw [mxF, ← ha, if_neg (Int32.not_lt.mpr h39)])
        · -- 39 f
          refine cw_iload (pc := 42) C dX7_worstOf_42 0 rfl ?_
          refine cw_goto (pc := 44) (tgt := 48) C dX7_worstOf_44 (by decide) ?_
          refine cw_istore_n (pc := 48) C dX7_worstOf_48 rfl (by decide) (lv' := [(3, .int (ovN X c i)), (5, .int (ovN X c i)), (0, .ref (A 0)), (1, .int (nI c)), (2, .int (nI 1)), (4, .int (nI i))]) rfl ?_
          refine cw_iinc (pc := 49) C dX7_worstOf_49 5 rfl (nI (i + 1)) (nI_inc _ 1) (by decide) (lv' := [(4, .int (nI (i + 1))), (3, .int (ovN X c i)), (5, .int (ovN X c i)), (0, .ref (A 0)), (1, .int (nI c)), (2, .int (nI 1))]) rfl ?_
          refine cw_goto (pc := 52) (tgt := 5) C dX7_worstOf_52 (by decide) ?_
          refine cw_lv [3, 4, 5, 1, 0] rfl ?_
          exact ih5 (i + 1) (ovN X c i) (by omega) (by omega) (by rw [mxF, ← ha, if_pos (Int32.not_le.mp h39)])
  refine cw_lv [2, 3, 4, 1, 0] rfl ?_
  exact L5 42 0 (nI 0) (by omega) (by omega) rfl
set_option maxHeartbeats 4000000 in
set_option maxRecDepth 100000 in
theorem c_X7_nextUp (l : Launch) (D : va_G) (Z : CZ) (A : Nat → Nat) (σ : St) (X : Nat → Int32)  (g : Nat) (hT : σ 1 = mrow X) (hg : g ≤ 7) : CTi l yX7_nextFit wsX7_nextFit 2 42 D Z (wM Z A) σ [.ref (A 0), .int (nI g), .int (nI 1)] (fun r σ' => r = nI (nxUp (fitN X) 7 g) ∧ σ' = σ) := by
  refine CTi.mk (cc := cX7_nextFit) (nL := 4) (own := RX7) rfl (by decide) rfl (Nat.le_of_ble_eq_true rfl) ?_
  intro p0 e0 s0 m0 g0 b0 t0 c0 A0 Q C hret
  refine cw_lv (lv' := [(0, .ref (A 0)), (1, .int (nI g)), (2, .int (nI 1))]) [0, 1, 2] rfl ?_
  refine cw_iload_n (pc := 0) C dX7_nextFit_0 rfl 1 rfl ?_
  refine cw_iload_n (pc := 1) C dX7_nextFit_1 rfl 2 rfl ?_
  refine cw_iadd (pc := 2) C dX7_nextFit_2 (z := nI (g + 1)) (nI_add _ _) ?_
  refine cw_istore_n (pc := 3) C dX7_nextFit_3 rfl (by decide) (lv' := [(3, .int (nI (g + 1))), (0, .ref (A 0)), (1, .int (nI g)), (2, .int (nI 1))]) rfl ?_
  have L4 : ∀ (n4 : Nat) (i : Nat) (h : Nat) (hi : i ≤ 7) (hm : 7 < i + n4) (hh : h = g + i + 1) (hr : nxUp (fitN X) 7 g = nxUp (fitN X) (7 - i) (g + i)), CW p0 l e0 (rmC 2 42) s0 m0 g0 b0 t0 c0 D A0 4 (wM Z A) Q σ 4 [(0, .ref (A 0)), (1, .int (nI g)), (2, .int (nI 1)), (3, .int (nI h))] [] := by
    intro n4
    induction n4 with
    | zero => intro i h hi hm hh hr; exact absurd hm (by omega)
    | succ n4 ih4 =>
      intro i h hi hm hh hr
      refine cw_iload_n (pc := 4) C dX7_nextFit_4 rfl 3 rfl ?_
      refine cw_calls (pc := 5) C dX7_nextFit_5 (c_X7_isGear l D Z A σ (nI h)) (va_cwS 1 C.1.2.2.2.2 gX7_nextFit_X7_isGear rfl rfl rfl (by decide +kernel) ⟨Nat.le_of_ble_eq_true rfl, Nat.le_of_ble_eq_true rfl⟩) rfl rfl (Nat.le_of_ble_eq_true rfl) (cw_purez (b := gearB (nI h)) (fun _ _ h => h) ?_)
      refine cw_if_eq (pc := 8) (tgt := 26) C dX7_nextFit_8 (by decide) (fun h8 => ?_) (fun h8 => ?_)
      · -- 8 t
        have h8 := bI_z h8
        refine cw_iload_n (pc := 26) C dX7_nextFit_26 rfl 3 rfl ?_
        refine cw_calls (pc := 27) C dX7_nextFit_27 (c_X7_isGear l D Z A σ (nI h)) (va_cwS 1 C.1.2.2.2.2 gX7_nextFit_X7_isGear rfl rfl rfl (by decide +kernel) ⟨Nat.le_of_ble_eq_true rfl, Nat.le_of_ble_eq_true rfl⟩) rfl rfl (Nat.le_of_ble_eq_true rfl) (cw_purez (b := gearB (nI h)) (fun _ _ h => h) ?_)
        refine cw_if_eq (pc := 30) (tgt := 37) C dX7_nextFit_30 (by decide) (fun h30 => ?_) (fun h30 => ?_)
        · -- 30 t
          have h30 := bI_z h30
          refine cw_iconst (pc := 37) C dX7_nextFit_37 (nI 0) (by decide) ?_
          refine hret (nI 0) σ _ _ dX7_nextFit_38 ?_
          clear hret
          refine ⟨?_, rfl⟩
          rw [hr]
          have hz : ∀ n q, 7 ≤ q → nxUp (fitN X) n q = 0 := fun n q hq => by
            rcases Nat.eq_zero_or_pos (nxUp (fitN X) n q) with z | z
            · exact z
            · have h1 := fitN_rng (nxUp_fit (F := fitN X) (n := n) (g := q) (by omega))
              have h2 := nxUp_gt (fitN X) n q (by omega)
              omega
          rw [hz _ _ (by rw [gearB_N (by omega)] at h8; simp at h8; omega)]
        · -- 30 f
          have h30 := bI_nz h30
          refine cw_iload_n (pc := 33) C dX7_nextFit_33 rfl 3 rfl ?_
          refine cw_goto (pc := 34) (tgt := 38) C dX7_nextFit_34 (by decide) ?_
          refine hret (nI h) σ _ _ dX7_nextFit_38 ?_
          clear hret
          exact absurd (h8.symm.trans h30) (by decide)
      · -- 8 f
        have h8 := bI_nz h8
        have hs1 : 1 ≤ h ∧ h ≤ 7 := by rw [gearB_N (by omega)] at h8; simpa using h8
        refine cw_aload_n (pc := 11) C dX7_nextFit_11 rfl 0 rfl ?_
        refine cw_iload_n (pc := 12) C dX7_nextFit_12 rfl 3 rfl ?_
        refine cw_calli (pc := 13) C dX7_nextFit_13 (c_X7_isFit l D Z A σ X h hT hs1.1 hs1.2) (cwV 1 C.1.2.2.2.2 gX7_nextFit_X7_isFit rfl rfl rfl (by decide +kernel) ⟨Nat.le_of_ble_eq_true rfl, Nat.le_of_ble_eq_true rfl⟩) 0 rfl rfl rfl rfl (Nat.le_of_ble_eq_true rfl) (cw_purez (b := fitN X h) (fun _ _ h => h) ?_)
        refine cw_if_ne (pc := 16) (tgt := 26) C dX7_nextFit_16 (by decide) (fun h16 => ?_) (fun h16 => ?_)
        · -- 16 t
          have h16 := bI_nz h16
          refine cw_iload_n (pc := 26) C dX7_nextFit_26 rfl 3 rfl ?_
          refine cw_calls (pc := 27) C dX7_nextFit_27 (c_X7_isGear l D Z A σ (nI h)) (va_cwS 1 C.1.2.2.2.2 gX7_nextFit_X7_isGear rfl rfl rfl (by decide +kernel) ⟨Nat.le_of_ble_eq_true rfl, Nat.le_of_ble_eq_true rfl⟩) rfl rfl (Nat.le_of_ble_eq_true rfl) (cw_purez (b := gearB (nI h)) (fun _ _ h => h) ?_)
          refine cw_if_eq (pc := 30) (tgt := 37) C dX7_nextFit_30 (by decide) (fun h30 => ?_) (fun h30 => ?_)
          · -- 30 t
            have h30 := bI_z h30
            refine cw_iconst (pc := 37) C dX7_nextFit_37 (nI 0) (by decide) ?_
            refine hret (nI 0) σ _ _ dX7_nextFit_38 ?_
            clear hret
            exact absurd (h8.symm.trans h30) (by decide)
          · -- 30 f
            have h30 := bI_nz h30
            refine cw_iload_n (pc := 33) C dX7_nextFit_33 rfl 3 rfl ?_
            refine cw_goto (pc := 34) (tgt := 38) C dX7_nextFit_34 (by decide) ?_
            refine hret (nI h) σ _ _ dX7_nextFit_38 ?_
            clear hret
            refine ⟨?_, rfl⟩
            rw [hr, show 7 - i = (7 - (i + 1)) + 1 by omega, nxUp, if_pos (by rw [← hh]; exact h16), hh]
        · -- 16 f
          have h16 := bI_z h16
          refine cw_iload_n (pc := 19) C dX7_nextFit_19 rfl 3 rfl ?_
          refine cw_iload_n (pc := 20) C dX7_nextFit_20 rfl 2 rfl ?_
          refine cw_iadd (pc := 21) C dX7_nextFit_21 (z := nI (h + 1)) (nI_add _ _) ?_
          refine cw_istore_n (pc := 22) C dX7_nextFit_22 rfl (by decide) (lv' := [(3, .int (nI (h + 1))), (0, .ref (A 0)), (1, .int (nI g)), (2, .int (nI 1))]) rfl ?_
          refine cw_goto (pc := 23) (tgt := 4) C dX7_nextFit_23 (by decide) ?_
          refine cw_lv [1, 2, 3, 0] rfl ?_
          exact ih4 (i + 1) (h + 1) (by omega) (by omega) (by omega) (by rw [hr, show 7 - i = (7 - (i + 1)) + 1 by omega, nxUp, if_neg (by rw [← hh, h16]; decide)]; rfl)
  refine cw_lv [1, 2, 3, 0] rfl ?_
  exact L4 8 0 (g + 1) (by omega) (by omega) rfl rfl
