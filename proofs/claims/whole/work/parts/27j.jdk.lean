set_option maxHeartbeats 4000000 in
set_option maxRecDepth 100000 in
theorem c_J0_coder_7d493 (l : Launch) (D : va_G) (Z : CZ) (A : Nat → Nat) (σ : St)    : CTi l yJ0_coder_7d493 wsJ0_coder_7d493 0 0 D Z (wC Z A) σ [.ref Z.2.2.1] (fun r σ' => r = nI 0 ∧ σ' = σ) := by
  refine CTi.mkr (cc := cJ0_coder_7d493) (nL := 1) (own := RJ0) rfl (by decide) rfl (Nat.le_of_ble_eq_true rfl) (fun v σ' h => by rw [h.1]; rfl) ?_
  intro p0 e0 s0 m0 g0 b0 t0 c0 A0 Q C hret
  refine cw_lv (lv' := [(0, .ref Z.2.2.1)]) [0] rfl ?_
  refine cw_getCS (pc := 0) C dJ0_coder_7d493_0 (List.mem_of_getElem? (i := 1) rfl) ?_
  refine cw_if_eq (pc := 3) (tgt := 13) C dJ0_coder_7d493_3 (by decide) (fun h => False.elim (by revert h; decide)) (fun _ => ?_)
  refine cw_aload_n (pc := 6) C dJ0_coder_7d493_6 rfl 0 rfl ?_
  refine cw_getCo (pc := 7) C dJ0_coder_7d493_7 (List.mem_of_getElem? (i := 2) rfl) ?_
  refine cw_goto (pc := 10) (tgt := 14) C dJ0_coder_7d493_10 (by decide) ?_
  refine hret (nI 0) σ _ _ dJ0_coder_7d493_14 ?_
  clear hret
  exact ⟨rfl, rfl⟩
set_option maxHeartbeats 4000000 in
set_option maxRecDepth 100000 in
theorem c_J0_isLatin1_aae02 (l : Launch) (D : va_G) (Z : CZ) (A : Nat → Nat) (σ : St)    : CTz l yJ0_isLatin1_aae02 wsJ0_isLatin1_aae02 0 0 D Z (wC Z A) σ [.ref Z.2.2.1] (fun z σ' => z = true ∧ σ' = σ) := by
  refine CTz.mk (cc := cJ0_isLatin1_aae02) (nL := 1) (own := RJ0) rfl (by decide) rfl (Nat.le_of_ble_eq_true rfl) ?_
  intro p0 e0 s0 m0 g0 b0 t0 c0 A0 Q C hret
  refine cw_lv (lv' := [(0, .ref Z.2.2.1)]) [0] rfl ?_
  refine cw_getCS (pc := 0) C dJ0_isLatin1_aae02_0 (List.mem_of_getElem? (i := 1) rfl) ?_
  refine cw_if_eq (pc := 3) (tgt := 17) C dJ0_isLatin1_aae02_3 (by decide) (fun h => False.elim (by revert h; decide)) (fun _ => ?_)
  refine cw_aload_n (pc := 6) C dJ0_isLatin1_aae02_6 rfl 0 rfl ?_
  refine cw_getCo (pc := 7) C dJ0_isLatin1_aae02_7 (List.mem_of_getElem? (i := 2) rfl) ?_
  refine cw_if_ne (pc := 10) (tgt := 17) C dJ0_isLatin1_aae02_10 (by decide) (fun h => False.elim (by revert h; decide)) (fun _ => ?_)
  refine cw_iconst (pc := 13) C dJ0_isLatin1_aae02_13 (nI 1) (by decide) ?_
  refine cw_goto (pc := 14) (tgt := 18) C dJ0_isLatin1_aae02_14 (by decide) ?_
  refine hret true σ _ _ dJ0_isLatin1_aae02_18 ?_
  clear hret
  exact ⟨rfl, rfl⟩
set_option maxHeartbeats 4000000 in
set_option maxRecDepth 100000 in
theorem c_J0_length_8abf5 (l : Launch) (D : va_G) (Z : CZ) (A : Nat → Nat) (σ : St)    : CTi l yJ0_length_8abf5 wsJ0_length_8abf5 1 20 D Z (wC Z A) σ [.ref Z.2.2.1] (fun r σ' => r = nI 8 ∧ σ' = σ) := by
  refine CTi.mk (cc := cJ0_length_8abf5) (nL := 1) (own := RJ0) rfl (by decide) rfl (Nat.le_of_ble_eq_true rfl) ?_
  intro p0 e0 s0 m0 g0 b0 t0 c0 A0 Q C hret
  refine cw_lv (lv' := [(0, .ref Z.2.2.1)]) [0] rfl ?_
  refine cw_aload_n (pc := 0) C dJ0_length_8abf5_0 rfl 0 rfl ?_
  refine cw_getVa (pc := 1) C dJ0_length_8abf5_1 (List.mem_of_getElem? (i := 1) rfl) ?_
  refine cw_alenV (pc := 4) C dJ0_length_8abf5_4 ?_
  refine cw_aload_n (pc := 5) C dJ0_length_8abf5_5 rfl 0 rfl ?_
  refine cw_callK (pc := 6) C dJ0_length_8abf5_6 (c_J0_coder_7d493 l D Z A σ ) (cwV 0 C.1.2.2.2.2 gJ0_length_8abf5_J0_coder_7d493 rfl rfl rfl (by decide +kernel) ⟨Nat.le_of_ble_eq_true rfl, Nat.le_of_ble_eq_true rfl⟩) rfl rfl (Nat.le_of_ble_eq_true rfl) (cw_pure (v := nI 0) (fun _ _ h => h) ?_)
  refine cw_ishr (pc := 9) C dJ0_length_8abf5_9 (z := nI 8) (by decide) ?_
  refine hret (nI 8) σ _ _ dJ0_length_8abf5_10 ?_
  clear hret
  exact ⟨rfl, rfl⟩
set_option maxHeartbeats 4000000 in
set_option maxRecDepth 100000 in
theorem c_J1_canEncode_9a6ad (l : Launch) (D : va_G) (Z : CZ) (A : Nat → Nat) (σ : St)  (x : Nat) (hx : x < 128) : CTz l yJ1_canEncode_9a6ad wsJ1_canEncode_9a6ad 0 0 D Z (wC Z A) σ [.int (nI x)] (fun z σ' => z = true ∧ σ' = σ) := by
  refine CTz.mk (cc := cJ1_canEncode_9a6ad) (nL := 1) (own := RJ1) rfl (by decide) rfl (Nat.le_of_ble_eq_true rfl) ?_
  intro p0 e0 s0 m0 g0 b0 t0 c0 A0 Q C hret
  refine cw_lv (lv' := [(0, .int (nI x))]) [0] rfl ?_
  refine cw_iload_n (pc := 0) C dJ1_canEncode_9a6ad_0 rfl 0 rfl ?_
  refine cw_if_lt (pc := 1) (tgt := 15) C dJ1_canEncode_9a6ad_1 (by decide) (fun h1 => ?_) (fun h1 => ?_)
  · -- 1 t
    have h1 : x < 0 := (nc_lt (a := x) (b := 0) (by omega) (by omega)).mp h1
    exact absurd h1 (by omega)
  · -- 1 f
    have h1 : ¬ (x < 0) := fun qq => h1 ((nc_lt (a := x) (b := 0) (by omega) (by omega)).mpr qq)
    refine cw_iload_n (pc := 4) C dJ1_canEncode_9a6ad_4 rfl 0 rfl ?_
    refine cw_sipush (pc := 5) C dJ1_canEncode_9a6ad_5 (nI 255) (by decide) ?_
    refine cw_icmp_gt (pc := 8) (tgt := 15) C dJ1_canEncode_9a6ad_8 (by decide) (fun h8 => ?_) (fun h8 => ?_)
    · -- 8 t
      have h8 : 255 < x := (nc_gt (a := x) (b := 255) (by omega) (by omega)).mp h8
      exact absurd h8 (by omega)
    · -- 8 f
      have h8 : ¬ (255 < x) := fun qq => h8 ((nc_gt (a := x) (b := 255) (by omega) (by omega)).mpr qq)
      refine cw_iconst (pc := 11) C dJ1_canEncode_9a6ad_11 (nI 1) (by decide) ?_
      refine cw_goto (pc := 12) (tgt := 16) C dJ1_canEncode_9a6ad_12 (by decide) ?_
      refine hret true σ _ _ dJ1_canEncode_9a6ad_16 ?_
      clear hret
      exact ⟨rfl, rfl⟩
set_option maxHeartbeats 4000000 in
set_option maxRecDepth 100000 in
theorem c_J1_indexOfChar_4cfef (l : Launch) (D : va_G) (Z : CZ) (A : Nat → Nat) (σ : St)  (x : Nat) (hx : x < 128) : CTi l yJ1_indexOfChar_4cfef wsJ1_indexOfChar_4cfef 0 0 D Z (wC Z A) σ [.ref Z.2.2.2, .int (nI x), .int (nI 0), .int (nI 8)] (fun r σ' => r = lixI x ∧ σ' = σ) := by
  refine CTi.mk (cc := cJ1_indexOfChar_4cfef) (nL := 6) (own := RJ1) rfl (by decide) rfl (Nat.le_of_ble_eq_true rfl) ?_
  intro p0 e0 s0 m0 g0 b0 t0 c0 A0 Q C hret
  refine cw_lv (lv' := [(0, .ref Z.2.2.2), (1, .int (nI x)), (2, .int (nI 0)), (3, .int (nI 8))]) [0, 1, 2, 3] rfl ?_
  refine cw_iload_n (pc := 0) C dJ1_indexOfChar_4cfef_0 rfl 1 rfl ?_
  refine cw_i2b (pc := 1) C dJ1_indexOfChar_4cfef_1 (z := (nI x).toInt8.toInt32) rfl ?_
  refine cw_istore (pc := 2) C dJ1_indexOfChar_4cfef_2 (by decide) (lv' := [(4, .int ((nI x).toInt8.toInt32)), (0, .ref Z.2.2.2), (1, .int (nI x)), (2, .int (nI 0)), (3, .int (nI 8))]) rfl ?_
  refine cw_iload_n (pc := 4) C dJ1_indexOfChar_4cfef_4 rfl 3 rfl ?_
  refine cw_istore (pc := 5) C dJ1_indexOfChar_4cfef_5 (by decide) (lv' := [(5, .int (nI 0)), (4, .int ((nI x).toInt8.toInt32)), (0, .ref Z.2.2.2), (1, .int (nI x)), (2, .int (nI 0)), (3, .int (nI 8))]) rfl ?_
  have L7 : ∀ (n7 : Nat) (i : Nat) (hi : i ≤ 8) (hm : 8 < i + n7) (hl : i ≤ lixN x), CW p0 l e0 (rmC 0 0) s0 m0 g0 b0 t0 c0 D A0 6 (wC Z A) Q σ 7 [(0, .ref Z.2.2.2), (1, .int (nI x)), (2, .int (nI 0)), (3, .int (nI 8)), (4, .int ((nI x).toInt8.toInt32)), (5, .int (nI i))] [] := by
    intro n7
    induction n7 with
    | zero => intro i hi hm hl; exact absurd hm (by omega)
    | succ n7 ih7 =>
      intro i hi hm hl
      refine cw_iload (pc := 7) C dJ1_indexOfChar_4cfef_7 5 rfl ?_
      refine cw_iload_n (pc := 9) C dJ1_indexOfChar_4cfef_9 rfl 3 rfl ?_
      refine cw_icmp_ge (pc := 10) (tgt := 31) C dJ1_indexOfChar_4cfef_10 (by decide) (fun h10 => ?_) (fun h10 => ?_)
      · -- 10 t
        have h10 : 8 ≤ i := (nc_ge (a := i) (b := 8) (by omega) (by omega)).mp h10
        obtain rfl : i = 8 := by omega
        refine cw_iconst (pc := 31) C dJ1_indexOfChar_4cfef_31 (-1) (by decide) ?_
        refine hret (-1) σ _ _ dJ1_indexOfChar_4cfef_32 ?_
        clear hret
        exact ⟨by rw [lixI, if_neg (by omega)], rfl⟩
      · -- 10 f
        have h10 : ¬ (8 ≤ i) := fun qq => h10 ((nc_ge (a := i) (b := 8) (by omega) (by omega)).mpr qq)
        refine cw_aload_n (pc := 13) C dJ1_indexOfChar_4cfef_13 rfl 0 rfl ?_
        refine cw_iload (pc := 14) C dJ1_indexOfChar_4cfef_14 5 rfl ?_
        refine cw_baldV (pc := 16) C dJ1_indexOfChar_4cfef_16 i (by omega) ?_
        refine cw_iload (pc := 17) C dJ1_indexOfChar_4cfef_17 4 rfl ?_
        refine cw_icmp_ne (pc := 19) (tgt := 25) C dJ1_indexOfChar_4cfef_19 (by decide) (fun h19 => ?_) (fun h19 => ?_)
        · -- 19 t
          refine cw_iinc (pc := 25) C dJ1_indexOfChar_4cfef_25 5 rfl (nI (i + 1)) (nI_inc _ 1) (by decide) (lv' := [(5, .int (nI (i + 1))), (0, .ref Z.2.2.2), (1, .int (nI x)), (2, .int (nI 0)), (3, .int (nI 8)), (4, .int ((nI x).toInt8.toInt32))]) rfl ?_
          refine cw_goto (pc := 28) (tgt := 7) C dJ1_indexOfChar_4cfef_28 (by decide) ?_
          refine cw_lv [1, 2, 3, 4, 5, 0] rfl ?_
          exact ih7 (i + 1) (by omega) (by omega) (by have := mt (letB_all x hx i (by omega)).mpr h19; omega)
        · -- 19 f
          refine cw_iload (pc := 22) C dJ1_indexOfChar_4cfef_22 5 rfl ?_
          refine hret (nI i) σ _ _ dJ1_indexOfChar_4cfef_24 ?_
          clear hret
          have hq := (letB_all x hx i (by omega)).mp h19
          exact ⟨by rw [lixI, hq, if_pos (by omega)], rfl⟩
  refine cw_lv [2, 3, 4, 5, 1, 0] rfl ?_
  exact L7 9 0 (by omega) (by omega) (by omega)
set_option maxHeartbeats 4000000 in
set_option maxRecDepth 100000 in
theorem c_J1_indexOf_4cfef (l : Launch) (D : va_G) (Z : CZ) (A : Nat → Nat) (σ : St)  (x : Nat) (hx : x < 128) : CTi l yJ1_indexOf_4cfef wsJ1_indexOf_4cfef 1 25 D Z (wC Z A) σ [.ref Z.2.2.2, .int (nI x), .int (nI 0), .int (nI 8)] (fun r σ' => r = lixI x ∧ σ' = σ) := by
  refine CTi.mk (cc := cJ1_indexOf_4cfef) (nL := 4) (own := RJ1) rfl (by decide) rfl (Nat.le_of_ble_eq_true rfl) ?_
  intro p0 e0 s0 m0 g0 b0 t0 c0 A0 Q C hret
  refine cw_lv (lv' := [(0, .ref Z.2.2.2), (1, .int (nI x)), (2, .int (nI 0)), (3, .int (nI 8))]) [0, 1, 2, 3] rfl ?_
  refine cw_iload_n (pc := 0) C dJ1_indexOf_4cfef_0 rfl 1 rfl ?_
  refine cw_calls (pc := 1) C dJ1_indexOf_4cfef_1 (c_J1_canEncode_9a6ad l D Z A σ x (by omega)) (va_cwS 1 C.1.2.2.2.2 gJ1_indexOf_4cfef_J1_canEncode_9a6ad rfl rfl rfl (by decide +kernel) ⟨Nat.le_of_ble_eq_true rfl, Nat.le_of_ble_eq_true rfl⟩) rfl rfl (Nat.le_of_ble_eq_true rfl) (cw_purez (b := true) (fun _ _ h => h) ?_)
  refine cw_if_ne (pc := 4) (tgt := 9) C dJ1_indexOf_4cfef_4 (by decide) (fun _ => ?_) (fun h => False.elim (by revert h; decide))
  refine cw_iload_n (pc := 9) C dJ1_indexOf_4cfef_9 rfl 2 rfl ?_
  refine cw_iconst (pc := 10) C dJ1_indexOf_4cfef_10 (nI 0) (by decide) ?_
  refine cw_max (pc := 11) C dJ1_indexOf_4cfef_11 (List.mem_of_getElem? (i := 1) rfl) (List.mem_of_getElem? (i := 2) rfl) (List.mem_of_getElem? (i := 3) rfl) (List.mem_of_getElem? (i := 4) rfl) (by decide) (Nat.le_of_ble_eq_true rfl) ?_
  refine cw_top (nI 0) (by decide) ?_
  refine cw_istore_n (pc := 14) C dJ1_indexOf_4cfef_14 rfl (by decide) (lv' := [(2, .int (nI 0)), (0, .ref Z.2.2.2), (1, .int (nI x)), (3, .int (nI 8))]) rfl ?_
  refine cw_iload_n (pc := 15) C dJ1_indexOf_4cfef_15 rfl 3 rfl ?_
  refine cw_aload_n (pc := 16) C dJ1_indexOf_4cfef_16 rfl 1 rfl ?_
  refine cw_alenV (pc := 17) C dJ1_indexOf_4cfef_17 ?_
  refine cw_min (pc := 18) C dJ1_indexOf_4cfef_18 (List.mem_of_getElem? (i := 5) rfl) (List.mem_of_getElem? (i := 6) rfl) (List.mem_of_getElem? (i := 3) rfl) (List.mem_of_getElem? (i := 7) rfl) (by decide) (Nat.le_of_ble_eq_true rfl) ?_
  refine cw_top (nI 8) (by decide) ?_
  refine cw_istore_n (pc := 21) C dJ1_indexOf_4cfef_21 rfl (by decide) (lv' := [(3, .int (nI 8)), (2, .int (nI 0)), (0, .ref Z.2.2.2), (1, .int (nI x))]) rfl ?_
  refine cw_iload_n (pc := 22) C dJ1_indexOf_4cfef_22 rfl 1 rfl ?_
  refine cw_iload_n (pc := 23) C dJ1_indexOf_4cfef_23 rfl 0 rfl ?_
  refine cw_icmp_lt (pc := 24) (tgt := 29) C dJ1_indexOf_4cfef_24 (by decide) (fun _ => ?_) (fun h => False.elim (by revert h; decide))
  refine cw_aload_n (pc := 29) C dJ1_indexOf_4cfef_29 rfl 2 rfl ?_
  refine cw_iload_n (pc := 30) C dJ1_indexOf_4cfef_30 rfl 3 rfl ?_
  refine cw_iload_n (pc := 31) C dJ1_indexOf_4cfef_31 rfl 1 rfl ?_
  refine cw_iload_n (pc := 32) C dJ1_indexOf_4cfef_32 rfl 0 rfl ?_
  refine cw_calls (pc := 33) C dJ1_indexOf_4cfef_33 (c_J1_indexOfChar_4cfef l D Z A σ x (by omega)) (va_cwS 4 C.1.2.2.2.2 gJ1_indexOf_4cfef_J1_indexOfChar_4cfef rfl rfl rfl (by decide +kernel) ⟨Nat.le_of_ble_eq_true rfl, Nat.le_of_ble_eq_true rfl⟩) rfl rfl (Nat.le_of_ble_eq_true rfl) (cw_pure (v := lixI x) (fun _ _ h => h) ?_)
  refine hret (lixI x) σ _ _ dJ1_indexOf_4cfef_36 ?_
  clear hret
  exact ⟨rfl, rfl⟩
set_option maxHeartbeats 4000000 in
set_option maxRecDepth 100000 in
theorem c_J0_indexOf_7cf53 (l : Launch) (D : va_G) (Z : CZ) (A : Nat → Nat) (σ : St)  (x : Nat) (hx : x < 128) : CTi l yJ0_indexOf_7cf53 wsJ0_indexOf_7cf53 2 48 D Z (wC Z A) σ [.ref Z.2.2.1, .int (nI x), .int (nI 0)] (fun r σ' => r = lixI x ∧ σ' = σ) := by
  refine CTi.mk (cc := cJ0_indexOf_7cf53) (nL := 3) (own := RJ0) rfl (by decide) rfl (Nat.le_of_ble_eq_true rfl) ?_
  intro p0 e0 s0 m0 g0 b0 t0 c0 A0 Q C hret
  refine cw_lv (lv' := [(0, .ref Z.2.2.1), (1, .int (nI x)), (2, .int (nI 0))]) [0, 1, 2] rfl ?_
  refine cw_aload_n (pc := 0) C dJ0_indexOf_7cf53_0 rfl 0 rfl ?_
  refine cw_callK (pc := 1) C dJ0_indexOf_7cf53_1 (c_J0_isLatin1_aae02 l D Z A σ ) (cwV 0 C.1.2.2.2.2 gJ0_indexOf_7cf53_J0_isLatin1_aae02 rfl rfl rfl (by decide +kernel) ⟨Nat.le_of_ble_eq_true rfl, Nat.le_of_ble_eq_true rfl⟩) rfl rfl (Nat.le_of_ble_eq_true rfl) (cw_purez (b := true) (fun _ _ h => h) ?_)
  refine cw_if_eq (pc := 4) (tgt := 23) C dJ0_indexOf_7cf53_4 (by decide) (fun h => False.elim (by revert h; decide)) (fun _ => ?_)
  refine cw_aload_n (pc := 7) C dJ0_indexOf_7cf53_7 rfl 0 rfl ?_
  refine cw_getVa (pc := 8) C dJ0_indexOf_7cf53_8 (List.mem_of_getElem? (i := 1) rfl) ?_
  refine cw_iload_n (pc := 11) C dJ0_indexOf_7cf53_11 rfl 1 rfl ?_
  refine cw_iload_n (pc := 12) C dJ0_indexOf_7cf53_12 rfl 2 rfl ?_
  refine cw_aload_n (pc := 13) C dJ0_indexOf_7cf53_13 rfl 0 rfl ?_
  refine cw_callK (pc := 14) C dJ0_indexOf_7cf53_14 (c_J0_length_8abf5 l D Z A σ ) (cwV 0 C.1.2.2.2.2 gJ0_indexOf_7cf53_J0_length_8abf5 rfl rfl rfl (by decide +kernel) ⟨Nat.le_of_ble_eq_true rfl, Nat.le_of_ble_eq_true rfl⟩) rfl rfl (Nat.le_of_ble_eq_true rfl) (cw_pure (v := nI 8) (fun _ _ h => h) ?_)
  refine cw_calls (pc := 17) C dJ0_indexOf_7cf53_17 (c_J1_indexOf_4cfef l D Z A σ x (by omega)) (va_cwS 4 C.1.2.2.2.2 gJ0_indexOf_7cf53_J1_indexOf_4cfef rfl rfl rfl (by decide +kernel) ⟨Nat.le_of_ble_eq_true rfl, Nat.le_of_ble_eq_true rfl⟩) rfl rfl (Nat.le_of_ble_eq_true rfl) (cw_pure (v := lixI x) (fun _ _ h => h) ?_)
  refine cw_goto (pc := 20) (tgt := 36) C dJ0_indexOf_7cf53_20 (by decide) ?_
  refine hret (lixI x) σ _ _ dJ0_indexOf_7cf53_36 ?_
  clear hret
  exact ⟨rfl, rfl⟩
set_option maxHeartbeats 4000000 in
set_option maxRecDepth 100000 in
theorem c_J0_indexOf_0f7a4 (l : Launch) (D : va_G) (Z : CZ) (A : Nat → Nat) (σ : St)  (x : Nat) (hx : x < 128) : CTi l yJ0_indexOf_0f7a4 wsJ0_indexOf_0f7a4 3 70 D Z (wC Z A) σ [.ref Z.2.2.1, .int (nI x)] (fun r σ' => r = lixI x ∧ σ' = σ) := by
  refine CTi.mk (cc := cJ0_indexOf_0f7a4) (nL := 2) (own := RJ0) rfl (by decide) rfl (Nat.le_of_ble_eq_true rfl) ?_
  intro p0 e0 s0 m0 g0 b0 t0 c0 A0 Q C hret
  refine cw_lv (lv' := [(0, .ref Z.2.2.1), (1, .int (nI x))]) [0, 1] rfl ?_
  refine cw_aload_n (pc := 0) C dJ0_indexOf_0f7a4_0 rfl 0 rfl ?_
  refine cw_iload_n (pc := 1) C dJ0_indexOf_0f7a4_1 rfl 1 rfl ?_
  refine cw_iconst (pc := 2) C dJ0_indexOf_0f7a4_2 (nI 0) (by decide) ?_
  refine cw_callK (pc := 3) C dJ0_indexOf_0f7a4_3 (c_J0_indexOf_7cf53 l D Z A σ x (by omega)) (cwV 2 C.1.2.2.2.2 gJ0_indexOf_0f7a4_J0_indexOf_7cf53 rfl rfl rfl (by decide +kernel) ⟨Nat.le_of_ble_eq_true rfl, Nat.le_of_ble_eq_true rfl⟩) rfl rfl (Nat.le_of_ble_eq_true rfl) (cw_pure (v := lixI x) (fun _ _ h => h) ?_)
  refine hret (lixI x) σ _ _ dJ0_indexOf_0f7a4_6 ?_
  clear hret
  exact ⟨rfl, rfl⟩
