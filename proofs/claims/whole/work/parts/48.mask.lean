set_option maxHeartbeats 4000000 in
set_option maxRecDepth 100000 in
theorem c_X7_causeOf (l : Launch) (D : va_G) (Z : CZ) (A : Nat → Nat) (σ : St)  (w : Int32)  : CTi l yX7_causeOf wsX7_causeOf 0 0 D Z (wM Z A) σ [.ref (A 0), .int (w)] (fun r σ' => r = (if w = 0 then σ 0 5 else σ 0 6) ∧ σ' = σ) := by
  refine CTi.mk (cc := cX7_causeOf) (nL := 2) (own := RX7) rfl (by decide) rfl (Nat.le_of_ble_eq_true rfl) ?_
  intro p0 e0 s0 m0 g0 b0 t0 c0 A0 Q C hret
  refine cw_lv (lv' := [(0, .ref (A 0)), (1, .int (w))]) [0, 1] rfl ?_
  refine cw_iload_n (pc := 0) C dX7_causeOf_0 rfl 1 rfl ?_
  refine cw_if_ne (pc := 1) (tgt := 11) C dX7_causeOf_1 (by decide) (fun h1 => ?_) (fun h1 => ?_)
  · -- 1 t
    refine cw_aload_n (pc := 11) C dX7_causeOf_11 rfl 0 rfl ?_
    refine cw_get (pc := 12) C dX7_causeOf_12 0 (v := .int (σ 0 6)) rfl rfl 6 rfl (fun _ h => List.mem_cons_of_mem _ (List.mem_append_right _ h)) (by decide) (List.mem_of_getElem? (i := 2) rfl) ?_
    refine hret (σ 0 6) σ _ _ dX7_causeOf_15 ?_
    clear hret
    exact ⟨by rw [if_neg h1], rfl⟩
  · -- 1 f
    refine cw_aload_n (pc := 4) C dX7_causeOf_4 rfl 0 rfl ?_
    refine cw_get (pc := 5) C dX7_causeOf_5 0 (v := .int (σ 0 5)) rfl rfl 5 rfl (fun _ h => List.mem_cons_of_mem _ (List.mem_append_right _ h)) (by decide) (List.mem_of_getElem? (i := 1) rfl) ?_
    refine cw_goto (pc := 8) (tgt := 15) C dX7_causeOf_8 (by decide) ?_
    refine hret (σ 0 5) σ _ _ dX7_causeOf_15 ?_
    clear hret
    exact ⟨by rw [if_pos h1], rfl⟩
set_option maxHeartbeats 4000000 in
set_option maxRecDepth 100000 in
theorem c_X7_why (l : Launch) (D : va_G) (Z : CZ) (A : Nat → Nat) (σ : St) (X F : Nat → Int32) (ck co : Int32) (K : Nat → Nat → Int32) (nn : Nat) (B : Nat → Int32) (L : Nat) (w : Int32) (ha : absM σ X F ck co K nn B L) : CTi l yX7_why wsX7_why 1 22 D Z (wM Z A) σ [.ref (A 0), .int (w)] (fun r σ' => r = ansV (whA ck co w) ∧ absM σ' X (ansF F (whA ck co w)) ck co K nn B L) := by
  refine CTi.mk (cc := cX7_why) (nL := 2) (own := RX7) rfl (by decide) rfl (Nat.le_of_ble_eq_true rfl) ?_
  intro p0 e0 s0 m0 g0 b0 t0 c0 A0 Q C hret
  refine cw_lv (lv' := [(0, .ref (A 0)), (1, .int (w))]) [0, 1] rfl ?_
  refine cw_iload_n (pc := 0) C dX7_why_0 rfl 1 rfl ?_
  refine cw_iconst (pc := 1) C dX7_why_1 (nI 0) (by decide) ?_
  refine cw_iconst (pc := 2) C dX7_why_2 (nI 1) (by decide) ?_
  refine cw_calls (pc := 3) C dX7_why_3 (c_X7_in l D Z A σ w (nI 0) (nI 1)) (va_cwS 3 C.1.2.2.2.2 gX7_why_X7_in rfl rfl rfl (by decide +kernel) ⟨Nat.le_of_ble_eq_true rfl, Nat.le_of_ble_eq_true rfl⟩) rfl rfl (Nat.le_of_ble_eq_true rfl) (cw_purez (b := withinB w (nI 0) (nI 1)) (fun _ _ h => h) ?_)
  refine cw_if_eq (pc := 6) (tgt := 17) C dX7_why_6 (by decide) (fun h6 => ?_) (fun h6 => ?_)
  · -- 6 t
    have h6 := bI_z h6
    refine cw_aload_n (pc := 17) C dX7_why_17 rfl 0 rfl ?_
    refine cw_bipush (pc := 18) C dX7_why_18 (-2) (by decide) ?_
    refine cw_calli (pc := 20) C dX7_why_20 (c_X7_refuse0 l D Z A σ ) (cwV 1 C.1.2.2.2.2 gX7_why_X7_refuse rfl rfl rfl (by decide +kernel) ⟨Nat.le_of_ble_eq_true rfl, Nat.le_of_ble_eq_true rfl⟩) 0 rfl rfl rfl rfl (Nat.le_of_ble_eq_true rfl) (cw_eff (v := (-2)) (fun _ _ h => h) (up2 σ 4 (upd (σ 4) 0 ((σ 4) 0 + nI 1))) rfl ?_)
    refine hret (-2) (up2 σ 4 (upd (σ 4) 0 ((σ 4) 0 + nI 1))) _ _ dX7_why_23 ?_
    clear hret
    rw [whA_no h6]
    exact ⟨rfl, absM_ref ha 0⟩
  · -- 6 f
    have h6 := bI_nz h6
    refine cw_aload_n (pc := 9) C dX7_why_9 rfl 0 rfl ?_
    refine cw_iload_n (pc := 10) C dX7_why_10 rfl 1 rfl ?_
    refine cw_calli (pc := 11) C dX7_why_11 (c_X7_causeOf l D Z A σ w) (cwV 1 C.1.2.2.2.2 gX7_why_X7_causeOf rfl rfl rfl (by decide +kernel) ⟨Nat.le_of_ble_eq_true rfl, Nat.le_of_ble_eq_true rfl⟩) 0 rfl rfl rfl rfl (Nat.le_of_ble_eq_true rfl) (cw_pure (v := if w = 0 then (σ 0) 5 else (σ 0) 6) (fun _ _ h => h) ?_)
    refine cw_goto (pc := 14) (tgt := 23) C dX7_why_14 (by decide) ?_
    refine hret (if w = 0 then (σ 0) 5 else (σ 0) 6) σ _ _ dX7_why_23 ?_
    clear hret
    rw [whA_at h6]
    exact ⟨by rw [ha.2.2.1, ha.2.2.2.1]; rfl, ha⟩
set_option maxHeartbeats 4000000 in
set_option maxRecDepth 100000 in
theorem c_X7_toldOf (l : Launch) (D : va_G) (Z : CZ) (A : Nat → Nat) (σ : St)  (j : Nat) (hj : j ≤ 4) : CTi l yX7_toldOf wsX7_toldOf 0 0 D Z (wM Z A) σ [.ref (A 0), .int (nI j)] (fun r σ' => r = (if j < 3 then σ 4 j else if j = 3 then σ 0 8 else σ 0 3) ∧ σ' = σ) := by
  refine CTi.mk (cc := cX7_toldOf) (nL := 2) (own := RX7) rfl (by decide) rfl (Nat.le_of_ble_eq_true rfl) ?_
  intro p0 e0 s0 m0 g0 b0 t0 c0 A0 Q C hret
  refine cw_lv (lv' := [(0, .ref (A 0)), (1, .int (nI j))]) [0, 1] rfl ?_
  refine cw_iload_n (pc := 0) C dX7_toldOf_0 rfl 1 rfl ?_
  refine cw_iconst (pc := 1) C dX7_toldOf_1 (nI 3) (by decide) ?_
  refine cw_icmp_ge (pc := 2) (tgt := 14) C dX7_toldOf_2 (by decide) (fun h2 => ?_) (fun h2 => ?_)
  · -- 2 t
    have h2 : 3 ≤ j := (nc_ge (a := j) (b := 3) (by omega) (by omega)).mp h2
    refine cw_iload_n (pc := 14) C dX7_toldOf_14 rfl 1 rfl ?_
    refine cw_iconst (pc := 15) C dX7_toldOf_15 (nI 3) (by decide) ?_
    refine cw_icmp_ne (pc := 16) (tgt := 26) C dX7_toldOf_16 (by decide) (fun h16 => ?_) (fun h16 => ?_)
    · -- 16 t
      have h16 : ¬ j = 3 := (nc_ne (a := j) (b := 3) (by omega) (by omega)).mp h16
      refine cw_aload_n (pc := 26) C dX7_toldOf_26 rfl 0 rfl ?_
      refine cw_get (pc := 27) C dX7_toldOf_27 0 (v := .int (σ 0 3)) rfl rfl 3 rfl (fun _ h => List.mem_cons_of_mem _ (List.mem_append_right _ h)) (by decide) (List.mem_of_getElem? (i := 3) rfl) ?_
      refine hret (σ 0 3) σ _ _ dX7_toldOf_30 ?_
      clear hret
      exact ⟨by rw [if_neg (by omega), if_neg (by omega)], rfl⟩
    · -- 16 f
      have h16 : j = 3 := (nc_eq (a := j) (b := 3) (by omega) (by omega)).mp h16
      refine cw_aload_n (pc := 19) C dX7_toldOf_19 rfl 0 rfl ?_
      refine cw_get (pc := 20) C dX7_toldOf_20 0 (v := .int (σ 0 8)) rfl rfl 8 rfl (fun _ h => List.mem_cons_of_mem _ (List.mem_append_right _ h)) (by decide) (List.mem_of_getElem? (i := 2) rfl) ?_
      refine cw_goto (pc := 23) (tgt := 30) C dX7_toldOf_23 (by decide) ?_
      refine hret (σ 0 8) σ _ _ dX7_toldOf_30 ?_
      clear hret
      exact ⟨by rw [if_neg (by omega), if_pos (by omega)], rfl⟩
  · -- 2 f
    have h2 : ¬ (3 ≤ j) := fun qq => h2 ((nc_ge (a := j) (b := 3) (by omega) (by omega)).mpr qq)
    refine cw_aload_n (pc := 5) C dX7_toldOf_5 rfl 0 rfl ?_
    refine cw_get (pc := 6) C dX7_toldOf_6 0 (v := .ref (A 4)) rfl rfl 4 rfl (fun _ h => List.mem_cons_of_mem _ (List.mem_append_right _ h)) (by decide) (List.mem_of_getElem? (i := 1) rfl) ?_
    refine cw_iload_n (pc := 9) C dX7_toldOf_9 rfl 1 rfl ?_
    refine cw_iald2 (pc := 10) C dX7_toldOf_10 4 4 (wM_g4 Z A) (f := σ 4) rfl j rfl (by omega) (by decide) ?_
    refine cw_goto (pc := 11) (tgt := 30) C dX7_toldOf_11 (by decide) ?_
    refine hret (σ 4 j) σ _ _ dX7_toldOf_30 ?_
    clear hret
    exact ⟨by rw [if_pos (by omega)], rfl⟩
set_option maxHeartbeats 4000000 in
set_option maxRecDepth 100000 in
theorem c_X7_told (l : Launch) (D : va_G) (Z : CZ) (A : Nat → Nat) (σ : St) (X F : Nat → Int32) (ck co : Int32) (K : Nat → Nat → Int32) (nn : Nat) (B : Nat → Int32) (L : Nat) (w : Int32) (ha : absM σ X F ck co K nn B L) : CTi l yX7_told wsX7_told 1 22 D Z (wM Z A) σ [.ref (A 0), .int (w)] (fun r σ' => r = ansV (toA F nn L w) ∧ absM σ' X (ansF F (toA F nn L w)) ck co K nn B L) := by
  refine CTi.mk (cc := cX7_told) (nL := 2) (own := RX7) rfl (by decide) rfl (Nat.le_of_ble_eq_true rfl) ?_
  intro p0 e0 s0 m0 g0 b0 t0 c0 A0 Q C hret
  refine cw_lv (lv' := [(0, .ref (A 0)), (1, .int (w))]) [0, 1] rfl ?_
  refine cw_iload_n (pc := 0) C dX7_told_0 rfl 1 rfl ?_
  refine cw_iconst (pc := 1) C dX7_told_1 (nI 0) (by decide) ?_
  refine cw_iconst (pc := 2) C dX7_told_2 (nI 4) (by decide) ?_
  refine cw_calls (pc := 3) C dX7_told_3 (c_X7_in l D Z A σ w (nI 0) (nI 4)) (va_cwS 3 C.1.2.2.2.2 gX7_told_X7_in rfl rfl rfl (by decide +kernel) ⟨Nat.le_of_ble_eq_true rfl, Nat.le_of_ble_eq_true rfl⟩) rfl rfl (Nat.le_of_ble_eq_true rfl) (cw_purez (b := withinB w (nI 0) (nI 4)) (fun _ _ h => h) ?_)
  refine cw_if_eq (pc := 6) (tgt := 17) C dX7_told_6 (by decide) (fun h6 => ?_) (fun h6 => ?_)
  · -- 6 t
    have h6 := bI_z h6
    refine cw_aload_n (pc := 17) C dX7_told_17 rfl 0 rfl ?_
    refine cw_bipush (pc := 18) C dX7_told_18 (-2) (by decide) ?_
    refine cw_calli (pc := 20) C dX7_told_20 (c_X7_refuse0 l D Z A σ ) (cwV 1 C.1.2.2.2.2 gX7_told_X7_refuse rfl rfl rfl (by decide +kernel) ⟨Nat.le_of_ble_eq_true rfl, Nat.le_of_ble_eq_true rfl⟩) 0 rfl rfl rfl rfl (Nat.le_of_ble_eq_true rfl) (cw_eff (v := (-2)) (fun _ _ h => h) (up2 σ 4 (upd (σ 4) 0 ((σ 4) 0 + nI 1))) rfl ?_)
    refine hret (-2) (up2 σ 4 (upd (σ 4) 0 ((σ 4) 0 + nI 1))) _ _ dX7_told_23 ?_
    clear hret
    rw [toA_no h6]
    exact ⟨rfl, absM_ref ha 0⟩
  · -- 6 f
    have h6 := bI_nz h6
    obtain ⟨j, -, hj, rfl⟩ := withinB_t (by decide) (by decide) h6
    refine cw_aload_n (pc := 9) C dX7_told_9 rfl 0 rfl ?_
    refine cw_iload_n (pc := 10) C dX7_told_10 rfl 1 rfl ?_
    refine cw_calli (pc := 11) C dX7_told_11 (c_X7_toldOf l D Z A σ j (by omega)) (cwV 1 C.1.2.2.2.2 gX7_told_X7_toldOf rfl rfl rfl (by decide +kernel) ⟨Nat.le_of_ble_eq_true rfl, Nat.le_of_ble_eq_true rfl⟩) 0 rfl rfl rfl rfl (Nat.le_of_ble_eq_true rfl) (cw_pure (v := if j < 3 then (σ 4) j else if j = 3 then (σ 0) 8 else (σ 0) 3) (fun _ _ h => h) ?_)
    refine cw_goto (pc := 14) (tgt := 23) C dX7_told_14 (by decide) ?_
    refine hret (if j < 3 then (σ 4) j else if j = 3 then (σ 0) 8 else (σ 0) 3) σ _ _ dX7_told_23 ?_
    clear hret
    rw [toA_at hj]
    exact ⟨by rw [ha.2.1, ha.2.2.2.2.1, ha.2.2.2.2.2.2.2]; rfl, ha⟩
set_option maxHeartbeats 4000000 in
set_option maxRecDepth 100000 in
theorem c_X7_clear (l : Launch) (D : va_G) (Z : CZ) (A : Nat → Nat) (σ : St) (X F : Nat → Int32) (ck co : Int32) (K : Nat → Nat → Int32) (nn : Nat) (B : Nat → Int32) (L : Nat)  (ha : absM σ X F ck co K nn B L) : CTi l yX7_clear wsX7_clear 0 0 D Z (wM Z A) σ [.ref (A 0)] (fun r σ' => r = nI L ∧ absM σ' X F ck co K nn B 0) := by
  refine CTi.mk (cc := cX7_clear) (nL := 2) (own := RX7) rfl (by decide) rfl (Nat.le_of_ble_eq_true rfl) ?_
  intro p0 e0 s0 m0 g0 b0 t0 c0 A0 Q C hret
  obtain ⟨hT, m2, m3, m4, m5, m6, m7, m8⟩ := ha
  refine cw_lv (lv' := [(0, .ref (A 0))]) [0] rfl ?_
  refine cw_aload_n (pc := 0) C dX7_clear_0 rfl 0 rfl ?_
  refine cw_get (pc := 1) C dX7_clear_1 0 (v := .int (σ 0 8)) rfl rfl 8 rfl (fun _ h => List.mem_cons_of_mem _ (List.mem_append_right _ h)) (by decide) (List.mem_of_getElem? (i := 1) rfl) ?_
  refine cw_top (nI L) m8 ?_
  refine cw_istore_n (pc := 4) C dX7_clear_4 rfl (by decide) (lv' := [(1, .int (nI L)), (0, .ref (A 0))]) rfl ?_
  refine cw_aload_n (pc := 5) C dX7_clear_5 rfl 1 rfl ?_
  refine cw_iconst (pc := 6) C dX7_clear_6 (nI 0) (by decide) ?_
  refine cw_put (pc := 7) C dX7_clear_7 0 (ty := .int) rfl rfl 8 (fun _ h => List.mem_cons_of_mem _ (List.mem_append_right _ h)) tyX7_ok nmX7 (by decide) (List.mem_of_getElem? (i := 1) rfl) rfl (by decide +kernel) rfl rfl (Nat.le_of_ble_eq_true rfl) (up2 σ 0 (upd (σ 0) 8 (nI 0))) (wM_p0_8 Z A _ _) ?_
  refine cw_iload_n (pc := 10) C dX7_clear_10 rfl 0 rfl ?_
  refine hret (nI L) (up2 σ 0 (upd (σ 0) 8 (nI 0))) _ _ dX7_clear_11 ?_
  clear hret
  exact ⟨rfl, by rw [up2_ne _ _ (by decide)]; exact hT, by rw [up2_ne _ _ (by decide)]; exact m2, by rw [up2_eq, upd_ne (by decide)]; exact m3, by rw [up2_eq, upd_ne (by decide)]; exact m4, by rw [up2_eq, upd_ne (by decide)]; exact m5, by rw [up2_ne _ _ (by decide)]; exact m6, by rw [up2_ne _ _ (by decide)]; exact m7, by rw [up2_eq, upd_same]⟩
set_option maxHeartbeats 4000000 in
set_option maxRecDepth 100000 in
theorem c_X7_type (l : Launch) (D : va_G) (Z : CZ) (A : Nat → Nat) (σ : St) (X F : Nat → Int32) (ck co : Int32) (K : Nat → Nat → Int32) (nn : Nat) (B : Nat → Int32) (L : Nat) (v : Int32) (ha : absM σ X F ck co K nn B L) (hL : L ≤ 150) : CTi l yX7_type wsX7_type 1 22 D Z (wM Z A) σ [.ref (A 0), .int (v)] (fun r σ' => r = ansV (tyA L v) ∧ absM σ' X (ansF F (tyA L v)) ck co K nn (tyT B L v) (tyL L v)) := by
  refine CTi.mk (cc := cX7_type) (nL := 2) (own := RX7) rfl (by decide) rfl (Nat.le_of_ble_eq_true rfl) ?_
  intro p0 e0 s0 m0 g0 b0 t0 c0 A0 Q C hret
  obtain ⟨hT, m2, m3, m4, m5, m6, m7, m8⟩ := id ha
  refine cw_lv (lv' := [(0, .ref (A 0)), (1, .int (v))]) [0, 1] rfl ?_
  refine cw_iload_n (pc := 0) C dX7_type_0 rfl 1 rfl ?_
  refine cw_iconst (pc := 1) C dX7_type_1 (nI 0) (by decide) ?_
  refine cw_bipush (pc := 2) C dX7_type_2 (nI 127) (by decide) ?_
  refine cw_calls (pc := 4) C dX7_type_4 (c_X7_in l D Z A σ v (nI 0) (nI 127)) (va_cwS 3 C.1.2.2.2.2 gX7_type_X7_in rfl rfl rfl (by decide +kernel) ⟨Nat.le_of_ble_eq_true rfl, Nat.le_of_ble_eq_true rfl⟩) rfl rfl (Nat.le_of_ble_eq_true rfl) (cw_purez (b := withinB v (nI 0) (nI 127)) (fun _ _ h => h) ?_)
  refine cw_if_ne (pc := 7) (tgt := 17) C dX7_type_7 (by decide) (fun h7 => ?_) (fun h7 => ?_)
  · -- 7 t
    have h7 := bI_nz h7
    refine cw_aload_n (pc := 17) C dX7_type_17 rfl 0 rfl ?_
    refine cw_get (pc := 18) C dX7_type_18 0 (v := .int (σ 0 8)) rfl rfl 8 rfl (fun _ h => List.mem_cons_of_mem _ (List.mem_append_right _ h)) (by decide) (List.mem_of_getElem? (i := 1) rfl) ?_
    refine cw_top (nI L) m8 ?_
    refine cw_sipush (pc := 21) C dX7_type_21 (nI 150) (by decide) ?_
    refine cw_icmp_ne (pc := 24) (tgt := 34) C dX7_type_24 (by decide) (fun h24 => ?_) (fun h24 => ?_)
    · -- 24 t
      have h24 : ¬ L = 150 := (nc_ne (a := L) (b := 150) (by omega) (by omega)).mp h24
      refine cw_aload_n (pc := 34) C dX7_type_34 rfl 0 rfl ?_
      refine cw_get (pc := 35) C dX7_type_35 0 (v := .ref (A 5)) rfl rfl 7 rfl (fun _ h => List.mem_cons_of_mem _ (List.mem_append_right _ h)) (by decide) (List.mem_of_getElem? (i := 2) rfl) ?_
      refine cw_aload_n (pc := 38) C dX7_type_38 rfl 0 rfl ?_
      refine cw_get (pc := 39) C dX7_type_39 0 (v := .int (σ 0 8)) rfl rfl 8 rfl (fun _ h => List.mem_cons_of_mem _ (List.mem_append_right _ h)) (by decide) (List.mem_of_getElem? (i := 1) rfl) ?_
      refine cw_top (nI L) m8 ?_
      refine cw_iload_n (pc := 42) C dX7_type_42 rfl 1 rfl ?_
      refine cw_iast2 (pc := 43) C dX7_type_43 5 5 (wM_g5 Z A) (wM_s5 Z A) (f := σ 5) rfl L rfl (by omega) (by decide) (up2 σ 5 (upd (σ 5) L v)) rfl ?_
      refine cw_aload_n (pc := 44) C dX7_type_44 rfl 0 rfl ?_
      refine cw_dup (pc := 45) C dX7_type_45 rfl ?_
      refine cw_get (pc := 46) C dX7_type_46 0 (v := .int (σ 0 8)) rfl rfl 8 rfl (fun _ h => List.mem_cons_of_mem _ (List.mem_append_right _ h)) (by decide) (List.mem_of_getElem? (i := 1) rfl) ?_
      refine cw_top (nI L) m8 ?_
      refine cw_iconst (pc := 49) C dX7_type_49 (nI 1) (by decide) ?_
      refine cw_iadd (pc := 50) C dX7_type_50 (z := nI (L + 1)) (nI_add _ _) ?_
      refine cw_put (pc := 51) C dX7_type_51 0 (ty := .int) rfl rfl 8 (fun _ h => List.mem_cons_of_mem _ (List.mem_append_right _ h)) tyX7_ok nmX7 (by decide) (List.mem_of_getElem? (i := 1) rfl) rfl (by decide +kernel) rfl rfl (Nat.le_of_ble_eq_true rfl) (up2 (up2 σ 0 (upd (σ 0) 8 (nI (L + 1)))) 5 (upd (σ 5) L v)) ((wM_p0_8 Z A _ _).trans (congrArg (wM Z A) ((up2_comm _ _ _ (by decide)).trans (congrArg (fun qz => up2 qz 5 (upd (σ 5) L v)) rfl)))) ?_
      refine cw_aload_n (pc := 54) C dX7_type_54 rfl 0 rfl ?_
      refine cw_get (pc := 55) C dX7_type_55 0 (v := .int (nI (L + 1))) rfl rfl 8 rfl (fun _ h => List.mem_cons_of_mem _ (List.mem_append_right _ h)) (by decide) (List.mem_of_getElem? (i := 1) rfl) ?_
      refine cw_top (nI (L + 1)) rfl ?_
      refine hret (nI (L + 1)) (up2 (up2 σ 0 (upd (σ 0) 8 (nI (L + 1)))) 5 (upd (σ 5) L v)) _ _ dX7_type_58 ?_
      clear hret
      have hL1 : L < 150 := by omega
      have hb : tyB L v = true := by simp [tyB, h7, hL1]
      rw [show tyA L v = .inl (nI (L + 1)) by rw [tyA, if_pos h7, if_pos hL1], show tyT B L v = upd B L v by simp [tyT, hb], show tyL L v = L + 1 by simp [tyL, hb]]
      exact ⟨rfl, by rw [up2_ne _ _ (by decide), up2_ne _ _ (by decide)]; exact hT, by rw [up2_ne _ _ (by decide), up2_ne _ _ (by decide)]; exact m2, by rw [up2_ne _ _ (by decide), up2_eq, upd_ne (by decide)]; exact m3, by rw [up2_ne _ _ (by decide), up2_eq, upd_ne (by decide)]; exact m4, by rw [up2_ne _ _ (by decide), up2_eq, upd_ne (by decide)]; exact m5, by rw [up2_ne _ _ (by decide), up2_ne _ _ (by decide)]; exact m6, by rw [up2_eq, m7], by rw [up2_ne _ _ (by decide), up2_eq, upd_same]⟩
    · -- 24 f
      have h24 : L = 150 := (nc_eq (a := L) (b := 150) (by omega) (by omega)).mp h24
      refine cw_aload_n (pc := 27) C dX7_type_27 rfl 0 rfl ?_
      refine cw_bipush (pc := 28) C dX7_type_28 (-4) (by decide) ?_
      refine cw_calli (pc := 30) C dX7_type_30 (c_X7_refuse2 l D Z A σ ) (cwV 1 C.1.2.2.2.2 gX7_type_X7_refuse rfl rfl rfl (by decide +kernel) ⟨Nat.le_of_ble_eq_true rfl, Nat.le_of_ble_eq_true rfl⟩) 0 rfl rfl rfl rfl (Nat.le_of_ble_eq_true rfl) (cw_eff (v := (-4)) (fun _ _ h => h) (up2 σ 4 (upd (σ 4) 2 ((σ 4) 2 + nI 1))) rfl ?_)
      refine hret (-4) (up2 σ 4 (upd (σ 4) 2 ((σ 4) 2 + nI 1))) _ _ dX7_type_33 ?_
      clear hret
      have hb : tyB L v = false := by simp [tyB, h7, h24]
      rw [show tyA L v = .inr 2 by rw [tyA, if_pos h7, if_neg (by omega)], show tyT B L v = B by simp [tyT, hb], show tyL L v = L by simp [tyL, hb]]
      exact ⟨rfl, absM_ref ha 2⟩
  · -- 7 f
    have h7 := bI_z h7
    refine cw_aload_n (pc := 10) C dX7_type_10 rfl 0 rfl ?_
    refine cw_bipush (pc := 11) C dX7_type_11 (-2) (by decide) ?_
    refine cw_calli (pc := 13) C dX7_type_13 (c_X7_refuse0 l D Z A σ ) (cwV 1 C.1.2.2.2.2 gX7_type_X7_refuse rfl rfl rfl (by decide +kernel) ⟨Nat.le_of_ble_eq_true rfl, Nat.le_of_ble_eq_true rfl⟩) 0 rfl rfl rfl rfl (Nat.le_of_ble_eq_true rfl) (cw_eff (v := (-2)) (fun _ _ h => h) (up2 σ 4 (upd (σ 4) 0 ((σ 4) 0 + nI 1))) rfl ?_)
    refine hret (-2) (up2 σ 4 (upd (σ 4) 0 ((σ 4) 0 + nI 1))) _ _ dX7_type_16 ?_
    clear hret
    have hb : tyB L v = false := by simp [tyB, h7]
    rw [show tyA L v = .inr 0 by rw [tyA, if_neg (by rw [h7]; decide)], show tyT B L v = B by simp [tyT, hb], show tyL L v = L by simp [tyL, hb]]
    exact ⟨rfl, absM_ref ha 0⟩
set_option maxHeartbeats 4000000 in
set_option maxRecDepth 100000 in
theorem c_X7_back (l : Launch) (D : va_G) (Z : CZ) (A : Nat → Nat) (σ : St) (X F : Nat → Int32) (ck co : Int32) (K : Nat → Nat → Int32) (nn : Nat) (B : Nat → Int32) (L : Nat)  (ha : absM σ X F ck co K nn B L) (hnn : nn ≤ 5) : CTi l yX7_back wsX7_back 1 24 D Z (wM Z A) σ [.ref (A 0)] (fun r σ' => (nn = 0 ∧ r = -3 ∧ absM σ' X (cntF F 1) ck co K nn B L) ∨ (nn ≠ 0 ∧ r = nI (nn - 1) ∧ absM σ' (K (nn - 1)) F ck co K (nn - 1) B L)) := by
  refine CTi.mk (cc := cX7_back) (nL := 1) (own := RX7) rfl (by decide) rfl (Nat.le_of_ble_eq_true rfl) ?_
  intro p0 e0 s0 m0 g0 b0 t0 c0 A0 Q C hret
  obtain ⟨hT, m2, m3, m4, m5, m6, m7, m8⟩ := id ha
  refine cw_lv (lv' := [(0, .ref (A 0))]) [0] rfl ?_
  refine cw_aload_n (pc := 0) C dX7_back_0 rfl 0 rfl ?_
  refine cw_get (pc := 1) C dX7_back_1 0 (v := .int (σ 0 3)) rfl rfl 3 rfl (fun _ h => List.mem_cons_of_mem _ (List.mem_append_right _ h)) (by decide) (List.mem_of_getElem? (i := 1) rfl) ?_
  refine cw_top (nI nn) m5 ?_
  refine cw_if_ne (pc := 4) (tgt := 14) C dX7_back_4 (by decide) (fun h4 => ?_) (fun h4 => ?_)
  · -- 4 t
    have h4 : ¬ nn = 0 := (nc_ne (a := nn) (b := 0) (by omega) (by omega)).mp h4
    refine cw_aload_n (pc := 14) C dX7_back_14 rfl 0 rfl ?_
    refine cw_dup (pc := 15) C dX7_back_15 rfl ?_
    refine cw_get (pc := 16) C dX7_back_16 0 (v := .int (σ 0 3)) rfl rfl 3 rfl (fun _ h => List.mem_cons_of_mem _ (List.mem_append_right _ h)) (by decide) (List.mem_of_getElem? (i := 1) rfl) ?_
    refine cw_top (nI nn) m5 ?_
    refine cw_iconst (pc := 19) C dX7_back_19 (nI 1) (by decide) ?_
    refine cw_isub (pc := 20) C dX7_back_20 (z := nI (nn - 1)) (pk_sub (by omega)) ?_
    refine cw_put (pc := 21) C dX7_back_21 0 (ty := .int) rfl rfl 3 (fun _ h => List.mem_cons_of_mem _ (List.mem_append_right _ h)) tyX7_ok nmX7 (by decide) (List.mem_of_getElem? (i := 1) rfl) rfl (by decide +kernel) rfl rfl (Nat.le_of_ble_eq_true rfl) (up2 σ 0 (upd (σ 0) 3 (nI (nn - 1)))) (wM_p0_3 Z A _ _) ?_
    refine cw_aload_n (pc := 24) C dX7_back_24 rfl 0 rfl ?_
    refine cw_get (pc := 25) C dX7_back_25 0 (v := .ref (A 3)) rfl rfl 2 rfl (fun _ h => List.mem_cons_of_mem _ (List.mem_append_right _ h)) (by decide) (List.mem_of_getElem? (i := 2) rfl) ?_
    refine cw_bipush (pc := 28) C dX7_back_28 (nI 51) (by decide) ?_
    refine cw_aload_n (pc := 30) C dX7_back_30 rfl 0 rfl ?_
    refine cw_get (pc := 31) C dX7_back_31 0 (v := .int (nI (nn - 1))) rfl rfl 3 rfl (fun _ h => List.mem_cons_of_mem _ (List.mem_append_right _ h)) (by decide) (List.mem_of_getElem? (i := 1) rfl) ?_
    refine cw_top (nI (nn - 1)) rfl ?_
    refine cw_imul (pc := 34) C dX7_back_34 (z := nI (51 * (nn - 1))) (pk_mul _ _) ?_
    refine cw_aload_n (pc := 35) C dX7_back_35 rfl 0 rfl ?_
    refine cw_get (pc := 36) C dX7_back_36 0 (v := .ref (A 1)) rfl rfl 0 rfl (fun _ h => List.mem_cons_of_mem _ (List.mem_append_right _ h)) (by decide) (List.mem_of_getElem? (i := 3) rfl) ?_
    refine cw_iconst (pc := 39) C dX7_back_39 (nI 0) (by decide) ?_
    have hf1 : (up2 σ 0 (upd (σ 0) 3 (nI (nn - 1)))) 1 = σ 1 := (up2_ne _ _ (by decide))
    have hf3 : (up2 σ 0 (upd (σ 0) 3 (nI (nn - 1)))) 3 = σ 3 := (up2_ne _ _ (by decide))
    have ee0 := congrArg (fun qz => va_cpy qz ((up2 σ 0 (upd (σ 0) 3 (nI (nn - 1)))) 1) (51 * (nn - 1)) 0 51) hf3
    have ee1 := congrArg (fun qz => va_cpy (σ 3) qz (51 * (nn - 1)) 0 51) hf1
    have e3 := congrArg (fun qz => up2 (up2 σ 0 (upd (σ 0) 3 (nI (nn - 1)))) 1 qz) (ee0.trans ee1)
    refine cw_callsv (pc := 40) C dX7_back_40 (c_X7_bring31 l D Z A (up2 σ 0 (upd (σ 0) 3 (nI (nn - 1)))) (51 * (nn - 1)) (by omega)) (va_cwS 4 C.1.2.2.2.2 gX7_back_X7_bring rfl rfl rfl (by decide +kernel) ⟨Nat.le_of_ble_eq_true rfl, Nat.le_of_ble_eq_true rfl⟩) rfl rfl (Nat.le_of_ble_eq_true rfl) (cw_effv (fun _ h => h) (up2 (up2 σ 0 (upd (σ 0) 3 (nI (nn - 1)))) 1 (va_cpy (σ 3) (σ 1) (51 * (nn - 1)) 0 51)) (congrArg (wM Z A) e3) ?_)
    refine cw_aload_n (pc := 43) C dX7_back_43 rfl 0 rfl ?_
    refine cw_get (pc := 44) C dX7_back_44 0 (v := .int (nI (nn - 1))) rfl rfl 3 rfl (fun _ h => List.mem_cons_of_mem _ (List.mem_append_right _ h)) (by decide) (List.mem_of_getElem? (i := 1) rfl) ?_
    refine cw_top (nI (nn - 1)) rfl ?_
    refine hret (nI (nn - 1)) (up2 (up2 σ 0 (upd (σ 0) 3 (nI (nn - 1)))) 1 (va_cpy (σ 3) (σ 1) (51 * (nn - 1)) 0 51)) _ _ dX7_back_47 ?_
    clear hret
    exact Or.inr ⟨h4, rfl, by rw [up2_eq, hT]; exact cpy_now (fun k hk => m6 (nn - 1) (by omega) k hk), by rw [up2_ne _ _ (by decide), up2_ne _ _ (by decide)]; exact m2, by rw [up2_ne _ _ (by decide), up2_eq, upd_ne (by decide)]; exact m3, by rw [up2_ne _ _ (by decide), up2_eq, upd_ne (by decide)]; exact m4, by rw [up2_ne _ _ (by decide), up2_eq, upd_same], by rw [up2_ne _ _ (by decide), up2_ne _ _ (by decide)]; exact fun i hi => m6 i (by omega), by rw [up2_ne _ _ (by decide), up2_ne _ _ (by decide)]; exact m7, by rw [up2_ne _ _ (by decide), up2_eq, upd_ne (by decide)]; exact m8⟩
  · -- 4 f
    have h4 : nn = 0 := (nc_eq (a := nn) (b := 0) (by omega) (by omega)).mp h4
    have h4 : nn = 0 := by omega
    refine cw_aload_n (pc := 7) C dX7_back_7 rfl 0 rfl ?_
    refine cw_bipush (pc := 8) C dX7_back_8 (-3) (by decide) ?_
    refine cw_calli (pc := 10) C dX7_back_10 (c_X7_refuse1 l D Z A σ ) (cwV 1 C.1.2.2.2.2 gX7_back_X7_refuse rfl rfl rfl (by decide +kernel) ⟨Nat.le_of_ble_eq_true rfl, Nat.le_of_ble_eq_true rfl⟩) 0 rfl rfl rfl rfl (Nat.le_of_ble_eq_true rfl) (cw_eff (v := (-3)) (fun _ _ h => h) (up2 σ 4 (upd (σ 4) 1 ((σ 4) 1 + nI 1))) rfl ?_)
    refine hret (-3) (up2 σ 4 (upd (σ 4) 1 ((σ 4) 1 + nI 1))) _ _ dX7_back_13 ?_
    clear hret
    exact Or.inl ⟨h4, rfl, absM_ref ha 1⟩
