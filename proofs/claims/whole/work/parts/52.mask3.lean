set_option maxHeartbeats 4000000 in
set_option maxRecDepth 100000 in
theorem c_X7_ofGear (l : Launch) (D : va_G) (Z : CZ) (A : Nat → Nat) (σ : St) (X : Nat → Int32)  (g : Nat) (w : Nat) (hT : σ 1 = mrow X) (hX : setsOK X) (hg1 : 1 ≤ g) (hg : g ≤ 7) (hw : w ≤ 4) : CTi l yX7_ofGear wsX7_ofGear 3 72 D Z (wM Z A) σ [.ref (A 0), .int (nI g), .int (nI w)] (fun r σ' => r = ansV (ofA X (nI g) (nI w)) ∧ σ' = σ) := by
  refine CTi.mk (cc := cX7_ofGear) (nL := 3) (own := RX7) rfl (by decide) rfl (Nat.le_of_ble_eq_true rfl) ?_
  intro p0 e0 s0 m0 g0 b0 t0 c0 A0 Q C hret
  refine cw_lv (lv' := [(0, .ref (A 0)), (1, .int (nI g)), (2, .int (nI w))]) [0, 1, 2] rfl ?_
  refine cw_iload_n (pc := 0) C dX7_ofGear_0 rfl 2 rfl ?_
  refine cw_if_ne (pc := 1) (tgt := 15) C dX7_ofGear_1 (by decide) (fun h1 => ?_) (fun h1 => ?_)
  · -- 1 t
    have h1 : ¬ w = 0 := (nc_ne (a := w) (b := 0) (by omega) (by omega)).mp h1
    refine cw_iload_n (pc := 15) C dX7_ofGear_15 rfl 2 rfl ?_
    refine cw_iconst (pc := 16) C dX7_ofGear_16 (nI 1) (by decide) ?_
    refine cw_icmp_ne (pc := 17) (tgt := 36) C dX7_ofGear_17 (by decide) (fun h17 => ?_) (fun h17 => ?_)
    · -- 17 t
      have h17 : ¬ w = 1 := (nc_ne (a := w) (b := 1) (by omega) (by omega)).mp h17
      refine cw_iload_n (pc := 36) C dX7_ofGear_36 rfl 2 rfl ?_
      refine cw_iconst (pc := 37) C dX7_ofGear_37 (nI 2) (by decide) ?_
      refine cw_icmp_ne (pc := 38) (tgt := 53) C dX7_ofGear_38 (by decide) (fun h38 => ?_) (fun h38 => ?_)
      · -- 38 t
        have h38 : ¬ w = 2 := (nc_ne (a := w) (b := 2) (by omega) (by omega)).mp h38
        refine cw_iload_n (pc := 53) C dX7_ofGear_53 rfl 2 rfl ?_
        refine cw_iconst (pc := 54) C dX7_ofGear_54 (nI 3) (by decide) ?_
        refine cw_icmp_ne (pc := 55) (tgt := 70) C dX7_ofGear_55 (by decide) (fun h55 => ?_) (fun h55 => ?_)
        · -- 55 t
          have h55 : ¬ w = 3 := (nc_ne (a := w) (b := 3) (by omega) (by omega)).mp h55
          refine cw_aload_n (pc := 70) C dX7_ofGear_70 rfl 0 rfl ?_
          refine cw_iload_n (pc := 71) C dX7_ofGear_71 rfl 1 rfl ?_
          refine cw_calli (pc := 72) C dX7_ofGear_72 (c_X7_simpleMany l D Z A σ X g hT hX hg1 hg) (cwV 1 C.1.2.2.2.2 gX7_ofGear_X7_simpleMany rfl rfl rfl (by decide +kernel) ⟨Nat.le_of_ble_eq_true rfl, Nat.le_of_ble_eq_true rfl⟩) 0 rfl rfl rfl rfl (Nat.le_of_ble_eq_true rfl) (cw_pure (v := nI (cntN (fun q9 => simN X g (q9 + 1)) 7)) (fun _ _ h => h) ?_)
          refine hret (nI (cntN (fun q9 => simN X g (q9 + 1)) 7)) σ _ _ dX7_ofGear_75 ?_
          clear hret
          have hw4 : w = 4 := by omega
          exact ⟨by rw [hw4, ofV4 hg1 hg], rfl⟩
        · -- 55 f
          have h55 : w = 3 := (nc_eq (a := w) (b := 3) (by omega) (by omega)).mp h55
          refine cw_aload_n (pc := 58) C dX7_ofGear_58 rfl 0 rfl ?_
          refine cw_get (pc := 59) C dX7_ofGear_59 0 (v := .ref (A 1)) rfl rfl 0 rfl (fun _ h => List.mem_cons_of_mem _ (List.mem_append_right _ h)) (by decide) (List.mem_of_getElem? (i := 1) rfl) ?_
          refine cw_bipush (pc := 62) C dX7_ofGear_62 (nI 31) (by decide) ?_
          refine cw_iload_n (pc := 64) C dX7_ofGear_64 rfl 1 rfl ?_
          refine cw_iadd (pc := 65) C dX7_ofGear_65 (z := nI (31 + g)) (nI_add _ _) ?_
          refine cw_iald2 (pc := 66) C dX7_ofGear_66 1 1 (wM_g1 Z A) (f := σ 1) rfl (31 + g) rfl (by omega) (by decide) ?_
          refine cw_top (X (16 + g)) (mr hT (by omega) (by omega) (pm_dn (by omega))) ?_
          refine cw_goto (pc := 67) (tgt := 75) C dX7_ofGear_67 (by decide) ?_
          refine hret (X (16 + g)) σ _ _ dX7_ofGear_75 ?_
          clear hret
          exact ⟨by rw [h55, ofV3 hg1 hg], rfl⟩
      · -- 38 f
        have h38 : w = 2 := (nc_eq (a := w) (b := 2) (by omega) (by omega)).mp h38
        refine cw_aload_n (pc := 41) C dX7_ofGear_41 rfl 0 rfl ?_
        refine cw_get (pc := 42) C dX7_ofGear_42 0 (v := .ref (A 1)) rfl rfl 0 rfl (fun _ h => List.mem_cons_of_mem _ (List.mem_append_right _ h)) (by decide) (List.mem_of_getElem? (i := 1) rfl) ?_
        refine cw_bipush (pc := 45) C dX7_ofGear_45 (nI 23) (by decide) ?_
        refine cw_iload_n (pc := 47) C dX7_ofGear_47 rfl 1 rfl ?_
        refine cw_iadd (pc := 48) C dX7_ofGear_48 (z := nI (23 + g)) (nI_add _ _) ?_
        refine cw_iald2 (pc := 49) C dX7_ofGear_49 1 1 (wM_g1 Z A) (f := σ 1) rfl (23 + g) rfl (by omega) (by decide) ?_
        refine cw_top (X (8 + g)) (mr hT (by omega) (by omega) (pm_up (by omega))) ?_
        refine cw_goto (pc := 50) (tgt := 75) C dX7_ofGear_50 (by decide) ?_
        refine hret (X (8 + g)) σ _ _ dX7_ofGear_75 ?_
        clear hret
        exact ⟨by rw [h38, ofV2 hg1 hg], rfl⟩
    · -- 17 f
      have h17 : w = 1 := (nc_eq (a := w) (b := 1) (by omega) (by omega)).mp h17
      refine cw_aload_n (pc := 20) C dX7_ofGear_20 rfl 0 rfl ?_
      refine cw_iload_n (pc := 21) C dX7_ofGear_21 rfl 1 rfl ?_
      refine cw_calli (pc := 22) C dX7_ofGear_22 (c_X7_isFit l D Z A σ X g hT hg1 hg) (cwV 1 C.1.2.2.2.2 gX7_ofGear_X7_isFit rfl rfl rfl (by decide +kernel) ⟨Nat.le_of_ble_eq_true rfl, Nat.le_of_ble_eq_true rfl⟩) 0 rfl rfl rfl rfl (Nat.le_of_ble_eq_true rfl) (cw_purez (b := fitN X g) (fun _ _ h => h) ?_)
      refine cw_if_eq (pc := 25) (tgt := 32) C dX7_ofGear_25 (by decide) (fun h25 => ?_) (fun h25 => ?_)
      · -- 25 t
        have h25 := bI_z h25
        refine cw_iconst (pc := 32) C dX7_ofGear_32 (nI 0) (by decide) ?_
        refine cw_goto (pc := 33) (tgt := 75) C dX7_ofGear_33 (by decide) ?_
        refine hret (nI 0) σ _ _ dX7_ofGear_75 ?_
        clear hret
        exact ⟨by rw [h17, ofV1 hg1 hg, h25]; rfl, rfl⟩
      · -- 25 f
        have h25 := bI_nz h25
        refine cw_iconst (pc := 28) C dX7_ofGear_28 (nI 1) (by decide) ?_
        refine cw_goto (pc := 29) (tgt := 75) C dX7_ofGear_29 (by decide) ?_
        refine hret (nI 1) σ _ _ dX7_ofGear_75 ?_
        clear hret
        exact ⟨by rw [h17, ofV1 hg1 hg, h25]; rfl, rfl⟩
  · -- 1 f
    have h1 : w = 0 := (nc_eq (a := w) (b := 0) (by omega) (by omega)).mp h1
    refine cw_aload_n (pc := 4) C dX7_ofGear_4 rfl 0 rfl ?_
    refine cw_get (pc := 5) C dX7_ofGear_5 0 (v := .ref (A 1)) rfl rfl 0 rfl (fun _ h => List.mem_cons_of_mem _ (List.mem_append_right _ h)) (by decide) (List.mem_of_getElem? (i := 1) rfl) ?_
    refine cw_iconst (pc := 8) C dX7_ofGear_8 (nI 0) (by decide) ?_
    refine cw_iload_n (pc := 9) C dX7_ofGear_9 rfl 1 rfl ?_
    refine cw_iadd (pc := 10) C dX7_ofGear_10 (z := nI g) (nI_0add _) ?_
    refine cw_iald2 (pc := 11) C dX7_ofGear_11 1 1 (wM_g1 Z A) (f := σ 1) rfl g rfl (by omega) (by decide) ?_
    refine cw_top (X g) (mr hT (by omega) (by omega) (pm_se (by omega))) ?_
    refine cw_goto (pc := 12) (tgt := 75) C dX7_ofGear_12 (by decide) ?_
    refine hret (X g) σ _ _ dX7_ofGear_75 ?_
    clear hret
    exact ⟨by rw [h1, ofV0 hg1 hg], rfl⟩
set_option maxHeartbeats 4000000 in
set_option maxRecDepth 100000 in
theorem c_X7_of (l : Launch) (D : va_G) (Z : CZ) (A : Nat → Nat) (σ : St) (X F : Nat → Int32) (ck co : Int32) (K : Nat → Nat → Int32) (nn : Nat) (B : Nat → Int32) (L : Nat) (g : Int32) (w : Int32) (ha : absM σ X F ck co K nn B L) (hO : rowOK X) : CTi l yX7_of wsX7_of 4 94 D Z (wM Z A) σ [.ref (A 0), .int (g), .int (w)] (fun r σ' => r = ansV (ofA X g w) ∧ absM σ' X (ansF F (ofA X g w)) ck co K nn B L) := by
  refine CTi.mk (cc := cX7_of) (nL := 3) (own := RX7) rfl (by decide) rfl (Nat.le_of_ble_eq_true rfl) ?_
  intro p0 e0 s0 m0 g0 b0 t0 c0 A0 Q C hret
  have hT := ha.1
  refine cw_lv (lv' := [(0, .ref (A 0)), (1, .int (g)), (2, .int (w))]) [0, 1, 2] rfl ?_
  refine cw_iload_n (pc := 0) C dX7_of_0 rfl 1 rfl ?_
  refine cw_calls (pc := 1) C dX7_of_1 (c_X7_isGear l D Z A σ g) (va_cwS 1 C.1.2.2.2.2 gX7_of_X7_isGear rfl rfl rfl (by decide +kernel) ⟨Nat.le_of_ble_eq_true rfl, Nat.le_of_ble_eq_true rfl⟩) rfl rfl (Nat.le_of_ble_eq_true rfl) (cw_purez (b := gearB g) (fun _ _ h => h) ?_)
  refine cw_if_eq (pc := 4) (tgt := 25) C dX7_of_4 (by decide) (fun h4 => ?_) (fun h4 => ?_)
  · -- 4 t
    have h4 := bI_z h4
    refine cw_aload_n (pc := 25) C dX7_of_25 rfl 0 rfl ?_
    refine cw_bipush (pc := 26) C dX7_of_26 (-2) (by decide) ?_
    refine cw_calli (pc := 28) C dX7_of_28 (c_X7_refuse0 l D Z A σ ) (cwV 1 C.1.2.2.2.2 gX7_of_X7_refuse rfl rfl rfl (by decide +kernel) ⟨Nat.le_of_ble_eq_true rfl, Nat.le_of_ble_eq_true rfl⟩) 0 rfl rfl rfl rfl (Nat.le_of_ble_eq_true rfl) (cw_eff (v := (-2)) (fun _ _ h => h) (up2 σ 4 (upd (σ 4) 0 ((σ 4) 0 + nI 1))) rfl ?_)
    refine hret (-2) (up2 σ 4 (upd (σ 4) 0 ((σ 4) 0 + nI 1))) _ _ dX7_of_31 ?_
    clear hret
    rw [ofA_no1 h4]
    exact ⟨rfl, absM_ref ha 0⟩
  · -- 4 f
    have h4 := bI_nz h4
    obtain ⟨x, x1, x2, rfl⟩ := gearB_t h4
    refine cw_iload_n (pc := 7) C dX7_of_7 rfl 2 rfl ?_
    refine cw_iconst (pc := 8) C dX7_of_8 (nI 0) (by decide) ?_
    refine cw_iconst (pc := 9) C dX7_of_9 (nI 4) (by decide) ?_
    refine cw_calls (pc := 10) C dX7_of_10 (c_X7_in l D Z A σ w (nI 0) (nI 4)) (va_cwS 3 C.1.2.2.2.2 gX7_of_X7_in rfl rfl rfl (by decide +kernel) ⟨Nat.le_of_ble_eq_true rfl, Nat.le_of_ble_eq_true rfl⟩) rfl rfl (Nat.le_of_ble_eq_true rfl) (cw_purez (b := withinB w (nI 0) (nI 4)) (fun _ _ h => h) ?_)
    refine cw_if_eq (pc := 13) (tgt := 25) C dX7_of_13 (by decide) (fun h13 => ?_) (fun h13 => ?_)
    · -- 13 t
      have h13 := bI_z h13
      refine cw_aload_n (pc := 25) C dX7_of_25 rfl 0 rfl ?_
      refine cw_bipush (pc := 26) C dX7_of_26 (-2) (by decide) ?_
      refine cw_calli (pc := 28) C dX7_of_28 (c_X7_refuse0 l D Z A σ ) (cwV 1 C.1.2.2.2.2 gX7_of_X7_refuse rfl rfl rfl (by decide +kernel) ⟨Nat.le_of_ble_eq_true rfl, Nat.le_of_ble_eq_true rfl⟩) 0 rfl rfl rfl rfl (Nat.le_of_ble_eq_true rfl) (cw_eff (v := (-2)) (fun _ _ h => h) (up2 σ 4 (upd (σ 4) 0 ((σ 4) 0 + nI 1))) rfl ?_)
      refine hret (-2) (up2 σ 4 (upd (σ 4) 0 ((σ 4) 0 + nI 1))) _ _ dX7_of_31 ?_
      clear hret
      rw [ofA_no2 h13]
      exact ⟨rfl, absM_ref ha 0⟩
    · -- 13 f
      have h13 := bI_nz h13
      obtain ⟨u, -, hu, rfl⟩ := withinB_t (by decide) (by decide) h13
      refine cw_aload_n (pc := 16) C dX7_of_16 rfl 0 rfl ?_
      refine cw_iload_n (pc := 17) C dX7_of_17 rfl 1 rfl ?_
      refine cw_iload_n (pc := 18) C dX7_of_18 rfl 2 rfl ?_
      refine cw_calli (pc := 19) C dX7_of_19 (c_X7_ofGear l D Z A σ X x u hT hO.1 x1 x2 hu) (cwV 2 C.1.2.2.2.2 gX7_of_X7_ofGear rfl rfl rfl (by decide +kernel) ⟨Nat.le_of_ble_eq_true rfl, Nat.le_of_ble_eq_true rfl⟩) 0 rfl rfl rfl rfl (Nat.le_of_ble_eq_true rfl) (cw_pure (v := ansV (ofA X (nI x) (nI u))) (fun _ _ h => h) ?_)
      refine cw_goto (pc := 22) (tgt := 31) C dX7_of_22 (by decide) ?_
      refine hret (ansV (ofA X (nI x) (nI u))) σ _ _ dX7_of_31 ?_
      clear hret
      exact ⟨rfl, by rw [ansF_of x1 x2 (by omega)]; exact ha⟩
set_option maxHeartbeats 4000000 in
set_option maxRecDepth 100000 in
theorem c_X7_ofClutch (l : Launch) (D : va_G) (Z : CZ) (A : Nat → Nat) (σ : St) (X : Nat → Int32)  (k : Nat) (w : Nat) (hT : σ 1 = mrow X) (hk : k < 5) (hw : w ≤ 3) : CTi l yX7_ofClutch wsX7_ofClutch 0 0 D Z (wM Z A) σ [.ref (A 0), .int (nI k), .int (nI w)] (fun r σ' => r = ansV (clA X (nI k) (nI w)) ∧ σ' = σ) := by
  refine CTi.mk (cc := cX7_ofClutch) (nL := 5) (own := RX7) rfl (by decide) rfl (Nat.le_of_ble_eq_true rfl) ?_
  intro p0 e0 s0 m0 g0 b0 t0 c0 A0 Q C hret
  refine cw_lv (lv' := [(0, .ref (A 0)), (1, .int (nI k)), (2, .int (nI w))]) [0, 1, 2] rfl ?_
  refine cw_iload_n (pc := 0) C dX7_ofClutch_0 rfl 2 rfl ?_
  refine cw_iconst (pc := 1) C dX7_ofClutch_1 (nI 3) (by decide) ?_
  refine cw_icmp_ge (pc := 2) (tgt := 38) C dX7_ofClutch_2 (by decide) (fun h2 => ?_) (fun h2 => ?_)
  · -- 2 t
    have h2 : 3 ≤ w := (nc_ge (a := w) (b := 3) (by omega) (by omega)).mp h2
    refine cw_iconst (pc := 38) C dX7_ofClutch_38 (nI 0) (by decide) ?_
    refine cw_istore_n (pc := 39) C dX7_ofClutch_39 rfl (by decide) (lv' := [(3, .int (nI 0)), (0, .ref (A 0)), (1, .int (nI k)), (2, .int (nI w))]) rfl ?_
    refine cw_iconst (pc := 40) C dX7_ofClutch_40 (nI 1) (by decide) ?_
    refine cw_istore (pc := 41) C dX7_ofClutch_41 (by decide) (lv' := [(4, .int (nI 1)), (3, .int (nI 0)), (0, .ref (A 0)), (1, .int (nI k)), (2, .int (nI w))]) rfl ?_
    have L43 : ∀ (n43 : Nat) (i : Nat) (acc : Int32) (hi : i ≤ 7) (hm : 7 < i + n43) (hac : acc = sumI (fun q9 => sbit (X (q9 + 1)) k) i), CW p0 l e0 (rmC 0 0) s0 m0 g0 b0 t0 c0 D A0 5 (wM Z A) Q σ 43 [(0, .ref (A 0)), (1, .int (nI k)), (2, .int (nI w)), (3, .int (acc)), (4, .int (nI (i + 1)))] [] := by
      intro n43
      induction n43 with
      | zero => intro i acc hi hm hac; exact absurd hm (by omega)
      | succ n43 ih43 =>
        intro i acc hi hm hac
        refine cw_iload (pc := 43) C dX7_ofClutch_43 4 rfl ?_
        refine cw_bipush (pc := 45) C dX7_ofClutch_45 (nI 7) (by decide) ?_
        refine cw_icmp_gt (pc := 47) (tgt := 72) C dX7_ofClutch_47 (by decide) (fun h47 => ?_) (fun h47 => ?_)
        · -- 47 t
          have h47 : 7 < (i + 1) := (nc_gt (a := i + 1) (b := 7) (by omega) (by omega)).mp h47
          have hi7 : i = 7 := by omega
          refine cw_iload_n (pc := 72) C dX7_ofClutch_72 rfl 3 rfl ?_
          refine hret acc σ _ _ dX7_ofClutch_73 ?_
          clear hret
          have hw3 : w = 3 := by omega
          exact ⟨by rw [hw3, clV3 hk, hac, hi7], rfl⟩
        · -- 47 f
          have h47 : ¬ (7 < (i + 1)) := fun qq => h47 ((nc_gt (a := i + 1) (b := 7) (by omega) (by omega)).mpr qq)
          refine cw_iload_n (pc := 50) C dX7_ofClutch_50 rfl 3 rfl ?_
          refine cw_aload_n (pc := 51) C dX7_ofClutch_51 rfl 0 rfl ?_
          refine cw_get (pc := 52) C dX7_ofClutch_52 0 (v := .ref (A 1)) rfl rfl 0 rfl (fun _ h => List.mem_cons_of_mem _ (List.mem_append_right _ h)) (by decide) (List.mem_of_getElem? (i := 1) rfl) ?_
          refine cw_iconst (pc := 55) C dX7_ofClutch_55 (nI 0) (by decide) ?_
          refine cw_iload (pc := 56) C dX7_ofClutch_56 4 rfl ?_
          refine cw_iadd (pc := 58) C dX7_ofClutch_58 (z := nI (i + 1)) (nI_0add _) ?_
          refine cw_iald2 (pc := 59) C dX7_ofClutch_59 1 1 (wM_g1 Z A) (f := σ 1) rfl (i + 1) rfl (by omega) (by decide) ?_
          refine cw_top (X (i + 1)) (mr hT (by omega) (by omega) (pm_se (by omega))) ?_
          refine cw_iload_n (pc := 60) C dX7_ofClutch_60 rfl 1 rfl ?_
          refine cw_ishr (pc := 61) C dX7_ofClutch_61 (z := (X (i + 1)) >>> ((nI k) &&& 31)) rfl ?_
          refine cw_iconst (pc := 62) C dX7_ofClutch_62 (nI 1) (by decide) ?_
          refine cw_iand (pc := 63) C dX7_ofClutch_63 (z := ((X (i + 1)) >>> ((nI k) &&& 31)) &&& (nI 1)) rfl ?_
          refine cw_iadd (pc := 64) C dX7_ofClutch_64 (z := acc + (((X (i + 1)) >>> ((nI k) &&& 31)) &&& (nI 1))) rfl ?_
          refine cw_istore_n (pc := 65) C dX7_ofClutch_65 rfl (by decide) (lv' := [(3, .int (acc + (((X (i + 1)) >>> ((nI k) &&& 31)) &&& (nI 1)))), (0, .ref (A 0)), (1, .int (nI k)), (2, .int (nI w)), (4, .int (nI (i + 1)))]) rfl ?_
          refine cw_iinc (pc := 66) C dX7_ofClutch_66 4 rfl (nI (i + 1 + 1)) (nI_inc _ 1) (by decide) (lv' := [(4, .int (nI (i + 1 + 1))), (3, .int (acc + (((X (i + 1)) >>> ((nI k) &&& 31)) &&& (nI 1)))), (0, .ref (A 0)), (1, .int (nI k)), (2, .int (nI w))]) rfl ?_
          refine cw_goto (pc := 69) (tgt := 43) C dX7_ofClutch_69 (by decide) ?_
          refine cw_lv [2, 3, 4, 1, 0] rfl ?_
          exact ih43 (i + 1) (acc + (((X (i + 1)) >>> ((nI k) &&& 31)) &&& (nI 1))) (by omega) (by omega) (by rw [sumI, hac]; rfl)
    refine cw_lv [2, 3, 4, 1, 0] rfl ?_
    exact L43 8 0 (nI 0) (by omega) (by omega) rfl
  · -- 2 f
    have h2 : ¬ (3 ≤ w) := fun qq => h2 ((nc_ge (a := w) (b := 3) (by omega) (by omega)).mpr qq)
    refine cw_aload_n (pc := 5) C dX7_ofClutch_5 rfl 0 rfl ?_
    refine cw_get (pc := 6) C dX7_ofClutch_6 0 (v := .ref (A 1)) rfl rfl 0 rfl (fun _ h => List.mem_cons_of_mem _ (List.mem_append_right _ h)) (by decide) (List.mem_of_getElem? (i := 1) rfl) ?_
    refine cw_iload_n (pc := 9) C dX7_ofClutch_9 rfl 2 rfl ?_
    refine cw_if_ne (pc := 10) (tgt := 20) C dX7_ofClutch_10 (by decide) (fun h10 => ?_) (fun h10 => ?_)
    · -- 10 t
      have h10 : ¬ w = 0 := (nc_ne (a := w) (b := 0) (by omega) (by omega)).mp h10
      refine cw_iload_n (pc := 20) C dX7_ofClutch_20 rfl 2 rfl ?_
      refine cw_iconst (pc := 21) C dX7_ofClutch_21 (nI 1) (by decide) ?_
      refine cw_icmp_ne (pc := 22) (tgt := 32) C dX7_ofClutch_22 (by decide) (fun h22 => ?_) (fun h22 => ?_)
      · -- 22 t
        have h22 : ¬ w = 1 := (nc_ne (a := w) (b := 1) (by omega) (by omega)).mp h22
        refine cw_bipush (pc := 32) C dX7_ofClutch_32 (nI 18) (by decide) ?_
        refine cw_iload_n (pc := 34) C dX7_ofClutch_34 rfl 1 rfl ?_
        refine cw_iadd (pc := 35) C dX7_ofClutch_35 (z := nI (18 + k)) (nI_add _ _) ?_
        refine cw_iald2 (pc := 36) C dX7_ofClutch_36 1 1 (wM_g1 Z A) (f := σ 1) rfl (18 + k) rfl (by omega) (by decide) ?_
        refine cw_top (X (34 + k)) (mr hT (by omega) (by omega) (pm_fi (by omega))) ?_
        refine hret (X (34 + k)) σ _ _ dX7_ofClutch_37 ?_
        clear hret
        have hw2 : w = 2 := by omega
        exact ⟨by rw [hw2, clV2 hk], rfl⟩
      · -- 22 f
        have h22 : w = 1 := (nc_eq (a := w) (b := 1) (by omega) (by omega)).mp h22
        refine cw_bipush (pc := 25) C dX7_ofClutch_25 (nI 13) (by decide) ?_
        refine cw_iload_n (pc := 27) C dX7_ofClutch_27 rfl 1 rfl ?_
        refine cw_iadd (pc := 28) C dX7_ofClutch_28 (z := nI (13 + k)) (nI_add _ _) ?_
        refine cw_goto (pc := 29) (tgt := 36) C dX7_ofClutch_29 (by decide) ?_
        refine cw_iald2 (pc := 36) C dX7_ofClutch_36 1 1 (wM_g1 Z A) (f := σ 1) rfl (13 + k) rfl (by omega) (by decide) ?_
        refine cw_top (X (29 + k)) (mr hT (by omega) (by omega) (pm_tr (by omega))) ?_
        refine hret (X (29 + k)) σ _ _ dX7_ofClutch_37 ?_
        clear hret
        exact ⟨by rw [h22, clV1 hk], rfl⟩
    · -- 10 f
      have h10 : w = 0 := (nc_eq (a := w) (b := 0) (by omega) (by omega)).mp h10
      refine cw_bipush (pc := 13) C dX7_ofClutch_13 (nI 8) (by decide) ?_
      refine cw_iload_n (pc := 15) C dX7_ofClutch_15 rfl 1 rfl ?_
      refine cw_iadd (pc := 16) C dX7_ofClutch_16 (z := nI (8 + k)) (nI_add _ _) ?_
      refine cw_goto (pc := 17) (tgt := 36) C dX7_ofClutch_17 (by decide) ?_
      refine cw_iald2 (pc := 36) C dX7_ofClutch_36 1 1 (wM_g1 Z A) (f := σ 1) rfl (8 + k) rfl (by omega) (by decide) ?_
      refine cw_top (X (24 + k)) (mr hT (by omega) (by omega) (pm_st (by omega))) ?_
      refine hret (X (24 + k)) σ _ _ dX7_ofClutch_37 ?_
      clear hret
      exact ⟨by rw [h10, clV0 hk], rfl⟩
set_option maxHeartbeats 4000000 in
set_option maxRecDepth 100000 in
theorem c_X7_clutch (l : Launch) (D : va_G) (Z : CZ) (A : Nat → Nat) (σ : St) (X F : Nat → Int32) (ck co : Int32) (K : Nat → Nat → Int32) (nn : Nat) (B : Nat → Int32) (L : Nat) (k : Int32) (w : Int32) (ha : absM σ X F ck co K nn B L) (hO : rowOK X) : CTi l yX7_clutch wsX7_clutch 2 42 D Z (wM Z A) σ [.ref (A 0), .int (k), .int (w)] (fun r σ' => r = ansV (clA X k w) ∧ absM σ' X (ansF F (clA X k w)) ck co K nn B L) := by
  refine CTi.mk (cc := cX7_clutch) (nL := 3) (own := RX7) rfl (by decide) rfl (Nat.le_of_ble_eq_true rfl) ?_
  intro p0 e0 s0 m0 g0 b0 t0 c0 A0 Q C hret
  have hT := ha.1
  refine cw_lv (lv' := [(0, .ref (A 0)), (1, .int (k)), (2, .int (w))]) [0, 1, 2] rfl ?_
  refine cw_iload_n (pc := 0) C dX7_clutch_0 rfl 1 rfl ?_
  refine cw_calls (pc := 1) C dX7_clutch_1 (c_X7_isClutch l D Z A σ k) (va_cwS 1 C.1.2.2.2.2 gX7_clutch_X7_isClutch rfl rfl rfl (by decide +kernel) ⟨Nat.le_of_ble_eq_true rfl, Nat.le_of_ble_eq_true rfl⟩) rfl rfl (Nat.le_of_ble_eq_true rfl) (cw_purez (b := clB k) (fun _ _ h => h) ?_)
  refine cw_if_eq (pc := 4) (tgt := 25) C dX7_clutch_4 (by decide) (fun h4 => ?_) (fun h4 => ?_)
  · -- 4 t
    have h4 := bI_z h4
    refine cw_aload_n (pc := 25) C dX7_clutch_25 rfl 0 rfl ?_
    refine cw_bipush (pc := 26) C dX7_clutch_26 (-2) (by decide) ?_
    refine cw_calli (pc := 28) C dX7_clutch_28 (c_X7_refuse0 l D Z A σ ) (cwV 1 C.1.2.2.2.2 gX7_clutch_X7_refuse rfl rfl rfl (by decide +kernel) ⟨Nat.le_of_ble_eq_true rfl, Nat.le_of_ble_eq_true rfl⟩) 0 rfl rfl rfl rfl (Nat.le_of_ble_eq_true rfl) (cw_eff (v := (-2)) (fun _ _ h => h) (up2 σ 4 (upd (σ 4) 0 ((σ 4) 0 + nI 1))) rfl ?_)
    refine hret (-2) (up2 σ 4 (upd (σ 4) 0 ((σ 4) 0 + nI 1))) _ _ dX7_clutch_31 ?_
    clear hret
    rw [clA_no1 h4]
    exact ⟨rfl, absM_ref ha 0⟩
  · -- 4 f
    have h4 := bI_nz h4
    obtain ⟨x, x1, rfl⟩ := clB_t h4
    refine cw_iload_n (pc := 7) C dX7_clutch_7 rfl 2 rfl ?_
    refine cw_iconst (pc := 8) C dX7_clutch_8 (nI 0) (by decide) ?_
    refine cw_iconst (pc := 9) C dX7_clutch_9 (nI 3) (by decide) ?_
    refine cw_calls (pc := 10) C dX7_clutch_10 (c_X7_in l D Z A σ w (nI 0) (nI 3)) (va_cwS 3 C.1.2.2.2.2 gX7_clutch_X7_in rfl rfl rfl (by decide +kernel) ⟨Nat.le_of_ble_eq_true rfl, Nat.le_of_ble_eq_true rfl⟩) rfl rfl (Nat.le_of_ble_eq_true rfl) (cw_purez (b := withinB w (nI 0) (nI 3)) (fun _ _ h => h) ?_)
    refine cw_if_eq (pc := 13) (tgt := 25) C dX7_clutch_13 (by decide) (fun h13 => ?_) (fun h13 => ?_)
    · -- 13 t
      have h13 := bI_z h13
      refine cw_aload_n (pc := 25) C dX7_clutch_25 rfl 0 rfl ?_
      refine cw_bipush (pc := 26) C dX7_clutch_26 (-2) (by decide) ?_
      refine cw_calli (pc := 28) C dX7_clutch_28 (c_X7_refuse0 l D Z A σ ) (cwV 1 C.1.2.2.2.2 gX7_clutch_X7_refuse rfl rfl rfl (by decide +kernel) ⟨Nat.le_of_ble_eq_true rfl, Nat.le_of_ble_eq_true rfl⟩) 0 rfl rfl rfl rfl (Nat.le_of_ble_eq_true rfl) (cw_eff (v := (-2)) (fun _ _ h => h) (up2 σ 4 (upd (σ 4) 0 ((σ 4) 0 + nI 1))) rfl ?_)
      refine hret (-2) (up2 σ 4 (upd (σ 4) 0 ((σ 4) 0 + nI 1))) _ _ dX7_clutch_31 ?_
      clear hret
      rw [clA_no2 h13]
      exact ⟨rfl, absM_ref ha 0⟩
    · -- 13 f
      have h13 := bI_nz h13
      obtain ⟨u, -, hu, rfl⟩ := withinB_t (by decide) (by decide) h13
      refine cw_aload_n (pc := 16) C dX7_clutch_16 rfl 0 rfl ?_
      refine cw_iload_n (pc := 17) C dX7_clutch_17 rfl 1 rfl ?_
      refine cw_iload_n (pc := 18) C dX7_clutch_18 rfl 2 rfl ?_
      refine cw_calli (pc := 19) C dX7_clutch_19 (c_X7_ofClutch l D Z A σ X x u hT x1 hu) (cwV 2 C.1.2.2.2.2 gX7_clutch_X7_ofClutch rfl rfl rfl (by decide +kernel) ⟨Nat.le_of_ble_eq_true rfl, Nat.le_of_ble_eq_true rfl⟩) 0 rfl rfl rfl rfl (Nat.le_of_ble_eq_true rfl) (cw_pure (v := ansV (clA X (nI x) (nI u))) (fun _ _ h => h) ?_)
      refine cw_goto (pc := 22) (tgt := 31) C dX7_clutch_22 (by decide) ?_
      refine hret (ansV (clA X (nI x) (nI u))) σ _ _ dX7_clutch_31 ?_
      clear hret
      exact ⟨rfl, by rw [ansF_cl x1 (by omega)]; exact ha⟩
set_option maxHeartbeats 4000000 in
set_option maxRecDepth 100000 in
theorem c_X7_ties (l : Launch) (D : va_G) (Z : CZ) (A : Nat → Nat) (σ : St) (X F : Nat → Int32) (ck co : Int32) (K : Nat → Nat → Int32) (nn : Nat) (B : Nat → Int32) (L : Nat) (v : Int32) (ha : absM σ X F ck co K nn B L) (hO : rowOK X) : CTi l yX7_ties wsX7_ties 1 22 D Z (wM Z A) σ [.ref (A 0), .int (v)] (fun r σ' => r = ansV (tiA X v) ∧ absM σ' X (ansF F (tiA X v)) ck co K nn B L) := by
  refine CTi.mk (cc := cX7_ties) (nL := 4) (own := RX7) rfl (by decide) rfl (Nat.le_of_ble_eq_true rfl) ?_
  intro p0 e0 s0 m0 g0 b0 t0 c0 A0 Q C hret
  have hT := ha.1
  refine cw_lv (lv' := [(0, .ref (A 0)), (1, .int (v))]) [0, 1] rfl ?_
  refine cw_iload_n (pc := 0) C dX7_ties_0 rfl 1 rfl ?_
  refine cw_iconst (pc := 1) C dX7_ties_1 (nI 0) (by decide) ?_
  refine cw_bipush (pc := 2) C dX7_ties_2 (nI 31) (by decide) ?_
  refine cw_calls (pc := 4) C dX7_ties_4 (c_X7_in l D Z A σ v (nI 0) (nI 31)) (va_cwS 3 C.1.2.2.2.2 gX7_ties_X7_in rfl rfl rfl (by decide +kernel) ⟨Nat.le_of_ble_eq_true rfl, Nat.le_of_ble_eq_true rfl⟩) rfl rfl (Nat.le_of_ble_eq_true rfl) (cw_purez (b := withinB v (nI 0) (nI 31)) (fun _ _ h => h) ?_)
  refine cw_if_ne (pc := 7) (tgt := 17) C dX7_ties_7 (by decide) (fun h7 => ?_) (fun h7 => ?_)
  · -- 7 t
    have h7 := bI_nz h7
    refine cw_iconst (pc := 17) C dX7_ties_17 (nI 0) (by decide) ?_
    refine cw_istore_n (pc := 18) C dX7_ties_18 rfl (by decide) (lv' := [(2, .int (nI 0)), (0, .ref (A 0)), (1, .int (v))]) rfl ?_
    refine cw_iconst (pc := 19) C dX7_ties_19 (nI 1) (by decide) ?_
    refine cw_istore_n (pc := 20) C dX7_ties_20 rfl (by decide) (lv' := [(3, .int (nI 1)), (2, .int (nI 0)), (0, .ref (A 0)), (1, .int (v))]) rfl ?_
    have L21 : ∀ (n21 : Nat) (i : Nat) (acc : Nat) (hi : i ≤ 7) (hm : 7 < i + n21) (hac : acc = cntN (fun q9 => withP (X (q9 + 1)) v) i), CW p0 l e0 (rmC 1 22) s0 m0 g0 b0 t0 c0 D A0 4 (wM Z A) Q σ 21 [(0, .ref (A 0)), (1, .int (v)), (2, .int (nI acc)), (3, .int (nI (i + 1)))] [] := by
      intro n21
      induction n21 with
      | zero => intro i acc hi hm hac; exact absurd hm (by omega)
      | succ n21 ih21 =>
        intro i acc hi hm hac
        refine cw_iload_n (pc := 21) C dX7_ties_21 rfl 3 rfl ?_
        refine cw_bipush (pc := 22) C dX7_ties_22 (nI 7) (by decide) ?_
        refine cw_icmp_gt (pc := 24) (tgt := 67) C dX7_ties_24 (by decide) (fun h24 => ?_) (fun h24 => ?_)
        · -- 24 t
          have h24 : 7 < (i + 1) := (nc_gt (a := i + 1) (b := 7) (by omega) (by omega)).mp h24
          have hi7 : i = 7 := by omega
          have hcn := cntN_le (fun q9 => withP (X (q9 + 1)) v) i
          refine cw_iload_n (pc := 67) C dX7_ties_67 rfl 2 rfl ?_
          refine cw_iconst (pc := 68) C dX7_ties_68 (nI 1) (by decide) ?_
          refine cw_icmp_le (pc := 69) (tgt := 76) C dX7_ties_69 (by decide) (fun h69 => ?_) (fun h69 => ?_)
          · -- 69 t
            have h69 : acc ≤ 1 := (nc_le (a := acc) (b := 1) (by omega) (by omega)).mp h69
            refine cw_iconst (pc := 76) C dX7_ties_76 (nI 0) (by decide) ?_
            refine hret (nI 0) σ _ _ dX7_ties_77 ?_
            clear hret
            rw [show tiA X v = .inl (bI (decide (2 ≤ acc))) by rw [tiA, if_pos h7, hac, hi7]]
            exact ⟨by rw [decide_eq_false (by omega)]; rfl, ha⟩
          · -- 69 f
            have h69 : ¬ (acc ≤ 1) := fun qq => h69 ((nc_le (a := acc) (b := 1) (by omega) (by omega)).mpr qq)
            refine cw_iconst (pc := 72) C dX7_ties_72 (nI 1) (by decide) ?_
            refine cw_goto (pc := 73) (tgt := 77) C dX7_ties_73 (by decide) ?_
            refine hret (nI 1) σ _ _ dX7_ties_77 ?_
            clear hret
            rw [show tiA X v = .inl (bI (decide (2 ≤ acc))) by rw [tiA, if_pos h7, hac, hi7]]
            exact ⟨by rw [decide_eq_true (by omega)]; rfl, ha⟩
        · -- 24 f
          have h24 : ¬ (7 < (i + 1)) := fun qq => h24 ((nc_gt (a := i + 1) (b := 7) (by omega) (by omega)).mpr qq)
          have hcn := cntN_le (fun q9 => withP (X (q9 + 1)) v) i
          refine cw_iload_n (pc := 27) C dX7_ties_27 rfl 2 rfl ?_
          refine cw_aload_n (pc := 28) C dX7_ties_28 rfl 0 rfl ?_
          refine cw_get (pc := 29) C dX7_ties_29 0 (v := .ref (A 1)) rfl rfl 0 rfl (fun _ h => List.mem_cons_of_mem _ (List.mem_append_right _ h)) (by decide) (List.mem_of_getElem? (i := 1) rfl) ?_
          refine cw_iconst (pc := 32) C dX7_ties_32 (nI 0) (by decide) ?_
          refine cw_iload_n (pc := 33) C dX7_ties_33 rfl 3 rfl ?_
          refine cw_iadd (pc := 34) C dX7_ties_34 (z := nI (i + 1)) (nI_0add _) ?_
          refine cw_iald2 (pc := 35) C dX7_ties_35 1 1 (wM_g1 Z A) (f := σ 1) rfl (i + 1) rfl (by omega) (by decide) ?_
          refine cw_top (X (i + 1)) (mr hT (by omega) (by omega) (pm_se (by omega))) ?_
          refine cw_if_eq (pc := 36) (tgt := 58) C dX7_ties_36 (by decide) (fun h36 => ?_) (fun h36 => ?_)
          · -- 36 t
            refine cw_iconst (pc := 58) C dX7_ties_58 (nI 0) (by decide) ?_
            refine cw_iadd (pc := 59) C dX7_ties_59 (z := nI acc) (nI_add0 _) ?_
            refine cw_istore_n (pc := 60) C dX7_ties_60 rfl (by decide) (lv' := [(2, .int (nI acc)), (0, .ref (A 0)), (1, .int (v)), (3, .int (nI (i + 1)))]) rfl ?_
            refine cw_iinc (pc := 61) C dX7_ties_61 3 rfl (nI (i + 1 + 1)) (nI_inc _ 1) (by decide) (lv' := [(3, .int (nI (i + 1 + 1))), (2, .int (nI acc)), (0, .ref (A 0)), (1, .int (v))]) rfl ?_
            refine cw_goto (pc := 64) (tgt := 21) C dX7_ties_64 (by decide) ?_
            refine cw_lv [2, 3, 1, 0] rfl ?_
            exact ih21 (i + 1) acc (by omega) (by omega) (by show _ = cntN _ i + (if withP (X (i + 1)) v = true then 1 else 0); rw [show withP (X (i + 1)) v = false by rw [withP, decide_eq_true h36]; rfl, ← hac]; rfl)
          · -- 36 f
            refine cw_aload_n (pc := 39) C dX7_ties_39 rfl 0 rfl ?_
            refine cw_get (pc := 40) C dX7_ties_40 0 (v := .ref (A 1)) rfl rfl 0 rfl (fun _ h => List.mem_cons_of_mem _ (List.mem_append_right _ h)) (by decide) (List.mem_of_getElem? (i := 1) rfl) ?_
            refine cw_iconst (pc := 43) C dX7_ties_43 (nI 0) (by decide) ?_
            refine cw_iload_n (pc := 44) C dX7_ties_44 rfl 3 rfl ?_
            refine cw_iadd (pc := 45) C dX7_ties_45 (z := nI (i + 1)) (nI_0add _) ?_
            refine cw_iald2 (pc := 46) C dX7_ties_46 1 1 (wM_g1 Z A) (f := σ 1) rfl (i + 1) rfl (by omega) (by decide) ?_
            refine cw_top (X (i + 1)) (mr hT (by omega) (by omega) (pm_se (by omega))) ?_
            refine cw_iload_n (pc := 47) C dX7_ties_47 rfl 1 rfl ?_
            refine cw_iconst (pc := 48) C dX7_ties_48 (-1) (by decide) ?_
            refine cw_ixor (pc := 49) C dX7_ties_49 (z := v ^^^ (-1)) rfl ?_
            refine cw_iand (pc := 50) C dX7_ties_50 (z := (X (i + 1)) &&& (v ^^^ (-1))) rfl ?_
            refine cw_if_ne (pc := 51) (tgt := 58) C dX7_ties_51 (by decide) (fun h51 => ?_) (fun h51 => ?_)
            · -- 51 t
              refine cw_iconst (pc := 58) C dX7_ties_58 (nI 0) (by decide) ?_
              refine cw_iadd (pc := 59) C dX7_ties_59 (z := nI acc) (nI_add0 _) ?_
              refine cw_istore_n (pc := 60) C dX7_ties_60 rfl (by decide) (lv' := [(2, .int (nI acc)), (0, .ref (A 0)), (1, .int (v)), (3, .int (nI (i + 1)))]) rfl ?_
              refine cw_iinc (pc := 61) C dX7_ties_61 3 rfl (nI (i + 1 + 1)) (nI_inc _ 1) (by decide) (lv' := [(3, .int (nI (i + 1 + 1))), (2, .int (nI acc)), (0, .ref (A 0)), (1, .int (v))]) rfl ?_
              refine cw_goto (pc := 64) (tgt := 21) C dX7_ties_64 (by decide) ?_
              refine cw_lv [2, 3, 1, 0] rfl ?_
              exact ih21 (i + 1) acc (by omega) (by omega) (by show _ = cntN _ i + (if withP (X (i + 1)) v = true then 1 else 0); rw [show withP (X (i + 1)) v = false by rw [withP, decide_eq_false h51, Bool.and_false], ← hac]; rfl)
            · -- 51 f
              refine cw_iconst (pc := 54) C dX7_ties_54 (nI 1) (by decide) ?_
              refine cw_goto (pc := 55) (tgt := 59) C dX7_ties_55 (by decide) ?_
              refine cw_iadd (pc := 59) C dX7_ties_59 (z := nI (acc + 1)) (nI_add _ _) ?_
              refine cw_istore_n (pc := 60) C dX7_ties_60 rfl (by decide) (lv' := [(2, .int (nI (acc + 1))), (0, .ref (A 0)), (1, .int (v)), (3, .int (nI (i + 1)))]) rfl ?_
              refine cw_iinc (pc := 61) C dX7_ties_61 3 rfl (nI (i + 1 + 1)) (nI_inc _ 1) (by decide) (lv' := [(3, .int (nI (i + 1 + 1))), (2, .int (nI (acc + 1))), (0, .ref (A 0)), (1, .int (v))]) rfl ?_
              refine cw_goto (pc := 64) (tgt := 21) C dX7_ties_64 (by decide) ?_
              refine cw_lv [2, 3, 1, 0] rfl ?_
              exact ih21 (i + 1) (acc + 1) (by omega) (by omega) (by show _ = cntN _ i + (if withP (X (i + 1)) v = true then 1 else 0); rw [show withP (X (i + 1)) v = true by rw [withP, decide_eq_false h36, decide_eq_true h51]; rfl, ← hac]; rfl)
    refine cw_lv [2, 3, 1, 0] rfl ?_
    exact L21 8 0 0 (by omega) (by omega) rfl
  · -- 7 f
    have h7 := bI_z h7
    refine cw_aload_n (pc := 10) C dX7_ties_10 rfl 0 rfl ?_
    refine cw_bipush (pc := 11) C dX7_ties_11 (-2) (by decide) ?_
    refine cw_calli (pc := 13) C dX7_ties_13 (c_X7_refuse0 l D Z A σ ) (cwV 1 C.1.2.2.2.2 gX7_ties_X7_refuse rfl rfl rfl (by decide +kernel) ⟨Nat.le_of_ble_eq_true rfl, Nat.le_of_ble_eq_true rfl⟩) 0 rfl rfl rfl rfl (Nat.le_of_ble_eq_true rfl) (cw_eff (v := (-2)) (fun _ _ h => h) (up2 σ 4 (upd (σ 4) 0 ((σ 4) 0 + nI 1))) rfl ?_)
    refine hret (-2) (up2 σ 4 (upd (σ 4) 0 ((σ 4) 0 + nI 1))) _ _ dX7_ties_16 ?_
    clear hret
    rw [show tiA X v = .inr 0 by rw [tiA, if_neg (by rw [h7]; decide)]]
    exact ⟨rfl, absM_ref ha 0⟩
set_option maxHeartbeats 4000000 in
set_option maxRecDepth 100000 in
theorem c_X7_simple (l : Launch) (D : va_G) (Z : CZ) (A : Nat → Nat) (σ : St) (X F : Nat → Int32) (ck co : Int32) (K : Nat → Nat → Int32) (nn : Nat) (B : Nat → Int32) (L : Nat) (g : Int32) (k : Int32) (w : Int32) (ha : absM σ X F ck co K nn B L) (hO : rowOK X) : CTi l yX7_simple wsX7_simple 3 63 D Z (wM Z A) σ [.ref (A 0), .int (g), .int (k), .int (w)] (fun r σ' => r = ansV (smA X g k w) ∧ absM σ' X (ansF F (smA X g k w)) ck co K nn B L) := by
  refine CTi.mk (cc := cX7_simple) (nL := 5) (own := RX7) rfl (by decide) rfl (Nat.le_of_ble_eq_true rfl) ?_
  intro p0 e0 s0 m0 g0 b0 t0 c0 A0 Q C hret
  have hT := ha.1
  refine cw_lv (lv' := [(0, .ref (A 0)), (1, .int (g)), (2, .int (k)), (3, .int (w))]) [0, 1, 2, 3] rfl ?_
  refine cw_iload_n (pc := 0) C dX7_simple_0 rfl 1 rfl ?_
  refine cw_iload_n (pc := 1) C dX7_simple_1 rfl 2 rfl ?_
  refine cw_calls (pc := 2) C dX7_simple_2 (c_X7_areTwo l D Z A σ g k) (va_cwS 2 C.1.2.2.2.2 gX7_simple_X7_areTwo rfl rfl rfl (by decide +kernel) ⟨Nat.le_of_ble_eq_true rfl, Nat.le_of_ble_eq_true rfl⟩) rfl rfl (Nat.le_of_ble_eq_true rfl) (cw_purez (b := pairB g k) (fun _ _ h => h) ?_)
  refine cw_if_eq (pc := 5) (tgt := 17) C dX7_simple_5 (by decide) (fun h5 => ?_) (fun h5 => ?_)
  · -- 5 t
    have h5 := bI_z h5
    refine cw_aload_n (pc := 17) C dX7_simple_17 rfl 0 rfl ?_
    refine cw_bipush (pc := 18) C dX7_simple_18 (-2) (by decide) ?_
    refine cw_calli (pc := 20) C dX7_simple_20 (c_X7_refuse0 l D Z A σ ) (cwV 1 C.1.2.2.2.2 gX7_simple_X7_refuse rfl rfl rfl (by decide +kernel) ⟨Nat.le_of_ble_eq_true rfl, Nat.le_of_ble_eq_true rfl⟩) 0 rfl rfl rfl rfl (Nat.le_of_ble_eq_true rfl) (cw_eff (v := (-2)) (fun _ _ h => h) (up2 σ 4 (upd (σ 4) 0 ((σ 4) 0 + nI 1))) rfl ?_)
    refine hret (-2) (up2 σ 4 (upd (σ 4) 0 ((σ 4) 0 + nI 1))) _ _ dX7_simple_23 ?_
    clear hret
    rw [smA_no1 h5]
    exact ⟨rfl, absM_ref ha 0⟩
  · -- 5 f
    have h5 := bI_nz h5
    obtain ⟨x, y, x1, x2, y1, y2, hxy, rfl, rfl⟩ := pairB_t h5
    refine cw_iload_n (pc := 8) C dX7_simple_8 rfl 3 rfl ?_
    refine cw_iconst (pc := 9) C dX7_simple_9 (nI 0) (by decide) ?_
    refine cw_iconst (pc := 10) C dX7_simple_10 (nI 2) (by decide) ?_
    refine cw_calls (pc := 11) C dX7_simple_11 (c_X7_in l D Z A σ w (nI 0) (nI 2)) (va_cwS 3 C.1.2.2.2.2 gX7_simple_X7_in rfl rfl rfl (by decide +kernel) ⟨Nat.le_of_ble_eq_true rfl, Nat.le_of_ble_eq_true rfl⟩) rfl rfl (Nat.le_of_ble_eq_true rfl) (cw_purez (b := withinB w (nI 0) (nI 2)) (fun _ _ h => h) ?_)
    refine cw_if_ne (pc := 14) (tgt := 24) C dX7_simple_14 (by decide) (fun h14 => ?_) (fun h14 => ?_)
    · -- 14 t
      have h14 := bI_nz h14
      obtain ⟨u, -, hu, rfl⟩ := withinB_t (by decide) (by decide) h14
      refine cw_aload_n (pc := 24) C dX7_simple_24 rfl 0 rfl ?_
      refine cw_iload_n (pc := 25) C dX7_simple_25 rfl 1 rfl ?_
      refine cw_iload_n (pc := 26) C dX7_simple_26 rfl 2 rfl ?_
      refine cw_calli (pc := 27) C dX7_simple_27 (c_X7_areSimple l D Z A σ X x y hT hO.1 x1 x2 y1 y2) (cwV 2 C.1.2.2.2.2 gX7_simple_X7_areSimple rfl rfl rfl (by decide +kernel) ⟨Nat.le_of_ble_eq_true rfl, Nat.le_of_ble_eq_true rfl⟩) 0 rfl rfl rfl rfl (Nat.le_of_ble_eq_true rfl) (cw_purez (b := simN X x y) (fun _ _ h => h) ?_)
      refine cw_istore (pc := 30) C dX7_simple_30 (by decide) (lv' := [(4, .int (bI (simN X x y))), (0, .ref (A 0)), (1, .int (nI x)), (2, .int (nI y)), (3, .int (nI u))]) rfl ?_
      refine cw_iload_n (pc := 32) C dX7_simple_32 rfl 4 rfl ?_
      refine cw_if_ne (pc := 33) (tgt := 49) C dX7_simple_33 (by decide) (fun h33 => ?_) (fun h33 => ?_)
      · -- 33 t
        have h33 : ¬ u = 0 := (nc_ne (a := u) (b := 0) (by omega) (by omega)).mp h33
        refine cw_iload (pc := 49) C dX7_simple_49 0 rfl ?_
        refine cw_if_ne (pc := 51) (tgt := 58) C dX7_simple_51 (by decide) (fun h51 => ?_) (fun h51 => ?_)
        · -- 51 t
          have h51 := bI_nz h51
          refine cw_iload_n (pc := 58) C dX7_simple_58 rfl 4 rfl ?_
          refine cw_iconst (pc := 59) C dX7_simple_59 (nI 1) (by decide) ?_
          refine cw_icmp_ne (pc := 60) (tgt := 72) C dX7_simple_60 (by decide) (fun h60 => ?_) (fun h60 => ?_)
          · -- 60 t
            have h60 : ¬ u = 1 := (nc_ne (a := u) (b := 1) (by omega) (by omega)).mp h60
            refine cw_aload_n (pc := 72) C dX7_simple_72 rfl 1 rfl ?_
            refine cw_iload_n (pc := 73) C dX7_simple_73 rfl 3 rfl ?_
            refine cw_iload_n (pc := 74) C dX7_simple_74 rfl 2 rfl ?_
            refine cw_calli (pc := 75) C dX7_simple_75 (c_X7_coming l D Z A σ X y x hT hO.1 y2 x2 (by rw [sim_comm]; exact h51)) (cwV 2 C.1.2.2.2.2 gX7_simple_X7_coming rfl rfl rfl (by decide +kernel) ⟨Nat.le_of_ble_eq_true rfl, Nat.le_of_ble_eq_true rfl⟩) 0 rfl rfl rfl rfl (Nat.le_of_ble_eq_true rfl) (cw_pure (v := nI (comS (X y) (X x))) (fun _ _ h => h) ?_)
            refine hret (nI (comS (X y) (X x))) σ _ _ dX7_simple_78 ?_
            clear hret
            rw [show u = 2 by omega, show smA X (nI x) (nI y) (nI 2) = .inl (comN X y x) by rw [smA_in x2 y2 h5]; rfl]
            exact ⟨by rw [comN, sim_comm, if_pos h51]; rfl, ha⟩
          · -- 60 f
            have h60 : u = 1 := (nc_eq (a := u) (b := 1) (by omega) (by omega)).mp h60
            refine cw_aload_n (pc := 63) C dX7_simple_63 rfl 1 rfl ?_
            refine cw_iload_n (pc := 64) C dX7_simple_64 rfl 2 rfl ?_
            refine cw_iload_n (pc := 65) C dX7_simple_65 rfl 3 rfl ?_
            refine cw_calli (pc := 66) C dX7_simple_66 (c_X7_coming l D Z A σ X x y hT hO.1 x2 y2 h51) (cwV 2 C.1.2.2.2.2 gX7_simple_X7_coming rfl rfl rfl (by decide +kernel) ⟨Nat.le_of_ble_eq_true rfl, Nat.le_of_ble_eq_true rfl⟩) 0 rfl rfl rfl rfl (Nat.le_of_ble_eq_true rfl) (cw_pure (v := nI (comS (X x) (X y))) (fun _ _ h => h) ?_)
            refine cw_goto (pc := 69) (tgt := 78) C dX7_simple_69 (by decide) ?_
            refine hret (nI (comS (X x) (X y))) σ _ _ dX7_simple_78 ?_
            clear hret
            rw [show u = 1 by omega, show smA X (nI x) (nI y) (nI 1) = .inl (comN X x y) by rw [smA_in x2 y2 h5]; rfl]
            exact ⟨by rw [comN, if_pos h51]; rfl, ha⟩
        · -- 51 f
          have h51 := bI_z h51
          refine cw_iconst (pc := 54) C dX7_simple_54 (-1) (by decide) ?_
          refine cw_goto (pc := 55) (tgt := 78) C dX7_simple_55 (by decide) ?_
          refine hret (-1) σ _ _ dX7_simple_78 ?_
          clear hret
          rcases (show u = 1 ∨ u = 2 by omega) with hu1 | hu2
          · rw [show u = 1 by omega, show smA X (nI x) (nI y) (nI 1) = .inl (comN X x y) by rw [smA_in x2 y2 h5]; rfl]
            exact ⟨by rw [comN, if_neg (by rw [h51]; decide)]; rfl, ha⟩
          · rw [show u = 2 by omega, show smA X (nI x) (nI y) (nI 2) = .inl (comN X y x) by rw [smA_in x2 y2 h5]; rfl]
            exact ⟨by rw [comN, sim_comm, if_neg (by rw [h51]; decide)]; rfl, ha⟩
      · -- 33 f
        have h33 : u = 0 := (nc_eq (a := u) (b := 0) (by omega) (by omega)).mp h33
        refine cw_iload (pc := 36) C dX7_simple_36 0 rfl ?_
        refine cw_if_eq (pc := 38) (tgt := 45) C dX7_simple_38 (by decide) (fun h38 => ?_) (fun h38 => ?_)
        · -- 38 t
          have h38 := bI_z h38
          refine cw_iconst (pc := 45) C dX7_simple_45 (nI 0) (by decide) ?_
          refine cw_goto (pc := 46) (tgt := 78) C dX7_simple_46 (by decide) ?_
          refine hret (nI 0) σ _ _ dX7_simple_78 ?_
          clear hret
          rw [h33, show smA X (nI x) (nI y) (nI 0) = .inl (bI (simN X x y)) by rw [smA_in x2 y2 h5]; rfl]
          exact ⟨by rw [h38]; rfl, ha⟩
        · -- 38 f
          have h38 := bI_nz h38
          refine cw_iconst (pc := 41) C dX7_simple_41 (nI 1) (by decide) ?_
          refine cw_goto (pc := 42) (tgt := 78) C dX7_simple_42 (by decide) ?_
          refine hret (nI 1) σ _ _ dX7_simple_78 ?_
          clear hret
          rw [h33, show smA X (nI x) (nI y) (nI 0) = .inl (bI (simN X x y)) by rw [smA_in x2 y2 h5]; rfl]
          exact ⟨by rw [h38]; rfl, ha⟩
    · -- 14 f
      have h14 := bI_z h14
      refine cw_aload_n (pc := 17) C dX7_simple_17 rfl 0 rfl ?_
      refine cw_bipush (pc := 18) C dX7_simple_18 (-2) (by decide) ?_
      refine cw_calli (pc := 20) C dX7_simple_20 (c_X7_refuse0 l D Z A σ ) (cwV 1 C.1.2.2.2.2 gX7_simple_X7_refuse rfl rfl rfl (by decide +kernel) ⟨Nat.le_of_ble_eq_true rfl, Nat.le_of_ble_eq_true rfl⟩) 0 rfl rfl rfl rfl (Nat.le_of_ble_eq_true rfl) (cw_eff (v := (-2)) (fun _ _ h => h) (up2 σ 4 (upd (σ 4) 0 ((σ 4) 0 + nI 1))) rfl ?_)
      refine hret (-2) (up2 σ 4 (upd (σ 4) 0 ((σ 4) 0 + nI 1))) _ _ dX7_simple_23 ?_
      clear hret
      rw [smA_no2 h14]
      exact ⟨rfl, absM_ref ha 0⟩
set_option maxHeartbeats 4000000 in
set_option maxRecDepth 100000 in
theorem c_X7_worst (l : Launch) (D : va_G) (Z : CZ) (A : Nat → Nat) (σ : St) (X F : Nat → Int32) (ck co : Int32) (K : Nat → Nat → Int32) (nn : Nat) (B : Nat → Int32) (L : Nat) (g : Int32) (k : Int32) (w : Int32) (ha : absM σ X F ck co K nn B L) (hO : rowOK X) : CTi l yX7_worst wsX7_worst 3 69 D Z (wM Z A) σ [.ref (A 0), .int (g), .int (k), .int (w)] (fun r σ' => r = ansV (wsA X g k w) ∧ absM σ' X (ansF F (wsA X g k w)) ck co K nn B L) := by
  refine CTi.mk (cc := cX7_worst) (nL := 4) (own := RX7) rfl (by decide) rfl (Nat.le_of_ble_eq_true rfl) ?_
  intro p0 e0 s0 m0 g0 b0 t0 c0 A0 Q C hret
  have hT := ha.1
  refine cw_lv (lv' := [(0, .ref (A 0)), (1, .int (g)), (2, .int (k)), (3, .int (w))]) [0, 1, 2, 3] rfl ?_
  refine cw_iload_n (pc := 0) C dX7_worst_0 rfl 1 rfl ?_
  refine cw_iload_n (pc := 1) C dX7_worst_1 rfl 2 rfl ?_
  refine cw_calls (pc := 2) C dX7_worst_2 (c_X7_areTwo l D Z A σ g k) (va_cwS 2 C.1.2.2.2.2 gX7_worst_X7_areTwo rfl rfl rfl (by decide +kernel) ⟨Nat.le_of_ble_eq_true rfl, Nat.le_of_ble_eq_true rfl⟩) rfl rfl (Nat.le_of_ble_eq_true rfl) (cw_purez (b := pairB g k) (fun _ _ h => h) ?_)
  refine cw_if_eq (pc := 5) (tgt := 17) C dX7_worst_5 (by decide) (fun h5 => ?_) (fun h5 => ?_)
  · -- 5 t
    have h5 := bI_z h5
    refine cw_aload_n (pc := 17) C dX7_worst_17 rfl 0 rfl ?_
    refine cw_bipush (pc := 18) C dX7_worst_18 (-2) (by decide) ?_
    refine cw_calli (pc := 20) C dX7_worst_20 (c_X7_refuse0 l D Z A σ ) (cwV 1 C.1.2.2.2.2 gX7_worst_X7_refuse rfl rfl rfl (by decide +kernel) ⟨Nat.le_of_ble_eq_true rfl, Nat.le_of_ble_eq_true rfl⟩) 0 rfl rfl rfl rfl (Nat.le_of_ble_eq_true rfl) (cw_eff (v := (-2)) (fun _ _ h => h) (up2 σ 4 (upd (σ 4) 0 ((σ 4) 0 + nI 1))) rfl ?_)
    refine hret (-2) (up2 σ 4 (upd (σ 4) 0 ((σ 4) 0 + nI 1))) _ _ dX7_worst_23 ?_
    clear hret
    rw [wsA_no (Or.inl h5)]
    exact ⟨rfl, absM_ref ha 0⟩
  · -- 5 f
    have h5 := bI_nz h5
    obtain ⟨x, y, x1, x2, y1, y2, hxy, rfl, rfl⟩ := pairB_t h5
    refine cw_iload_n (pc := 8) C dX7_worst_8 rfl 3 rfl ?_
    refine cw_iconst (pc := 9) C dX7_worst_9 (nI 0) (by decide) ?_
    refine cw_iconst (pc := 10) C dX7_worst_10 (nI 1) (by decide) ?_
    refine cw_calls (pc := 11) C dX7_worst_11 (c_X7_in l D Z A σ w (nI 0) (nI 1)) (va_cwS 3 C.1.2.2.2.2 gX7_worst_X7_in rfl rfl rfl (by decide +kernel) ⟨Nat.le_of_ble_eq_true rfl, Nat.le_of_ble_eq_true rfl⟩) rfl rfl (Nat.le_of_ble_eq_true rfl) (cw_purez (b := withinB w (nI 0) (nI 1)) (fun _ _ h => h) ?_)
    refine cw_if_ne (pc := 14) (tgt := 24) C dX7_worst_14 (by decide) (fun h14 => ?_) (fun h14 => ?_)
    · -- 14 t
      have h14 := bI_nz h14
      obtain ⟨u, -, hu, rfl⟩ := withinB_t (by decide) (by decide) h14
      rcases (show u = 0 ∨ u = 1 by omega) with rfl | rfl
      · -- 0
        refine cw_aload_n (pc := 24) C dX7_worst_24 rfl 0 rfl ?_
        refine cw_iload_n (pc := 25) C dX7_worst_25 rfl 1 rfl ?_
        refine cw_iload_n (pc := 26) C dX7_worst_26 rfl 2 rfl ?_
        refine cw_calli (pc := 27) C dX7_worst_27 (c_X7_areSimple l D Z A σ X x y hT hO.1 x1 x2 y1 y2) (cwV 2 C.1.2.2.2.2 gX7_worst_X7_areSimple rfl rfl rfl (by decide +kernel) ⟨Nat.le_of_ble_eq_true rfl, Nat.le_of_ble_eq_true rfl⟩) 0 rfl rfl rfl rfl (Nat.le_of_ble_eq_true rfl) (cw_purez (b := simN X x y) (fun _ _ h => h) ?_)
        refine cw_if_eq (pc := 30) (tgt := 47) C dX7_worst_30 (by decide) (fun h30 => ?_) (fun h30 => ?_)
        · -- 30 t
          have h30 := bI_z h30
          refine cw_aload_n (pc := 47) C dX7_worst_47 rfl 0 rfl ?_
          refine cw_bipush (pc := 48) C dX7_worst_48 (-3) (by decide) ?_
          refine cw_calli (pc := 50) C dX7_worst_50 (c_X7_refuse1 l D Z A σ ) (cwV 1 C.1.2.2.2.2 gX7_worst_X7_refuse rfl rfl rfl (by decide +kernel) ⟨Nat.le_of_ble_eq_true rfl, Nat.le_of_ble_eq_true rfl⟩) 0 rfl rfl rfl rfl (Nat.le_of_ble_eq_true rfl) (cw_eff (v := (-3)) (fun _ _ h => h) (up2 σ 4 (upd (σ 4) 1 ((σ 4) 1 + nI 1))) rfl ?_)
          refine hret (-3) (up2 σ 4 (upd (σ 4) 1 ((σ 4) 1 + nI 1))) _ _ dX7_worst_53 ?_
          clear hret
          rw [show wsA X (nI x) (nI y) (nI 0) = .inr 1 by rw [wsA_in x2 y2 h5 (by omega), if_neg (by rw [h30]; decide)]]
          exact ⟨rfl, absM_ref ha 1⟩
        · -- 30 f
          have h30 := bI_nz h30
          refine cw_aload_n (pc := 33) C dX7_worst_33 rfl 0 rfl ?_
          refine cw_aload_n (pc := 34) C dX7_worst_34 rfl 0 rfl ?_
          refine cw_iload_n (pc := 35) C dX7_worst_35 rfl 1 rfl ?_
          refine cw_iload_n (pc := 36) C dX7_worst_36 rfl 2 rfl ?_
          refine cw_calli (pc := 37) C dX7_worst_37 (c_X7_coming l D Z A σ X x y hT hO.1 x2 y2 h30) (cwV 2 C.1.2.2.2.2 gX7_worst_X7_coming rfl rfl rfl (by decide +kernel) ⟨Nat.le_of_ble_eq_true rfl, Nat.le_of_ble_eq_true rfl⟩) 0 rfl rfl rfl rfl (Nat.le_of_ble_eq_true rfl) (cw_pure (v := nI (comS (X x) (X y))) (fun _ _ h => h) ?_)
          refine cw_iload_n (pc := 40) C dX7_worst_40 rfl 3 rfl ?_
          refine cw_calli (pc := 41) C dX7_worst_41 (c_X7_worst0 l D Z A σ X (comS (X x) (X y)) hT (rowOK_R hO) (comS_lt _ _)) (cwV 2 C.1.2.2.2.2 gX7_worst_X7_worstOf rfl rfl rfl (by decide +kernel) ⟨Nat.le_of_ble_eq_true rfl, Nat.le_of_ble_eq_true rfl⟩) 0 rfl rfl rfl rfl (Nat.le_of_ble_eq_true rfl) (cw_pure (v := flS X (comS (X x) (X y))) (fun _ _ h => h) ?_)
          refine cw_goto (pc := 44) (tgt := 53) C dX7_worst_44 (by decide) ?_
          refine hret (flS X (comS (X x) (X y))) σ _ _ dX7_worst_53 ?_
          clear hret
          rw [show wsA X (nI x) (nI y) (nI 0) = .inl (flS X (comS (X x) (X y))) by rw [wsA_in x2 y2 h5 (by omega), if_pos h30]; rfl]
          exact ⟨rfl, ha⟩
      · -- 1
        refine cw_aload_n (pc := 24) C dX7_worst_24 rfl 0 rfl ?_
        refine cw_iload_n (pc := 25) C dX7_worst_25 rfl 1 rfl ?_
        refine cw_iload_n (pc := 26) C dX7_worst_26 rfl 2 rfl ?_
        refine cw_calli (pc := 27) C dX7_worst_27 (c_X7_areSimple l D Z A σ X x y hT hO.1 x1 x2 y1 y2) (cwV 2 C.1.2.2.2.2 gX7_worst_X7_areSimple rfl rfl rfl (by decide +kernel) ⟨Nat.le_of_ble_eq_true rfl, Nat.le_of_ble_eq_true rfl⟩) 0 rfl rfl rfl rfl (Nat.le_of_ble_eq_true rfl) (cw_purez (b := simN X x y) (fun _ _ h => h) ?_)
        refine cw_if_eq (pc := 30) (tgt := 47) C dX7_worst_30 (by decide) (fun h30 => ?_) (fun h30 => ?_)
        · -- 30 t
          have h30 := bI_z h30
          refine cw_aload_n (pc := 47) C dX7_worst_47 rfl 0 rfl ?_
          refine cw_bipush (pc := 48) C dX7_worst_48 (-3) (by decide) ?_
          refine cw_calli (pc := 50) C dX7_worst_50 (c_X7_refuse1 l D Z A σ ) (cwV 1 C.1.2.2.2.2 gX7_worst_X7_refuse rfl rfl rfl (by decide +kernel) ⟨Nat.le_of_ble_eq_true rfl, Nat.le_of_ble_eq_true rfl⟩) 0 rfl rfl rfl rfl (Nat.le_of_ble_eq_true rfl) (cw_eff (v := (-3)) (fun _ _ h => h) (up2 σ 4 (upd (σ 4) 1 ((σ 4) 1 + nI 1))) rfl ?_)
          refine hret (-3) (up2 σ 4 (upd (σ 4) 1 ((σ 4) 1 + nI 1))) _ _ dX7_worst_53 ?_
          clear hret
          rw [show wsA X (nI x) (nI y) (nI 1) = .inr 1 by rw [wsA_in x2 y2 h5 (by omega), if_neg (by rw [h30]; decide)]]
          exact ⟨rfl, absM_ref ha 1⟩
        · -- 30 f
          have h30 := bI_nz h30
          refine cw_aload_n (pc := 33) C dX7_worst_33 rfl 0 rfl ?_
          refine cw_aload_n (pc := 34) C dX7_worst_34 rfl 0 rfl ?_
          refine cw_iload_n (pc := 35) C dX7_worst_35 rfl 1 rfl ?_
          refine cw_iload_n (pc := 36) C dX7_worst_36 rfl 2 rfl ?_
          refine cw_calli (pc := 37) C dX7_worst_37 (c_X7_coming l D Z A σ X x y hT hO.1 x2 y2 h30) (cwV 2 C.1.2.2.2.2 gX7_worst_X7_coming rfl rfl rfl (by decide +kernel) ⟨Nat.le_of_ble_eq_true rfl, Nat.le_of_ble_eq_true rfl⟩) 0 rfl rfl rfl rfl (Nat.le_of_ble_eq_true rfl) (cw_pure (v := nI (comS (X x) (X y))) (fun _ _ h => h) ?_)
          refine cw_iload_n (pc := 40) C dX7_worst_40 rfl 3 rfl ?_
          refine cw_calli (pc := 41) C dX7_worst_41 (c_X7_worst1 l D Z A σ X (comS (X x) (X y)) hT (rowOK_R hO) (comS_lt _ _)) (cwV 2 C.1.2.2.2.2 gX7_worst_X7_worstOf rfl rfl rfl (by decide +kernel) ⟨Nat.le_of_ble_eq_true rfl, Nat.le_of_ble_eq_true rfl⟩) 0 rfl rfl rfl rfl (Nat.le_of_ble_eq_true rfl) (cw_pure (v := bdS X (comS (X x) (X y))) (fun _ _ h => h) ?_)
          refine cw_goto (pc := 44) (tgt := 53) C dX7_worst_44 (by decide) ?_
          refine hret (bdS X (comS (X x) (X y))) σ _ _ dX7_worst_53 ?_
          clear hret
          rw [show wsA X (nI x) (nI y) (nI 1) = .inl (bdS X (comS (X x) (X y))) by rw [wsA_in x2 y2 h5 (by omega), if_pos h30]; rfl]
          exact ⟨rfl, ha⟩
    · -- 14 f
      have h14 := bI_z h14
      refine cw_aload_n (pc := 17) C dX7_worst_17 rfl 0 rfl ?_
      refine cw_bipush (pc := 18) C dX7_worst_18 (-2) (by decide) ?_
      refine cw_calli (pc := 20) C dX7_worst_20 (c_X7_refuse0 l D Z A σ ) (cwV 1 C.1.2.2.2.2 gX7_worst_X7_refuse rfl rfl rfl (by decide +kernel) ⟨Nat.le_of_ble_eq_true rfl, Nat.le_of_ble_eq_true rfl⟩) 0 rfl rfl rfl rfl (Nat.le_of_ble_eq_true rfl) (cw_eff (v := (-2)) (fun _ _ h => h) (up2 σ 4 (upd (σ 4) 0 ((σ 4) 0 + nI 1))) rfl ?_)
      refine hret (-2) (up2 σ 4 (upd (σ 4) 0 ((σ 4) 0 + nI 1))) _ _ dX7_worst_23 ?_
      clear hret
      rw [wsA_no (Or.inr h14)]
      exact ⟨rfl, absM_ref ha 0⟩
set_option maxHeartbeats 4000000 in
set_option maxRecDepth 100000 in
theorem c_X7_stateOf (l : Launch) (D : va_G) (Z : CZ) (A : Nat → Nat) (σ : St) (X : Nat → Int32)  (w : Nat) (hT : σ 1 = mrow X) (hw : w ≤ 12) : CTi l yX7_stateOf wsX7_stateOf 1 25 D Z (wM Z A) σ [.ref (A 0), .int (nI w)] (fun r σ' => r = ansV (saA X (nI w)) ∧ σ' = σ) := by
  refine CTi.mk (cc := cX7_stateOf) (nL := 4) (own := RX7) rfl (by decide) rfl (Nat.le_of_ble_eq_true rfl) ?_
  intro p0 e0 s0 m0 g0 b0 t0 c0 A0 Q C hret
  refine cw_lv (lv' := [(0, .ref (A 0)), (1, .int (nI w))]) [0, 1] rfl ?_
  refine cw_iload_n (pc := 0) C dX7_stateOf_0 rfl 1 rfl ?_
  refine cw_bipush (pc := 1) C dX7_stateOf_1 (nI 8) (by decide) ?_
  refine cw_icmp_ge (pc := 3) (tgt := 16) C dX7_stateOf_3 (by decide) (fun h3 => ?_) (fun h3 => ?_)
  · -- 3 t
    have h3 : 8 ≤ w := (nc_ge (a := w) (b := 8) (by omega) (by omega)).mp h3
    refine cw_iload_n (pc := 16) C dX7_stateOf_16 rfl 1 rfl ?_
    refine cw_bipush (pc := 17) C dX7_stateOf_17 (nI 12) (by decide) ?_
    refine cw_icmp_ge (pc := 19) (tgt := 47) C dX7_stateOf_19 (by decide) (fun h19 => ?_) (fun h19 => ?_)
    · -- 19 t
      have h19 : 12 ≤ w := (nc_ge (a := w) (b := 12) (by omega) (by omega)).mp h19
      refine cw_iconst (pc := 47) C dX7_stateOf_47 (nI 0) (by decide) ?_
      refine cw_istore_n (pc := 48) C dX7_stateOf_48 rfl (by decide) (lv' := [(2, .int (nI 0)), (0, .ref (A 0)), (1, .int (nI w))]) rfl ?_
      refine cw_iconst (pc := 49) C dX7_stateOf_49 (nI 1) (by decide) ?_
      refine cw_istore_n (pc := 50) C dX7_stateOf_50 rfl (by decide) (lv' := [(3, .int (nI 1)), (2, .int (nI 0)), (0, .ref (A 0)), (1, .int (nI w))]) rfl ?_
      have L51 : ∀ (n51 : Nat) (i : Nat) (acc : Int32) (hi : i ≤ 7) (hm : 7 < i + n51) (hac : acc = fbits (fitN X) i), CW p0 l e0 (rmC 1 25) s0 m0 g0 b0 t0 c0 D A0 4 (wM Z A) Q σ 51 [(0, .ref (A 0)), (1, .int (nI w)), (2, .int (acc)), (3, .int (nI (i + 1)))] [] := by
        intro n51
        induction n51 with
        | zero => intro i acc hi hm hac; exact absurd hm (by omega)
        | succ n51 ih51 =>
          intro i acc hi hm hac
          refine cw_iload_n (pc := 51) C dX7_stateOf_51 rfl 3 rfl ?_
          refine cw_bipush (pc := 52) C dX7_stateOf_52 (nI 7) (by decide) ?_
          refine cw_icmp_gt (pc := 54) (tgt := 81) C dX7_stateOf_54 (by decide) (fun h54 => ?_) (fun h54 => ?_)
          · -- 54 t
            have h54 : 7 < (i + 1) := (nc_gt (a := i + 1) (b := 7) (by omega) (by omega)).mp h54
            have hi7 : i = 7 := by omega
            refine cw_iload_n (pc := 81) C dX7_stateOf_81 rfl 2 rfl ?_
            refine hret acc σ _ _ dX7_stateOf_82 ?_
            clear hret
            exact ⟨by rw [show w = 12 by omega, saV_12, hac, hi7], rfl⟩
          · -- 54 f
            have h54 : ¬ (7 < (i + 1)) := fun qq => h54 ((nc_gt (a := i + 1) (b := 7) (by omega) (by omega)).mpr qq)
            refine cw_iload_n (pc := 57) C dX7_stateOf_57 rfl 2 rfl ?_
            refine cw_aload_n (pc := 58) C dX7_stateOf_58 rfl 0 rfl ?_
            refine cw_iload_n (pc := 59) C dX7_stateOf_59 rfl 3 rfl ?_
            refine cw_calli (pc := 60) C dX7_stateOf_60 (c_X7_isFit l D Z A σ X (i + 1) hT (by omega) (by omega)) (cwV 1 C.1.2.2.2.2 gX7_stateOf_X7_isFit rfl rfl rfl (by decide +kernel) ⟨Nat.le_of_ble_eq_true rfl, Nat.le_of_ble_eq_true rfl⟩) 0 rfl rfl rfl rfl (Nat.le_of_ble_eq_true rfl) (cw_purez (b := fitN X (i + 1)) (fun _ _ h => h) ?_)
            refine cw_if_eq (pc := 63) (tgt := 72) C dX7_stateOf_63 (by decide) (fun h63 => ?_) (fun h63 => ?_)
            · -- 63 t
              have h63 := bI_z h63
              refine cw_iconst (pc := 72) C dX7_stateOf_72 (nI 0) (by decide) ?_
              refine cw_ior (pc := 73) C dX7_stateOf_73 (z := acc ||| (nI 0)) rfl ?_
              refine cw_istore_n (pc := 74) C dX7_stateOf_74 rfl (by decide) (lv' := [(2, .int (acc ||| (nI 0))), (0, .ref (A 0)), (1, .int (nI w)), (3, .int (nI (i + 1)))]) rfl ?_
              refine cw_iinc (pc := 75) C dX7_stateOf_75 3 rfl (nI (i + 1 + 1)) (nI_inc _ 1) (by decide) (lv' := [(3, .int (nI (i + 1 + 1))), (2, .int (acc ||| (nI 0))), (0, .ref (A 0)), (1, .int (nI w))]) rfl ?_
              refine cw_goto (pc := 78) (tgt := 51) C dX7_stateOf_78 (by decide) ?_
              refine cw_lv [2, 3, 1, 0] rfl ?_
              exact ih51 (i + 1) (acc ||| (nI 0)) (by omega) (by omega) (by rw [fbits, hac]; simp [h63, or_0])
            · -- 63 f
              have h63 := bI_nz h63
              refine cw_iconst (pc := 66) C dX7_stateOf_66 (nI 1) (by decide) ?_
              refine cw_iload_n (pc := 67) C dX7_stateOf_67 rfl 3 rfl ?_
              refine cw_ishl (pc := 68) C dX7_stateOf_68 (z := (nI 1) <<< ((nI (i + 1)) &&& 31)) rfl ?_
              refine cw_goto (pc := 69) (tgt := 73) C dX7_stateOf_69 (by decide) ?_
              refine cw_ior (pc := 73) C dX7_stateOf_73 (z := acc ||| ((nI 1) <<< ((nI (i + 1)) &&& 31))) rfl ?_
              refine cw_istore_n (pc := 74) C dX7_stateOf_74 rfl (by decide) (lv' := [(2, .int (acc ||| ((nI 1) <<< ((nI (i + 1)) &&& 31)))), (0, .ref (A 0)), (1, .int (nI w)), (3, .int (nI (i + 1)))]) rfl ?_
              refine cw_iinc (pc := 75) C dX7_stateOf_75 3 rfl (nI (i + 1 + 1)) (nI_inc _ 1) (by decide) (lv' := [(3, .int (nI (i + 1 + 1))), (2, .int (acc ||| ((nI 1) <<< ((nI (i + 1)) &&& 31)))), (0, .ref (A 0)), (1, .int (nI w))]) rfl ?_
              refine cw_goto (pc := 78) (tgt := 51) C dX7_stateOf_78 (by decide) ?_
              refine cw_lv [2, 3, 1, 0] rfl ?_
              exact ih51 (i + 1) (acc ||| ((nI 1) <<< ((nI (i + 1)) &&& 31))) (by omega) (by omega) (by rw [fbits, hac]; simp [h63, or_0])
      refine cw_lv [2, 3, 1, 0] rfl ?_
      exact L51 8 0 (nI 0) (by omega) (by omega) rfl
    · -- 19 f
      have h19 : ¬ (12 ≤ w) := fun qq => h19 ((nc_ge (a := w) (b := 12) (by omega) (by omega)).mpr qq)
      refine cw_aload_n (pc := 22) C dX7_stateOf_22 rfl 0 rfl ?_
      refine cw_get (pc := 23) C dX7_stateOf_23 0 (v := .ref (A 1)) rfl rfl 0 rfl (fun _ h => List.mem_cons_of_mem _ (List.mem_append_right _ h)) (by decide) (List.mem_of_getElem? (i := 1) rfl) ?_
      refine cw_bipush (pc := 26) C dX7_stateOf_26 (nI 39) (by decide) ?_
      refine cw_iload_n (pc := 28) C dX7_stateOf_28 rfl 1 rfl ?_
      refine cw_iadd (pc := 29) C dX7_stateOf_29 (z := nI (39 + w)) (nI_add _ _) ?_
      refine cw_bipush (pc := 30) C dX7_stateOf_30 (nI 8) (by decide) ?_
      refine cw_isub (pc := 32) C dX7_stateOf_32 (z := nI ((39 + w) - 8)) (pk_sub (by omega)) ?_
      refine cw_iald2 (pc := 33) C dX7_stateOf_33 1 1 (wM_g1 Z A) (f := σ 1) rfl ((39 + w) - 8) rfl (by omega) (by decide) ?_
      refine cw_iload_n (pc := 34) C dX7_stateOf_34 rfl 1 rfl ?_
      refine cw_bipush (pc := 35) C dX7_stateOf_35 (nI 8) (by decide) ?_
      refine cw_icmp_ne (pc := 37) (tgt := 44) C dX7_stateOf_37 (by decide) (fun h37 => ?_) (fun h37 => ?_)
      · -- 37 t
        have h37 : ¬ w = 8 := (nc_ne (a := w) (b := 8) (by omega) (by omega)).mp h37
        refine cw_iconst (pc := 44) C dX7_stateOf_44 (nI 0) (by decide) ?_
        refine cw_iadd (pc := 45) C dX7_stateOf_45 (z := (σ 1 ((39 + w) - 8)) + (nI 0)) rfl ?_
        refine hret ((σ 1 ((39 + w) - 8)) + (nI 0)) σ _ _ dX7_stateOf_46 ?_
        clear hret
        exact ⟨(show _ + nI 0 = _ from Int32.add_zero _).trans ((mr hT (by omega) (by omega) (pm_sb (by omega) (by omega))).trans (saV_lo (by omega)).symm), rfl⟩
      · -- 37 f
        have h37 : w = 8 := (nc_eq (a := w) (b := 8) (by omega) (by omega)).mp h37
        refine cw_iconst (pc := 40) C dX7_stateOf_40 (nI 3) (by decide) ?_
        refine cw_goto (pc := 41) (tgt := 45) C dX7_stateOf_41 (by decide) ?_
        refine cw_iadd (pc := 45) C dX7_stateOf_45 (z := (σ 1 ((39 + w) - 8)) + (nI 3)) rfl ?_
        refine hret ((σ 1 ((39 + w) - 8)) + (nI 3)) σ _ _ dX7_stateOf_46 ?_
        clear hret
        exact ⟨by rw [h37, saV_lo (by omega)]; show σ 1 39 + nI 3 = X 47; rw [mr39 hT, Int32.sub_add_cancel], rfl⟩
  · -- 3 f
    have h3 : ¬ (8 ≤ w) := fun qq => h3 ((nc_ge (a := w) (b := 8) (by omega) (by omega)).mpr qq)
    refine cw_aload_n (pc := 6) C dX7_stateOf_6 rfl 0 rfl ?_
    refine cw_get (pc := 7) C dX7_stateOf_7 0 (v := .ref (A 1)) rfl rfl 0 rfl (fun _ h => List.mem_cons_of_mem _ (List.mem_append_right _ h)) (by decide) (List.mem_of_getElem? (i := 1) rfl) ?_
    refine cw_bipush (pc := 10) C dX7_stateOf_10 (nI 43) (by decide) ?_
    refine cw_iload_n (pc := 12) C dX7_stateOf_12 rfl 1 rfl ?_
    refine cw_iadd (pc := 13) C dX7_stateOf_13 (z := nI (43 + w)) (nI_add _ _) ?_
    refine cw_iald2 (pc := 14) C dX7_stateOf_14 1 1 (wM_g1 Z A) (f := σ 1) rfl (43 + w) rfl (by omega) (by decide) ?_
    refine hret (σ 1 (43 + w)) σ _ _ dX7_stateOf_15 ?_
    clear hret
    exact ⟨(mr hT (by omega) (by omega) (pm_sa (by omega))).trans (saV_lo (by omega)).symm, rfl⟩
set_option maxHeartbeats 4000000 in
set_option maxRecDepth 100000 in
theorem c_X7_state (l : Launch) (D : va_G) (Z : CZ) (A : Nat → Nat) (σ : St) (X F : Nat → Int32) (ck co : Int32) (K : Nat → Nat → Int32) (nn : Nat) (B : Nat → Int32) (L : Nat) (w : Int32) (ha : absM σ X F ck co K nn B L) (hO : rowOK X) : CTi l yX7_state wsX7_state 2 48 D Z (wM Z A) σ [.ref (A 0), .int (w)] (fun r σ' => r = ansV (saA X w) ∧ absM σ' X (ansF F (saA X w)) ck co K nn B L) := by
  refine CTi.mk (cc := cX7_state) (nL := 2) (own := RX7) rfl (by decide) rfl (Nat.le_of_ble_eq_true rfl) ?_
  intro p0 e0 s0 m0 g0 b0 t0 c0 A0 Q C hret
  have hT := ha.1
  refine cw_lv (lv' := [(0, .ref (A 0)), (1, .int (w))]) [0, 1] rfl ?_
  refine cw_iload_n (pc := 0) C dX7_state_0 rfl 1 rfl ?_
  refine cw_iconst (pc := 1) C dX7_state_1 (nI 0) (by decide) ?_
  refine cw_bipush (pc := 2) C dX7_state_2 (nI 12) (by decide) ?_
  refine cw_calls (pc := 4) C dX7_state_4 (c_X7_in l D Z A σ w (nI 0) (nI 12)) (va_cwS 3 C.1.2.2.2.2 gX7_state_X7_in rfl rfl rfl (by decide +kernel) ⟨Nat.le_of_ble_eq_true rfl, Nat.le_of_ble_eq_true rfl⟩) rfl rfl (Nat.le_of_ble_eq_true rfl) (cw_purez (b := withinB w (nI 0) (nI 12)) (fun _ _ h => h) ?_)
  refine cw_if_eq (pc := 7) (tgt := 18) C dX7_state_7 (by decide) (fun h7 => ?_) (fun h7 => ?_)
  · -- 7 t
    have h7 := bI_z h7
    refine cw_aload_n (pc := 18) C dX7_state_18 rfl 0 rfl ?_
    refine cw_bipush (pc := 19) C dX7_state_19 (-2) (by decide) ?_
    refine cw_calli (pc := 21) C dX7_state_21 (c_X7_refuse0 l D Z A σ ) (cwV 1 C.1.2.2.2.2 gX7_state_X7_refuse rfl rfl rfl (by decide +kernel) ⟨Nat.le_of_ble_eq_true rfl, Nat.le_of_ble_eq_true rfl⟩) 0 rfl rfl rfl rfl (Nat.le_of_ble_eq_true rfl) (cw_eff (v := (-2)) (fun _ _ h => h) (up2 σ 4 (upd (σ 4) 0 ((σ 4) 0 + nI 1))) rfl ?_)
    refine hret (-2) (up2 σ 4 (upd (σ 4) 0 ((σ 4) 0 + nI 1))) _ _ dX7_state_24 ?_
    clear hret
    rw [saA_no h7]
    exact ⟨rfl, absM_ref ha 0⟩
  · -- 7 f
    have h7 := bI_nz h7
    obtain ⟨u, -, hu, rfl⟩ := withinB_t (by decide) (by decide) h7
    refine cw_aload_n (pc := 10) C dX7_state_10 rfl 0 rfl ?_
    refine cw_iload_n (pc := 11) C dX7_state_11 rfl 1 rfl ?_
    refine cw_calli (pc := 12) C dX7_state_12 (c_X7_stateOf l D Z A σ X u hT hu) (cwV 1 C.1.2.2.2.2 gX7_state_X7_stateOf rfl rfl rfl (by decide +kernel) ⟨Nat.le_of_ble_eq_true rfl, Nat.le_of_ble_eq_true rfl⟩) 0 rfl rfl rfl rfl (Nat.le_of_ble_eq_true rfl) (cw_pure (v := ansV (saA X (nI u))) (fun _ _ h => h) ?_)
    refine cw_goto (pc := 15) (tgt := 24) C dX7_state_15 (by decide) ?_
    refine hret (ansV (saA X (nI u))) σ _ _ dX7_state_24 ?_
    clear hret
    exact ⟨rfl, by rw [ansF_sa (by omega)]; exact ha⟩
