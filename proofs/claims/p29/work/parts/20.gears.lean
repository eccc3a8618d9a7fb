set_option maxHeartbeats 4000000 in
set_option maxRecDepth 100000 in
theorem c_X6_isWithin (l : Launch) (D : va_G) (Z : CZ) (A : Nat → Nat) (σ : St)  (v : Int32) (a : Int32) (b : Int32)  : CTz l yX6_isWithin wsX6_isWithin 0 0 D Z (wC Z A) σ [.int (v), .int (a), .int (b)] (fun z σ' => z = withinB v a b ∧ σ' = σ) := by
  refine CTz.mk (cc := cX6_isWithin) (nL := 3) (own := RX6) rfl (by decide) rfl (Nat.le_of_ble_eq_true rfl) ?_
  intro p0 e0 s0 m0 g0 b0 t0 c0 A0 Q C hret
  refine cw_lv (lv' := [(0, .int (v)), (1, .int (a)), (2, .int (b))]) [0, 1, 2] rfl ?_
  refine cw_iload_n (pc := 0) C dX6_isWithin_0 rfl 0 rfl ?_
  refine cw_iload_n (pc := 1) C dX6_isWithin_1 rfl 1 rfl ?_
  refine cw_icmp_lt (pc := 2) (tgt := 14) C dX6_isWithin_2 (by decide) (fun h2 => ?_) (fun h2 => ?_)
  · -- 2 t
    refine cw_iconst (pc := 14) C dX6_isWithin_14 (nI 0) (by decide) ?_
    refine hret false σ _ _ dX6_isWithin_15 ?_
    clear hret
    exact ⟨by simp_all [withinB], rfl⟩
  · -- 2 f
    refine cw_iload_n (pc := 5) C dX6_isWithin_5 rfl 0 rfl ?_
    refine cw_iload_n (pc := 6) C dX6_isWithin_6 rfl 2 rfl ?_
    refine cw_icmp_gt (pc := 7) (tgt := 14) C dX6_isWithin_7 (by decide) (fun h7 => ?_) (fun h7 => ?_)
    · -- 7 t
      refine cw_iconst (pc := 14) C dX6_isWithin_14 (nI 0) (by decide) ?_
      refine hret false σ _ _ dX6_isWithin_15 ?_
      clear hret
      exact ⟨by simp_all [withinB], rfl⟩
    · -- 7 f
      refine cw_iconst (pc := 10) C dX6_isWithin_10 (nI 1) (by decide) ?_
      refine cw_goto (pc := 11) (tgt := 15) C dX6_isWithin_11 (by decide) ?_
      refine hret true σ _ _ dX6_isWithin_15 ?_
      clear hret
      exact ⟨by simp_all [withinB], rfl⟩
set_option maxHeartbeats 4000000 in
set_option maxRecDepth 100000 in
theorem c_X6_isGear (l : Launch) (D : va_G) (Z : CZ) (A : Nat → Nat) (σ : St)  (g : Int32)  : CTz l yX6_isGear wsX6_isGear 0 0 D Z (wC Z A) σ [.int (g)] (fun z σ' => z = gearB g ∧ σ' = σ) := by
  refine CTz.mk (cc := cX6_isGear) (nL := 1) (own := RX6) rfl (by decide) rfl (Nat.le_of_ble_eq_true rfl) ?_
  intro p0 e0 s0 m0 g0 b0 t0 c0 A0 Q C hret
  refine cw_lv (lv' := [(0, .int (g))]) [0] rfl ?_
  refine cw_iload_n (pc := 0) C dX6_isGear_0 rfl 0 rfl ?_
  refine cw_iconst (pc := 1) C dX6_isGear_1 (nI 1) (by decide) ?_
  refine cw_icmp_lt (pc := 2) (tgt := 15) C dX6_isGear_2 (by decide) (fun h2 => ?_) (fun h2 => ?_)
  · -- 2 t
    refine cw_iconst (pc := 15) C dX6_isGear_15 (nI 0) (by decide) ?_
    refine hret false σ _ _ dX6_isGear_16 ?_
    clear hret
    exact ⟨by simp_all [gearB], rfl⟩
  · -- 2 f
    refine cw_iload_n (pc := 5) C dX6_isGear_5 rfl 0 rfl ?_
    refine cw_bipush (pc := 6) C dX6_isGear_6 (nI 7) (by decide) ?_
    refine cw_icmp_gt (pc := 8) (tgt := 15) C dX6_isGear_8 (by decide) (fun h8 => ?_) (fun h8 => ?_)
    · -- 8 t
      refine cw_iconst (pc := 15) C dX6_isGear_15 (nI 0) (by decide) ?_
      refine hret false σ _ _ dX6_isGear_16 ?_
      clear hret
      exact ⟨by simp_all [gearB], rfl⟩
    · -- 8 f
      refine cw_iconst (pc := 11) C dX6_isGear_11 (nI 1) (by decide) ?_
      refine cw_goto (pc := 12) (tgt := 16) C dX6_isGear_12 (by decide) ?_
      refine hret true σ _ _ dX6_isGear_16 ?_
      clear hret
      exact ⟨by simp_all [gearB], rfl⟩
set_option maxHeartbeats 4000000 in
set_option maxRecDepth 100000 in
theorem c_X6_isClutch (l : Launch) (D : va_G) (Z : CZ) (A : Nat → Nat) (σ : St)  (k : Int32)  : CTz l yX6_isClutch wsX6_isClutch 0 0 D Z (wC Z A) σ [.int (k)] (fun z σ' => z = clB k ∧ σ' = σ) := by
  refine CTz.mk (cc := cX6_isClutch) (nL := 1) (own := RX6) rfl (by decide) rfl (Nat.le_of_ble_eq_true rfl) ?_
  intro p0 e0 s0 m0 g0 b0 t0 c0 A0 Q C hret
  refine cw_lv (lv' := [(0, .int (k))]) [0] rfl ?_
  refine cw_iload_n (pc := 0) C dX6_isClutch_0 rfl 0 rfl ?_
  refine cw_if_lt (pc := 1) (tgt := 13) C dX6_isClutch_1 (by decide) (fun h1 => ?_) (fun h1 => ?_)
  · -- 1 t
    refine cw_iconst (pc := 13) C dX6_isClutch_13 (nI 0) (by decide) ?_
    refine hret false σ _ _ dX6_isClutch_14 ?_
    clear hret
    exact ⟨by simp_all [clB], rfl⟩
  · -- 1 f
    refine cw_iload_n (pc := 4) C dX6_isClutch_4 rfl 0 rfl ?_
    refine cw_iconst (pc := 5) C dX6_isClutch_5 (nI 5) (by decide) ?_
    refine cw_icmp_ge (pc := 6) (tgt := 13) C dX6_isClutch_6 (by decide) (fun h6 => ?_) (fun h6 => ?_)
    · -- 6 t
      refine cw_iconst (pc := 13) C dX6_isClutch_13 (nI 0) (by decide) ?_
      refine hret false σ _ _ dX6_isClutch_14 ?_
      clear hret
      exact ⟨by simp_all [clB], rfl⟩
    · -- 6 f
      refine cw_iconst (pc := 9) C dX6_isClutch_9 (nI 1) (by decide) ?_
      refine cw_goto (pc := 10) (tgt := 14) C dX6_isClutch_10 (by decide) ?_
      refine hret true σ _ _ dX6_isClutch_14 ?_
      clear hret
      exact ⟨by simp_all [clB], rfl⟩
set_option maxHeartbeats 4000000 in
set_option maxRecDepth 100000 in
theorem c_X6_arePair (l : Launch) (D : va_G) (Z : CZ) (A : Nat → Nat) (σ : St)  (g : Int32) (k : Int32)  : CTz l yX6_arePair wsX6_arePair 1 20 D Z (wC Z A) σ [.int (g), .int (k)] (fun z σ' => z = pairB g k ∧ σ' = σ) := by
  refine CTz.mk (cc := cX6_arePair) (nL := 2) (own := RX6) rfl (by decide) rfl (Nat.le_of_ble_eq_true rfl) ?_
  intro p0 e0 s0 m0 g0 b0 t0 c0 A0 Q C hret
  refine cw_lv (lv' := [(0, .int (g)), (1, .int (k))]) [0, 1] rfl ?_
  refine cw_iload_n (pc := 0) C dX6_arePair_0 rfl 0 rfl ?_
  refine cw_calls (pc := 1) C dX6_arePair_1 (c_X6_isGear l D Z A σ g) (va_cwS 1 C.1.2.2.2.2 gX6_arePair_X6_isGear rfl rfl rfl (by decide +kernel) ⟨Nat.le_of_ble_eq_true rfl, Nat.le_of_ble_eq_true rfl⟩) rfl rfl (Nat.le_of_ble_eq_true rfl) (cw_purez (b := gearB g) (fun _ _ h => h) ?_)
  refine cw_if_eq (pc := 4) (tgt := 23) C dX6_arePair_4 (by decide) (fun h4 => ?_) (fun h4 => ?_)
  · -- 4 t
    have h4 := bI_z h4
    refine cw_iconst (pc := 23) C dX6_arePair_23 (nI 0) (by decide) ?_
    refine hret false σ _ _ dX6_arePair_24 ?_
    clear hret
    exact ⟨by simp_all [pairB], rfl⟩
  · -- 4 f
    have h4 := bI_nz h4
    refine cw_iload_n (pc := 7) C dX6_arePair_7 rfl 1 rfl ?_
    refine cw_calls (pc := 8) C dX6_arePair_8 (c_X6_isGear l D Z A σ k) (va_cwS 1 C.1.2.2.2.2 gX6_arePair_X6_isGear rfl rfl rfl (by decide +kernel) ⟨Nat.le_of_ble_eq_true rfl, Nat.le_of_ble_eq_true rfl⟩) rfl rfl (Nat.le_of_ble_eq_true rfl) (cw_purez (b := gearB k) (fun _ _ h => h) ?_)
    refine cw_if_eq (pc := 11) (tgt := 23) C dX6_arePair_11 (by decide) (fun h11 => ?_) (fun h11 => ?_)
    · -- 11 t
      have h11 := bI_z h11
      refine cw_iconst (pc := 23) C dX6_arePair_23 (nI 0) (by decide) ?_
      refine hret false σ _ _ dX6_arePair_24 ?_
      clear hret
      exact ⟨by simp_all [pairB], rfl⟩
    · -- 11 f
      have h11 := bI_nz h11
      refine cw_iload_n (pc := 14) C dX6_arePair_14 rfl 0 rfl ?_
      refine cw_iload_n (pc := 15) C dX6_arePair_15 rfl 1 rfl ?_
      refine cw_icmp_eq (pc := 16) (tgt := 23) C dX6_arePair_16 (by decide) (fun h16 => ?_) (fun h16 => ?_)
      · -- 16 t
        refine cw_iconst (pc := 23) C dX6_arePair_23 (nI 0) (by decide) ?_
        refine hret false σ _ _ dX6_arePair_24 ?_
        clear hret
        exact ⟨by simp_all [pairB], rfl⟩
      · -- 16 f
        refine cw_iconst (pc := 19) C dX6_arePair_19 (nI 1) (by decide) ?_
        refine cw_goto (pc := 20) (tgt := 24) C dX6_arePair_20 (by decide) ?_
        refine hret true σ _ _ dX6_arePair_24 ?_
        clear hret
        exact ⟨by simp_all [pairB], rfl⟩
set_option maxHeartbeats 4000000 in
set_option maxRecDepth 100000 in
theorem c_X1_isFit (l : Launch) (D : va_G) (Z : CZ) (A : Nat → Nat) (σ : St)  (g : Int32)  : CTz l yX1_isFit wsX1_isFit 0 0 D Z (wC Z A) σ [.ref (A 3), .int (g)] (fun z σ' => z = fitI (σ 1) g ∧ σ' = σ) := by
  refine CTz.mk (cc := cX1_isFit) (nL := 4) (own := RX1) rfl (by decide) rfl (Nat.le_of_ble_eq_true rfl) ?_
  intro p0 e0 s0 m0 g0 b0 t0 c0 A0 Q C hret
  refine cw_lv (lv' := [(0, .ref (A 3)), (1, .int (g))]) [0, 1] rfl ?_
  refine cw_iload_n (pc := 0) C dX1_isFit_0 rfl 1 rfl ?_
  refine cw_iconst (pc := 1) C dX1_isFit_1 (nI 1) (by decide) ?_
  refine cw_icmp_lt (pc := 2) (tgt := 22) C dX1_isFit_2 (by decide) (fun h2 => ?_) (fun h2 => ?_)
  · -- 2 t
    refine cw_iconst (pc := 22) C dX1_isFit_22 (nI 0) (by decide) ?_
    refine hret false σ _ _ dX1_isFit_23 ?_
    clear hret
    exact ⟨by simp_all [fitI, gearB, fitS], rfl⟩
  · -- 2 f
    refine cw_iload_n (pc := 5) C dX1_isFit_5 rfl 1 rfl ?_
    refine cw_bipush (pc := 6) C dX1_isFit_6 (nI 7) (by decide) ?_
    refine cw_icmp_gt (pc := 8) (tgt := 22) C dX1_isFit_8 (by decide) (fun h8 => ?_) (fun h8 => ?_)
    · -- 8 t
      refine cw_iconst (pc := 22) C dX1_isFit_22 (nI 0) (by decide) ?_
      refine hret false σ _ _ dX1_isFit_23 ?_
      clear hret
      exact ⟨by simp_all [fitI, gearB, fitS], rfl⟩
    · -- 8 f
      obtain ⟨j, hj1, hj2, rfl⟩ := rng_of (a := 1) (b := 7) (by decide) (by decide) h2 h8
      refine cw_aload_n (pc := 11) C dX1_isFit_11 rfl 0 rfl ?_
      refine cw_get (pc := 12) C dX1_isFit_12 3 (v := .ref (A 1)) rfl rfl 0 rfl (fun _ h => List.mem_cons_of_mem _ (List.mem_append_right _ h)) (by decide) (List.mem_of_getElem? (i := 1) rfl) ?_
      refine cw_iconst (pc := 15) C dX1_isFit_15 (nI 0) (by decide) ?_
      refine cw_iload_n (pc := 16) C dX1_isFit_16 rfl 1 rfl ?_
      refine cw_iadd (pc := 17) C dX1_isFit_17 (z := nI j) (nI_0add _) ?_
      refine cw_iald2 (pc := 18) C dX1_isFit_18 1 1 (wC_g1 Z A) (f := σ 1) rfl j rfl (by omega) (by decide) ?_
      refine cw_if_ne (pc := 19) (tgt := 24) C dX1_isFit_19 (by decide) (fun h19 => ?_) (fun h19 => ?_)
      · -- 19 t
        refine cw_iconst (pc := 24) C dX1_isFit_24 (nI 0) (by decide) ?_
        refine cw_istore_n (pc := 25) C dX1_isFit_25 rfl (by decide) (lv' := [(2, .int (nI 0)), (0, .ref (A 3)), (1, .int (nI j))]) rfl ?_
        have L26 : ∀ (n26 : Nat) (i : Nat) (hi : i ≤ 5) (hm : 5 < i + n26) (hall : allB (okB (σ 1 j) (stC (σ 1))) i = true), CW p0 l e0 (rmC 0 0) s0 m0 g0 b0 t0 c0 D A0 4 (wC Z A) Q σ 26 [(0, .ref (A 3)), (1, .int (nI j)), (2, .int (nI i))] [] := by
          intro n26
          induction n26 with
          | zero => intro i hi hm hall; exact absurd hm (by omega)
          | succ n26 ih26 =>
            intro i hi hm hall
            refine cw_iload_n (pc := 26) C dX1_isFit_26 rfl 2 rfl ?_
            refine cw_iconst (pc := 27) C dX1_isFit_27 (nI 5) (by decide) ?_
            refine cw_icmp_ge (pc := 28) (tgt := 82) C dX1_isFit_28 (by decide) (fun h28 => ?_) (fun h28 => ?_)
            · -- 28 t
              have h28 : 5 ≤ i := (nc_ge (a := i) (b := 5) (by omega) (by omega)).mp h28
              obtain rfl : i = 5 := by omega
              refine cw_iconst (pc := 82) C dX1_isFit_82 (nI 1) (by decide) ?_
              refine hret true σ _ _ dX1_isFit_83 ?_
              clear hret
              exact ⟨by rw [fitI_N (by omega), fitN_in hj1 hj2]; rw [fitS, hall]; simp_all, rfl⟩
            · -- 28 f
              have h28 : ¬ (5 ≤ i) := fun qq => h28 ((nc_ge (a := i) (b := 5) (by omega) (by omega)).mpr qq)
              refine cw_aload_n (pc := 31) C dX1_isFit_31 rfl 0 rfl ?_
              refine cw_get (pc := 32) C dX1_isFit_32 3 (v := .ref (A 1)) rfl rfl 0 rfl (fun _ h => List.mem_cons_of_mem _ (List.mem_append_right _ h)) (by decide) (List.mem_of_getElem? (i := 1) rfl) ?_
              refine cw_iconst (pc := 35) C dX1_isFit_35 (nI 0) (by decide) ?_
              refine cw_iload_n (pc := 36) C dX1_isFit_36 rfl 1 rfl ?_
              refine cw_iadd (pc := 37) C dX1_isFit_37 (z := nI j) (nI_0add _) ?_
              refine cw_iald2 (pc := 38) C dX1_isFit_38 1 1 (wC_g1 Z A) (f := σ 1) rfl j rfl (by omega) (by decide) ?_
              refine cw_iload_n (pc := 39) C dX1_isFit_39 rfl 2 rfl ?_
              refine cw_ishr (pc := 40) C dX1_isFit_40 (z := (σ 1 j) >>> ((nI i) &&& 31)) rfl ?_
              refine cw_iconst (pc := 41) C dX1_isFit_41 (nI 1) (by decide) ?_
              refine cw_iand (pc := 42) C dX1_isFit_42 (z := ((σ 1 j) >>> ((nI i) &&& 31)) &&& (nI 1)) rfl ?_
              refine cw_iconst (pc := 43) C dX1_isFit_43 (nI 1) (by decide) ?_
              refine cw_icmp_ne (pc := 44) (tgt := 51) C dX1_isFit_44 (by decide) (fun h44 => ?_) (fun h44 => ?_)
              · -- 44 t
                refine cw_iconst (pc := 51) C dX1_isFit_51 (nI 0) (by decide) ?_
                refine cw_istore_n (pc := 52) C dX1_isFit_52 rfl (by decide) (lv' := [(3, .int (nI 0)), (0, .ref (A 3)), (1, .int (nI j)), (2, .int (nI i))]) rfl ?_
                refine cw_aload_n (pc := 53) C dX1_isFit_53 rfl 1 rfl ?_
                refine cw_get (pc := 54) C dX1_isFit_54 3 (v := .ref (A 1)) rfl rfl 0 rfl (fun _ h => List.mem_cons_of_mem _ (List.mem_append_right _ h)) (by decide) (List.mem_of_getElem? (i := 1) rfl) ?_
                refine cw_bipush (pc := 57) C dX1_isFit_57 (nI 24) (by decide) ?_
                refine cw_iload_n (pc := 59) C dX1_isFit_59 rfl 3 rfl ?_
                refine cw_iadd (pc := 60) C dX1_isFit_60 (z := nI (24 + i)) (nI_add _ _) ?_
                refine cw_iald2 (pc := 61) C dX1_isFit_61 1 1 (wC_g1 Z A) (f := σ 1) rfl (24 + i) rfl (by omega) (by decide) ?_
                refine cw_iload_n (pc := 62) C dX1_isFit_62 rfl 0 rfl ?_
                refine cw_if_eq (pc := 63) (tgt := 70) C dX1_isFit_63 (by decide) (fun _ => ?_) (fun h => False.elim (by revert h; decide))
                refine cw_iconst (pc := 70) C dX1_isFit_70 (nI 2) (by decide) ?_
                refine cw_icmp_ne (pc := 71) (tgt := 76) C dX1_isFit_71 (by decide) (fun h71 => ?_) (fun h71 => ?_)
                · -- 71 t
                  refine cw_iinc (pc := 76) C dX1_isFit_76 3 rfl (nI (i + 1)) (nI_inc _ 1) (by decide) (lv' := [(2, .int (nI (i + 1))), (3, .int (nI 0)), (0, .ref (A 3)), (1, .int (nI j))]) rfl ?_
                  refine cw_goto (pc := 79) (tgt := 26) C dX1_isFit_79 (by decide) ?_
                  refine cw_lv [2, 3, 0] rfl ?_
                  exact ih26 (i + 1) (by omega) (by omega) (by rw [allB, hall]; simp_all [okB, sbit, stC])
                · -- 71 f
                  refine cw_iconst (pc := 74) C dX1_isFit_74 (nI 0) (by decide) ?_
                  refine hret false σ _ _ dX1_isFit_75 ?_
                  clear hret
                  exact ⟨by rw [fitI_N (by omega), fitN_in hj1 hj2]; rw [fitS, allB_f (p := okB (σ 1 j) (stC (σ 1))) (i := i) (by omega) (by simp_all [okB, sbit, stC])]; simp, rfl⟩
              · -- 44 f
                refine cw_iconst (pc := 47) C dX1_isFit_47 (nI 1) (by decide) ?_
                refine cw_goto (pc := 48) (tgt := 52) C dX1_isFit_48 (by decide) ?_
                refine cw_istore_n (pc := 52) C dX1_isFit_52 rfl (by decide) (lv' := [(3, .int (nI 1)), (0, .ref (A 3)), (1, .int (nI j)), (2, .int (nI i))]) rfl ?_
                refine cw_aload_n (pc := 53) C dX1_isFit_53 rfl 1 rfl ?_
                refine cw_get (pc := 54) C dX1_isFit_54 3 (v := .ref (A 1)) rfl rfl 0 rfl (fun _ h => List.mem_cons_of_mem _ (List.mem_append_right _ h)) (by decide) (List.mem_of_getElem? (i := 1) rfl) ?_
                refine cw_bipush (pc := 57) C dX1_isFit_57 (nI 24) (by decide) ?_
                refine cw_iload_n (pc := 59) C dX1_isFit_59 rfl 3 rfl ?_
                refine cw_iadd (pc := 60) C dX1_isFit_60 (z := nI (24 + i)) (nI_add _ _) ?_
                refine cw_iald2 (pc := 61) C dX1_isFit_61 1 1 (wC_g1 Z A) (f := σ 1) rfl (24 + i) rfl (by omega) (by decide) ?_
                refine cw_iload_n (pc := 62) C dX1_isFit_62 rfl 0 rfl ?_
                refine cw_if_eq (pc := 63) (tgt := 70) C dX1_isFit_63 (by decide) (fun h => False.elim (by revert h; decide)) (fun _ => ?_)
                refine cw_iconst (pc := 66) C dX1_isFit_66 (nI 1) (by decide) ?_
                refine cw_goto (pc := 67) (tgt := 71) C dX1_isFit_67 (by decide) ?_
                refine cw_icmp_ne (pc := 71) (tgt := 76) C dX1_isFit_71 (by decide) (fun h71 => ?_) (fun h71 => ?_)
                · -- 71 t
                  refine cw_iinc (pc := 76) C dX1_isFit_76 3 rfl (nI (i + 1)) (nI_inc _ 1) (by decide) (lv' := [(2, .int (nI (i + 1))), (3, .int (nI 1)), (0, .ref (A 3)), (1, .int (nI j))]) rfl ?_
                  refine cw_goto (pc := 79) (tgt := 26) C dX1_isFit_79 (by decide) ?_
                  refine cw_lv [2, 3, 0] rfl ?_
                  exact ih26 (i + 1) (by omega) (by omega) (by rw [allB, hall]; simp_all [okB, sbit, stC])
                · -- 71 f
                  refine cw_iconst (pc := 74) C dX1_isFit_74 (nI 0) (by decide) ?_
                  refine hret false σ _ _ dX1_isFit_75 ?_
                  clear hret
                  exact ⟨by rw [fitI_N (by omega), fitN_in hj1 hj2]; rw [fitS, allB_f (p := okB (σ 1 j) (stC (σ 1))) (i := i) (by omega) (by simp_all [okB, sbit, stC])]; simp, rfl⟩
        refine cw_lv [1, 2, 0] rfl ?_
        exact L26 6 0 (by omega) (by omega) rfl
      · -- 19 f
        refine cw_iconst (pc := 22) C dX1_isFit_22 (nI 0) (by decide) ?_
        refine hret false σ _ _ dX1_isFit_23 ?_
        clear hret
        exact ⟨by rw [fitI_N (by omega), fitN_in hj1 hj2]; simp_all [fitS], rfl⟩
theorem c_X1_isFitN (l : Launch) (D : va_G) (Z : CZ) (A : Nat → Nat) (σ : St) (g : Nat) (hg : g < 2 ^ 31) : CTz l yX1_isFit wsX1_isFit 0 0 D Z (wC Z A) σ [.ref (A 3), .int (nI g)] (fun z σ' => z = fitN (σ 1) g ∧ σ' = σ) := by
  rw [← fitI_N hg]
  exact c_X1_isFit l D Z A σ (nI g)
set_option maxHeartbeats 4000000 in
set_option maxRecDepth 100000 in
theorem c_X1_fitBits (l : Launch) (D : va_G) (Z : CZ) (A : Nat → Nat) (σ : St)    : CTi l yX1_fitBits wsX1_fitBits 1 23 D Z (wC Z A) σ [.ref (A 3)] (fun r σ' => r = fbits (fitN (σ 1)) 7 ∧ σ' = σ) := by
  refine CTi.mk (cc := cX1_fitBits) (nL := 3) (own := RX1) rfl (by decide) rfl (Nat.le_of_ble_eq_true rfl) ?_
  intro p0 e0 s0 m0 g0 b0 t0 c0 A0 Q C hret
  refine cw_lv (lv' := [(0, .ref (A 3))]) [0] rfl ?_
  refine cw_iconst (pc := 0) C dX1_fitBits_0 (nI 0) (by decide) ?_
  refine cw_istore_n (pc := 1) C dX1_fitBits_1 rfl (by decide) (lv' := [(1, .int (nI 0)), (0, .ref (A 3))]) rfl ?_
  refine cw_iconst (pc := 2) C dX1_fitBits_2 (nI 1) (by decide) ?_
  refine cw_istore_n (pc := 3) C dX1_fitBits_3 rfl (by decide) (lv' := [(2, .int (nI 1)), (1, .int (nI 0)), (0, .ref (A 3))]) rfl ?_
  have L4 : ∀ (n4 : Nat) (i : Nat) (acc : Int32) (hi : i ≤ 7) (hm : 7 < i + n4) (ha : acc = fbits (fitN (σ 1)) i), CW p0 l e0 (rmC 1 23) s0 m0 g0 b0 t0 c0 D A0 3 (wC Z A) Q σ 4 [(0, .ref (A 3)), (1, .int (acc)), (2, .int (nI (i + 1)))] [] := by
    intro n4
    induction n4 with
    | zero => intro i acc hi hm ha; exact absurd hm (by omega)
    | succ n4 ih4 =>
      intro i acc hi hm ha
      refine cw_iload_n (pc := 4) C dX1_fitBits_4 rfl 2 rfl ?_
      refine cw_bipush (pc := 5) C dX1_fitBits_5 (nI 7) (by decide) ?_
      refine cw_icmp_gt (pc := 7) (tgt := 30) C dX1_fitBits_7 (by decide) (fun h7 => ?_) (fun h7 => ?_)
      · -- 7 t
        have h7 : 7 < (i + 1) := (nc_gt (a := i + 1) (b := 7) (by omega) (by omega)).mp h7
        obtain rfl : i = 7 := by omega
        refine cw_iload_n (pc := 30) C dX1_fitBits_30 rfl 1 rfl ?_
        refine hret acc σ _ _ dX1_fitBits_31 ?_
        clear hret
        exact ⟨ha, rfl⟩
      · -- 7 f
        have h7 : ¬ (7 < (i + 1)) := fun qq => h7 ((nc_gt (a := i + 1) (b := 7) (by omega) (by omega)).mpr qq)
        refine cw_aload_n (pc := 10) C dX1_fitBits_10 rfl 0 rfl ?_
        refine cw_iload_n (pc := 11) C dX1_fitBits_11 rfl 2 rfl ?_
        refine cw_calli (pc := 12) C dX1_fitBits_12 (c_X1_isFitN l D Z A σ (i + 1) (by omega)) (cwV 1 C.1.2.2.2.2 gX1_fitBits_X1_isFit rfl rfl rfl (by decide +kernel) ⟨Nat.le_of_ble_eq_true rfl, Nat.le_of_ble_eq_true rfl⟩) 3 rfl rfl rfl rfl (Nat.le_of_ble_eq_true rfl) (cw_purez (b := fitN (σ 1) (i + 1)) (fun _ _ h => h) ?_)
        refine cw_if_eq (pc := 15) (tgt := 24) C dX1_fitBits_15 (by decide) (fun h15 => ?_) (fun h15 => ?_)
        · -- 15 t
          have h15 := bI_z h15
          refine cw_iinc (pc := 24) C dX1_fitBits_24 2 rfl (nI (i + 1 + 1)) (nI_inc _ 1) (by decide) (lv' := [(2, .int (nI (i + 1 + 1))), (0, .ref (A 3)), (1, .int (acc))]) rfl ?_
          refine cw_goto (pc := 27) (tgt := 4) C dX1_fitBits_27 (by decide) ?_
          refine cw_lv [1, 2, 0] rfl ?_
          exact ih4 (i + 1) acc (by omega) (by omega) (by rw [fbits, ha]; simp [h15])
        · -- 15 f
          have h15 := bI_nz h15
          refine cw_iload_n (pc := 18) C dX1_fitBits_18 rfl 1 rfl ?_
          refine cw_iconst (pc := 19) C dX1_fitBits_19 (nI 1) (by decide) ?_
          refine cw_iload_n (pc := 20) C dX1_fitBits_20 rfl 2 rfl ?_
          refine cw_ishl (pc := 21) C dX1_fitBits_21 (z := (nI 1) <<< ((nI (i + 1)) &&& 31)) rfl ?_
          refine cw_ior (pc := 22) C dX1_fitBits_22 (z := acc ||| ((nI 1) <<< ((nI (i + 1)) &&& 31))) rfl ?_
          refine cw_istore_n (pc := 23) C dX1_fitBits_23 rfl (by decide) (lv' := [(1, .int (acc ||| ((nI 1) <<< ((nI (i + 1)) &&& 31)))), (0, .ref (A 3)), (2, .int (nI (i + 1)))]) rfl ?_
          refine cw_iinc (pc := 24) C dX1_fitBits_24 2 rfl (nI (i + 1 + 1)) (nI_inc _ 1) (by decide) (lv' := [(2, .int (nI (i + 1 + 1))), (1, .int (acc ||| ((nI 1) <<< ((nI (i + 1)) &&& 31)))), (0, .ref (A 3))]) rfl ?_
          refine cw_goto (pc := 27) (tgt := 4) C dX1_fitBits_27 (by decide) ?_
          refine cw_lv [2, 1, 0] rfl ?_
          exact ih4 (i + 1) (acc ||| ((nI 1) <<< ((nI (i + 1)) &&& 31))) (by omega) (by omega) (by rw [fbits, ha]; simp [h15])
  refine cw_lv [2, 1, 0] rfl ?_
  exact L4 8 0 (nI 0) (by omega) (by omega) rfl
set_option maxHeartbeats 4000000 in
set_option maxRecDepth 100000 in
theorem c_X1_nextUp (l : Launch) (D : va_G) (Z : CZ) (A : Nat → Nat) (σ : St)  (g : Nat) (hg : g ≤ 7) : CTi l yX1_nextFit wsX1_nextFit 1 23 D Z (wC Z A) σ [.ref (A 3), .int (nI g), .int (nI 1)] (fun r σ' => r = nI (nxUp (fitN (σ 1)) 7 g) ∧ σ' = σ) := by
  refine CTi.mk (cc := cX1_nextFit) (nL := 5) (own := RX1) rfl (by decide) rfl (Nat.le_of_ble_eq_true rfl) ?_
  intro p0 e0 s0 m0 g0 b0 t0 c0 A0 Q C hret
  refine cw_lv (lv' := [(0, .ref (A 3)), (1, .int (nI g)), (2, .int (nI 1))]) [0, 1, 2] rfl ?_
  refine cw_iload_n (pc := 0) C dX1_nextFit_0 rfl 1 rfl ?_
  refine cw_istore_n (pc := 1) C dX1_nextFit_1 rfl (by decide) (lv' := [(3, .int (nI g)), (0, .ref (A 3)), (1, .int (nI g)), (2, .int (nI 1))]) rfl ?_
  refine cw_iconst (pc := 2) C dX1_nextFit_2 (nI 0) (by decide) ?_
  refine cw_istore (pc := 3) C dX1_nextFit_3 (by decide) (lv' := [(4, .int (nI 0)), (3, .int (nI g)), (0, .ref (A 3)), (1, .int (nI g)), (2, .int (nI 1))]) rfl ?_
  have L5 : ∀ (n5 : Nat) (i : Nat) (h : Nat) (hi : i ≤ 7) (hm : 7 < i + n5) (hh : h = g + i) (hr : nxUp (fitN (σ 1)) 7 g = nxUp (fitN (σ 1)) (7 - i) h), CW p0 l e0 (rmC 1 23) s0 m0 g0 b0 t0 c0 D A0 5 (wC Z A) Q σ 5 [(0, .ref (A 3)), (1, .int (nI g)), (2, .int (nI 1)), (3, .int (nI h)), (4, .int (nI i))] [] := by
    intro n5
    induction n5 with
    | zero => intro i h hi hm hh hr; exact absurd hm (by omega)
    | succ n5 ih5 =>
      intro i h hi hm hh hr
      refine cw_iload (pc := 5) C dX1_nextFit_5 4 rfl ?_
      refine cw_bipush (pc := 7) C dX1_nextFit_7 (nI 7) (by decide) ?_
      refine cw_icmp_ge (pc := 9) (tgt := 32) C dX1_nextFit_9 (by decide) (fun h9 => ?_) (fun h9 => ?_)
      · -- 9 t
        have h9 : 7 ≤ i := (nc_ge (a := i) (b := 7) (by omega) (by omega)).mp h9
        obtain rfl : i = 7 := by omega
        refine cw_iconst (pc := 32) C dX1_nextFit_32 (nI 0) (by decide) ?_
        refine hret (nI 0) σ _ _ dX1_nextFit_33 ?_
        clear hret
        exact ⟨by rw [hr]; rfl, rfl⟩
      · -- 9 f
        have h9 : ¬ (7 ≤ i) := fun qq => h9 ((nc_ge (a := i) (b := 7) (by omega) (by omega)).mpr qq)
        refine cw_iload_n (pc := 12) C dX1_nextFit_12 rfl 3 rfl ?_
        refine cw_iload_n (pc := 13) C dX1_nextFit_13 rfl 2 rfl ?_
        refine cw_iadd (pc := 14) C dX1_nextFit_14 (z := nI (h + 1)) (nI_add _ _) ?_
        refine cw_istore_n (pc := 15) C dX1_nextFit_15 rfl (by decide) (lv' := [(3, .int (nI (h + 1))), (0, .ref (A 3)), (1, .int (nI g)), (2, .int (nI 1)), (4, .int (nI i))]) rfl ?_
        refine cw_aload_n (pc := 16) C dX1_nextFit_16 rfl 1 rfl ?_
        refine cw_iload_n (pc := 17) C dX1_nextFit_17 rfl 0 rfl ?_
        refine cw_calli (pc := 18) C dX1_nextFit_18 (c_X1_isFitN l D Z A σ (h + 1) (by omega)) (cwV 1 C.1.2.2.2.2 gX1_nextFit_X1_isFit rfl rfl rfl (by decide +kernel) ⟨Nat.le_of_ble_eq_true rfl, Nat.le_of_ble_eq_true rfl⟩) 3 rfl rfl rfl rfl (Nat.le_of_ble_eq_true rfl) (cw_purez (b := fitN (σ 1) (h + 1)) (fun _ _ h => h) ?_)
        refine cw_if_eq (pc := 21) (tgt := 26) C dX1_nextFit_21 (by decide) (fun h21 => ?_) (fun h21 => ?_)
        · -- 21 t
          have h21 := bI_z h21
          refine cw_iinc (pc := 26) C dX1_nextFit_26 4 rfl (nI (i + 1)) (nI_inc _ 1) (by decide) (lv' := [(4, .int (nI (i + 1))), (3, .int (nI (h + 1))), (0, .ref (A 3)), (1, .int (nI g)), (2, .int (nI 1))]) rfl ?_
          refine cw_goto (pc := 29) (tgt := 5) C dX1_nextFit_29 (by decide) ?_
          refine cw_lv [2, 3, 4, 1, 0] rfl ?_
          exact ih5 (i + 1) (h + 1) (by omega) (by omega) (by omega) (by rw [hr, show 7 - i = (7 - (i + 1)) + 1 by omega, nxUp]; simp [h21])
        · -- 21 f
          have h21 := bI_nz h21
          refine cw_iload_n (pc := 24) C dX1_nextFit_24 rfl 0 rfl ?_
          refine hret (nI (h + 1)) σ _ _ dX1_nextFit_25 ?_
          clear hret
          exact ⟨by rw [hr, show 7 - i = (7 - (i + 1)) + 1 by omega, nxUp]; simp [h21], rfl⟩
  refine cw_lv [2, 3, 4, 1, 0] rfl ?_
  exact L5 8 0 g (by omega) (by omega) rfl rfl
set_option maxHeartbeats 4000000 in
set_option maxRecDepth 100000 in
theorem c_X1_nextDn (l : Launch) (D : va_G) (Z : CZ) (A : Nat → Nat) (σ : St)  (g : Nat) (hg : g ≤ 7) : CTi l yX1_nextFit wsX1_nextFit 1 23 D Z (wC Z A) σ [.ref (A 3), .int (nI g), .int ((-1))] (fun r σ' => r = nI (nxDn (fitN (σ 1)) 7 g) ∧ σ' = σ) := by
  refine CTi.mk (cc := cX1_nextFit) (nL := 5) (own := RX1) rfl (by decide) rfl (Nat.le_of_ble_eq_true rfl) ?_
  intro p0 e0 s0 m0 g0 b0 t0 c0 A0 Q C hret
  refine cw_lv (lv' := [(0, .ref (A 3)), (1, .int (nI g)), (2, .int ((-1)))]) [0, 1, 2] rfl ?_
  refine cw_iload_n (pc := 0) C dX1_nextFit_0 rfl 1 rfl ?_
  refine cw_istore_n (pc := 1) C dX1_nextFit_1 rfl (by decide) (lv' := [(3, .int (nI g)), (0, .ref (A 3)), (1, .int (nI g)), (2, .int ((-1)))]) rfl ?_
  refine cw_iconst (pc := 2) C dX1_nextFit_2 (nI 0) (by decide) ?_
  refine cw_istore (pc := 3) C dX1_nextFit_3 (by decide) (lv' := [(4, .int (nI 0)), (3, .int (nI g)), (0, .ref (A 3)), (1, .int (nI g)), (2, .int ((-1)))]) rfl ?_
  have L5 : ∀ (n5 : Nat) (i : Nat) (h : Int32) (hi : i ≤ 7) (hm : 7 < i + n5) (hh : h = nI g - nI i) (hr : nxDn (fitN (σ 1)) 7 g = nxDn (fitN (σ 1)) (7 - i) (g - i)), CW p0 l e0 (rmC 1 23) s0 m0 g0 b0 t0 c0 D A0 5 (wC Z A) Q σ 5 [(0, .ref (A 3)), (1, .int (nI g)), (2, .int ((-1))), (3, .int (h)), (4, .int (nI i))] [] := by
    intro n5
    induction n5 with
    | zero => intro i h hi hm hh hr; exact absurd hm (by omega)
    | succ n5 ih5 =>
      intro i h hi hm hh hr
      refine cw_iload (pc := 5) C dX1_nextFit_5 4 rfl ?_
      refine cw_bipush (pc := 7) C dX1_nextFit_7 (nI 7) (by decide) ?_
      refine cw_icmp_ge (pc := 9) (tgt := 32) C dX1_nextFit_9 (by decide) (fun h9 => ?_) (fun h9 => ?_)
      · -- 9 t
        have h9 : 7 ≤ i := (nc_ge (a := i) (b := 7) (by omega) (by omega)).mp h9
        obtain rfl : i = 7 := by omega
        refine cw_iconst (pc := 32) C dX1_nextFit_32 (nI 0) (by decide) ?_
        refine hret (nI 0) σ _ _ dX1_nextFit_33 ?_
        clear hret
        exact ⟨by rw [hr]; rfl, rfl⟩
      · -- 9 f
        have h9 : ¬ (7 ≤ i) := fun qq => h9 ((nc_ge (a := i) (b := 7) (by omega) (by omega)).mpr qq)
        refine cw_iload_n (pc := 12) C dX1_nextFit_12 rfl 3 rfl ?_
        refine cw_iload_n (pc := 13) C dX1_nextFit_13 rfl 2 rfl ?_
        refine cw_iadd (pc := 14) C dX1_nextFit_14 (z := nI g - nI (i + 1)) (by rw [hh, ← nI_1, dn_1]) ?_
        refine cw_istore_n (pc := 15) C dX1_nextFit_15 rfl (by decide) (lv' := [(3, .int (nI g - nI (i + 1))), (0, .ref (A 3)), (1, .int (nI g)), (2, .int ((-1))), (4, .int (nI i))]) rfl ?_
        refine cw_aload_n (pc := 16) C dX1_nextFit_16 rfl 1 rfl ?_
        refine cw_iload_n (pc := 17) C dX1_nextFit_17 rfl 0 rfl ?_
        refine cw_calli (pc := 18) C dX1_nextFit_18 (c_X1_isFit l D Z A σ (nI g - nI (i + 1))) (cwV 1 C.1.2.2.2.2 gX1_nextFit_X1_isFit rfl rfl rfl (by decide +kernel) ⟨Nat.le_of_ble_eq_true rfl, Nat.le_of_ble_eq_true rfl⟩) 3 rfl rfl rfl rfl (Nat.le_of_ble_eq_true rfl) (cw_purez (b := fitI (σ 1) (nI g - nI (i + 1))) (fun _ _ h => h) ?_)
        refine cw_if_eq (pc := 21) (tgt := 26) C dX1_nextFit_21 (by decide) (fun h21 => ?_) (fun h21 => ?_)
        · -- 21 t
          have h21 := bI_z h21
          rw [fit_dn hg (by omega)] at h21
          refine cw_iinc (pc := 26) C dX1_nextFit_26 4 rfl (nI (i + 1)) (nI_inc _ 1) (by decide) (lv' := [(4, .int (nI (i + 1))), (3, .int (nI g - nI (i + 1))), (0, .ref (A 3)), (1, .int (nI g)), (2, .int ((-1)))]) rfl ?_
          refine cw_goto (pc := 29) (tgt := 5) C dX1_nextFit_29 (by decide) ?_
          refine cw_lv [2, 3, 4, 1, 0] rfl ?_
          exact ih5 (i + 1) (nI g - nI (i + 1)) (by omega) (by omega) rfl (by rw [hr, show 7 - i = (7 - (i + 1)) + 1 by omega, nxDn, show g - i - 1 = g - (i + 1) by omega]; simp [h21])
        · -- 21 f
          have h21 := bI_nz h21
          rw [fit_dn hg (by omega)] at h21
          refine cw_iload_n (pc := 24) C dX1_nextFit_24 rfl 0 rfl ?_
          refine hret (nI g - nI (i + 1)) σ _ _ dX1_nextFit_25 ?_
          clear hret
          have hq := fitN_rng h21
          exact ⟨by rw [hr, show 7 - i = (7 - (i + 1)) + 1 by omega, nxDn, show g - i - 1 = g - (i + 1) by omega, if_pos h21, pk_sub (by omega)], rfl⟩
  refine cw_lv [2, 3, 4, 1, 0] rfl ?_
  exact L5 8 0 (nI g) (by omega) (by omega) (by rw [nI_0, Int32.sub_zero]) rfl
set_option maxHeartbeats 4000000 in
set_option maxRecDepth 100000 in
theorem c_J6_bitCount_0f7a4 (l : Launch) (D : va_G) (Z : CZ) (A : Nat → Nat) (σ : St)  (x : Int32)  : CTi l yJ6_bitCount_0f7a4 wsJ6_bitCount_0f7a4 0 0 D Z (wC Z A) σ [.int (x)] (fun r σ' => r = bitC x ∧ σ' = σ) := by
  refine CTi.mk (cc := cJ6_bitCount_0f7a4) (nL := 1) (own := RJ6) rfl (by decide) rfl (Nat.le_of_ble_eq_true rfl) ?_
  intro p0 e0 s0 m0 g0 b0 t0 c0 A0 Q C hret
  refine cw_lv (lv' := [(0, .int (x))]) [0] rfl ?_
  refine cw_iload_n (pc := 0) C dJ6_bitCount_0f7a4_0 rfl 0 rfl ?_
  refine cw_iload_n (pc := 1) C dJ6_bitCount_0f7a4_1 rfl 0 rfl ?_
  refine cw_iconst (pc := 2) C dJ6_bitCount_0f7a4_2 (nI 1) (by decide) ?_
  refine cw_iushr (pc := 3) C dJ6_bitCount_0f7a4_3 (z := (x.toUInt32 >>> ((nI 1).toUInt32 &&& Int32.toUInt32 31)).toInt32) rfl ?_
  refine cw_ldcw (pc := 4) C dJ6_bitCount_0f7a4_4 (v := 1431655765) (List.mem_of_getElem? (i := 1) rfl) ?_
  refine cw_iand (pc := 7) C dJ6_bitCount_0f7a4_7 (z := ((x.toUInt32 >>> ((nI 1).toUInt32 &&& Int32.toUInt32 31)).toInt32) &&& 1431655765) rfl ?_
  refine cw_isub (pc := 8) C dJ6_bitCount_0f7a4_8 (z := x - (((x.toUInt32 >>> ((nI 1).toUInt32 &&& Int32.toUInt32 31)).toInt32) &&& 1431655765)) rfl ?_
  refine cw_istore_n (pc := 9) C dJ6_bitCount_0f7a4_9 rfl (by decide) (lv' := [(0, .int (x - (((x.toUInt32 >>> ((nI 1).toUInt32 &&& Int32.toUInt32 31)).toInt32) &&& 1431655765)))]) rfl ?_
  refine cw_iload_n (pc := 10) C dJ6_bitCount_0f7a4_10 rfl 0 rfl ?_
  refine cw_ldcw (pc := 11) C dJ6_bitCount_0f7a4_11 (v := 858993459) (List.mem_of_getElem? (i := 2) rfl) ?_
  refine cw_iand (pc := 14) C dJ6_bitCount_0f7a4_14 (z := (x - (((x.toUInt32 >>> ((nI 1).toUInt32 &&& Int32.toUInt32 31)).toInt32) &&& 1431655765)) &&& 858993459) rfl ?_
  refine cw_iload_n (pc := 15) C dJ6_bitCount_0f7a4_15 rfl 0 rfl ?_
  refine cw_iconst (pc := 16) C dJ6_bitCount_0f7a4_16 (nI 2) (by decide) ?_
  refine cw_iushr (pc := 17) C dJ6_bitCount_0f7a4_17 (z := ((x - (((x.toUInt32 >>> ((nI 1).toUInt32 &&& Int32.toUInt32 31)).toInt32) &&& 1431655765)).toUInt32 >>> ((nI 2).toUInt32 &&& Int32.toUInt32 31)).toInt32) rfl ?_
  refine cw_ldcw (pc := 18) C dJ6_bitCount_0f7a4_18 (v := 858993459) (List.mem_of_getElem? (i := 2) rfl) ?_
  refine cw_iand (pc := 21) C dJ6_bitCount_0f7a4_21 (z := (((x - (((x.toUInt32 >>> ((nI 1).toUInt32 &&& Int32.toUInt32 31)).toInt32) &&& 1431655765)).toUInt32 >>> ((nI 2).toUInt32 &&& Int32.toUInt32 31)).toInt32) &&& 858993459) rfl ?_
  refine cw_iadd (pc := 22) C dJ6_bitCount_0f7a4_22 (z := ((x - (((x.toUInt32 >>> ((nI 1).toUInt32 &&& Int32.toUInt32 31)).toInt32) &&& 1431655765)) &&& 858993459) + ((((x - (((x.toUInt32 >>> ((nI 1).toUInt32 &&& Int32.toUInt32 31)).toInt32) &&& 1431655765)).toUInt32 >>> ((nI 2).toUInt32 &&& Int32.toUInt32 31)).toInt32) &&& 858993459)) rfl ?_
  refine cw_istore_n (pc := 23) C dJ6_bitCount_0f7a4_23 rfl (by decide) (lv' := [(0, .int (((x - (((x.toUInt32 >>> ((nI 1).toUInt32 &&& Int32.toUInt32 31)).toInt32) &&& 1431655765)) &&& 858993459) + ((((x - (((x.toUInt32 >>> ((nI 1).toUInt32 &&& Int32.toUInt32 31)).toInt32) &&& 1431655765)).toUInt32 >>> ((nI 2).toUInt32 &&& Int32.toUInt32 31)).toInt32) &&& 858993459)))]) rfl ?_
  refine cw_iload_n (pc := 24) C dJ6_bitCount_0f7a4_24 rfl 0 rfl ?_
  refine cw_iload_n (pc := 25) C dJ6_bitCount_0f7a4_25 rfl 0 rfl ?_
  refine cw_iconst (pc := 26) C dJ6_bitCount_0f7a4_26 (nI 4) (by decide) ?_
  refine cw_iushr (pc := 27) C dJ6_bitCount_0f7a4_27 (z := ((((x - (((x.toUInt32 >>> ((nI 1).toUInt32 &&& Int32.toUInt32 31)).toInt32) &&& 1431655765)) &&& 858993459) + ((((x - (((x.toUInt32 >>> ((nI 1).toUInt32 &&& Int32.toUInt32 31)).toInt32) &&& 1431655765)).toUInt32 >>> ((nI 2).toUInt32 &&& Int32.toUInt32 31)).toInt32) &&& 858993459)).toUInt32 >>> ((nI 4).toUInt32 &&& Int32.toUInt32 31)).toInt32) rfl ?_
  refine cw_iadd (pc := 28) C dJ6_bitCount_0f7a4_28 (z := (((x - (((x.toUInt32 >>> ((nI 1).toUInt32 &&& Int32.toUInt32 31)).toInt32) &&& 1431655765)) &&& 858993459) + ((((x - (((x.toUInt32 >>> ((nI 1).toUInt32 &&& Int32.toUInt32 31)).toInt32) &&& 1431655765)).toUInt32 >>> ((nI 2).toUInt32 &&& Int32.toUInt32 31)).toInt32) &&& 858993459)) + (((((x - (((x.toUInt32 >>> ((nI 1).toUInt32 &&& Int32.toUInt32 31)).toInt32) &&& 1431655765)) &&& 858993459) + ((((x - (((x.toUInt32 >>> ((nI 1).toUInt32 &&& Int32.toUInt32 31)).toInt32) &&& 1431655765)).toUInt32 >>> ((nI 2).toUInt32 &&& Int32.toUInt32 31)).toInt32) &&& 858993459)).toUInt32 >>> ((nI 4).toUInt32 &&& Int32.toUInt32 31)).toInt32)) rfl ?_
  refine cw_ldcw (pc := 29) C dJ6_bitCount_0f7a4_29 (v := 252645135) (List.mem_of_getElem? (i := 3) rfl) ?_
  refine cw_iand (pc := 32) C dJ6_bitCount_0f7a4_32 (z := ((((x - (((x.toUInt32 >>> ((nI 1).toUInt32 &&& Int32.toUInt32 31)).toInt32) &&& 1431655765)) &&& 858993459) + ((((x - (((x.toUInt32 >>> ((nI 1).toUInt32 &&& Int32.toUInt32 31)).toInt32) &&& 1431655765)).toUInt32 >>> ((nI 2).toUInt32 &&& Int32.toUInt32 31)).toInt32) &&& 858993459)) + (((((x - (((x.toUInt32 >>> ((nI 1).toUInt32 &&& Int32.toUInt32 31)).toInt32) &&& 1431655765)) &&& 858993459) + ((((x - (((x.toUInt32 >>> ((nI 1).toUInt32 &&& Int32.toUInt32 31)).toInt32) &&& 1431655765)).toUInt32 >>> ((nI 2).toUInt32 &&& Int32.toUInt32 31)).toInt32) &&& 858993459)).toUInt32 >>> ((nI 4).toUInt32 &&& Int32.toUInt32 31)).toInt32)) &&& 252645135) rfl ?_
  refine cw_istore_n (pc := 33) C dJ6_bitCount_0f7a4_33 rfl (by decide) (lv' := [(0, .int (((((x - (((x.toUInt32 >>> ((nI 1).toUInt32 &&& Int32.toUInt32 31)).toInt32) &&& 1431655765)) &&& 858993459) + ((((x - (((x.toUInt32 >>> ((nI 1).toUInt32 &&& Int32.toUInt32 31)).toInt32) &&& 1431655765)).toUInt32 >>> ((nI 2).toUInt32 &&& Int32.toUInt32 31)).toInt32) &&& 858993459)) + (((((x - (((x.toUInt32 >>> ((nI 1).toUInt32 &&& Int32.toUInt32 31)).toInt32) &&& 1431655765)) &&& 858993459) + ((((x - (((x.toUInt32 >>> ((nI 1).toUInt32 &&& Int32.toUInt32 31)).toInt32) &&& 1431655765)).toUInt32 >>> ((nI 2).toUInt32 &&& Int32.toUInt32 31)).toInt32) &&& 858993459)).toUInt32 >>> ((nI 4).toUInt32 &&& Int32.toUInt32 31)).toInt32)) &&& 252645135))]) rfl ?_
  refine cw_iload_n (pc := 34) C dJ6_bitCount_0f7a4_34 rfl 0 rfl ?_
  refine cw_iload_n (pc := 35) C dJ6_bitCount_0f7a4_35 rfl 0 rfl ?_
  refine cw_bipush (pc := 36) C dJ6_bitCount_0f7a4_36 (nI 8) (by decide) ?_
  refine cw_iushr (pc := 38) C dJ6_bitCount_0f7a4_38 (z := ((((((x - (((x.toUInt32 >>> ((nI 1).toUInt32 &&& Int32.toUInt32 31)).toInt32) &&& 1431655765)) &&& 858993459) + ((((x - (((x.toUInt32 >>> ((nI 1).toUInt32 &&& Int32.toUInt32 31)).toInt32) &&& 1431655765)).toUInt32 >>> ((nI 2).toUInt32 &&& Int32.toUInt32 31)).toInt32) &&& 858993459)) + (((((x - (((x.toUInt32 >>> ((nI 1).toUInt32 &&& Int32.toUInt32 31)).toInt32) &&& 1431655765)) &&& 858993459) + ((((x - (((x.toUInt32 >>> ((nI 1).toUInt32 &&& Int32.toUInt32 31)).toInt32) &&& 1431655765)).toUInt32 >>> ((nI 2).toUInt32 &&& Int32.toUInt32 31)).toInt32) &&& 858993459)).toUInt32 >>> ((nI 4).toUInt32 &&& Int32.toUInt32 31)).toInt32)) &&& 252645135).toUInt32 >>> ((nI 8).toUInt32 &&& Int32.toUInt32 31)).toInt32) rfl ?_
  refine cw_iadd (pc := 39) C dJ6_bitCount_0f7a4_39 (z := (((((x - (((x.toUInt32 >>> ((nI 1).toUInt32 &&& Int32.toUInt32 31)).toInt32) &&& 1431655765)) &&& 858993459) + ((((x - (((x.toUInt32 >>> ((nI 1).toUInt32 &&& Int32.toUInt32 31)).toInt32) &&& 1431655765)).toUInt32 >>> ((nI 2).toUInt32 &&& Int32.toUInt32 31)).toInt32) &&& 858993459)) + (((((x - (((x.toUInt32 >>> ((nI 1).toUInt32 &&& Int32.toUInt32 31)).toInt32) &&& 1431655765)) &&& 858993459) + ((((x - (((x.toUInt32 >>> ((nI 1).toUInt32 &&& Int32.toUInt32 31)).toInt32) &&& 1431655765)).toUInt32 >>> ((nI 2).toUInt32 &&& Int32.toUInt32 31)).toInt32) &&& 858993459)).toUInt32 >>> ((nI 4).toUInt32 &&& Int32.toUInt32 31)).toInt32)) &&& 252645135) + (((((((x - (((x.toUInt32 >>> ((nI 1).toUInt32 &&& Int32.toUInt32 31)).toInt32) &&& 1431655765)) &&& 858993459) + ((((x - (((x.toUInt32 >>> ((nI 1).toUInt32 &&& Int32.toUInt32 31)).toInt32) &&& 1431655765)).toUInt32 >>> ((nI 2).toUInt32 &&& Int32.toUInt32 31)).toInt32) &&& 858993459)) + (((((x - (((x.toUInt32 >>> ((nI 1).toUInt32 &&& Int32.toUInt32 31)).toInt32) &&& 1431655765)) &&& 858993459) + ((((x - (((x.toUInt32 >>> ((nI 1).toUInt32 &&& Int32.toUInt32 31)).toInt32) &&& 1431655765)).toUInt32 >>> ((nI 2).toUInt32 &&& Int32.toUInt32 31)).toInt32) &&& 858993459)).toUInt32 >>> ((nI 4).toUInt32 &&& Int32.toUInt32 31)).toInt32)) &&& 252645135).toUInt32 >>> ((nI 8).toUInt32 &&& Int32.toUInt32 31)).toInt32)) rfl ?_
  refine cw_istore_n (pc := 40) C dJ6_bitCount_0f7a4_40 rfl (by decide) (lv' := [(0, .int ((((((x - (((x.toUInt32 >>> ((nI 1).toUInt32 &&& Int32.toUInt32 31)).toInt32) &&& 1431655765)) &&& 858993459) + ((((x - (((x.toUInt32 >>> ((nI 1).toUInt32 &&& Int32.toUInt32 31)).toInt32) &&& 1431655765)).toUInt32 >>> ((nI 2).toUInt32 &&& Int32.toUInt32 31)).toInt32) &&& 858993459)) + (((((x - (((x.toUInt32 >>> ((nI 1).toUInt32 &&& Int32.toUInt32 31)).toInt32) &&& 1431655765)) &&& 858993459) + ((((x - (((x.toUInt32 >>> ((nI 1).toUInt32 &&& Int32.toUInt32 31)).toInt32) &&& 1431655765)).toUInt32 >>> ((nI 2).toUInt32 &&& Int32.toUInt32 31)).toInt32) &&& 858993459)).toUInt32 >>> ((nI 4).toUInt32 &&& Int32.toUInt32 31)).toInt32)) &&& 252645135) + (((((((x - (((x.toUInt32 >>> ((nI 1).toUInt32 &&& Int32.toUInt32 31)).toInt32) &&& 1431655765)) &&& 858993459) + ((((x - (((x.toUInt32 >>> ((nI 1).toUInt32 &&& Int32.toUInt32 31)).toInt32) &&& 1431655765)).toUInt32 >>> ((nI 2).toUInt32 &&& Int32.toUInt32 31)).toInt32) &&& 858993459)) + (((((x - (((x.toUInt32 >>> ((nI 1).toUInt32 &&& Int32.toUInt32 31)).toInt32) &&& 1431655765)) &&& 858993459) + ((((x - (((x.toUInt32 >>> ((nI 1).toUInt32 &&& Int32.toUInt32 31)).toInt32) &&& 1431655765)).toUInt32 >>> ((nI 2).toUInt32 &&& Int32.toUInt32 31)).toInt32) &&& 858993459)).toUInt32 >>> ((nI 4).toUInt32 &&& Int32.toUInt32 31)).toInt32)) &&& 252645135).toUInt32 >>> ((nI 8).toUInt32 &&& Int32.toUInt32 31)).toInt32)))]) rfl ?_
  refine cw_iload_n (pc := 41) C dJ6_bitCount_0f7a4_41 rfl 0 rfl ?_
  refine cw_iload_n (pc := 42) C dJ6_bitCount_0f7a4_42 rfl 0 rfl ?_
  refine cw_bipush (pc := 43) C dJ6_bitCount_0f7a4_43 (nI 16) (by decide) ?_
  refine cw_iushr (pc := 45) C dJ6_bitCount_0f7a4_45 (z := (((((((x - (((x.toUInt32 >>> ((nI 1).toUInt32 &&& Int32.toUInt32 31)).toInt32) &&& 1431655765)) &&& 858993459) + ((((x - (((x.toUInt32 >>> ((nI 1).toUInt32 &&& Int32.toUInt32 31)).toInt32) &&& 1431655765)).toUInt32 >>> ((nI 2).toUInt32 &&& Int32.toUInt32 31)).toInt32) &&& 858993459)) + (((((x - (((x.toUInt32 >>> ((nI 1).toUInt32 &&& Int32.toUInt32 31)).toInt32) &&& 1431655765)) &&& 858993459) + ((((x - (((x.toUInt32 >>> ((nI 1).toUInt32 &&& Int32.toUInt32 31)).toInt32) &&& 1431655765)).toUInt32 >>> ((nI 2).toUInt32 &&& Int32.toUInt32 31)).toInt32) &&& 858993459)).toUInt32 >>> ((nI 4).toUInt32 &&& Int32.toUInt32 31)).toInt32)) &&& 252645135) + (((((((x - (((x.toUInt32 >>> ((nI 1).toUInt32 &&& Int32.toUInt32 31)).toInt32) &&& 1431655765)) &&& 858993459) + ((((x - (((x.toUInt32 >>> ((nI 1).toUInt32 &&& Int32.toUInt32 31)).toInt32) &&& 1431655765)).toUInt32 >>> ((nI 2).toUInt32 &&& Int32.toUInt32 31)).toInt32) &&& 858993459)) + (((((x - (((x.toUInt32 >>> ((nI 1).toUInt32 &&& Int32.toUInt32 31)).toInt32) &&& 1431655765)) &&& 858993459) + ((((x - (((x.toUInt32 >>> ((nI 1).toUInt32 &&& Int32.toUInt32 31)).toInt32) &&& 1431655765)).toUInt32 >>> ((nI 2).toUInt32 &&& Int32.toUInt32 31)).toInt32) &&& 858993459)).toUInt32 >>> ((nI 4).toUInt32 &&& Int32.toUInt32 31)).toInt32)) &&& 252645135).toUInt32 >>> ((nI 8).toUInt32 &&& Int32.toUInt32 31)).toInt32)).toUInt32 >>> ((nI 16).toUInt32 &&& Int32.toUInt32 31)).toInt32) rfl ?_
  refine cw_iadd (pc := 46) C dJ6_bitCount_0f7a4_46 (z := ((((((x - (((x.toUInt32 >>> ((nI 1).toUInt32 &&& Int32.toUInt32 31)).toInt32) &&& 1431655765)) &&& 858993459) + ((((x - (((x.toUInt32 >>> ((nI 1).toUInt32 &&& Int32.toUInt32 31)).toInt32) &&& 1431655765)).toUInt32 >>> ((nI 2).toUInt32 &&& Int32.toUInt32 31)).toInt32) &&& 858993459)) + (((((x - (((x.toUInt32 >>> ((nI 1).toUInt32 &&& Int32.toUInt32 31)).toInt32) &&& 1431655765)) &&& 858993459) + ((((x - (((x.toUInt32 >>> ((nI 1).toUInt32 &&& Int32.toUInt32 31)).toInt32) &&& 1431655765)).toUInt32 >>> ((nI 2).toUInt32 &&& Int32.toUInt32 31)).toInt32) &&& 858993459)).toUInt32 >>> ((nI 4).toUInt32 &&& Int32.toUInt32 31)).toInt32)) &&& 252645135) + (((((((x - (((x.toUInt32 >>> ((nI 1).toUInt32 &&& Int32.toUInt32 31)).toInt32) &&& 1431655765)) &&& 858993459) + ((((x - (((x.toUInt32 >>> ((nI 1).toUInt32 &&& Int32.toUInt32 31)).toInt32) &&& 1431655765)).toUInt32 >>> ((nI 2).toUInt32 &&& Int32.toUInt32 31)).toInt32) &&& 858993459)) + (((((x - (((x.toUInt32 >>> ((nI 1).toUInt32 &&& Int32.toUInt32 31)).toInt32) &&& 1431655765)) &&& 858993459) + ((((x - (((x.toUInt32 >>> ((nI 1).toUInt32 &&& Int32.toUInt32 31)).toInt32) &&& 1431655765)).toUInt32 >>> ((nI 2).toUInt32 &&& Int32.toUInt32 31)).toInt32) &&& 858993459)).toUInt32 >>> ((nI 4).toUInt32 &&& Int32.toUInt32 31)).toInt32)) &&& 252645135).toUInt32 >>> ((nI 8).toUInt32 &&& Int32.toUInt32 31)).toInt32)) + ((((((((x - (((x.toUInt32 >>> ((nI 1).toUInt32 &&& Int32.toUInt32 31)).toInt32) &&& 1431655765)) &&& 858993459) + ((((x - (((x.toUInt32 >>> ((nI 1).toUInt32 &&& Int32.toUInt32 31)).toInt32) &&& 1431655765)).toUInt32 >>> ((nI 2).toUInt32 &&& Int32.toUInt32 31)).toInt32) &&& 858993459)) + (((((x - (((x.toUInt32 >>> ((nI 1).toUInt32 &&& Int32.toUInt32 31)).toInt32) &&& 1431655765)) &&& 858993459) + ((((x - (((x.toUInt32 >>> ((nI 1).toUInt32 &&& Int32.toUInt32 31)).toInt32) &&& 1431655765)).toUInt32 >>> ((nI 2).toUInt32 &&& Int32.toUInt32 31)).toInt32) &&& 858993459)).toUInt32 >>> ((nI 4).toUInt32 &&& Int32.toUInt32 31)).toInt32)) &&& 252645135) + (((((((x - (((x.toUInt32 >>> ((nI 1).toUInt32 &&& Int32.toUInt32 31)).toInt32) &&& 1431655765)) &&& 858993459) + ((((x - (((x.toUInt32 >>> ((nI 1).toUInt32 &&& Int32.toUInt32 31)).toInt32) &&& 1431655765)).toUInt32 >>> ((nI 2).toUInt32 &&& Int32.toUInt32 31)).toInt32) &&& 858993459)) + (((((x - (((x.toUInt32 >>> ((nI 1).toUInt32 &&& Int32.toUInt32 31)).toInt32) &&& 1431655765)) &&& 858993459) + ((((x - (((x.toUInt32 >>> ((nI 1).toUInt32 &&& Int32.toUInt32 31)).toInt32) &&& 1431655765)).toUInt32 >>> ((nI 2).toUInt32 &&& Int32.toUInt32 31)).toInt32) &&& 858993459)).toUInt32 >>> ((nI 4).toUInt32 &&& Int32.toUInt32 31)).toInt32)) &&& 252645135).toUInt32 >>> ((nI 8).toUInt32 &&& Int32.toUInt32 31)).toInt32)).toUInt32 >>> ((nI 16).toUInt32 &&& Int32.toUInt32 31)).toInt32)) rfl ?_
  refine cw_istore_n (pc := 47) C dJ6_bitCount_0f7a4_47 rfl (by decide) (lv' := [(0, .int (((((((x - (((x.toUInt32 >>> ((nI 1).toUInt32 &&& Int32.toUInt32 31)).toInt32) &&& 1431655765)) &&& 858993459) + ((((x - (((x.toUInt32 >>> ((nI 1).toUInt32 &&& Int32.toUInt32 31)).toInt32) &&& 1431655765)).toUInt32 >>> ((nI 2).toUInt32 &&& Int32.toUInt32 31)).toInt32) &&& 858993459)) + (((((x - (((x.toUInt32 >>> ((nI 1).toUInt32 &&& Int32.toUInt32 31)).toInt32) &&& 1431655765)) &&& 858993459) + ((((x - (((x.toUInt32 >>> ((nI 1).toUInt32 &&& Int32.toUInt32 31)).toInt32) &&& 1431655765)).toUInt32 >>> ((nI 2).toUInt32 &&& Int32.toUInt32 31)).toInt32) &&& 858993459)).toUInt32 >>> ((nI 4).toUInt32 &&& Int32.toUInt32 31)).toInt32)) &&& 252645135) + (((((((x - (((x.toUInt32 >>> ((nI 1).toUInt32 &&& Int32.toUInt32 31)).toInt32) &&& 1431655765)) &&& 858993459) + ((((x - (((x.toUInt32 >>> ((nI 1).toUInt32 &&& Int32.toUInt32 31)).toInt32) &&& 1431655765)).toUInt32 >>> ((nI 2).toUInt32 &&& Int32.toUInt32 31)).toInt32) &&& 858993459)) + (((((x - (((x.toUInt32 >>> ((nI 1).toUInt32 &&& Int32.toUInt32 31)).toInt32) &&& 1431655765)) &&& 858993459) + ((((x - (((x.toUInt32 >>> ((nI 1).toUInt32 &&& Int32.toUInt32 31)).toInt32) &&& 1431655765)).toUInt32 >>> ((nI 2).toUInt32 &&& Int32.toUInt32 31)).toInt32) &&& 858993459)).toUInt32 >>> ((nI 4).toUInt32 &&& Int32.toUInt32 31)).toInt32)) &&& 252645135).toUInt32 >>> ((nI 8).toUInt32 &&& Int32.toUInt32 31)).toInt32)) + ((((((((x - (((x.toUInt32 >>> ((nI 1).toUInt32 &&& Int32.toUInt32 31)).toInt32) &&& 1431655765)) &&& 858993459) + ((((x - (((x.toUInt32 >>> ((nI 1).toUInt32 &&& Int32.toUInt32 31)).toInt32) &&& 1431655765)).toUInt32 >>> ((nI 2).toUInt32 &&& Int32.toUInt32 31)).toInt32) &&& 858993459)) + (((((x - (((x.toUInt32 >>> ((nI 1).toUInt32 &&& Int32.toUInt32 31)).toInt32) &&& 1431655765)) &&& 858993459) + ((((x - (((x.toUInt32 >>> ((nI 1).toUInt32 &&& Int32.toUInt32 31)).toInt32) &&& 1431655765)).toUInt32 >>> ((nI 2).toUInt32 &&& Int32.toUInt32 31)).toInt32) &&& 858993459)).toUInt32 >>> ((nI 4).toUInt32 &&& Int32.toUInt32 31)).toInt32)) &&& 252645135) + (((((((x - (((x.toUInt32 >>> ((nI 1).toUInt32 &&& Int32.toUInt32 31)).toInt32) &&& 1431655765)) &&& 858993459) + ((((x - (((x.toUInt32 >>> ((nI 1).toUInt32 &&& Int32.toUInt32 31)).toInt32) &&& 1431655765)).toUInt32 >>> ((nI 2).toUInt32 &&& Int32.toUInt32 31)).toInt32) &&& 858993459)) + (((((x - (((x.toUInt32 >>> ((nI 1).toUInt32 &&& Int32.toUInt32 31)).toInt32) &&& 1431655765)) &&& 858993459) + ((((x - (((x.toUInt32 >>> ((nI 1).toUInt32 &&& Int32.toUInt32 31)).toInt32) &&& 1431655765)).toUInt32 >>> ((nI 2).toUInt32 &&& Int32.toUInt32 31)).toInt32) &&& 858993459)).toUInt32 >>> ((nI 4).toUInt32 &&& Int32.toUInt32 31)).toInt32)) &&& 252645135).toUInt32 >>> ((nI 8).toUInt32 &&& Int32.toUInt32 31)).toInt32)).toUInt32 >>> ((nI 16).toUInt32 &&& Int32.toUInt32 31)).toInt32)))]) rfl ?_
  refine cw_iload_n (pc := 48) C dJ6_bitCount_0f7a4_48 rfl 0 rfl ?_
  refine cw_bipush (pc := 49) C dJ6_bitCount_0f7a4_49 (nI 63) (by decide) ?_
  refine cw_iand (pc := 51) C dJ6_bitCount_0f7a4_51 (z := (((((((x - (((x.toUInt32 >>> ((nI 1).toUInt32 &&& Int32.toUInt32 31)).toInt32) &&& 1431655765)) &&& 858993459) + ((((x - (((x.toUInt32 >>> ((nI 1).toUInt32 &&& Int32.toUInt32 31)).toInt32) &&& 1431655765)).toUInt32 >>> ((nI 2).toUInt32 &&& Int32.toUInt32 31)).toInt32) &&& 858993459)) + (((((x - (((x.toUInt32 >>> ((nI 1).toUInt32 &&& Int32.toUInt32 31)).toInt32) &&& 1431655765)) &&& 858993459) + ((((x - (((x.toUInt32 >>> ((nI 1).toUInt32 &&& Int32.toUInt32 31)).toInt32) &&& 1431655765)).toUInt32 >>> ((nI 2).toUInt32 &&& Int32.toUInt32 31)).toInt32) &&& 858993459)).toUInt32 >>> ((nI 4).toUInt32 &&& Int32.toUInt32 31)).toInt32)) &&& 252645135) + (((((((x - (((x.toUInt32 >>> ((nI 1).toUInt32 &&& Int32.toUInt32 31)).toInt32) &&& 1431655765)) &&& 858993459) + ((((x - (((x.toUInt32 >>> ((nI 1).toUInt32 &&& Int32.toUInt32 31)).toInt32) &&& 1431655765)).toUInt32 >>> ((nI 2).toUInt32 &&& Int32.toUInt32 31)).toInt32) &&& 858993459)) + (((((x - (((x.toUInt32 >>> ((nI 1).toUInt32 &&& Int32.toUInt32 31)).toInt32) &&& 1431655765)) &&& 858993459) + ((((x - (((x.toUInt32 >>> ((nI 1).toUInt32 &&& Int32.toUInt32 31)).toInt32) &&& 1431655765)).toUInt32 >>> ((nI 2).toUInt32 &&& Int32.toUInt32 31)).toInt32) &&& 858993459)).toUInt32 >>> ((nI 4).toUInt32 &&& Int32.toUInt32 31)).toInt32)) &&& 252645135).toUInt32 >>> ((nI 8).toUInt32 &&& Int32.toUInt32 31)).toInt32)) + ((((((((x - (((x.toUInt32 >>> ((nI 1).toUInt32 &&& Int32.toUInt32 31)).toInt32) &&& 1431655765)) &&& 858993459) + ((((x - (((x.toUInt32 >>> ((nI 1).toUInt32 &&& Int32.toUInt32 31)).toInt32) &&& 1431655765)).toUInt32 >>> ((nI 2).toUInt32 &&& Int32.toUInt32 31)).toInt32) &&& 858993459)) + (((((x - (((x.toUInt32 >>> ((nI 1).toUInt32 &&& Int32.toUInt32 31)).toInt32) &&& 1431655765)) &&& 858993459) + ((((x - (((x.toUInt32 >>> ((nI 1).toUInt32 &&& Int32.toUInt32 31)).toInt32) &&& 1431655765)).toUInt32 >>> ((nI 2).toUInt32 &&& Int32.toUInt32 31)).toInt32) &&& 858993459)).toUInt32 >>> ((nI 4).toUInt32 &&& Int32.toUInt32 31)).toInt32)) &&& 252645135) + (((((((x - (((x.toUInt32 >>> ((nI 1).toUInt32 &&& Int32.toUInt32 31)).toInt32) &&& 1431655765)) &&& 858993459) + ((((x - (((x.toUInt32 >>> ((nI 1).toUInt32 &&& Int32.toUInt32 31)).toInt32) &&& 1431655765)).toUInt32 >>> ((nI 2).toUInt32 &&& Int32.toUInt32 31)).toInt32) &&& 858993459)) + (((((x - (((x.toUInt32 >>> ((nI 1).toUInt32 &&& Int32.toUInt32 31)).toInt32) &&& 1431655765)) &&& 858993459) + ((((x - (((x.toUInt32 >>> ((nI 1).toUInt32 &&& Int32.toUInt32 31)).toInt32) &&& 1431655765)).toUInt32 >>> ((nI 2).toUInt32 &&& Int32.toUInt32 31)).toInt32) &&& 858993459)).toUInt32 >>> ((nI 4).toUInt32 &&& Int32.toUInt32 31)).toInt32)) &&& 252645135).toUInt32 >>> ((nI 8).toUInt32 &&& Int32.toUInt32 31)).toInt32)).toUInt32 >>> ((nI 16).toUInt32 &&& Int32.toUInt32 31)).toInt32)) &&& (nI 63)) rfl ?_
  refine hret ((((((((x - (((x.toUInt32 >>> ((nI 1).toUInt32 &&& Int32.toUInt32 31)).toInt32) &&& 1431655765)) &&& 858993459) + ((((x - (((x.toUInt32 >>> ((nI 1).toUInt32 &&& Int32.toUInt32 31)).toInt32) &&& 1431655765)).toUInt32 >>> ((nI 2).toUInt32 &&& Int32.toUInt32 31)).toInt32) &&& 858993459)) + (((((x - (((x.toUInt32 >>> ((nI 1).toUInt32 &&& Int32.toUInt32 31)).toInt32) &&& 1431655765)) &&& 858993459) + ((((x - (((x.toUInt32 >>> ((nI 1).toUInt32 &&& Int32.toUInt32 31)).toInt32) &&& 1431655765)).toUInt32 >>> ((nI 2).toUInt32 &&& Int32.toUInt32 31)).toInt32) &&& 858993459)).toUInt32 >>> ((nI 4).toUInt32 &&& Int32.toUInt32 31)).toInt32)) &&& 252645135) + (((((((x - (((x.toUInt32 >>> ((nI 1).toUInt32 &&& Int32.toUInt32 31)).toInt32) &&& 1431655765)) &&& 858993459) + ((((x - (((x.toUInt32 >>> ((nI 1).toUInt32 &&& Int32.toUInt32 31)).toInt32) &&& 1431655765)).toUInt32 >>> ((nI 2).toUInt32 &&& Int32.toUInt32 31)).toInt32) &&& 858993459)) + (((((x - (((x.toUInt32 >>> ((nI 1).toUInt32 &&& Int32.toUInt32 31)).toInt32) &&& 1431655765)) &&& 858993459) + ((((x - (((x.toUInt32 >>> ((nI 1).toUInt32 &&& Int32.toUInt32 31)).toInt32) &&& 1431655765)).toUInt32 >>> ((nI 2).toUInt32 &&& Int32.toUInt32 31)).toInt32) &&& 858993459)).toUInt32 >>> ((nI 4).toUInt32 &&& Int32.toUInt32 31)).toInt32)) &&& 252645135).toUInt32 >>> ((nI 8).toUInt32 &&& Int32.toUInt32 31)).toInt32)) + ((((((((x - (((x.toUInt32 >>> ((nI 1).toUInt32 &&& Int32.toUInt32 31)).toInt32) &&& 1431655765)) &&& 858993459) + ((((x - (((x.toUInt32 >>> ((nI 1).toUInt32 &&& Int32.toUInt32 31)).toInt32) &&& 1431655765)).toUInt32 >>> ((nI 2).toUInt32 &&& Int32.toUInt32 31)).toInt32) &&& 858993459)) + (((((x - (((x.toUInt32 >>> ((nI 1).toUInt32 &&& Int32.toUInt32 31)).toInt32) &&& 1431655765)) &&& 858993459) + ((((x - (((x.toUInt32 >>> ((nI 1).toUInt32 &&& Int32.toUInt32 31)).toInt32) &&& 1431655765)).toUInt32 >>> ((nI 2).toUInt32 &&& Int32.toUInt32 31)).toInt32) &&& 858993459)).toUInt32 >>> ((nI 4).toUInt32 &&& Int32.toUInt32 31)).toInt32)) &&& 252645135) + (((((((x - (((x.toUInt32 >>> ((nI 1).toUInt32 &&& Int32.toUInt32 31)).toInt32) &&& 1431655765)) &&& 858993459) + ((((x - (((x.toUInt32 >>> ((nI 1).toUInt32 &&& Int32.toUInt32 31)).toInt32) &&& 1431655765)).toUInt32 >>> ((nI 2).toUInt32 &&& Int32.toUInt32 31)).toInt32) &&& 858993459)) + (((((x - (((x.toUInt32 >>> ((nI 1).toUInt32 &&& Int32.toUInt32 31)).toInt32) &&& 1431655765)) &&& 858993459) + ((((x - (((x.toUInt32 >>> ((nI 1).toUInt32 &&& Int32.toUInt32 31)).toInt32) &&& 1431655765)).toUInt32 >>> ((nI 2).toUInt32 &&& Int32.toUInt32 31)).toInt32) &&& 858993459)).toUInt32 >>> ((nI 4).toUInt32 &&& Int32.toUInt32 31)).toInt32)) &&& 252645135).toUInt32 >>> ((nI 8).toUInt32 &&& Int32.toUInt32 31)).toInt32)).toUInt32 >>> ((nI 16).toUInt32 &&& Int32.toUInt32 31)).toInt32)) &&& (nI 63)) σ _ _ dJ6_bitCount_0f7a4_52 ?_
  clear hret
  exact ⟨rfl, rfl⟩
set_option maxHeartbeats 4000000 in
set_option maxRecDepth 100000 in
theorem c_J6_ntz0 (l : Launch) (D : va_G) (Z : CZ) (A : Nat → Nat) (σ : St)    : CTi l yJ6_numberOfTrailingZeros_0f7a4 wsJ6_numberOfTrailingZeros_0f7a4 0 0 D Z (wC Z A) σ [.int (nI 1)] (fun r σ' => r = nI 0 ∧ σ' = σ) := by
  refine CTi.mk (cc := cJ6_numberOfTrailingZeros_0f7a4) (nL := 2) (own := RJ6) rfl (by decide) rfl (Nat.le_of_ble_eq_true rfl) ?_
  intro p0 e0 s0 m0 g0 b0 t0 c0 A0 Q C hret
  refine cw_lv (lv' := [(0, .int (nI 1))]) [0] rfl ?_
  refine cw_iload_n (pc := 0) C dJ6_numberOfTrailingZeros_0f7a4_0 rfl 0 rfl ?_
  refine cw_iconst (pc := 1) C dJ6_numberOfTrailingZeros_0f7a4_1 (-1) (by decide) ?_
  refine cw_ixor (pc := 2) C dJ6_numberOfTrailingZeros_0f7a4_2 (z := (-2)) (by decide) ?_
  refine cw_iload_n (pc := 3) C dJ6_numberOfTrailingZeros_0f7a4_3 rfl 0 rfl ?_
  refine cw_iconst (pc := 4) C dJ6_numberOfTrailingZeros_0f7a4_4 (nI 1) (by decide) ?_
  refine cw_isub (pc := 5) C dJ6_numberOfTrailingZeros_0f7a4_5 (z := nI 0) (by decide) ?_
  refine cw_iand (pc := 6) C dJ6_numberOfTrailingZeros_0f7a4_6 (z := nI 0) (by decide) ?_
  refine cw_istore_n (pc := 7) C dJ6_numberOfTrailingZeros_0f7a4_7 rfl (by decide) (lv' := [(0, .int (nI 0))]) rfl ?_
  refine cw_iload_n (pc := 8) C dJ6_numberOfTrailingZeros_0f7a4_8 rfl 0 rfl ?_
  refine cw_if_gt (pc := 9) (tgt := 17) C dJ6_numberOfTrailingZeros_0f7a4_9 (by decide) (fun h => False.elim (by revert h; decide)) (fun _ => ?_)
  refine cw_iload_n (pc := 12) C dJ6_numberOfTrailingZeros_0f7a4_12 rfl 0 rfl ?_
  refine cw_bipush (pc := 13) C dJ6_numberOfTrailingZeros_0f7a4_13 (nI 32) (by decide) ?_
  refine cw_iand (pc := 15) C dJ6_numberOfTrailingZeros_0f7a4_15 (z := nI 0) (by decide) ?_
  refine hret (nI 0) σ _ _ dJ6_numberOfTrailingZeros_0f7a4_16 ?_
  clear hret
  exact ⟨rfl, rfl⟩
set_option maxHeartbeats 4000000 in
set_option maxRecDepth 100000 in
theorem c_J6_ntz1 (l : Launch) (D : va_G) (Z : CZ) (A : Nat → Nat) (σ : St)    : CTi l yJ6_numberOfTrailingZeros_0f7a4 wsJ6_numberOfTrailingZeros_0f7a4 0 0 D Z (wC Z A) σ [.int (nI 2)] (fun r σ' => r = nI 1 ∧ σ' = σ) := by
  refine CTi.mk (cc := cJ6_numberOfTrailingZeros_0f7a4) (nL := 2) (own := RJ6) rfl (by decide) rfl (Nat.le_of_ble_eq_true rfl) ?_
  intro p0 e0 s0 m0 g0 b0 t0 c0 A0 Q C hret
  refine cw_lv (lv' := [(0, .int (nI 2))]) [0] rfl ?_
  refine cw_iload_n (pc := 0) C dJ6_numberOfTrailingZeros_0f7a4_0 rfl 0 rfl ?_
  refine cw_iconst (pc := 1) C dJ6_numberOfTrailingZeros_0f7a4_1 (-1) (by decide) ?_
  refine cw_ixor (pc := 2) C dJ6_numberOfTrailingZeros_0f7a4_2 (z := (-3)) (by decide) ?_
  refine cw_iload_n (pc := 3) C dJ6_numberOfTrailingZeros_0f7a4_3 rfl 0 rfl ?_
  refine cw_iconst (pc := 4) C dJ6_numberOfTrailingZeros_0f7a4_4 (nI 1) (by decide) ?_
  refine cw_isub (pc := 5) C dJ6_numberOfTrailingZeros_0f7a4_5 (z := nI 1) (by decide) ?_
  refine cw_iand (pc := 6) C dJ6_numberOfTrailingZeros_0f7a4_6 (z := nI 1) (by decide) ?_
  refine cw_istore_n (pc := 7) C dJ6_numberOfTrailingZeros_0f7a4_7 rfl (by decide) (lv' := [(0, .int (nI 1))]) rfl ?_
  refine cw_iload_n (pc := 8) C dJ6_numberOfTrailingZeros_0f7a4_8 rfl 0 rfl ?_
  refine cw_if_gt (pc := 9) (tgt := 17) C dJ6_numberOfTrailingZeros_0f7a4_9 (by decide) (fun _ => ?_) (fun h => False.elim (by revert h; decide))
  refine cw_iconst (pc := 17) C dJ6_numberOfTrailingZeros_0f7a4_17 (nI 1) (by decide) ?_
  refine cw_istore_n (pc := 18) C dJ6_numberOfTrailingZeros_0f7a4_18 rfl (by decide) (lv' := [(1, .int (nI 1)), (0, .int (nI 1))]) rfl ?_
  refine cw_iload_n (pc := 19) C dJ6_numberOfTrailingZeros_0f7a4_19 rfl 1 rfl ?_
  refine cw_ldcw (pc := 20) C dJ6_numberOfTrailingZeros_0f7a4_20 (v := 65536) (List.mem_of_getElem? (i := 1) rfl) ?_
  refine cw_icmp_le (pc := 23) (tgt := 34) C dJ6_numberOfTrailingZeros_0f7a4_23 (by decide) (fun _ => ?_) (fun h => False.elim (by revert h; decide))
  refine cw_iload_n (pc := 34) C dJ6_numberOfTrailingZeros_0f7a4_34 rfl 1 rfl ?_
  refine cw_sipush (pc := 35) C dJ6_numberOfTrailingZeros_0f7a4_35 (nI 256) (by decide) ?_
  refine cw_icmp_le (pc := 38) (tgt := 49) C dJ6_numberOfTrailingZeros_0f7a4_38 (by decide) (fun _ => ?_) (fun h => False.elim (by revert h; decide))
  refine cw_iload_n (pc := 49) C dJ6_numberOfTrailingZeros_0f7a4_49 rfl 1 rfl ?_
  refine cw_bipush (pc := 50) C dJ6_numberOfTrailingZeros_0f7a4_50 (nI 16) (by decide) ?_
  refine cw_icmp_le (pc := 52) (tgt := 62) C dJ6_numberOfTrailingZeros_0f7a4_52 (by decide) (fun _ => ?_) (fun h => False.elim (by revert h; decide))
  refine cw_iload_n (pc := 62) C dJ6_numberOfTrailingZeros_0f7a4_62 rfl 1 rfl ?_
  refine cw_iconst (pc := 63) C dJ6_numberOfTrailingZeros_0f7a4_63 (nI 4) (by decide) ?_
  refine cw_icmp_le (pc := 64) (tgt := 74) C dJ6_numberOfTrailingZeros_0f7a4_64 (by decide) (fun _ => ?_) (fun h => False.elim (by revert h; decide))
  refine cw_iload_n (pc := 74) C dJ6_numberOfTrailingZeros_0f7a4_74 rfl 0 rfl ?_
  refine cw_iload_n (pc := 75) C dJ6_numberOfTrailingZeros_0f7a4_75 rfl 1 rfl ?_
  refine cw_iconst (pc := 76) C dJ6_numberOfTrailingZeros_0f7a4_76 (nI 1) (by decide) ?_
  refine cw_iushr (pc := 77) C dJ6_numberOfTrailingZeros_0f7a4_77 (z := nI 0) (by decide) ?_
  refine cw_iadd (pc := 78) C dJ6_numberOfTrailingZeros_0f7a4_78 (z := nI 1) (by decide) ?_
  refine hret (nI 1) σ _ _ dJ6_numberOfTrailingZeros_0f7a4_79 ?_
  clear hret
  exact ⟨rfl, rfl⟩
set_option maxHeartbeats 4000000 in
set_option maxRecDepth 100000 in
theorem c_J6_ntz2 (l : Launch) (D : va_G) (Z : CZ) (A : Nat → Nat) (σ : St)    : CTi l yJ6_numberOfTrailingZeros_0f7a4 wsJ6_numberOfTrailingZeros_0f7a4 0 0 D Z (wC Z A) σ [.int (nI 4)] (fun r σ' => r = nI 2 ∧ σ' = σ) := by
  refine CTi.mk (cc := cJ6_numberOfTrailingZeros_0f7a4) (nL := 2) (own := RJ6) rfl (by decide) rfl (Nat.le_of_ble_eq_true rfl) ?_
  intro p0 e0 s0 m0 g0 b0 t0 c0 A0 Q C hret
  refine cw_lv (lv' := [(0, .int (nI 4))]) [0] rfl ?_
  refine cw_iload_n (pc := 0) C dJ6_numberOfTrailingZeros_0f7a4_0 rfl 0 rfl ?_
  refine cw_iconst (pc := 1) C dJ6_numberOfTrailingZeros_0f7a4_1 (-1) (by decide) ?_
  refine cw_ixor (pc := 2) C dJ6_numberOfTrailingZeros_0f7a4_2 (z := (-5)) (by decide) ?_
  refine cw_iload_n (pc := 3) C dJ6_numberOfTrailingZeros_0f7a4_3 rfl 0 rfl ?_
  refine cw_iconst (pc := 4) C dJ6_numberOfTrailingZeros_0f7a4_4 (nI 1) (by decide) ?_
  refine cw_isub (pc := 5) C dJ6_numberOfTrailingZeros_0f7a4_5 (z := nI 3) (by decide) ?_
  refine cw_iand (pc := 6) C dJ6_numberOfTrailingZeros_0f7a4_6 (z := nI 3) (by decide) ?_
  refine cw_istore_n (pc := 7) C dJ6_numberOfTrailingZeros_0f7a4_7 rfl (by decide) (lv' := [(0, .int (nI 3))]) rfl ?_
  refine cw_iload_n (pc := 8) C dJ6_numberOfTrailingZeros_0f7a4_8 rfl 0 rfl ?_
  refine cw_if_gt (pc := 9) (tgt := 17) C dJ6_numberOfTrailingZeros_0f7a4_9 (by decide) (fun _ => ?_) (fun h => False.elim (by revert h; decide))
  refine cw_iconst (pc := 17) C dJ6_numberOfTrailingZeros_0f7a4_17 (nI 1) (by decide) ?_
  refine cw_istore_n (pc := 18) C dJ6_numberOfTrailingZeros_0f7a4_18 rfl (by decide) (lv' := [(1, .int (nI 1)), (0, .int (nI 3))]) rfl ?_
  refine cw_iload_n (pc := 19) C dJ6_numberOfTrailingZeros_0f7a4_19 rfl 1 rfl ?_
  refine cw_ldcw (pc := 20) C dJ6_numberOfTrailingZeros_0f7a4_20 (v := 65536) (List.mem_of_getElem? (i := 1) rfl) ?_
  refine cw_icmp_le (pc := 23) (tgt := 34) C dJ6_numberOfTrailingZeros_0f7a4_23 (by decide) (fun _ => ?_) (fun h => False.elim (by revert h; decide))
  refine cw_iload_n (pc := 34) C dJ6_numberOfTrailingZeros_0f7a4_34 rfl 1 rfl ?_
  refine cw_sipush (pc := 35) C dJ6_numberOfTrailingZeros_0f7a4_35 (nI 256) (by decide) ?_
  refine cw_icmp_le (pc := 38) (tgt := 49) C dJ6_numberOfTrailingZeros_0f7a4_38 (by decide) (fun _ => ?_) (fun h => False.elim (by revert h; decide))
  refine cw_iload_n (pc := 49) C dJ6_numberOfTrailingZeros_0f7a4_49 rfl 1 rfl ?_
  refine cw_bipush (pc := 50) C dJ6_numberOfTrailingZeros_0f7a4_50 (nI 16) (by decide) ?_
  refine cw_icmp_le (pc := 52) (tgt := 62) C dJ6_numberOfTrailingZeros_0f7a4_52 (by decide) (fun _ => ?_) (fun h => False.elim (by revert h; decide))
  refine cw_iload_n (pc := 62) C dJ6_numberOfTrailingZeros_0f7a4_62 rfl 1 rfl ?_
  refine cw_iconst (pc := 63) C dJ6_numberOfTrailingZeros_0f7a4_63 (nI 4) (by decide) ?_
  refine cw_icmp_le (pc := 64) (tgt := 74) C dJ6_numberOfTrailingZeros_0f7a4_64 (by decide) (fun _ => ?_) (fun h => False.elim (by revert h; decide))
  refine cw_iload_n (pc := 74) C dJ6_numberOfTrailingZeros_0f7a4_74 rfl 0 rfl ?_
  refine cw_iload_n (pc := 75) C dJ6_numberOfTrailingZeros_0f7a4_75 rfl 1 rfl ?_
  refine cw_iconst (pc := 76) C dJ6_numberOfTrailingZeros_0f7a4_76 (nI 1) (by decide) ?_
  refine cw_iushr (pc := 77) C dJ6_numberOfTrailingZeros_0f7a4_77 (z := nI 1) (by decide) ?_
  refine cw_iadd (pc := 78) C dJ6_numberOfTrailingZeros_0f7a4_78 (z := nI 2) (by decide) ?_
  refine hret (nI 2) σ _ _ dJ6_numberOfTrailingZeros_0f7a4_79 ?_
  clear hret
  exact ⟨rfl, rfl⟩
set_option maxHeartbeats 4000000 in
set_option maxRecDepth 100000 in
theorem c_J6_ntz3 (l : Launch) (D : va_G) (Z : CZ) (A : Nat → Nat) (σ : St)    : CTi l yJ6_numberOfTrailingZeros_0f7a4 wsJ6_numberOfTrailingZeros_0f7a4 0 0 D Z (wC Z A) σ [.int (nI 8)] (fun r σ' => r = nI 3 ∧ σ' = σ) := by
  refine CTi.mk (cc := cJ6_numberOfTrailingZeros_0f7a4) (nL := 2) (own := RJ6) rfl (by decide) rfl (Nat.le_of_ble_eq_true rfl) ?_
  intro p0 e0 s0 m0 g0 b0 t0 c0 A0 Q C hret
  refine cw_lv (lv' := [(0, .int (nI 8))]) [0] rfl ?_
  refine cw_iload_n (pc := 0) C dJ6_numberOfTrailingZeros_0f7a4_0 rfl 0 rfl ?_
  refine cw_iconst (pc := 1) C dJ6_numberOfTrailingZeros_0f7a4_1 (-1) (by decide) ?_
  refine cw_ixor (pc := 2) C dJ6_numberOfTrailingZeros_0f7a4_2 (z := (-9)) (by decide) ?_
  refine cw_iload_n (pc := 3) C dJ6_numberOfTrailingZeros_0f7a4_3 rfl 0 rfl ?_
  refine cw_iconst (pc := 4) C dJ6_numberOfTrailingZeros_0f7a4_4 (nI 1) (by decide) ?_
  refine cw_isub (pc := 5) C dJ6_numberOfTrailingZeros_0f7a4_5 (z := nI 7) (by decide) ?_
  refine cw_iand (pc := 6) C dJ6_numberOfTrailingZeros_0f7a4_6 (z := nI 7) (by decide) ?_
  refine cw_istore_n (pc := 7) C dJ6_numberOfTrailingZeros_0f7a4_7 rfl (by decide) (lv' := [(0, .int (nI 7))]) rfl ?_
  refine cw_iload_n (pc := 8) C dJ6_numberOfTrailingZeros_0f7a4_8 rfl 0 rfl ?_
  refine cw_if_gt (pc := 9) (tgt := 17) C dJ6_numberOfTrailingZeros_0f7a4_9 (by decide) (fun _ => ?_) (fun h => False.elim (by revert h; decide))
  refine cw_iconst (pc := 17) C dJ6_numberOfTrailingZeros_0f7a4_17 (nI 1) (by decide) ?_
  refine cw_istore_n (pc := 18) C dJ6_numberOfTrailingZeros_0f7a4_18 rfl (by decide) (lv' := [(1, .int (nI 1)), (0, .int (nI 7))]) rfl ?_
  refine cw_iload_n (pc := 19) C dJ6_numberOfTrailingZeros_0f7a4_19 rfl 1 rfl ?_
  refine cw_ldcw (pc := 20) C dJ6_numberOfTrailingZeros_0f7a4_20 (v := 65536) (List.mem_of_getElem? (i := 1) rfl) ?_
  refine cw_icmp_le (pc := 23) (tgt := 34) C dJ6_numberOfTrailingZeros_0f7a4_23 (by decide) (fun _ => ?_) (fun h => False.elim (by revert h; decide))
  refine cw_iload_n (pc := 34) C dJ6_numberOfTrailingZeros_0f7a4_34 rfl 1 rfl ?_
  refine cw_sipush (pc := 35) C dJ6_numberOfTrailingZeros_0f7a4_35 (nI 256) (by decide) ?_
  refine cw_icmp_le (pc := 38) (tgt := 49) C dJ6_numberOfTrailingZeros_0f7a4_38 (by decide) (fun _ => ?_) (fun h => False.elim (by revert h; decide))
  refine cw_iload_n (pc := 49) C dJ6_numberOfTrailingZeros_0f7a4_49 rfl 1 rfl ?_
  refine cw_bipush (pc := 50) C dJ6_numberOfTrailingZeros_0f7a4_50 (nI 16) (by decide) ?_
  refine cw_icmp_le (pc := 52) (tgt := 62) C dJ6_numberOfTrailingZeros_0f7a4_52 (by decide) (fun _ => ?_) (fun h => False.elim (by revert h; decide))
  refine cw_iload_n (pc := 62) C dJ6_numberOfTrailingZeros_0f7a4_62 rfl 1 rfl ?_
  refine cw_iconst (pc := 63) C dJ6_numberOfTrailingZeros_0f7a4_63 (nI 4) (by decide) ?_
  refine cw_icmp_le (pc := 64) (tgt := 74) C dJ6_numberOfTrailingZeros_0f7a4_64 (by decide) (fun h => False.elim (by revert h; decide)) (fun _ => ?_)
  refine cw_iinc (pc := 67) C dJ6_numberOfTrailingZeros_0f7a4_67 0 rfl (nI 3) (by decide) (by decide) (lv' := [(1, .int (nI 3)), (0, .int (nI 7))]) rfl ?_
  refine cw_iload_n (pc := 70) C dJ6_numberOfTrailingZeros_0f7a4_70 rfl 1 rfl ?_
  refine cw_iconst (pc := 71) C dJ6_numberOfTrailingZeros_0f7a4_71 (nI 2) (by decide) ?_
  refine cw_iushr (pc := 72) C dJ6_numberOfTrailingZeros_0f7a4_72 (z := nI 1) (by decide) ?_
  refine cw_istore_n (pc := 73) C dJ6_numberOfTrailingZeros_0f7a4_73 rfl (by decide) (lv' := [(0, .int (nI 1)), (1, .int (nI 3))]) rfl ?_
  refine cw_iload_n (pc := 74) C dJ6_numberOfTrailingZeros_0f7a4_74 rfl 1 rfl ?_
  refine cw_iload_n (pc := 75) C dJ6_numberOfTrailingZeros_0f7a4_75 rfl 0 rfl ?_
  refine cw_iconst (pc := 76) C dJ6_numberOfTrailingZeros_0f7a4_76 (nI 1) (by decide) ?_
  refine cw_iushr (pc := 77) C dJ6_numberOfTrailingZeros_0f7a4_77 (z := nI 0) (by decide) ?_
  refine cw_iadd (pc := 78) C dJ6_numberOfTrailingZeros_0f7a4_78 (z := nI 3) (by decide) ?_
  refine hret (nI 3) σ _ _ dJ6_numberOfTrailingZeros_0f7a4_79 ?_
  clear hret
  exact ⟨rfl, rfl⟩
set_option maxHeartbeats 4000000 in
set_option maxRecDepth 100000 in
theorem c_J6_ntz4 (l : Launch) (D : va_G) (Z : CZ) (A : Nat → Nat) (σ : St)    : CTi l yJ6_numberOfTrailingZeros_0f7a4 wsJ6_numberOfTrailingZeros_0f7a4 0 0 D Z (wC Z A) σ [.int (nI 16)] (fun r σ' => r = nI 4 ∧ σ' = σ) := by
  refine CTi.mk (cc := cJ6_numberOfTrailingZeros_0f7a4) (nL := 2) (own := RJ6) rfl (by decide) rfl (Nat.le_of_ble_eq_true rfl) ?_
  intro p0 e0 s0 m0 g0 b0 t0 c0 A0 Q C hret
  refine cw_lv (lv' := [(0, .int (nI 16))]) [0] rfl ?_
  refine cw_iload_n (pc := 0) C dJ6_numberOfTrailingZeros_0f7a4_0 rfl 0 rfl ?_
  refine cw_iconst (pc := 1) C dJ6_numberOfTrailingZeros_0f7a4_1 (-1) (by decide) ?_
  refine cw_ixor (pc := 2) C dJ6_numberOfTrailingZeros_0f7a4_2 (z := (-17)) (by decide) ?_
  refine cw_iload_n (pc := 3) C dJ6_numberOfTrailingZeros_0f7a4_3 rfl 0 rfl ?_
  refine cw_iconst (pc := 4) C dJ6_numberOfTrailingZeros_0f7a4_4 (nI 1) (by decide) ?_
  refine cw_isub (pc := 5) C dJ6_numberOfTrailingZeros_0f7a4_5 (z := nI 15) (by decide) ?_
  refine cw_iand (pc := 6) C dJ6_numberOfTrailingZeros_0f7a4_6 (z := nI 15) (by decide) ?_
  refine cw_istore_n (pc := 7) C dJ6_numberOfTrailingZeros_0f7a4_7 rfl (by decide) (lv' := [(0, .int (nI 15))]) rfl ?_
  refine cw_iload_n (pc := 8) C dJ6_numberOfTrailingZeros_0f7a4_8 rfl 0 rfl ?_
  refine cw_if_gt (pc := 9) (tgt := 17) C dJ6_numberOfTrailingZeros_0f7a4_9 (by decide) (fun _ => ?_) (fun h => False.elim (by revert h; decide))
  refine cw_iconst (pc := 17) C dJ6_numberOfTrailingZeros_0f7a4_17 (nI 1) (by decide) ?_
  refine cw_istore_n (pc := 18) C dJ6_numberOfTrailingZeros_0f7a4_18 rfl (by decide) (lv' := [(1, .int (nI 1)), (0, .int (nI 15))]) rfl ?_
  refine cw_iload_n (pc := 19) C dJ6_numberOfTrailingZeros_0f7a4_19 rfl 1 rfl ?_
  refine cw_ldcw (pc := 20) C dJ6_numberOfTrailingZeros_0f7a4_20 (v := 65536) (List.mem_of_getElem? (i := 1) rfl) ?_
  refine cw_icmp_le (pc := 23) (tgt := 34) C dJ6_numberOfTrailingZeros_0f7a4_23 (by decide) (fun _ => ?_) (fun h => False.elim (by revert h; decide))
  refine cw_iload_n (pc := 34) C dJ6_numberOfTrailingZeros_0f7a4_34 rfl 1 rfl ?_
  refine cw_sipush (pc := 35) C dJ6_numberOfTrailingZeros_0f7a4_35 (nI 256) (by decide) ?_
  refine cw_icmp_le (pc := 38) (tgt := 49) C dJ6_numberOfTrailingZeros_0f7a4_38 (by decide) (fun _ => ?_) (fun h => False.elim (by revert h; decide))
  refine cw_iload_n (pc := 49) C dJ6_numberOfTrailingZeros_0f7a4_49 rfl 1 rfl ?_
  refine cw_bipush (pc := 50) C dJ6_numberOfTrailingZeros_0f7a4_50 (nI 16) (by decide) ?_
  refine cw_icmp_le (pc := 52) (tgt := 62) C dJ6_numberOfTrailingZeros_0f7a4_52 (by decide) (fun _ => ?_) (fun h => False.elim (by revert h; decide))
  refine cw_iload_n (pc := 62) C dJ6_numberOfTrailingZeros_0f7a4_62 rfl 1 rfl ?_
  refine cw_iconst (pc := 63) C dJ6_numberOfTrailingZeros_0f7a4_63 (nI 4) (by decide) ?_
  refine cw_icmp_le (pc := 64) (tgt := 74) C dJ6_numberOfTrailingZeros_0f7a4_64 (by decide) (fun h => False.elim (by revert h; decide)) (fun _ => ?_)
  refine cw_iinc (pc := 67) C dJ6_numberOfTrailingZeros_0f7a4_67 0 rfl (nI 3) (by decide) (by decide) (lv' := [(1, .int (nI 3)), (0, .int (nI 15))]) rfl ?_
  refine cw_iload_n (pc := 70) C dJ6_numberOfTrailingZeros_0f7a4_70 rfl 1 rfl ?_
  refine cw_iconst (pc := 71) C dJ6_numberOfTrailingZeros_0f7a4_71 (nI 2) (by decide) ?_
  refine cw_iushr (pc := 72) C dJ6_numberOfTrailingZeros_0f7a4_72 (z := nI 3) (by decide) ?_
  refine cw_istore_n (pc := 73) C dJ6_numberOfTrailingZeros_0f7a4_73 rfl (by decide) (lv' := [(0, .int (nI 3)), (1, .int (nI 3))]) rfl ?_
  refine cw_iload_n (pc := 74) C dJ6_numberOfTrailingZeros_0f7a4_74 rfl 1 rfl ?_
  refine cw_iload_n (pc := 75) C dJ6_numberOfTrailingZeros_0f7a4_75 rfl 0 rfl ?_
  refine cw_iconst (pc := 76) C dJ6_numberOfTrailingZeros_0f7a4_76 (nI 1) (by decide) ?_
  refine cw_iushr (pc := 77) C dJ6_numberOfTrailingZeros_0f7a4_77 (z := nI 1) (by decide) ?_
  refine cw_iadd (pc := 78) C dJ6_numberOfTrailingZeros_0f7a4_78 (z := nI 4) (by decide) ?_
  refine hret (nI 4) σ _ _ dJ6_numberOfTrailingZeros_0f7a4_79 ?_
  clear hret
  exact ⟨rfl, rfl⟩
theorem c_J6_ntz (l : Launch) (D : va_G) (Z : CZ) (A : Nat → Nat) (σ : St) (i : Nat) (hi : i < 5) : CTi l yJ6_numberOfTrailingZeros_0f7a4 wsJ6_numberOfTrailingZeros_0f7a4 0 0 D Z (wC Z A) σ [.int (nI (2 ^ i))] (fun r σ' => r = nI i ∧ σ' = σ) := by
  rcases (show i = 0 ∨ i = 1 ∨ i = 2 ∨ i = 3 ∨ i = 4 by omega) with rfl | rfl | rfl | rfl | rfl
  · exact c_J6_ntz0 l D Z A σ
  · exact c_J6_ntz1 l D Z A σ
  · exact c_J6_ntz2 l D Z A σ
  · exact c_J6_ntz3 l D Z A σ
  · exact c_J6_ntz4 l D Z A σ
set_option maxHeartbeats 4000000 in
set_option maxRecDepth 100000 in
theorem c_X1_swapsOne (l : Launch) (D : va_G) (Z : CZ) (A : Nat → Nat) (σ : St)  (a : Int32) (b : Int32)  : CTz l yX1_swapsOne wsX1_swapsOne 1 20 D Z (wC Z A) σ [.int (a), .int (b)] (fun z σ' => z = swapB a b ∧ σ' = σ) := by
  refine CTz.mk (cc := cX1_swapsOne) (nL := 2) (own := RX1) rfl (by decide) rfl (Nat.le_of_ble_eq_true rfl) ?_
  intro p0 e0 s0 m0 g0 b0 t0 c0 A0 Q C hret
  refine cw_lv (lv' := [(0, .int (a)), (1, .int (b))]) [0, 1] rfl ?_
  refine cw_iload_n (pc := 0) C dX1_swapsOne_0 rfl 0 rfl ?_
  refine cw_iload_n (pc := 1) C dX1_swapsOne_1 rfl 1 rfl ?_
  refine cw_iconst (pc := 2) C dX1_swapsOne_2 (-1) (by decide) ?_
  refine cw_ixor (pc := 3) C dX1_swapsOne_3 (z := b ^^^ (-1)) rfl ?_
  refine cw_iand (pc := 4) C dX1_swapsOne_4 (z := a &&& (b ^^^ (-1))) rfl ?_
  refine cw_calls (pc := 5) C dX1_swapsOne_5 (c_J6_bitCount_0f7a4 l D Z A σ (a &&& (b ^^^ (-1)))) (va_cwS 1 C.1.2.2.2.2 gX1_swapsOne_J6_bitCount_0f7a4 rfl rfl rfl (by decide +kernel) ⟨Nat.le_of_ble_eq_true rfl, Nat.le_of_ble_eq_true rfl⟩) rfl rfl (Nat.le_of_ble_eq_true rfl) (cw_pure (v := bitC (a &&& (b ^^^ (-1)))) (fun _ _ h => h) ?_)
  refine cw_iconst (pc := 8) C dX1_swapsOne_8 (nI 1) (by decide) ?_
  refine cw_icmp_ne (pc := 9) (tgt := 28) C dX1_swapsOne_9 (by decide) (fun h9 => ?_) (fun h9 => ?_)
  · -- 9 t
    refine cw_iconst (pc := 28) C dX1_swapsOne_28 (nI 0) (by decide) ?_
    refine hret false σ _ _ dX1_swapsOne_29 ?_
    clear hret
    exact ⟨by simp_all [swapB], rfl⟩
  · -- 9 f
    refine cw_iload_n (pc := 12) C dX1_swapsOne_12 rfl 1 rfl ?_
    refine cw_iload_n (pc := 13) C dX1_swapsOne_13 rfl 0 rfl ?_
    refine cw_iconst (pc := 14) C dX1_swapsOne_14 (-1) (by decide) ?_
    refine cw_ixor (pc := 15) C dX1_swapsOne_15 (z := a ^^^ (-1)) rfl ?_
    refine cw_iand (pc := 16) C dX1_swapsOne_16 (z := b &&& (a ^^^ (-1))) rfl ?_
    refine cw_calls (pc := 17) C dX1_swapsOne_17 (c_J6_bitCount_0f7a4 l D Z A σ (b &&& (a ^^^ (-1)))) (va_cwS 1 C.1.2.2.2.2 gX1_swapsOne_J6_bitCount_0f7a4 rfl rfl rfl (by decide +kernel) ⟨Nat.le_of_ble_eq_true rfl, Nat.le_of_ble_eq_true rfl⟩) rfl rfl (Nat.le_of_ble_eq_true rfl) (cw_pure (v := bitC (b &&& (a ^^^ (-1)))) (fun _ _ h => h) ?_)
    refine cw_iconst (pc := 20) C dX1_swapsOne_20 (nI 1) (by decide) ?_
    refine cw_icmp_ne (pc := 21) (tgt := 28) C dX1_swapsOne_21 (by decide) (fun h21 => ?_) (fun h21 => ?_)
    · -- 21 t
      refine cw_iconst (pc := 28) C dX1_swapsOne_28 (nI 0) (by decide) ?_
      refine hret false σ _ _ dX1_swapsOne_29 ?_
      clear hret
      exact ⟨by simp_all [swapB], rfl⟩
    · -- 21 f
      refine cw_iconst (pc := 24) C dX1_swapsOne_24 (nI 1) (by decide) ?_
      refine cw_goto (pc := 25) (tgt := 29) C dX1_swapsOne_25 (by decide) ?_
      refine hret true σ _ _ dX1_swapsOne_29 ?_
      clear hret
      exact ⟨by simp_all [swapB], rfl⟩
set_option maxHeartbeats 4000000 in
set_option maxRecDepth 100000 in
theorem c_X1_isSimple (l : Launch) (D : va_G) (Z : CZ) (A : Nat → Nat) (σ : St)  (g : Nat) (k : Nat) (hg : g ≤ 7) (hk : k ≤ 7) : CTz l yX1_isSimple wsX1_isSimple 2 41 D Z (wC Z A) σ [.ref (A 3), .int (nI g), .int (nI k)] (fun z σ' => z = simN (σ 1) g k ∧ σ' = σ) := by
  refine CTz.mk (cc := cX1_isSimple) (nL := 3) (own := RX1) rfl (by decide) rfl (Nat.le_of_ble_eq_true rfl) ?_
  intro p0 e0 s0 m0 g0 b0 t0 c0 A0 Q C hret
  refine cw_lv (lv' := [(0, .ref (A 3)), (1, .int (nI g)), (2, .int (nI k))]) [0, 1, 2] rfl ?_
  refine cw_aload_n (pc := 0) C dX1_isSimple_0 rfl 0 rfl ?_
  refine cw_iload_n (pc := 1) C dX1_isSimple_1 rfl 1 rfl ?_
  refine cw_calli (pc := 2) C dX1_isSimple_2 (c_X1_isFitN l D Z A σ g (by omega)) (cwV 1 C.1.2.2.2.2 gX1_isSimple_X1_isFit rfl rfl rfl (by decide +kernel) ⟨Nat.le_of_ble_eq_true rfl, Nat.le_of_ble_eq_true rfl⟩) 3 rfl rfl rfl rfl (Nat.le_of_ble_eq_true rfl) (cw_purez (b := fitN (σ 1) g) (fun _ _ h => h) ?_)
  refine cw_if_eq (pc := 5) (tgt := 42) C dX1_isSimple_5 (by decide) (fun h5 => ?_) (fun h5 => ?_)
  · -- 5 t
    have h5 := bI_z h5
    refine cw_iconst (pc := 42) C dX1_isSimple_42 (nI 0) (by decide) ?_
    refine hret false σ _ _ dX1_isSimple_43 ?_
    clear hret
    exact ⟨by simp_all [simN], rfl⟩
  · -- 5 f
    have h5 := bI_nz h5
    refine cw_aload_n (pc := 8) C dX1_isSimple_8 rfl 0 rfl ?_
    refine cw_iload_n (pc := 9) C dX1_isSimple_9 rfl 2 rfl ?_
    refine cw_calli (pc := 10) C dX1_isSimple_10 (c_X1_isFitN l D Z A σ k (by omega)) (cwV 1 C.1.2.2.2.2 gX1_isSimple_X1_isFit rfl rfl rfl (by decide +kernel) ⟨Nat.le_of_ble_eq_true rfl, Nat.le_of_ble_eq_true rfl⟩) 3 rfl rfl rfl rfl (Nat.le_of_ble_eq_true rfl) (cw_purez (b := fitN (σ 1) k) (fun _ _ h => h) ?_)
    refine cw_if_eq (pc := 13) (tgt := 42) C dX1_isSimple_13 (by decide) (fun h13 => ?_) (fun h13 => ?_)
    · -- 13 t
      have h13 := bI_z h13
      refine cw_iconst (pc := 42) C dX1_isSimple_42 (nI 0) (by decide) ?_
      refine hret false σ _ _ dX1_isSimple_43 ?_
      clear hret
      exact ⟨by simp_all [simN], rfl⟩
    · -- 13 f
      have h13 := bI_nz h13
      refine cw_aload_n (pc := 16) C dX1_isSimple_16 rfl 0 rfl ?_
      refine cw_get (pc := 17) C dX1_isSimple_17 3 (v := .ref (A 1)) rfl rfl 0 rfl (fun _ h => List.mem_cons_of_mem _ (List.mem_append_right _ h)) (by decide) (List.mem_of_getElem? (i := 1) rfl) ?_
      refine cw_iconst (pc := 20) C dX1_isSimple_20 (nI 0) (by decide) ?_
      refine cw_iload_n (pc := 21) C dX1_isSimple_21 rfl 1 rfl ?_
      refine cw_iadd (pc := 22) C dX1_isSimple_22 (z := nI g) (nI_0add _) ?_
      refine cw_iald2 (pc := 23) C dX1_isSimple_23 1 1 (wC_g1 Z A) (f := σ 1) rfl g rfl (by omega) (by decide) ?_
      refine cw_aload_n (pc := 24) C dX1_isSimple_24 rfl 0 rfl ?_
      refine cw_get (pc := 25) C dX1_isSimple_25 3 (v := .ref (A 1)) rfl rfl 0 rfl (fun _ h => List.mem_cons_of_mem _ (List.mem_append_right _ h)) (by decide) (List.mem_of_getElem? (i := 1) rfl) ?_
      refine cw_iconst (pc := 28) C dX1_isSimple_28 (nI 0) (by decide) ?_
      refine cw_iload_n (pc := 29) C dX1_isSimple_29 rfl 2 rfl ?_
      refine cw_iadd (pc := 30) C dX1_isSimple_30 (z := nI k) (nI_0add _) ?_
      refine cw_iald2 (pc := 31) C dX1_isSimple_31 1 1 (wC_g1 Z A) (f := σ 1) rfl k rfl (by omega) (by decide) ?_
      refine cw_calls (pc := 32) C dX1_isSimple_32 (c_X1_swapsOne l D Z A σ (σ 1 g) (σ 1 k)) (va_cwS 2 C.1.2.2.2.2 gX1_isSimple_X1_swapsOne rfl rfl rfl (by decide +kernel) ⟨Nat.le_of_ble_eq_true rfl, Nat.le_of_ble_eq_true rfl⟩) rfl rfl (Nat.le_of_ble_eq_true rfl) (cw_purez (b := swapB (σ 1 g) (σ 1 k)) (fun _ _ h => h) ?_)
      refine cw_if_eq (pc := 35) (tgt := 42) C dX1_isSimple_35 (by decide) (fun h35 => ?_) (fun h35 => ?_)
      · -- 35 t
        have h35 := bI_z h35
        refine cw_iconst (pc := 42) C dX1_isSimple_42 (nI 0) (by decide) ?_
        refine hret false σ _ _ dX1_isSimple_43 ?_
        clear hret
        exact ⟨by simp_all [simN], rfl⟩
      · -- 35 f
        have h35 := bI_nz h35
        refine cw_iconst (pc := 38) C dX1_isSimple_38 (nI 1) (by decide) ?_
        refine cw_goto (pc := 39) (tgt := 43) C dX1_isSimple_39 (by decide) ?_
        refine hret true σ _ _ dX1_isSimple_43 ?_
        clear hret
        exact ⟨by simp_all [simN], rfl⟩
set_option maxHeartbeats 4000000 in
set_option maxRecDepth 100000 in
theorem c_X1_coming (l : Launch) (D : va_G) (Z : CZ) (A : Nat → Nat) (σ : St)  (g : Nat) (k : Nat) (hX : setsOK (σ 1)) (hg : g ≤ 7) (hk : k ≤ 7) : CTi l yX1_coming wsX1_coming 3 63 D Z (wC Z A) σ [.ref (A 3), .int (nI g), .int (nI k)] (fun r σ' => r = comN (σ 1) g k ∧ σ' = σ) := by
  refine CTi.mk (cc := cX1_coming) (nL := 3) (own := RX1) rfl (by decide) rfl (Nat.le_of_ble_eq_true rfl) ?_
  intro p0 e0 s0 m0 g0 b0 t0 c0 A0 Q C hret
  refine cw_lv (lv' := [(0, .ref (A 3)), (1, .int (nI g)), (2, .int (nI k))]) [0, 1, 2] rfl ?_
  refine cw_aload_n (pc := 0) C dX1_coming_0 rfl 0 rfl ?_
  refine cw_iload_n (pc := 1) C dX1_coming_1 rfl 1 rfl ?_
  refine cw_iload_n (pc := 2) C dX1_coming_2 rfl 2 rfl ?_
  refine cw_calli (pc := 3) C dX1_coming_3 (c_X1_isSimple l D Z A σ g k (by omega) (by omega)) (cwV 2 C.1.2.2.2.2 gX1_coming_X1_isSimple rfl rfl rfl (by decide +kernel) ⟨Nat.le_of_ble_eq_true rfl, Nat.le_of_ble_eq_true rfl⟩) 3 rfl rfl rfl rfl (Nat.le_of_ble_eq_true rfl) (cw_purez (b := simN (σ 1) g k) (fun _ _ h => h) ?_)
  refine cw_if_ne (pc := 6) (tgt := 11) C dX1_coming_6 (by decide) (fun h6 => ?_) (fun h6 => ?_)
  · -- 6 t
    have h6 := bI_nz h6
    refine cw_aload_n (pc := 11) C dX1_coming_11 rfl 0 rfl ?_
    refine cw_get (pc := 12) C dX1_coming_12 3 (v := .ref (A 1)) rfl rfl 0 rfl (fun _ h => List.mem_cons_of_mem _ (List.mem_append_right _ h)) (by decide) (List.mem_of_getElem? (i := 1) rfl) ?_
    refine cw_iconst (pc := 15) C dX1_coming_15 (nI 0) (by decide) ?_
    refine cw_iload_n (pc := 16) C dX1_coming_16 rfl 2 rfl ?_
    refine cw_iadd (pc := 17) C dX1_coming_17 (z := nI k) (nI_0add _) ?_
    refine cw_iald2 (pc := 18) C dX1_coming_18 1 1 (wC_g1 Z A) (f := σ 1) rfl k rfl (by omega) (by decide) ?_
    refine cw_aload_n (pc := 19) C dX1_coming_19 rfl 0 rfl ?_
    refine cw_get (pc := 20) C dX1_coming_20 3 (v := .ref (A 1)) rfl rfl 0 rfl (fun _ h => List.mem_cons_of_mem _ (List.mem_append_right _ h)) (by decide) (List.mem_of_getElem? (i := 1) rfl) ?_
    refine cw_iconst (pc := 23) C dX1_coming_23 (nI 0) (by decide) ?_
    refine cw_iload_n (pc := 24) C dX1_coming_24 rfl 1 rfl ?_
    refine cw_iadd (pc := 25) C dX1_coming_25 (z := nI g) (nI_0add _) ?_
    refine cw_iald2 (pc := 26) C dX1_coming_26 1 1 (wC_g1 Z A) (f := σ 1) rfl g rfl (by omega) (by decide) ?_
    refine cw_iconst (pc := 27) C dX1_coming_27 (-1) (by decide) ?_
    refine cw_ixor (pc := 28) C dX1_coming_28 (z := (σ 1 g) ^^^ (-1)) rfl ?_
    refine cw_iand (pc := 29) C dX1_coming_29 (z := nI (2 ^ comS (σ 1 g) (σ 1 k))) (comS_bit hX hg hk h6) ?_
    refine cw_calls (pc := 30) C dX1_coming_30 (c_J6_ntz l D Z A σ (comS (σ 1 g) (σ 1 k)) (comS_lt _ _)) (va_cwS 1 C.1.2.2.2.2 gX1_coming_J6_numberOfTrailingZeros_0f7a4 rfl rfl rfl (by decide +kernel) ⟨Nat.le_of_ble_eq_true rfl, Nat.le_of_ble_eq_true rfl⟩) rfl rfl (Nat.le_of_ble_eq_true rfl) (cw_pure (v := nI (comS (σ 1 g) (σ 1 k))) (fun _ _ h => h) ?_)
    refine hret (nI (comS (σ 1 g) (σ 1 k))) σ _ _ dX1_coming_33 ?_
    clear hret
    exact ⟨by rw [comN, if_pos h6], rfl⟩
  · -- 6 f
    have h6 := bI_z h6
    refine cw_iconst (pc := 9) C dX1_coming_9 (-1) (by decide) ?_
    refine hret (-1) σ _ _ dX1_coming_10 ?_
    clear hret
    exact ⟨by rw [comN, if_neg (by simp [h6])], rfl⟩
set_option maxHeartbeats 4000000 in
set_option maxRecDepth 100000 in
theorem c_X1_countSimple (l : Launch) (D : va_G) (Z : CZ) (A : Nat → Nat) (σ : St)  (g : Nat) (hg : g ≤ 7) : CTi l yX1_countSimple wsX1_countSimple 3 63 D Z (wC Z A) σ [.ref (A 3), .int (nI g)] (fun r σ' => r = nI (cntN (fun q9 => simN (σ 1) g (q9 + 1)) 7) ∧ σ' = σ) := by
  refine CTi.mk (cc := cX1_countSimple) (nL := 4) (own := RX1) rfl (by decide) rfl (Nat.le_of_ble_eq_true rfl) ?_
  intro p0 e0 s0 m0 g0 b0 t0 c0 A0 Q C hret
  refine cw_lv (lv' := [(0, .ref (A 3)), (1, .int (nI g))]) [0, 1] rfl ?_
  refine cw_iconst (pc := 0) C dX1_countSimple_0 (nI 0) (by decide) ?_
  refine cw_istore_n (pc := 1) C dX1_countSimple_1 rfl (by decide) (lv' := [(2, .int (nI 0)), (0, .ref (A 3)), (1, .int (nI g))]) rfl ?_
  refine cw_iconst (pc := 2) C dX1_countSimple_2 (nI 1) (by decide) ?_
  refine cw_istore_n (pc := 3) C dX1_countSimple_3 rfl (by decide) (lv' := [(3, .int (nI 1)), (2, .int (nI 0)), (0, .ref (A 3)), (1, .int (nI g))]) rfl ?_
  have L4 : ∀ (n4 : Nat) (i : Nat) (acc : Nat) (hi : i ≤ 7) (hm : 7 < i + n4) (ha : acc = cntN (fun q9 => simN (σ 1) g (q9 + 1)) i), CW p0 l e0 (rmC 3 63) s0 m0 g0 b0 t0 c0 D A0 4 (wC Z A) Q σ 4 [(0, .ref (A 3)), (1, .int (nI g)), (2, .int (nI acc)), (3, .int (nI (i + 1)))] [] := by
    intro n4
    induction n4 with
    | zero => intro i acc hi hm ha; exact absurd hm (by omega)
    | succ n4 ih4 =>
      intro i acc hi hm ha
      refine cw_iload_n (pc := 4) C dX1_countSimple_4 rfl 3 rfl ?_
      refine cw_bipush (pc := 5) C dX1_countSimple_5 (nI 7) (by decide) ?_
      refine cw_icmp_gt (pc := 7) (tgt := 28) C dX1_countSimple_7 (by decide) (fun h7 => ?_) (fun h7 => ?_)
      · -- 7 t
        have h7 : 7 < (i + 1) := (nc_gt (a := i + 1) (b := 7) (by omega) (by omega)).mp h7
        obtain rfl : i = 7 := by omega
        refine cw_iload_n (pc := 28) C dX1_countSimple_28 rfl 2 rfl ?_
        refine hret (nI acc) σ _ _ dX1_countSimple_29 ?_
        clear hret
        exact ⟨by rw [ha], rfl⟩
      · -- 7 f
        have h7 : ¬ (7 < (i + 1)) := fun qq => h7 ((nc_gt (a := i + 1) (b := 7) (by omega) (by omega)).mpr qq)
        refine cw_aload_n (pc := 10) C dX1_countSimple_10 rfl 0 rfl ?_
        refine cw_iload_n (pc := 11) C dX1_countSimple_11 rfl 1 rfl ?_
        refine cw_iload_n (pc := 12) C dX1_countSimple_12 rfl 3 rfl ?_
        refine cw_calli (pc := 13) C dX1_countSimple_13 (c_X1_isSimple l D Z A σ g (i + 1) (by omega) (by omega)) (cwV 2 C.1.2.2.2.2 gX1_countSimple_X1_isSimple rfl rfl rfl (by decide +kernel) ⟨Nat.le_of_ble_eq_true rfl, Nat.le_of_ble_eq_true rfl⟩) 3 rfl rfl rfl rfl (Nat.le_of_ble_eq_true rfl) (cw_purez (b := simN (σ 1) g (i + 1)) (fun _ _ h => h) ?_)
        refine cw_if_eq (pc := 16) (tgt := 22) C dX1_countSimple_16 (by decide) (fun h16 => ?_) (fun h16 => ?_)
        · -- 16 t
          have h16 := bI_z h16
          refine cw_iinc (pc := 22) C dX1_countSimple_22 3 rfl (nI (i + 1 + 1)) (nI_inc _ 1) (by decide) (lv' := [(3, .int (nI (i + 1 + 1))), (0, .ref (A 3)), (1, .int (nI g)), (2, .int (nI acc))]) rfl ?_
          refine cw_goto (pc := 25) (tgt := 4) C dX1_countSimple_25 (by decide) ?_
          refine cw_lv [1, 2, 3, 0] rfl ?_
          exact ih4 (i + 1) acc (by omega) (by omega) (by rw [cntN, ha]; simp [h16])
        · -- 16 f
          have h16 := bI_nz h16
          refine cw_iinc (pc := 19) C dX1_countSimple_19 2 rfl (nI (acc + 1)) (nI_inc _ 1) (by decide) (lv' := [(2, .int (nI (acc + 1))), (0, .ref (A 3)), (1, .int (nI g)), (3, .int (nI (i + 1)))]) rfl ?_
          refine cw_iinc (pc := 22) C dX1_countSimple_22 3 rfl (nI (i + 1 + 1)) (nI_inc _ 1) (by decide) (lv' := [(3, .int (nI (i + 1 + 1))), (2, .int (nI (acc + 1))), (0, .ref (A 3)), (1, .int (nI g))]) rfl ?_
          refine cw_goto (pc := 25) (tgt := 4) C dX1_countSimple_25 (by decide) ?_
          refine cw_lv [2, 3, 1, 0] rfl ?_
          exact ih4 (i + 1) (acc + 1) (by omega) (by omega) (by rw [cntN, ha]; simp [h16])
  refine cw_lv [2, 3, 1, 0] rfl ?_
  exact L4 8 0 0 (by omega) (by omega) rfl
set_option maxHeartbeats 4000000 in
set_option maxRecDepth 100000 in
theorem c_X1_countClosing (l : Launch) (D : va_G) (Z : CZ) (A : Nat → Nat) (σ : St)  (k : Nat)  : CTi l yX1_countClosing wsX1_countClosing 0 0 D Z (wC Z A) σ [.ref (A 3), .int (nI k)] (fun r σ' => r = sumI (fun q9 => sbit (σ 1 (q9 + 1)) k) 7 ∧ σ' = σ) := by
  refine CTi.mk (cc := cX1_countClosing) (nL := 4) (own := RX1) rfl (by decide) rfl (Nat.le_of_ble_eq_true rfl) ?_
  intro p0 e0 s0 m0 g0 b0 t0 c0 A0 Q C hret
  refine cw_lv (lv' := [(0, .ref (A 3)), (1, .int (nI k))]) [0, 1] rfl ?_
  refine cw_iconst (pc := 0) C dX1_countClosing_0 (nI 0) (by decide) ?_
  refine cw_istore_n (pc := 1) C dX1_countClosing_1 rfl (by decide) (lv' := [(2, .int (nI 0)), (0, .ref (A 3)), (1, .int (nI k))]) rfl ?_
  refine cw_iconst (pc := 2) C dX1_countClosing_2 (nI 1) (by decide) ?_
  refine cw_istore_n (pc := 3) C dX1_countClosing_3 rfl (by decide) (lv' := [(3, .int (nI 1)), (2, .int (nI 0)), (0, .ref (A 3)), (1, .int (nI k))]) rfl ?_
  have L4 : ∀ (n4 : Nat) (i : Nat) (acc : Int32) (hi : i ≤ 7) (hm : 7 < i + n4) (ha : acc = sumI (fun q9 => sbit (σ 1 (q9 + 1)) k) i), CW p0 l e0 (rmC 0 0) s0 m0 g0 b0 t0 c0 D A0 4 (wC Z A) Q σ 4 [(0, .ref (A 3)), (1, .int (nI k)), (2, .int (acc)), (3, .int (nI (i + 1)))] [] := by
    intro n4
    induction n4 with
    | zero => intro i acc hi hm ha; exact absurd hm (by omega)
    | succ n4 ih4 =>
      intro i acc hi hm ha
      refine cw_iload_n (pc := 4) C dX1_countClosing_4 rfl 3 rfl ?_
      refine cw_bipush (pc := 5) C dX1_countClosing_5 (nI 7) (by decide) ?_
      refine cw_icmp_gt (pc := 7) (tgt := 31) C dX1_countClosing_7 (by decide) (fun h7 => ?_) (fun h7 => ?_)
      · -- 7 t
        have h7 : 7 < (i + 1) := (nc_gt (a := i + 1) (b := 7) (by omega) (by omega)).mp h7
        obtain rfl : i = 7 := by omega
        refine cw_iload_n (pc := 31) C dX1_countClosing_31 rfl 2 rfl ?_
        refine hret acc σ _ _ dX1_countClosing_32 ?_
        clear hret
        exact ⟨ha, rfl⟩
      · -- 7 f
        have h7 : ¬ (7 < (i + 1)) := fun qq => h7 ((nc_gt (a := i + 1) (b := 7) (by omega) (by omega)).mpr qq)
        refine cw_iload_n (pc := 10) C dX1_countClosing_10 rfl 2 rfl ?_
        refine cw_aload_n (pc := 11) C dX1_countClosing_11 rfl 0 rfl ?_
        refine cw_get (pc := 12) C dX1_countClosing_12 3 (v := .ref (A 1)) rfl rfl 0 rfl (fun _ h => List.mem_cons_of_mem _ (List.mem_append_right _ h)) (by decide) (List.mem_of_getElem? (i := 1) rfl) ?_
        refine cw_iconst (pc := 15) C dX1_countClosing_15 (nI 0) (by decide) ?_
        refine cw_iload_n (pc := 16) C dX1_countClosing_16 rfl 3 rfl ?_
        refine cw_iadd (pc := 17) C dX1_countClosing_17 (z := nI (i + 1)) (nI_0add _) ?_
        refine cw_iald2 (pc := 18) C dX1_countClosing_18 1 1 (wC_g1 Z A) (f := σ 1) rfl (i + 1) rfl (by omega) (by decide) ?_
        refine cw_iload_n (pc := 19) C dX1_countClosing_19 rfl 1 rfl ?_
        refine cw_ishr (pc := 20) C dX1_countClosing_20 (z := (σ 1 (i + 1)) >>> ((nI k) &&& 31)) rfl ?_
        refine cw_iconst (pc := 21) C dX1_countClosing_21 (nI 1) (by decide) ?_
        refine cw_iand (pc := 22) C dX1_countClosing_22 (z := ((σ 1 (i + 1)) >>> ((nI k) &&& 31)) &&& (nI 1)) rfl ?_
        refine cw_iadd (pc := 23) C dX1_countClosing_23 (z := acc + (((σ 1 (i + 1)) >>> ((nI k) &&& 31)) &&& (nI 1))) rfl ?_
        refine cw_istore_n (pc := 24) C dX1_countClosing_24 rfl (by decide) (lv' := [(2, .int (acc + (((σ 1 (i + 1)) >>> ((nI k) &&& 31)) &&& (nI 1)))), (0, .ref (A 3)), (1, .int (nI k)), (3, .int (nI (i + 1)))]) rfl ?_
        refine cw_iinc (pc := 25) C dX1_countClosing_25 3 rfl (nI (i + 1 + 1)) (nI_inc _ 1) (by decide) (lv' := [(3, .int (nI (i + 1 + 1))), (2, .int (acc + (((σ 1 (i + 1)) >>> ((nI k) &&& 31)) &&& (nI 1)))), (0, .ref (A 3)), (1, .int (nI k))]) rfl ?_
        refine cw_goto (pc := 28) (tgt := 4) C dX1_countClosing_28 (by decide) ?_
        refine cw_lv [2, 3, 1, 0] rfl ?_
        exact ih4 (i + 1) (acc + (((σ 1 (i + 1)) >>> ((nI k) &&& 31)) &&& (nI 1))) (by omega) (by omega) (by rw [sumI, ha]; rfl)
  refine cw_lv [2, 3, 1, 0] rfl ?_
  exact L4 8 0 (nI 0) (by omega) (by omega) rfl
set_option maxHeartbeats 4000000 in
set_option maxRecDepth 100000 in
theorem c_X1_countWithin (l : Launch) (D : va_G) (Z : CZ) (A : Nat → Nat) (σ : St)  (v : Int32)  : CTi l yX1_countWithin wsX1_countWithin 0 0 D Z (wC Z A) σ [.ref (A 3), .int (v)] (fun r σ' => r = nI (cntN (fun q9 => withP (σ 1 (q9 + 1)) v) 7) ∧ σ' = σ) := by
  refine CTi.mk (cc := cX1_countWithin) (nL := 4) (own := RX1) rfl (by decide) rfl (Nat.le_of_ble_eq_true rfl) ?_
  intro p0 e0 s0 m0 g0 b0 t0 c0 A0 Q C hret
  refine cw_lv (lv' := [(0, .ref (A 3)), (1, .int (v))]) [0, 1] rfl ?_
  refine cw_iconst (pc := 0) C dX1_countWithin_0 (nI 0) (by decide) ?_
  refine cw_istore_n (pc := 1) C dX1_countWithin_1 rfl (by decide) (lv' := [(2, .int (nI 0)), (0, .ref (A 3)), (1, .int (v))]) rfl ?_
  refine cw_iconst (pc := 2) C dX1_countWithin_2 (nI 1) (by decide) ?_
  refine cw_istore_n (pc := 3) C dX1_countWithin_3 rfl (by decide) (lv' := [(3, .int (nI 1)), (2, .int (nI 0)), (0, .ref (A 3)), (1, .int (v))]) rfl ?_
  have L4 : ∀ (n4 : Nat) (i : Nat) (acc : Nat) (hi : i ≤ 7) (hm : 7 < i + n4) (hc : acc ≤ i) (ha : acc = cntN (fun q9 => withP (σ 1 (q9 + 1)) v) i), CW p0 l e0 (rmC 0 0) s0 m0 g0 b0 t0 c0 D A0 4 (wC Z A) Q σ 4 [(0, .ref (A 3)), (1, .int (v)), (2, .int (nI acc)), (3, .int (nI (i + 1)))] [] := by
    intro n4
    induction n4 with
    | zero => intro i acc hi hm hc ha; exact absurd hm (by omega)
    | succ n4 ih4 =>
      intro i acc hi hm hc ha
      refine cw_iload_n (pc := 4) C dX1_countWithin_4 rfl 3 rfl ?_
      refine cw_bipush (pc := 5) C dX1_countWithin_5 (nI 7) (by decide) ?_
      refine cw_icmp_gt (pc := 7) (tgt := 45) C dX1_countWithin_7 (by decide) (fun h7 => ?_) (fun h7 => ?_)
      · -- 7 t
        have h7 : 7 < (i + 1) := (nc_gt (a := i + 1) (b := 7) (by omega) (by omega)).mp h7
        obtain rfl : i = 7 := by omega
        refine cw_iload_n (pc := 45) C dX1_countWithin_45 rfl 2 rfl ?_
        refine hret (nI acc) σ _ _ dX1_countWithin_46 ?_
        clear hret
        exact ⟨by rw [ha], rfl⟩
      · -- 7 f
        have h7 : ¬ (7 < (i + 1)) := fun qq => h7 ((nc_gt (a := i + 1) (b := 7) (by omega) (by omega)).mpr qq)
        refine cw_aload_n (pc := 10) C dX1_countWithin_10 rfl 0 rfl ?_
        refine cw_get (pc := 11) C dX1_countWithin_11 3 (v := .ref (A 1)) rfl rfl 0 rfl (fun _ h => List.mem_cons_of_mem _ (List.mem_append_right _ h)) (by decide) (List.mem_of_getElem? (i := 1) rfl) ?_
        refine cw_iconst (pc := 14) C dX1_countWithin_14 (nI 0) (by decide) ?_
        refine cw_iload_n (pc := 15) C dX1_countWithin_15 rfl 3 rfl ?_
        refine cw_iadd (pc := 16) C dX1_countWithin_16 (z := nI (i + 1)) (nI_0add _) ?_
        refine cw_iald2 (pc := 17) C dX1_countWithin_17 1 1 (wC_g1 Z A) (f := σ 1) rfl (i + 1) rfl (by omega) (by decide) ?_
        refine cw_if_eq (pc := 18) (tgt := 39) C dX1_countWithin_18 (by decide) (fun h18 => ?_) (fun h18 => ?_)
        · -- 18 t
          refine cw_iinc (pc := 39) C dX1_countWithin_39 3 rfl (nI (i + 1 + 1)) (nI_inc _ 1) (by decide) (lv' := [(3, .int (nI (i + 1 + 1))), (0, .ref (A 3)), (1, .int (v)), (2, .int (nI acc))]) rfl ?_
          refine cw_goto (pc := 42) (tgt := 4) C dX1_countWithin_42 (by decide) ?_
          refine cw_lv [1, 2, 3, 0] rfl ?_
          exact ih4 (i + 1) acc (by omega) (by omega) (by omega) (by rw [cntN, ha]; simp_all [withP])
        · -- 18 f
          refine cw_aload_n (pc := 21) C dX1_countWithin_21 rfl 0 rfl ?_
          refine cw_get (pc := 22) C dX1_countWithin_22 3 (v := .ref (A 1)) rfl rfl 0 rfl (fun _ h => List.mem_cons_of_mem _ (List.mem_append_right _ h)) (by decide) (List.mem_of_getElem? (i := 1) rfl) ?_
          refine cw_iconst (pc := 25) C dX1_countWithin_25 (nI 0) (by decide) ?_
          refine cw_iload_n (pc := 26) C dX1_countWithin_26 rfl 3 rfl ?_
          refine cw_iadd (pc := 27) C dX1_countWithin_27 (z := nI (i + 1)) (nI_0add _) ?_
          refine cw_iald2 (pc := 28) C dX1_countWithin_28 1 1 (wC_g1 Z A) (f := σ 1) rfl (i + 1) rfl (by omega) (by decide) ?_
          refine cw_iload_n (pc := 29) C dX1_countWithin_29 rfl 1 rfl ?_
          refine cw_iconst (pc := 30) C dX1_countWithin_30 (-1) (by decide) ?_
          refine cw_ixor (pc := 31) C dX1_countWithin_31 (z := v ^^^ (-1)) rfl ?_
          refine cw_iand (pc := 32) C dX1_countWithin_32 (z := (σ 1 (i + 1)) &&& (v ^^^ (-1))) rfl ?_
          refine cw_if_ne (pc := 33) (tgt := 39) C dX1_countWithin_33 (by decide) (fun h33 => ?_) (fun h33 => ?_)
          · -- 33 t
            refine cw_iinc (pc := 39) C dX1_countWithin_39 3 rfl (nI (i + 1 + 1)) (nI_inc _ 1) (by decide) (lv' := [(3, .int (nI (i + 1 + 1))), (0, .ref (A 3)), (1, .int (v)), (2, .int (nI acc))]) rfl ?_
            refine cw_goto (pc := 42) (tgt := 4) C dX1_countWithin_42 (by decide) ?_
            refine cw_lv [1, 2, 3, 0] rfl ?_
            exact ih4 (i + 1) acc (by omega) (by omega) (by omega) (by rw [cntN, ha]; simp_all [withP])
          · -- 33 f
            refine cw_iinc (pc := 36) C dX1_countWithin_36 2 rfl (nI (acc + 1)) (nI_inc _ 1) (by decide) (lv' := [(2, .int (nI (acc + 1))), (0, .ref (A 3)), (1, .int (v)), (3, .int (nI (i + 1)))]) rfl ?_
            refine cw_iinc (pc := 39) C dX1_countWithin_39 3 rfl (nI (i + 1 + 1)) (nI_inc _ 1) (by decide) (lv' := [(3, .int (nI (i + 1 + 1))), (2, .int (nI (acc + 1))), (0, .ref (A 3)), (1, .int (v))]) rfl ?_
            refine cw_goto (pc := 42) (tgt := 4) C dX1_countWithin_42 (by decide) ?_
            refine cw_lv [2, 3, 1, 0] rfl ?_
            exact ih4 (i + 1) (acc + 1) (by omega) (by omega) (by omega) (by rw [cntN, ha]; simp_all [withP])
  refine cw_lv [2, 3, 1, 0] rfl ?_
  exact L4 8 0 0 (by omega) (by omega) (by omega) rfl
set_option maxHeartbeats 4000000 in
set_option maxRecDepth 100000 in
theorem c_X1_isTaken (l : Launch) (D : va_G) (Z : CZ) (A : Nat → Nat) (σ : St)  (g : Nat) (v : Int32) (hg : g ≤ 7) : CTz l yX1_isTaken wsX1_isTaken 0 0 D Z (wC Z A) σ [.ref (A 3), .int (nI g), .int (v)] (fun z σ' => z = !(allB (fun q9 => !(takenP (σ 1) g v (q9 + 1))) 7) ∧ σ' = σ) := by
  refine CTz.mk (cc := cX1_isTaken) (nL := 4) (own := RX1) rfl (by decide) rfl (Nat.le_of_ble_eq_true rfl) ?_
  intro p0 e0 s0 m0 g0 b0 t0 c0 A0 Q C hret
  refine cw_lv (lv' := [(0, .ref (A 3)), (1, .int (nI g)), (2, .int (v))]) [0, 1, 2] rfl ?_
  refine cw_iconst (pc := 0) C dX1_isTaken_0 (nI 1) (by decide) ?_
  refine cw_istore_n (pc := 1) C dX1_isTaken_1 rfl (by decide) (lv' := [(3, .int (nI 1)), (0, .ref (A 3)), (1, .int (nI g)), (2, .int (v))]) rfl ?_
  have L2 : ∀ (n2 : Nat) (i : Nat) (hi : i ≤ 7) (hm : 7 < i + n2) (ha : allB (fun q9 => !(takenP (σ 1) g v (q9 + 1))) i = true), CW p0 l e0 (rmC 0 0) s0 m0 g0 b0 t0 c0 D A0 4 (wC Z A) Q σ 2 [(0, .ref (A 3)), (1, .int (nI g)), (2, .int (v)), (3, .int (nI (i + 1)))] [] := by
    intro n2
    induction n2 with
    | zero => intro i hi hm ha; exact absurd hm (by omega)
    | succ n2 ih2 =>
      intro i hi hm ha
      refine cw_iload_n (pc := 2) C dX1_isTaken_2 rfl 3 rfl ?_
      refine cw_bipush (pc := 3) C dX1_isTaken_3 (nI 7) (by decide) ?_
      refine cw_icmp_gt (pc := 5) (tgt := 37) C dX1_isTaken_5 (by decide) (fun h5 => ?_) (fun h5 => ?_)
      · -- 5 t
        have h5 : 7 < (i + 1) := (nc_gt (a := i + 1) (b := 7) (by omega) (by omega)).mp h5
        obtain rfl : i = 7 := by omega
        refine cw_iconst (pc := 37) C dX1_isTaken_37 (nI 0) (by decide) ?_
        refine hret false σ _ _ dX1_isTaken_38 ?_
        clear hret
        exact ⟨by rw [ha]; rfl, rfl⟩
      · -- 5 f
        have h5 : ¬ (7 < (i + 1)) := fun qq => h5 ((nc_gt (a := i + 1) (b := 7) (by omega) (by omega)).mpr qq)
        refine cw_iload_n (pc := 8) C dX1_isTaken_8 rfl 3 rfl ?_
        refine cw_iload_n (pc := 9) C dX1_isTaken_9 rfl 1 rfl ?_
        refine cw_icmp_eq (pc := 10) (tgt := 31) C dX1_isTaken_10 (by decide) (fun h10 => ?_) (fun h10 => ?_)
        · -- 10 t
          have h10 : (i + 1) = g := (nc_eq (a := i + 1) (b := g) (by omega) (by omega)).mp h10
          refine cw_iinc (pc := 31) C dX1_isTaken_31 3 rfl (nI (i + 1 + 1)) (nI_inc _ 1) (by decide) (lv' := [(3, .int (nI (i + 1 + 1))), (0, .ref (A 3)), (1, .int (nI g)), (2, .int (v))]) rfl ?_
          refine cw_goto (pc := 34) (tgt := 2) C dX1_isTaken_34 (by decide) ?_
          refine cw_lv [1, 2, 3, 0] rfl ?_
          exact ih2 (i + 1) (by omega) (by omega) (by rw [allB, ha]; simp_all [takenP])
        · -- 10 f
          have h10 : ¬ ((i + 1) = g) := fun qq => h10 ((nc_eq (a := i + 1) (b := g) (by omega) (by omega)).mpr qq)
          refine cw_iload_n (pc := 13) C dX1_isTaken_13 rfl 2 rfl ?_
          refine cw_if_eq (pc := 14) (tgt := 31) C dX1_isTaken_14 (by decide) (fun h14 => ?_) (fun h14 => ?_)
          · -- 14 t
            refine cw_iinc (pc := 31) C dX1_isTaken_31 3 rfl (nI (i + 1 + 1)) (nI_inc _ 1) (by decide) (lv' := [(3, .int (nI (i + 1 + 1))), (0, .ref (A 3)), (1, .int (nI g)), (2, .int (v))]) rfl ?_
            refine cw_goto (pc := 34) (tgt := 2) C dX1_isTaken_34 (by decide) ?_
            refine cw_lv [1, 2, 3, 0] rfl ?_
            exact ih2 (i + 1) (by omega) (by omega) (by rw [allB, ha]; simp_all [takenP])
          · -- 14 f
            refine cw_aload_n (pc := 17) C dX1_isTaken_17 rfl 0 rfl ?_
            refine cw_get (pc := 18) C dX1_isTaken_18 3 (v := .ref (A 1)) rfl rfl 0 rfl (fun _ h => List.mem_cons_of_mem _ (List.mem_append_right _ h)) (by decide) (List.mem_of_getElem? (i := 1) rfl) ?_
            refine cw_iconst (pc := 21) C dX1_isTaken_21 (nI 0) (by decide) ?_
            refine cw_iload_n (pc := 22) C dX1_isTaken_22 rfl 3 rfl ?_
            refine cw_iadd (pc := 23) C dX1_isTaken_23 (z := nI (i + 1)) (nI_0add _) ?_
            refine cw_iald2 (pc := 24) C dX1_isTaken_24 1 1 (wC_g1 Z A) (f := σ 1) rfl (i + 1) rfl (by omega) (by decide) ?_
            refine cw_iload_n (pc := 25) C dX1_isTaken_25 rfl 2 rfl ?_
            refine cw_icmp_ne (pc := 26) (tgt := 31) C dX1_isTaken_26 (by decide) (fun h26 => ?_) (fun h26 => ?_)
            · -- 26 t
              refine cw_iinc (pc := 31) C dX1_isTaken_31 3 rfl (nI (i + 1 + 1)) (nI_inc _ 1) (by decide) (lv' := [(3, .int (nI (i + 1 + 1))), (0, .ref (A 3)), (1, .int (nI g)), (2, .int (v))]) rfl ?_
              refine cw_goto (pc := 34) (tgt := 2) C dX1_isTaken_34 (by decide) ?_
              refine cw_lv [1, 2, 3, 0] rfl ?_
              exact ih2 (i + 1) (by omega) (by omega) (by rw [allB, ha]; simp_all [takenP])
            · -- 26 f
              refine cw_iconst (pc := 29) C dX1_isTaken_29 (nI 1) (by decide) ?_
              refine hret true σ _ _ dX1_isTaken_30 ?_
              clear hret
              exact ⟨by rw [allB_f (p := fun q9 => !(takenP (σ 1) g v (q9 + 1))) (i := i) (by omega) (by simp_all [takenP])]; rfl, rfl⟩
  refine cw_lv [1, 2, 3, 0] rfl ?_
  exact L2 8 0 (by omega) (by omega) rfl
