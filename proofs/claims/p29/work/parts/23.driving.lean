theorem c_X1_comingN (l : Launch) (D : va_G) (Z : CZ) (A : Nat → Nat) (σ : St) (g k : Nat) (hX : setsOK (σ 1)) (hg : g ≤ 7) (hk : k ≤ 7) (hs : simN (σ 1) g k = true) : CTi l yX1_coming wsX1_coming 3 63 D Z (wC Z A) σ [.ref (A 3), .int (nI g), .int (nI k)] (fun r σ' => r = nI (comS (σ 1 g) (σ 1 k)) ∧ σ' = σ) := by
  have h := c_X1_coming l D Z A σ g k hX hg hk
  unfold comN at h
  rw [if_pos hs] at h
  exact h
set_option maxHeartbeats 4000000 in
set_option maxRecDepth 100000 in
theorem c_X0_wanted (l : Launch) (D : va_G) (Z : CZ) (A : Nat → Nat) (σ : St) (i : Nat) (v : Int32) (hi : i ≤ 7) (hIN : σ 1 39 = nI i) : CTi l yX0_wanted wsX0_wanted 2 47 D Z (wC Z A) σ [.ref (A 7), .int (v)] (fun r σ' => r = nI (wntS (σ 1) i v) ∧ σ' = σ) := by
  refine CTi.mk (cc := cX0_wanted) (nL := 6) (own := RX0) rfl (by decide) rfl (Nat.le_of_ble_eq_true rfl) ?_
  intro p0 e0 s0 m0 g0 b0 t0 c0 A0 Q C hret
  refine cw_lv (lv' := [(0, .ref (A 7)), (1, .int (v))]) [0, 1] rfl ?_
  refine cw_aload_n (pc := 0) C dX0_wanted_0 rfl 0 rfl ?_
  refine cw_get (pc := 1) C dX0_wanted_1 7 (v := .ref (A 1)) rfl rfl 0 rfl (fun _ h => List.mem_cons_of_mem _ (List.mem_append_left _ (List.mem_append_right _ h))) (by decide) (List.mem_of_getElem? (i := 1) rfl) ?_
  refine cw_bipush (pc := 4) C dX0_wanted_4 (nI 39) (by decide) ?_
  refine cw_iald2 (pc := 6) C dX0_wanted_6 1 1 (wC_g1 Z A) (f := σ 1) rfl 39 rfl (by decide) (by decide) ?_
  refine cw_top (nI i) hIN ?_
  refine cw_istore_n (pc := 7) C dX0_wanted_7 rfl (by decide) (lv' := [(2, .int (nI i)), (0, .ref (A 7)), (1, .int (v))]) rfl ?_
  refine cw_iload_n (pc := 8) C dX0_wanted_8 rfl 0 rfl ?_
  refine cw_calln (pc := 9) C dX0_wanted_9 (c_X6_isGear l D Z A σ (nI i)) (va_cnB 1 C.1.2.2.2.2 gX0_wanted_X6_isGear_n23 rfl rfl rfl C.2.2.1.2.2.2.2.1 (C.1.2.2.2.2 _ (List.mem_of_getElem? (i := 4) rfl)) (by decide +kernel) ⟨Nat.le_of_ble_eq_true rfl, Nat.le_of_ble_eq_true rfl⟩) (List.mem_of_getElem? (i := 3) rfl) rfl rfl (Nat.le_of_ble_eq_true rfl) (cw_purez (b := gearB (nI i)) (fun _ _ h => h) ?_)
  refine cw_if_ne (pc := 12) (tgt := 25) C dX0_wanted_12 (by decide) (fun h12 => ?_) (fun h12 => ?_)
  · -- 12 t
    have h12 := bI_nz h12
    have h9 : ¬ i = 0 := gear_ne h12
    refine cw_iconst (pc := 25) C dX0_wanted_25 (nI 5) (by decide) ?_
    refine cw_aload_n (pc := 26) C dX0_wanted_26 rfl 1 rfl ?_
    refine cw_get (pc := 27) C dX0_wanted_27 7 (v := .ref (A 1)) rfl rfl 0 rfl (fun _ h => List.mem_cons_of_mem _ (List.mem_append_left _ (List.mem_append_right _ h))) (by decide) (List.mem_of_getElem? (i := 1) rfl) ?_
    refine cw_bipush (pc := 30) C dX0_wanted_30 (nI 47) (by decide) ?_
    refine cw_iald2 (pc := 32) C dX0_wanted_32 1 1 (wC_g1 Z A) (f := σ 1) rfl 47 rfl (by decide) (by decide) ?_
    refine cw_iconst (pc := 33) C dX0_wanted_33 (nI 3) (by decide) ?_
    refine cw_isub (pc := 34) C dX0_wanted_34 (z := (σ 1 47) - (nI 3)) rfl ?_
    refine cw_imul (pc := 35) C dX0_wanted_35 (z := (nI 5) * ((σ 1 47) - (nI 3))) rfl ?_
    refine cw_bipush (pc := 36) C dX0_wanted_36 (nI 10) (by decide) ?_
    refine cw_aload_n (pc := 38) C dX0_wanted_38 rfl 1 rfl ?_
    refine cw_get (pc := 39) C dX0_wanted_39 7 (v := .ref (A 1)) rfl rfl 0 rfl (fun _ h => List.mem_cons_of_mem _ (List.mem_append_left _ (List.mem_append_right _ h))) (by decide) (List.mem_of_getElem? (i := 1) rfl) ?_
    refine cw_bipush (pc := 42) C dX0_wanted_42 (nI 48) (by decide) ?_
    refine cw_iald2 (pc := 44) C dX0_wanted_44 1 1 (wC_g1 Z A) (f := σ 1) rfl 48 rfl (by decide) (by decide) ?_
    refine cw_imul (pc := 45) C dX0_wanted_45 (z := (nI 10) * (σ 1 48)) rfl ?_
    refine cw_iadd (pc := 46) C dX0_wanted_46 (z := addS (σ 1)) rfl ?_
    refine cw_istore_n (pc := 47) C dX0_wanted_47 rfl (by decide) (lv' := [(3, .int (addS (σ 1))), (2, .int (nI i)), (0, .ref (A 7)), (1, .int (v))]) rfl ?_
    refine cw_iload_n (pc := 48) C dX0_wanted_48 rfl 3 rfl ?_
    refine cw_aload_n (pc := 49) C dX0_wanted_49 rfl 2 rfl ?_
    refine cw_get (pc := 50) C dX0_wanted_50 7 (v := .ref (A 1)) rfl rfl 0 rfl (fun _ h => List.mem_cons_of_mem _ (List.mem_append_left _ (List.mem_append_right _ h))) (by decide) (List.mem_of_getElem? (i := 1) rfl) ?_
    refine cw_bipush (pc := 53) C dX0_wanted_53 (nI 8) (by decide) ?_
    refine cw_iload_n (pc := 55) C dX0_wanted_55 rfl 1 rfl ?_
    refine cw_iadd (pc := 56) C dX0_wanted_56 (z := nI (8 + i)) (nI_add _ _) ?_
    refine cw_iald2 (pc := 57) C dX0_wanted_57 1 1 (wC_g1 Z A) (f := σ 1) rfl (8 + i) rfl (by omega) (by decide) ?_
    refine cw_iload_n (pc := 58) C dX0_wanted_58 rfl 0 rfl ?_
    refine cw_iadd (pc := 59) C dX0_wanted_59 (z := (σ 1 (8 + i)) + (addS (σ 1))) rfl ?_
    refine cw_icmp_lt (pc := 60) (tgt := 75) C dX0_wanted_60 (by decide) (fun h60 => ?_) (fun h60 => ?_)
    · -- 60 t
      refine cw_iconst (pc := 75) C dX0_wanted_75 (nI 0) (by decide) ?_
      refine cw_istore (pc := 76) C dX0_wanted_76 (by decide) (lv' := [(4, .int (nI 0)), (3, .int (addS (σ 1))), (2, .int (nI i)), (0, .ref (A 7)), (1, .int (v))]) rfl ?_
      refine cw_iload (pc := 78) C dX0_wanted_78 0 rfl ?_
      have hl := nxUp_le (fitN (σ 1)) 7 i
      refine cw_if_eq (pc := 80) (tgt := 86) C dX0_wanted_80 (by decide) (fun _ => ?_) (fun h => False.elim (by revert h; decide))
      refine cw_iload_n (pc := 86) C dX0_wanted_86 rfl 4 rfl ?_
      refine cw_aload_n (pc := 87) C dX0_wanted_87 rfl 3 rfl ?_
      refine cw_get (pc := 88) C dX0_wanted_88 7 (v := .ref (A 1)) rfl rfl 0 rfl (fun _ h => List.mem_cons_of_mem _ (List.mem_append_left _ (List.mem_append_right _ h))) (by decide) (List.mem_of_getElem? (i := 1) rfl) ?_
      refine cw_bipush (pc := 91) C dX0_wanted_91 (nI 16) (by decide) ?_
      refine cw_iload_n (pc := 93) C dX0_wanted_93 rfl 2 rfl ?_
      refine cw_iadd (pc := 94) C dX0_wanted_94 (z := nI (16 + i)) (nI_add _ _) ?_
      refine cw_iald2 (pc := 95) C dX0_wanted_95 1 1 (wC_g1 Z A) (f := σ 1) rfl (16 + i) rfl (by omega) (by decide) ?_
      refine cw_iload_n (pc := 96) C dX0_wanted_96 rfl 1 rfl ?_
      refine cw_iadd (pc := 97) C dX0_wanted_97 (z := (σ 1 (16 + i)) + (addS (σ 1))) rfl ?_
      refine cw_icmp_ge (pc := 98) (tgt := 113) C dX0_wanted_98 (by decide) (fun h98 => ?_) (fun h98 => ?_)
      · -- 98 t
        refine cw_iconst (pc := 113) C dX0_wanted_113 (nI 0) (by decide) ?_
        refine cw_istore (pc := 114) C dX0_wanted_114 (by decide) (lv' := [(5, .int (nI 0)), (4, .int (nI 0)), (3, .int (addS (σ 1))), (2, .int (nI i)), (0, .ref (A 7)), (1, .int (v))]) rfl ?_
        refine cw_iload (pc := 116) C dX0_wanted_116 0 rfl ?_
        have hl2 := nxDn_le (fitN (σ 1)) 7 i
        refine cw_if_eq (pc := 118) (tgt := 126) C dX0_wanted_118 (by decide) (fun _ => ?_) (fun h => False.elim (by revert h; decide))
        refine cw_iload_n (pc := 126) C dX0_wanted_126 rfl 3 rfl ?_
        refine hret (nI i) σ _ _ dX0_wanted_127 ?_
        clear hret
        refine ⟨?_, rfl⟩
        rw [wntS, if_neg h9]
        rw [if_neg (show ¬ ¬ abvS (σ 1) i v = 0 by rw [abvS, if_pos h60]; exact fun q => q rfl)]
        rw [if_neg (show ¬ ¬ blwS (σ 1) i v = 0 by rw [blwS, if_pos h98]; exact fun q => q rfl)]
      · -- 98 f
        refine cw_aload_n (pc := 101) C dX0_wanted_101 rfl 3 rfl ?_
        refine cw_get (pc := 102) C dX0_wanted_102 7 (v := .ref (A 3)) rfl rfl 1 rfl (fun _ h => List.mem_cons_of_mem _ (List.mem_append_left _ (List.mem_append_right _ h))) (by decide) (List.mem_of_getElem? (i := 2) rfl) ?_
        refine cw_iload_n (pc := 105) C dX0_wanted_105 rfl 2 rfl ?_
        refine cw_iconst (pc := 106) C dX0_wanted_106 (-1) (by decide) ?_
        refine cw_calli (pc := 107) C dX0_wanted_107 (c_X1_nextDn l D Z A σ i (by omega)) (cwV 2 C.1.2.2.2.2 gX0_wanted_X1_nextFit rfl rfl rfl (by decide +kernel) ⟨Nat.le_of_ble_eq_true rfl, Nat.le_of_ble_eq_true rfl⟩) 3 rfl rfl rfl rfl (Nat.le_of_ble_eq_true rfl) (cw_pure (v := nI (nxDn (fitN (σ 1)) 7 i)) (fun _ _ h => h) ?_)
        refine cw_goto (pc := 110) (tgt := 114) C dX0_wanted_110 (by decide) ?_
        refine cw_istore (pc := 114) C dX0_wanted_114 (by decide) (lv' := [(5, .int (nI (nxDn (fitN (σ 1)) 7 i))), (4, .int (nI 0)), (3, .int (addS (σ 1))), (2, .int (nI i)), (0, .ref (A 7)), (1, .int (v))]) rfl ?_
        refine cw_iload (pc := 116) C dX0_wanted_116 0 rfl ?_
        have hl2 := nxDn_le (fitN (σ 1)) 7 i
        refine cw_if_eq (pc := 118) (tgt := 126) C dX0_wanted_118 (by decide) (fun h118 => ?_) (fun h118 => ?_)
        · -- 118 t
          have h118 : (nxDn (fitN (σ 1)) 7 i) = 0 := (nc_eq (a := nxDn (fitN (σ 1)) 7 i) (b := 0) (by omega) (by omega)).mp h118
          refine cw_iload_n (pc := 126) C dX0_wanted_126 rfl 3 rfl ?_
          refine hret (nI i) σ _ _ dX0_wanted_127 ?_
          clear hret
          refine ⟨?_, rfl⟩
          rw [wntS, if_neg h9]
          rw [if_neg (show ¬ ¬ abvS (σ 1) i v = 0 by rw [abvS, if_pos h60]; exact fun q => q rfl)]
          rw [if_neg (show ¬ ¬ blwS (σ 1) i v = 0 by rw [blwS, if_neg h98]; exact fun q => q h118)]
        · -- 118 f
          have h118 : ¬ ((nxDn (fitN (σ 1)) 7 i) = 0) := fun qq => h118 ((nc_eq (a := nxDn (fitN (σ 1)) 7 i) (b := 0) (by omega) (by omega)).mpr qq)
          refine cw_iload (pc := 121) C dX0_wanted_121 0 rfl ?_
          refine cw_goto (pc := 123) (tgt := 127) C dX0_wanted_123 (by decide) ?_
          refine hret (nI (nxDn (fitN (σ 1)) 7 i)) σ _ _ dX0_wanted_127 ?_
          clear hret
          refine ⟨?_, rfl⟩
          rw [wntS, if_neg h9]
          rw [if_neg (show ¬ ¬ abvS (σ 1) i v = 0 by rw [abvS, if_pos h60]; exact fun q => q rfl)]
          rw [if_pos (show ¬ blwS (σ 1) i v = 0 by rw [blwS, if_neg h98]; exact h118), blwS, if_neg h98]
    · -- 60 f
      refine cw_aload_n (pc := 63) C dX0_wanted_63 rfl 2 rfl ?_
      refine cw_get (pc := 64) C dX0_wanted_64 7 (v := .ref (A 3)) rfl rfl 1 rfl (fun _ h => List.mem_cons_of_mem _ (List.mem_append_left _ (List.mem_append_right _ h))) (by decide) (List.mem_of_getElem? (i := 2) rfl) ?_
      refine cw_iload_n (pc := 67) C dX0_wanted_67 rfl 1 rfl ?_
      refine cw_iconst (pc := 68) C dX0_wanted_68 (nI 1) (by decide) ?_
      refine cw_calli (pc := 69) C dX0_wanted_69 (c_X1_nextUp l D Z A σ i (by omega)) (cwV 2 C.1.2.2.2.2 gX0_wanted_X1_nextFit rfl rfl rfl (by decide +kernel) ⟨Nat.le_of_ble_eq_true rfl, Nat.le_of_ble_eq_true rfl⟩) 3 rfl rfl rfl rfl (Nat.le_of_ble_eq_true rfl) (cw_pure (v := nI (nxUp (fitN (σ 1)) 7 i)) (fun _ _ h => h) ?_)
      refine cw_goto (pc := 72) (tgt := 76) C dX0_wanted_72 (by decide) ?_
      refine cw_istore (pc := 76) C dX0_wanted_76 (by decide) (lv' := [(4, .int (nI (nxUp (fitN (σ 1)) 7 i))), (3, .int (addS (σ 1))), (2, .int (nI i)), (0, .ref (A 7)), (1, .int (v))]) rfl ?_
      refine cw_iload (pc := 78) C dX0_wanted_78 0 rfl ?_
      have hl := nxUp_le (fitN (σ 1)) 7 i
      refine cw_if_eq (pc := 80) (tgt := 86) C dX0_wanted_80 (by decide) (fun h80 => ?_) (fun h80 => ?_)
      · -- 80 t
        have h80 : (nxUp (fitN (σ 1)) 7 i) = 0 := (nc_eq (a := nxUp (fitN (σ 1)) 7 i) (b := 0) (by omega) (by omega)).mp h80
        refine cw_iload_n (pc := 86) C dX0_wanted_86 rfl 4 rfl ?_
        refine cw_aload_n (pc := 87) C dX0_wanted_87 rfl 3 rfl ?_
        refine cw_get (pc := 88) C dX0_wanted_88 7 (v := .ref (A 1)) rfl rfl 0 rfl (fun _ h => List.mem_cons_of_mem _ (List.mem_append_left _ (List.mem_append_right _ h))) (by decide) (List.mem_of_getElem? (i := 1) rfl) ?_
        refine cw_bipush (pc := 91) C dX0_wanted_91 (nI 16) (by decide) ?_
        refine cw_iload_n (pc := 93) C dX0_wanted_93 rfl 2 rfl ?_
        refine cw_iadd (pc := 94) C dX0_wanted_94 (z := nI (16 + i)) (nI_add _ _) ?_
        refine cw_iald2 (pc := 95) C dX0_wanted_95 1 1 (wC_g1 Z A) (f := σ 1) rfl (16 + i) rfl (by omega) (by decide) ?_
        refine cw_iload_n (pc := 96) C dX0_wanted_96 rfl 1 rfl ?_
        refine cw_iadd (pc := 97) C dX0_wanted_97 (z := (σ 1 (16 + i)) + (addS (σ 1))) rfl ?_
        refine cw_icmp_ge (pc := 98) (tgt := 113) C dX0_wanted_98 (by decide) (fun h98 => ?_) (fun h98 => ?_)
        · -- 98 t
          refine cw_iconst (pc := 113) C dX0_wanted_113 (nI 0) (by decide) ?_
          refine cw_istore (pc := 114) C dX0_wanted_114 (by decide) (lv' := [(5, .int (nI 0)), (4, .int (nI (nxUp (fitN (σ 1)) 7 i))), (3, .int (addS (σ 1))), (2, .int (nI i)), (0, .ref (A 7)), (1, .int (v))]) rfl ?_
          refine cw_iload (pc := 116) C dX0_wanted_116 0 rfl ?_
          have hl2 := nxDn_le (fitN (σ 1)) 7 i
          refine cw_if_eq (pc := 118) (tgt := 126) C dX0_wanted_118 (by decide) (fun _ => ?_) (fun h => False.elim (by revert h; decide))
          refine cw_iload_n (pc := 126) C dX0_wanted_126 rfl 3 rfl ?_
          refine hret (nI i) σ _ _ dX0_wanted_127 ?_
          clear hret
          refine ⟨?_, rfl⟩
          rw [wntS, if_neg h9]
          rw [if_neg (show ¬ ¬ abvS (σ 1) i v = 0 by rw [abvS, if_neg h60]; exact fun q => q h80)]
          rw [if_neg (show ¬ ¬ blwS (σ 1) i v = 0 by rw [blwS, if_pos h98]; exact fun q => q rfl)]
        · -- 98 f
          refine cw_aload_n (pc := 101) C dX0_wanted_101 rfl 3 rfl ?_
          refine cw_get (pc := 102) C dX0_wanted_102 7 (v := .ref (A 3)) rfl rfl 1 rfl (fun _ h => List.mem_cons_of_mem _ (List.mem_append_left _ (List.mem_append_right _ h))) (by decide) (List.mem_of_getElem? (i := 2) rfl) ?_
          refine cw_iload_n (pc := 105) C dX0_wanted_105 rfl 2 rfl ?_
          refine cw_iconst (pc := 106) C dX0_wanted_106 (-1) (by decide) ?_
          refine cw_calli (pc := 107) C dX0_wanted_107 (c_X1_nextDn l D Z A σ i (by omega)) (cwV 2 C.1.2.2.2.2 gX0_wanted_X1_nextFit rfl rfl rfl (by decide +kernel) ⟨Nat.le_of_ble_eq_true rfl, Nat.le_of_ble_eq_true rfl⟩) 3 rfl rfl rfl rfl (Nat.le_of_ble_eq_true rfl) (cw_pure (v := nI (nxDn (fitN (σ 1)) 7 i)) (fun _ _ h => h) ?_)
          refine cw_goto (pc := 110) (tgt := 114) C dX0_wanted_110 (by decide) ?_
          refine cw_istore (pc := 114) C dX0_wanted_114 (by decide) (lv' := [(5, .int (nI (nxDn (fitN (σ 1)) 7 i))), (4, .int (nI (nxUp (fitN (σ 1)) 7 i))), (3, .int (addS (σ 1))), (2, .int (nI i)), (0, .ref (A 7)), (1, .int (v))]) rfl ?_
          refine cw_iload (pc := 116) C dX0_wanted_116 0 rfl ?_
          have hl2 := nxDn_le (fitN (σ 1)) 7 i
          refine cw_if_eq (pc := 118) (tgt := 126) C dX0_wanted_118 (by decide) (fun h118 => ?_) (fun h118 => ?_)
          · -- 118 t
            have h118 : (nxDn (fitN (σ 1)) 7 i) = 0 := (nc_eq (a := nxDn (fitN (σ 1)) 7 i) (b := 0) (by omega) (by omega)).mp h118
            refine cw_iload_n (pc := 126) C dX0_wanted_126 rfl 3 rfl ?_
            refine hret (nI i) σ _ _ dX0_wanted_127 ?_
            clear hret
            refine ⟨?_, rfl⟩
            rw [wntS, if_neg h9]
            rw [if_neg (show ¬ ¬ abvS (σ 1) i v = 0 by rw [abvS, if_neg h60]; exact fun q => q h80)]
            rw [if_neg (show ¬ ¬ blwS (σ 1) i v = 0 by rw [blwS, if_neg h98]; exact fun q => q h118)]
          · -- 118 f
            have h118 : ¬ ((nxDn (fitN (σ 1)) 7 i) = 0) := fun qq => h118 ((nc_eq (a := nxDn (fitN (σ 1)) 7 i) (b := 0) (by omega) (by omega)).mpr qq)
            refine cw_iload (pc := 121) C dX0_wanted_121 0 rfl ?_
            refine cw_goto (pc := 123) (tgt := 127) C dX0_wanted_123 (by decide) ?_
            refine hret (nI (nxDn (fitN (σ 1)) 7 i)) σ _ _ dX0_wanted_127 ?_
            clear hret
            refine ⟨?_, rfl⟩
            rw [wntS, if_neg h9]
            rw [if_neg (show ¬ ¬ abvS (σ 1) i v = 0 by rw [abvS, if_neg h60]; exact fun q => q h80)]
            rw [if_pos (show ¬ blwS (σ 1) i v = 0 by rw [blwS, if_neg h98]; exact h118), blwS, if_neg h98]
      · -- 80 f
        have h80 : ¬ ((nxUp (fitN (σ 1)) 7 i) = 0) := fun qq => h80 ((nc_eq (a := nxUp (fitN (σ 1)) 7 i) (b := 0) (by omega) (by omega)).mpr qq)
        refine cw_iload (pc := 83) C dX0_wanted_83 0 rfl ?_
        refine hret (nI (nxUp (fitN (σ 1)) 7 i)) σ _ _ dX0_wanted_85 ?_
        clear hret
        refine ⟨?_, rfl⟩
        rw [wntS, if_neg h9]
        rw [if_pos (show ¬ abvS (σ 1) i v = 0 by rw [abvS, if_neg h60]; exact h80), abvS, if_neg h60]
  · -- 12 f
    have h12 := bI_z h12
    have h9 : i = 0 := gear_z hi h12
    refine cw_aload_n (pc := 15) C dX0_wanted_15 rfl 1 rfl ?_
    refine cw_get (pc := 16) C dX0_wanted_16 7 (v := .ref (A 3)) rfl rfl 1 rfl (fun _ h => List.mem_cons_of_mem _ (List.mem_append_left _ (List.mem_append_right _ h))) (by decide) (List.mem_of_getElem? (i := 2) rfl) ?_
    refine cw_iconst (pc := 19) C dX0_wanted_19 (nI 0) (by decide) ?_
    refine cw_iconst (pc := 20) C dX0_wanted_20 (nI 1) (by decide) ?_
    refine cw_calli (pc := 21) C dX0_wanted_21 (c_X1_nextUp l D Z A σ 0 (by omega)) (cwV 2 C.1.2.2.2.2 gX0_wanted_X1_nextFit rfl rfl rfl (by decide +kernel) ⟨Nat.le_of_ble_eq_true rfl, Nat.le_of_ble_eq_true rfl⟩) 3 rfl rfl rfl rfl (Nat.le_of_ble_eq_true rfl) (cw_pure (v := nI (nxUp (fitN (σ 1)) 7 0)) (fun _ _ h => h) ?_)
    refine hret (nI (nxUp (fitN (σ 1)) 7 0)) σ _ _ dX0_wanted_24 ?_
    clear hret
    exact ⟨by rw [wntS, if_pos h9], rfl⟩
set_option maxHeartbeats 4000000 in
set_option maxRecDepth 100000 in
theorem c_X0_noteTurn (l : Launch) (D : va_G) (Z : CZ) (A : Nat → Nat) (σ : St) (i : Nat) (f : Nat) (hi : i ≤ 7) (hf : f ≤ 7) (hIN : σ 1 39 = nI i) : CTv l yX0_noteTurn wsX0_noteTurn 0 0 D Z (wC Z A) σ [.ref (A 7), .int (nI f)] (fun σ' => σ' = up2 σ 1 (noteT (σ 1) i f)) := by
  refine CTv.mk (cc := cX0_noteTurn) (nL := 2) (own := RX0) rfl (by decide) rfl (Nat.le_of_ble_eq_true rfl) ?_
  intro p0 e0 s0 m0 g0 b0 t0 c0 A0 Q C hret
  refine cw_lv (lv' := [(0, .ref (A 7)), (1, .int (nI f))]) [0, 1] rfl ?_
  refine cw_aload_n (pc := 0) C dX0_noteTurn_0 rfl 0 rfl ?_
  refine cw_get (pc := 1) C dX0_noteTurn_1 7 (v := .ref (A 1)) rfl rfl 0 rfl (fun _ h => List.mem_cons_of_mem _ (List.mem_append_right _ h)) (by decide) (List.mem_of_getElem? (i := 1) rfl) ?_
  refine cw_bipush (pc := 4) C dX0_noteTurn_4 (nI 39) (by decide) ?_
  refine cw_iald2 (pc := 6) C dX0_noteTurn_6 1 1 (wC_g1 Z A) (f := σ 1) rfl 39 rfl (by decide) (by decide) ?_
  refine cw_top (nI i) hIN ?_
  refine cw_iload_n (pc := 7) C dX0_noteTurn_7 rfl 1 rfl ?_
  refine cw_icmp_le (pc := 8) (tgt := 28) C dX0_noteTurn_8 (by decide) (fun h8 => ?_) (fun h8 => ?_)
  · -- 8 t
    have h8 : i ≤ f := (nc_le (a := i) (b := f) (by omega) (by omega)).mp h8
    refine cw_aload_n (pc := 28) C dX0_noteTurn_28 rfl 0 rfl ?_
    refine cw_get (pc := 29) C dX0_noteTurn_29 7 (v := .ref (A 1)) rfl rfl 0 rfl (fun _ h => List.mem_cons_of_mem _ (List.mem_append_right _ h)) (by decide) (List.mem_of_getElem? (i := 1) rfl) ?_
    refine cw_bipush (pc := 32) C dX0_noteTurn_32 (nI 39) (by decide) ?_
    refine cw_iald2 (pc := 34) C dX0_noteTurn_34 1 1 (wC_g1 Z A) (f := σ 1) rfl 39 rfl (by decide) (by decide) ?_
    refine cw_top (nI i) hIN ?_
    refine cw_iload_n (pc := 35) C dX0_noteTurn_35 rfl 1 rfl ?_
    refine cw_icmp_ge (pc := 36) (tgt := 89) C dX0_noteTurn_36 (by decide) (fun h36 => ?_) (fun h36 => ?_)
    · -- 36 t
      have h36 : f ≤ i := (nc_ge (a := i) (b := f) (by omega) (by omega)).mp h36
      refine hret σ _ _ dX0_noteTurn_89 ?_
      clear hret
      refine (up2_self σ 1).symm.trans (congrArg (up2 σ 1) ?_)
      rw [noteT, if_neg (by omega), if_neg (by omega)]
    · -- 36 f
      have h36 : ¬ (f ≤ i) := fun qq => h36 ((nc_ge (a := i) (b := f) (by omega) (by omega)).mpr qq)
      refine cw_aload_n (pc := 39) C dX0_noteTurn_39 rfl 0 rfl ?_
      refine cw_get (pc := 40) C dX0_noteTurn_40 7 (v := .ref (A 1)) rfl rfl 0 rfl (fun _ h => List.mem_cons_of_mem _ (List.mem_append_right _ h)) (by decide) (List.mem_of_getElem? (i := 1) rfl) ?_
      refine cw_bipush (pc := 43) C dX0_noteTurn_43 (nI 42) (by decide) ?_
      refine cw_iald2 (pc := 45) C dX0_noteTurn_45 1 1 (wC_g1 Z A) (f := σ 1) rfl 42 rfl (by decide) (by decide) ?_
      refine cw_iconst (pc := 46) C dX0_noteTurn_46 (-1) (by decide) ?_
      refine cw_icmp_eq (pc := 47) (tgt := 89) C dX0_noteTurn_47 (by decide) (fun h47 => ?_) (fun h47 => ?_)
      · -- 47 t
        refine hret σ _ _ dX0_noteTurn_89 ?_
        clear hret
        refine (up2_self σ 1).symm.trans (congrArg (up2 σ 1) ?_)
        rw [noteT, if_neg (by omega), if_pos (by omega), noteS, if_neg (by decide), if_neg (fun q => q.1 h47)]
      · -- 47 f
        refine cw_aload_n (pc := 50) C dX0_noteTurn_50 rfl 0 rfl ?_
        refine cw_get (pc := 51) C dX0_noteTurn_51 7 (v := .ref (A 1)) rfl rfl 0 rfl (fun _ h => List.mem_cons_of_mem _ (List.mem_append_right _ h)) (by decide) (List.mem_of_getElem? (i := 1) rfl) ?_
        refine cw_bipush (pc := 54) C dX0_noteTurn_54 (nI 40) (by decide) ?_
        refine cw_iald2 (pc := 56) C dX0_noteTurn_56 1 1 (wC_g1 Z A) (f := σ 1) rfl 40 rfl (by decide) (by decide) ?_
        refine cw_aload_n (pc := 57) C dX0_noteTurn_57 rfl 0 rfl ?_
        refine cw_get (pc := 58) C dX0_noteTurn_58 7 (v := .ref (A 1)) rfl rfl 0 rfl (fun _ h => List.mem_cons_of_mem _ (List.mem_append_right _ h)) (by decide) (List.mem_of_getElem? (i := 1) rfl) ?_
        refine cw_bipush (pc := 61) C dX0_noteTurn_61 (nI 42) (by decide) ?_
        refine cw_iald2 (pc := 63) C dX0_noteTurn_63 1 1 (wC_g1 Z A) (f := σ 1) rfl 42 rfl (by decide) (by decide) ?_
        refine cw_isub (pc := 64) C dX0_noteTurn_64 (z := (σ 1 40) - (σ 1 42)) rfl ?_
        refine cw_iconst (pc := 65) C dX0_noteTurn_65 (nI 5) (by decide) ?_
        refine cw_icmp_gt (pc := 66) (tgt := 89) C dX0_noteTurn_66 (by decide) (fun h66 => ?_) (fun h66 => ?_)
        · -- 66 t
          refine hret σ _ _ dX0_noteTurn_89 ?_
          clear hret
          refine (up2_self σ 1).symm.trans (congrArg (up2 σ 1) ?_)
          rw [noteT, if_neg (by omega), if_pos (by omega), noteS, if_neg (by decide), if_neg (fun q => q.2 h66)]
        · -- 66 f
          refine cw_aload_n (pc := 69) C dX0_noteTurn_69 rfl 0 rfl ?_
          refine cw_get (pc := 70) C dX0_noteTurn_70 7 (v := .ref (A 1)) rfl rfl 0 rfl (fun _ h => List.mem_cons_of_mem _ (List.mem_append_right _ h)) (by decide) (List.mem_of_getElem? (i := 1) rfl) ?_
          refine cw_bipush (pc := 73) C dX0_noteTurn_73 (nI 46) (by decide) ?_
          refine cw_dup2 (pc := 75) C dX0_noteTurn_75 rfl rfl ?_
          refine cw_iald2 (pc := 76) C dX0_noteTurn_76 1 1 (wC_g1 Z A) (f := σ 1) rfl 46 rfl (by decide) (by decide) ?_
          refine cw_iconst (pc := 77) C dX0_noteTurn_77 (nI 1) (by decide) ?_
          refine cw_iadd (pc := 78) C dX0_noteTurn_78 (z := (σ 1 46) + (nI 1)) rfl ?_
          refine cw_iast2 (pc := 79) C dX0_noteTurn_79 1 1 (wC_g1 Z A) (wC_s1 Z A) (f := σ 1) rfl 46 rfl (by decide) (by decide) (up2 σ 1 (upd (σ 1) 46 ((σ 1 46) + (nI 1)))) rfl ?_
          refine cw_aload_n (pc := 80) C dX0_noteTurn_80 rfl 0 rfl ?_
          refine cw_get (pc := 81) C dX0_noteTurn_81 7 (v := .ref (A 1)) rfl rfl 0 rfl (fun _ h => List.mem_cons_of_mem _ (List.mem_append_right _ h)) (by decide) (List.mem_of_getElem? (i := 1) rfl) ?_
          refine cw_bipush (pc := 84) C dX0_noteTurn_84 (nI 41) (by decide) ?_
          refine cw_bipush (pc := 86) C dX0_noteTurn_86 (nI 10) (by decide) ?_
          refine cw_iast2 (pc := 88) C dX0_noteTurn_88 1 1 (wC_g1 Z A) (wC_s1 Z A) (f := upd (σ 1) 46 ((σ 1 46) + (nI 1))) (up2_eq _ _ _) 41 rfl (by decide) (by decide) (up2 σ 1 (upd (upd (σ 1) 46 ((σ 1 46) + (nI 1))) 41 (nI 10))) (up2_up2 _ 1 _ _) ?_
          refine hret (up2 σ 1 (upd (upd (σ 1) 46 ((σ 1 46) + (nI 1))) 41 (nI 10))) _ _ dX0_noteTurn_89 ?_
          clear hret
          exact congrArg (up2 σ 1) (by rw [noteT, if_neg (by omega), if_pos (by omega), noteS, if_neg (by decide), if_pos ⟨h47, h66⟩])
  · -- 8 f
    have h8 : ¬ (i ≤ f) := fun qq => h8 ((nc_le (a := i) (b := f) (by omega) (by omega)).mpr qq)
    refine cw_aload_n (pc := 11) C dX0_noteTurn_11 rfl 0 rfl ?_
    refine cw_get (pc := 12) C dX0_noteTurn_12 7 (v := .ref (A 1)) rfl rfl 0 rfl (fun _ h => List.mem_cons_of_mem _ (List.mem_append_right _ h)) (by decide) (List.mem_of_getElem? (i := 1) rfl) ?_
    refine cw_bipush (pc := 15) C dX0_noteTurn_15 (nI 42) (by decide) ?_
    refine cw_aload_n (pc := 17) C dX0_noteTurn_17 rfl 0 rfl ?_
    refine cw_get (pc := 18) C dX0_noteTurn_18 7 (v := .ref (A 1)) rfl rfl 0 rfl (fun _ h => List.mem_cons_of_mem _ (List.mem_append_right _ h)) (by decide) (List.mem_of_getElem? (i := 1) rfl) ?_
    refine cw_bipush (pc := 21) C dX0_noteTurn_21 (nI 40) (by decide) ?_
    refine cw_iald2 (pc := 23) C dX0_noteTurn_23 1 1 (wC_g1 Z A) (f := σ 1) rfl 40 rfl (by decide) (by decide) ?_
    refine cw_iast2 (pc := 24) C dX0_noteTurn_24 1 1 (wC_g1 Z A) (wC_s1 Z A) (f := σ 1) rfl 42 rfl (by decide) (by decide) (up2 σ 1 (upd (σ 1) 42 (σ 1 40))) rfl ?_
    refine cw_goto (pc := 25) (tgt := 89) C dX0_noteTurn_25 (by decide) ?_
    refine hret (up2 σ 1 (upd (σ 1) 42 (σ 1 40))) _ _ dX0_noteTurn_89 ?_
    clear hret
    exact congrArg (up2 σ 1) (by rw [noteT, if_pos (by omega), noteS, if_pos rfl])
set_option maxHeartbeats 4000000 in
set_option maxRecDepth 100000 in
theorem c_X0_ticks (l : Launch) (D : va_G) (Z : CZ) (A : Nat → Nat) (σ : St)  (v : Int32) (m1 : Nat) (hX : rowOK (σ 1)) (hm1 : m1 ≤ 60) : CTi l yX0_ticks wsX0_ticks 4 91 D Z (wC Z A) σ [.ref (A 7), .int (v), .int (nI m1)] (fun r σ' => r = nI (inN (tksS (σ 1) v m1)) ∧ ∃ aw pa : Nat → Int32, σ' = up2 (up2 (up2 σ 1 (tksS (σ 1) v m1)) 4 aw) 5 pa) := by
  refine CTi.mk (cc := cX0_ticks) (nL := 9) (own := RX0) rfl (by decide) rfl (Nat.le_of_ble_eq_true rfl) ?_
  intro p0 e0 s0 m0 g0 b0 t0 c0 A0 Q C hret
  refine cw_lv (lv' := [(0, .ref (A 7)), (1, .int (v)), (2, .int (nI m1))]) [0, 1, 2] rfl ?_
  refine cw_iconst (pc := 0) C dX0_ticks_0 (nI 0) (by decide) ?_
  refine cw_istore_n (pc := 1) C dX0_ticks_1 rfl (by decide) (lv' := [(3, .int (nI 0)), (0, .ref (A 7)), (1, .int (v)), (2, .int (nI m1))]) rfl ?_
  have L2 : ∀ (n2 : Nat) (k : Nat) (aw : Nat → Int32) (pa : Nat → Int32) (hk : k ≤ m1) (hm : m1 < k + n2), CW p0 l e0 (rmC 4 91) s0 m0 g0 b0 t0 c0 D A0 9 (wC Z A) Q (up2 (up2 (up2 σ 1 (tksS (σ 1) v k)) 4 aw) 5 pa) 2 [(0, .ref (A 7)), (1, .int (v)), (2, .int (nI m1)), (3, .int (nI k))] [] := by
    intro n2
    induction n2 with
    | zero => intro k aw pa hk hm; exact absurd hm (by omega)
    | succ n2 ih2 =>
      intro k aw pa hk hm
      refine cw_iload_n (pc := 2) C dX0_ticks_2 rfl 3 rfl ?_
      refine cw_iload_n (pc := 3) C dX0_ticks_3 rfl 2 rfl ?_
      refine cw_icmp_ge (pc := 4) (tgt := 179) C dX0_ticks_4 (by decide) (fun h4 => ?_) (fun h4 => ?_)
      · -- 4 t
        have h4 : m1 ≤ k := (nc_ge (a := k) (b := m1) (by omega) (by omega)).mp h4
        have hk2 : k = m1 := by omega
        refine cw_aload_n (pc := 179) C dX0_ticks_179 rfl 0 rfl ?_
        refine cw_get (pc := 180) C dX0_ticks_180 7 (v := .ref (A 1)) rfl rfl 0 rfl (fun _ h => List.mem_cons_of_mem _ (List.mem_append_left _ (List.mem_append_left _ (List.mem_append_right _ h)))) (by decide) (List.mem_of_getElem? (i := 1) rfl) ?_
        refine cw_bipush (pc := 183) C dX0_ticks_183 (nI 39) (by decide) ?_
        refine cw_iald2 (pc := 185) C dX0_ticks_185 1 1 (wC_g1 Z A) (f := tksS (σ 1) v k) ((up2_ne _ _ (by decide)).trans ((up2_ne _ _ (by decide)).trans (up2_eq _ _ _))) 39 rfl (by decide) (by decide) ?_
        refine cw_top (nI (inN (tksS (σ 1) v k))) (rowOK_in (tksS_ok hX v k)).2.1 ?_
        refine hret (nI (inN (tksS (σ 1) v k))) (up2 (up2 (up2 σ 1 (tksS (σ 1) v k)) 4 aw) 5 pa) _ _ dX0_ticks_186 ?_
        clear hret
        exact ⟨by rw [hk2], aw, pa, by rw [hk2]⟩
      · -- 4 f
        have h4 : ¬ (m1 ≤ k) := fun qq => h4 ((nc_ge (a := k) (b := m1) (by omega) (by omega)).mpr qq)
        refine cw_aload_n (pc := 7) C dX0_ticks_7 rfl 0 rfl ?_
        refine cw_get (pc := 8) C dX0_ticks_8 7 (v := .ref (A 1)) rfl rfl 0 rfl (fun _ h => List.mem_cons_of_mem _ (List.mem_append_left _ (List.mem_append_left _ (List.mem_append_right _ h)))) (by decide) (List.mem_of_getElem? (i := 1) rfl) ?_
        refine cw_bipush (pc := 11) C dX0_ticks_11 (nI 40) (by decide) ?_
        refine cw_dup2 (pc := 13) C dX0_ticks_13 rfl rfl ?_
        refine cw_iald2 (pc := 14) C dX0_ticks_14 1 1 (wC_g1 Z A) (f := tksS (σ 1) v k) ((up2_ne _ _ (by decide)).trans ((up2_ne _ _ (by decide)).trans (up2_eq _ _ _))) 40 rfl (by decide) (by decide) ?_
        refine cw_iconst (pc := 15) C dX0_ticks_15 (nI 1) (by decide) ?_
        refine cw_iadd (pc := 16) C dX0_ticks_16 (z := ((tksS (σ 1) v k) 40) + (nI 1)) rfl ?_
        refine cw_iast2 (pc := 17) C dX0_ticks_17 1 1 (wC_g1 Z A) (wC_s1 Z A) (f := tksS (σ 1) v k) ((up2_ne _ _ (by decide)).trans ((up2_ne _ _ (by decide)).trans (up2_eq _ _ _))) 40 rfl (by decide) (by decide) (up2 (up2 (up2 σ 1 (upd (tksS (σ 1) v k) 40 (((tksS (σ 1) v k) 40) + (nI 1)))) 4 aw) 5 pa) ((up2_comm _ _ _ (by decide)).trans (congrArg (fun qz => up2 qz 5 pa) ((up2_comm _ _ _ (by decide)).trans (congrArg (fun qz => up2 qz 4 aw) (up2_up2 _ 1 _ _))))) ?_
        refine cw_aload_n (pc := 18) C dX0_ticks_18 rfl 0 rfl ?_
        refine cw_get (pc := 19) C dX0_ticks_19 7 (v := .ref (A 1)) rfl rfl 0 rfl (fun _ h => List.mem_cons_of_mem _ (List.mem_append_left _ (List.mem_append_left _ (List.mem_append_right _ h)))) (by decide) (List.mem_of_getElem? (i := 1) rfl) ?_
        refine cw_bipush (pc := 22) C dX0_ticks_22 (nI 41) (by decide) ?_
        refine cw_iconst (pc := 24) C dX0_ticks_24 (nI 0) (by decide) ?_
        refine cw_aload_n (pc := 25) C dX0_ticks_25 rfl 0 rfl ?_
        refine cw_get (pc := 26) C dX0_ticks_26 7 (v := .ref (A 1)) rfl rfl 0 rfl (fun _ h => List.mem_cons_of_mem _ (List.mem_append_left _ (List.mem_append_left _ (List.mem_append_right _ h)))) (by decide) (List.mem_of_getElem? (i := 1) rfl) ?_
        refine cw_bipush (pc := 29) C dX0_ticks_29 (nI 41) (by decide) ?_
        refine cw_iald2 (pc := 31) C dX0_ticks_31 1 1 (wC_g1 Z A) (f := upd (tksS (σ 1) v k) 40 (((tksS (σ 1) v k) 40) + (nI 1))) ((up2_ne _ _ (by decide)).trans ((up2_ne _ _ (by decide)).trans (up2_eq _ _ _))) 41 rfl (by decide) (by decide) ?_
        refine cw_iconst (pc := 32) C dX0_ticks_32 (nI 1) (by decide) ?_
        refine cw_isub (pc := 33) C dX0_ticks_33 (z := ((tksS (σ 1) v k) 41) - (nI 1)) rfl ?_
        refine cw_max (pc := 34) C dX0_ticks_34 (List.mem_of_getElem? (i := 2) rfl) (List.mem_of_getElem? (i := 3) rfl) (List.mem_of_getElem? (i := 4) rfl) (List.mem_of_getElem? (i := 5) rfl) (by decide) (Nat.le_of_ble_eq_true rfl) ?_
        refine cw_iast2 (pc := 37) C dX0_ticks_37 1 1 (wC_g1 Z A) (wC_s1 Z A) (f := upd (tksS (σ 1) v k) 40 (((tksS (σ 1) v k) 40) + (nI 1))) ((up2_ne _ _ (by decide)).trans ((up2_ne _ _ (by decide)).trans (up2_eq _ _ _))) 41 rfl (by decide) (by decide) (up2 (up2 (up2 σ 1 (upd (upd (tksS (σ 1) v k) 40 (((tksS (σ 1) v k) 40) + (nI 1))) 41 (if (nI 0) < (((tksS (σ 1) v k) 41) - (nI 1)) then (((tksS (σ 1) v k) 41) - (nI 1)) else (nI 0)))) 4 aw) 5 pa) ((up2_comm _ _ _ (by decide)).trans (congrArg (fun qz => up2 qz 5 pa) ((up2_comm _ _ _ (by decide)).trans (congrArg (fun qz => up2 qz 4 aw) (up2_up2 _ 1 _ _))))) ?_
        refine cw_eq (σ' := up2 (up2 (up2 σ 1 (tk0 (tksS (σ 1) v k))) 4 aw) 5 pa) (congrArg (fun q => up2 (up2 (up2 σ 1 q) 4 aw) 5 pa) (tk0_max (tksS_ok hX v k))) ?_
        have ho := tk0_ok (tksS_ok hX v k)
        have hi0 := rowOK_in ho
        refine cw_aload_n (pc := 38) C dX0_ticks_38 rfl 0 rfl ?_
        refine cw_get (pc := 39) C dX0_ticks_39 7 (v := .ref (A 1)) rfl rfl 0 rfl (fun _ h => List.mem_cons_of_mem _ (List.mem_append_left _ (List.mem_append_left _ (List.mem_append_right _ h)))) (by decide) (List.mem_of_getElem? (i := 1) rfl) ?_
        refine cw_bipush (pc := 42) C dX0_ticks_42 (nI 39) (by decide) ?_
        refine cw_iald2 (pc := 44) C dX0_ticks_44 1 1 (wC_g1 Z A) (f := tk0 (tksS (σ 1) v k)) ((up2_ne _ _ (by decide)).trans ((up2_ne _ _ (by decide)).trans (up2_eq _ _ _))) 39 rfl (by decide) (by decide) ?_
        refine cw_top (nI (inN (tk0 (tksS (σ 1) v k)))) hi0.2.1 ?_
        refine cw_istore (pc := 45) C dX0_ticks_45 (by decide) (lv' := [(4, .int (nI (inN (tk0 (tksS (σ 1) v k))))), (0, .ref (A 7)), (1, .int (v)), (2, .int (nI m1)), (3, .int (nI k))]) rfl ?_
        refine cw_aload_n (pc := 47) C dX0_ticks_47 rfl 1 rfl ?_
        refine cw_iload_n (pc := 48) C dX0_ticks_48 rfl 2 rfl ?_
        have hf1 : (up2 (up2 (up2 σ 1 (tk0 (tksS (σ 1) v k))) 4 aw) 5 pa) 1 = tk0 (tksS (σ 1) v k) := ((up2_ne _ _ (by decide)).trans ((up2_ne _ _ (by decide)).trans (up2_eq _ _ _)))
        refine cw_calli (pc := 49) C dX0_ticks_49 (c_X0_wanted l D Z A (up2 (up2 (up2 σ 1 (tk0 (tksS (σ 1) v k))) 4 aw) 5 pa) (inN (tk0 (tksS (σ 1) v k))) v hi0.1 (by rw [hf1]; exact hi0.2.1)) (cwV 1 C.1.2.2.2.2 gX0_ticks_X0_wanted rfl rfl rfl (by decide +kernel) ⟨Nat.le_of_ble_eq_true rfl, Nat.le_of_ble_eq_true rfl⟩) 7 rfl rfl rfl rfl (Nat.le_of_ble_eq_true rfl) (cw_pure (v := nI (wntS (tk0 (tksS (σ 1) v k)) (inN (tk0 (tksS (σ 1) v k))) v)) (fun _ _ h => h) ?_)
        refine cw_istore (pc := 52) C dX0_ticks_52 (by decide) (lv' := [(5, .int (nI (wntS (tk0 (tksS (σ 1) v k)) (inN (tk0 (tksS (σ 1) v k))) v))), (4, .int (nI (inN (tk0 (tksS (σ 1) v k))))), (0, .ref (A 7)), (1, .int (v)), (2, .int (nI m1)), (3, .int (nI k))]) rfl ?_
        have L54 : ∀ (Y : Nat → Int32) (i : Nat) (to : Nat) (aw1 : Nat → Int32) (pa1 : Nat → Int32) (hi : i ≤ 7) (hIN : Y 39 = nI i) (hR : 0 < Y 49) (hXs : setsOK Y) (hto : to ≤ 7) (hft : to = i ∨ fitN Y to = true) (hH : ∃ a, a ≤ 10 ∧ Y 41 = nI a) (hgo : goS Y i to = tksS (σ 1) v (k + 1)), CW p0 l e0 (rmC 4 91) s0 m0 g0 b0 t0 c0 D A0 9 (wC Z A) Q (up2 (up2 (up2 σ 1 Y) 4 aw1) 5 pa1) 54 [(0, .ref (A 7)), (1, .int (v)), (2, .int (nI m1)), (3, .int (nI k)), (4, .int (nI i)), (5, .int (nI to))] [] := by
          intro Y i to aw1 pa1 hi hIN hR hXs hto hft hH hgo
          refine cw_iload (pc := 54) C dX0_ticks_54 4 rfl ?_
          refine cw_if_ne (pc := 56) (tgt := 71) C dX0_ticks_56 (by decide) (fun h56 => ?_) (fun h56 => ?_)
          · -- 56 t
            have h56 : ¬ i = 0 := (nc_ne (a := i) (b := 0) (by omega) (by omega)).mp h56
            refine cw_iload (pc := 71) C dX0_ticks_71 5 rfl ?_
            refine cw_iload (pc := 73) C dX0_ticks_73 4 rfl ?_
            refine cw_icmp_lt (pc := 75) (tgt := 95) C dX0_ticks_75 (by decide) (fun h75 => ?_) (fun h75 => ?_)
            · -- 75 t
              have h75 : to < i := (nc_lt (a := to) (b := i) (by omega) (by omega)).mp h75
              refine cw_aload_n (pc := 95) C dX0_ticks_95 rfl 0 rfl ?_
              refine cw_get (pc := 96) C dX0_ticks_96 7 (v := .ref (A 3)) rfl rfl 1 rfl (fun _ h => List.mem_cons_of_mem _ (List.mem_append_left _ (List.mem_append_left _ (List.mem_append_right _ h)))) (by decide) (List.mem_of_getElem? (i := 6) rfl) ?_
              refine cw_iload (pc := 99) C dX0_ticks_99 4 rfl ?_
              refine cw_iload (pc := 101) C dX0_ticks_101 5 rfl ?_
              have hf1 : (up2 (up2 (up2 σ 1 Y) 4 aw1) 5 pa1) 1 = Y := ((up2_ne _ _ (by decide)).trans ((up2_ne _ _ (by decide)).trans (up2_eq _ _ _)))
              refine cw_calli (pc := 103) C dX0_ticks_103 (c_X1_findWay l D Z A (up2 (up2 (up2 σ 1 Y) 4 aw1) 5 pa1) i to (by omega) (by omega) (by omega)) (cwV 2 C.1.2.2.2.2 gX0_ticks_X1_findWay rfl rfl rfl (by decide +kernel) ⟨Nat.le_of_ble_eq_true rfl, Nat.le_of_ble_eq_true rfl⟩) 3 rfl rfl rfl rfl (Nat.le_of_ble_eq_true rfl) (fun r σ1 hr => ?_)
              rw [hf1] at hr
              obtain ⟨rfl, aw2, pa2, rfl, hpa⟩ := hr
              have hs : wyN Y i to ≤ 6 := wayN_le _ _ _ _
              have hw7 : ∀ j, wyG Y i to j ≤ 7 := fun j => wayG_le _ _ _ hi j
              have hw0 : Y 39 = nI (wyG Y i to 0) := hIN
              have hne : ¬ (to = i ∨ ((i ≠ 0 ∧ i < to) ∧ nI 0 < Y 41)) := ne_dn h75
              have hsim : ∀ j, j < wyN Y i to → simN Y (wyG Y i to j) (wyG Y i to (j + 1)) = true := fun j hj => go_sim (hft.resolve_left (fun q => hne (Or.inl q))) hj
              have hgw := goT_w hne h56
              refine cw_eq (σ' := up2 (up2 (up2 σ 1 Y) 4 aw2) 5 pa2) (n4x _ _ _ _ _) ?_
              generalize hN : wyN Y i to = N at hpa hs hsim hgw ⊢
              generalize hW : wyG Y i to = w at hpa hw7 hw0 hsim hgw
              refine cw_istore (pc := 106) C dX0_ticks_106 (by decide) (lv' := [(6, .int (nI N)), (0, .ref (A 7)), (1, .int (v)), (2, .int (nI m1)), (3, .int (nI k)), (4, .int (nI i)), (5, .int (nI to))]) rfl ?_
              refine cw_iconst (pc := 108) C dX0_ticks_108 (nI 0) (by decide) ?_
              refine cw_istore (pc := 109) C dX0_ticks_109 (by decide) (lv' := [(7, .int (nI 0)), (6, .int (nI N)), (0, .ref (A 7)), (1, .int (v)), (2, .int (nI m1)), (3, .int (nI k)), (4, .int (nI i)), (5, .int (nI to))]) rfl ?_
              have L111 : ∀ (n111 : Nat) (j : Nat) (hj : j ≤ N) (hm3 : N < j + n111), CW p0 l e0 (rmC 4 91) s0 m0 g0 b0 t0 c0 D A0 9 (wC Z A) Q (up2 (up2 (up2 σ 1 (shfS w Y j)) 4 aw2) 5 pa2) 111 [(0, .ref (A 7)), (1, .int (v)), (2, .int (nI m1)), (3, .int (nI k)), (4, .int (nI i)), (5, .int (nI to)), (6, .int (nI N)), (7, .int (nI j))] [] := by
                intro n111
                induction n111 with
                | zero => intro j hj hm3; exact absurd hm3 (by omega)
                | succ n111 ih111 =>
                  intro j hj hm3
                  refine cw_iload (pc := 111) C dX0_ticks_111 7 rfl ?_
                  refine cw_iload (pc := 113) C dX0_ticks_113 6 rfl ?_
                  refine cw_icmp_ge (pc := 115) (tgt := 167) C dX0_ticks_115 (by decide) (fun h115 => ?_) (fun h115 => ?_)
                  · -- 115 t
                    have h115 : N ≤ j := (nc_ge (a := j) (b := N) (by omega) (by omega)).mp h115
                    have hje : j = N := by omega
                    refine cw_aload_n (pc := 167) C dX0_ticks_167 rfl 0 rfl ?_
                    refine cw_iload (pc := 168) C dX0_ticks_168 4 rfl ?_
                    have hf1 : (up2 (up2 (up2 σ 1 (shfS w Y j)) 4 aw2) 5 pa2) 1 = shfS w Y j := ((up2_ne _ _ (by decide)).trans ((up2_ne _ _ (by decide)).trans (up2_eq _ _ _)))
                    have ee0 := congrArg (fun qz => noteT qz (w j) i) hf1
                    have e3 := congrArg (fun qz => up2 (up2 (up2 σ 1 qz) 4 aw2) 5 pa2) ee0
                    refine cw_callv (pc := 170) C dX0_ticks_170 (c_X0_noteTurn l D Z A (up2 (up2 (up2 σ 1 (shfS w Y j)) 4 aw2) 5 pa2) (w j) i (hw7 j) hi (by rw [hf1]; exact shfS_in hw0 j)) (cwV 1 C.1.2.2.2.2 gX0_ticks_X0_noteTurn rfl rfl rfl (by decide +kernel) ⟨Nat.le_of_ble_eq_true rfl, Nat.le_of_ble_eq_true rfl⟩) 7 rfl rfl rfl rfl (Nat.le_of_ble_eq_true rfl) (cw_effv (fun _ h => h) (up2 (up2 (up2 σ 1 (noteT (shfS w Y j) (w j) i)) 4 aw2) 5 pa2) (congrArg (wC Z A) (((up2_comm _ _ _ (by decide)).trans (congrArg (fun qz => up2 qz 5 pa2) ((up2_comm _ _ _ (by decide)).trans (congrArg (fun qz => up2 qz 4 aw2) (up2_up2 _ 1 _ _))))).trans e3)) ?_)
                    refine cw_eq (σ' := up2 (up2 (up2 σ 1 (tksS (σ 1) v (k + 1))) 4 aw2) 5 pa2) (congrArg (fun q => up2 (up2 (up2 σ 1 q) 4 aw2) 5 pa2) ((show noteT (shfS w Y j) (w j) i = tksS (σ 1) v (k + 1) by rw [hje]; exact hgw.trans hgo))) ?_
                    refine cw_iinc (pc := 173) C dX0_ticks_173 3 rfl (nI (k + 1)) (nI_inc _ 1) (by decide) (lv' := [(3, .int (nI (k + 1))), (0, .ref (A 7)), (1, .int (v)), (2, .int (nI m1)), (4, .int (nI i)), (5, .int (nI to)), (6, .int (nI N)), (7, .int (nI j))]) rfl ?_
                    refine cw_goto (pc := 176) (tgt := 2) C dX0_ticks_176 (by decide) ?_
                    refine cw_lv [1, 2, 3, 0] rfl ?_
                    exact ih2 (k + 1) aw2 pa2 (by omega) (by omega)
                  · -- 115 f
                    have h115 : ¬ (N ≤ j) := fun qq => h115 ((nc_ge (a := j) (b := N) (by omega) (by omega)).mpr qq)
                    refine cw_aload_n (pc := 118) C dX0_ticks_118 rfl 0 rfl ?_
                    refine cw_get (pc := 119) C dX0_ticks_119 7 (v := .ref (A 3)) rfl rfl 1 rfl (fun _ h => List.mem_cons_of_mem _ (List.mem_append_left _ (List.mem_append_left _ (List.mem_append_right _ h)))) (by decide) (List.mem_of_getElem? (i := 6) rfl) ?_
                    refine cw_iload (pc := 122) C dX0_ticks_122 7 rfl ?_
                    have hf5 : (up2 (up2 (up2 σ 1 (shfS w Y j)) 4 aw2) 5 pa2) 5 = pa2 := (up2_eq _ _ _)
                    have ev0 := congrArg (fun qz => qz j) hf5
                    refine cw_calli (pc := 124) C dX0_ticks_124 (c_X1_onWay l D Z A (up2 (up2 (up2 σ 1 (shfS w Y j)) 4 aw2) 5 pa2) j (by omega)) (cwV 1 C.1.2.2.2.2 gX0_ticks_X1_onWay rfl rfl rfl (by decide +kernel) ⟨Nat.le_of_ble_eq_true rfl, Nat.le_of_ble_eq_true rfl⟩) 3 rfl rfl rfl rfl (Nat.le_of_ble_eq_true rfl) (cw_pure (v := pa2 j) (fun _ _ h => ⟨h.1.trans (ev0), h.2⟩) ?_)
                    have hw1 := hw7 (j + 1)
                    have hwj := hw7 j
                    have hsm := hsim j (by omega)
                    refine cw_top (nI (w (j + 1))) (hpa j (by omega)) ?_
                    refine cw_istore (pc := 127) C dX0_ticks_127 (by decide) (lv' := [(8, .int (nI (w (j + 1)))), (0, .ref (A 7)), (1, .int (v)), (2, .int (nI m1)), (3, .int (nI k)), (4, .int (nI i)), (5, .int (nI to)), (6, .int (nI N)), (7, .int (nI j))]) rfl ?_
                    refine cw_aload_n (pc := 129) C dX0_ticks_129 rfl 1 rfl ?_
                    refine cw_get (pc := 130) C dX0_ticks_130 7 (v := .ref (A 6)) rfl rfl 2 rfl (fun _ h => List.mem_cons_of_mem _ (List.mem_append_left _ (List.mem_append_left _ (List.mem_append_right _ h)))) (by decide) (List.mem_of_getElem? (i := 7) rfl) ?_
                    refine cw_aload_n (pc := 133) C dX0_ticks_133 rfl 1 rfl ?_
                    refine cw_get (pc := 134) C dX0_ticks_134 7 (v := .ref (A 3)) rfl rfl 1 rfl (fun _ h => List.mem_cons_of_mem _ (List.mem_append_left _ (List.mem_append_left _ (List.mem_append_right _ h)))) (by decide) (List.mem_of_getElem? (i := 6) rfl) ?_
                    refine cw_aload_n (pc := 137) C dX0_ticks_137 rfl 1 rfl ?_
                    refine cw_get (pc := 138) C dX0_ticks_138 7 (v := .ref (A 1)) rfl rfl 0 rfl (fun _ h => List.mem_cons_of_mem _ (List.mem_append_left _ (List.mem_append_left _ (List.mem_append_right _ h)))) (by decide) (List.mem_of_getElem? (i := 1) rfl) ?_
                    refine cw_bipush (pc := 141) C dX0_ticks_141 (nI 39) (by decide) ?_
                    refine cw_iald2 (pc := 143) C dX0_ticks_143 1 1 (wC_g1 Z A) (f := shfS w Y j) ((up2_ne _ _ (by decide)).trans ((up2_ne _ _ (by decide)).trans (up2_eq _ _ _))) 39 rfl (by decide) (by decide) ?_
                    refine cw_top (nI (w j)) (shfS_in hw0 j) ?_
                    refine cw_iload (pc := 144) C dX0_ticks_144 0 rfl ?_
                    have hf1 : (up2 (up2 (up2 σ 1 (shfS w Y j)) 4 aw2) 5 pa2) 1 = shfS w Y j := ((up2_ne _ _ (by decide)).trans ((up2_ne _ _ (by decide)).trans (up2_eq _ _ _)))
                    have ev0 := congrArg (fun qz => nI (comS (qz (w j)) (qz (w (j + 1))))) hf1
                    refine cw_calli (pc := 146) C dX0_ticks_146 (c_X1_comingN l D Z A (up2 (up2 (up2 σ 1 (shfS w Y j)) 4 aw2) 5 pa2) (w j) (w (j + 1)) (by rw [hf1]; exact sameG_sets (shfS_same w Y j) hXs) hwj hw1 (by rw [hf1, sameG_sim (shfS_same _ _ _) hwj hw1]; exact hsm)) (cwV 2 C.1.2.2.2.2 gX0_ticks_X1_coming rfl rfl rfl (by decide +kernel) ⟨Nat.le_of_ble_eq_true rfl, Nat.le_of_ble_eq_true rfl⟩) 3 rfl rfl rfl rfl (Nat.le_of_ble_eq_true rfl) (cw_pure (v := nI (comS ((shfS w Y j) (w j)) ((shfS w Y j) (w (j + 1))))) (fun _ _ h => ⟨h.1.trans (ev0), h.2⟩) ?_)
                    refine cw_top (nI (comS (Y (w j)) (Y (w (j + 1))))) (by rw [(shfS_same w Y j).1 _ hwj, (shfS_same w Y j).1 _ hw1]) ?_
                    have hf1 : (up2 (up2 (up2 σ 1 (shfS w Y j)) 4 aw2) 5 pa2) 1 = shfS w Y j := ((up2_ne _ _ (by decide)).trans ((up2_ne _ _ (by decide)).trans (up2_eq _ _ _)))
                    have ee0 := congrArg (fun qz => lrnS qz (comS (Y (w j)) (Y (w (j + 1))))) hf1
                    have e3 := congrArg (fun qz => up2 (up2 (up2 σ 1 qz) 4 aw2) 5 pa2) ee0
                    refine cw_callv (pc := 149) C dX0_ticks_149 (c_X3_learn l D Z A (up2 (up2 (up2 σ 1 (shfS w Y j)) 4 aw2) 5 pa2) (comS (Y (w j)) (Y (w (j + 1)))) (by rw [hf1, shfS_ne _ _ (by omega)]; exact hR) (comS_lt _ _)) (cwV 1 C.1.2.2.2.2 gX0_ticks_X3_learn rfl rfl rfl (by decide +kernel) ⟨Nat.le_of_ble_eq_true rfl, Nat.le_of_ble_eq_true rfl⟩) 6 rfl rfl rfl rfl (Nat.le_of_ble_eq_true rfl) (cw_effv (fun _ h => h) (up2 (up2 (up2 σ 1 (lrnS (shfS w Y j) (comS (Y (w j)) (Y (w (j + 1)))))) 4 aw2) 5 pa2) (congrArg (wC Z A) (((up2_comm _ _ _ (by decide)).trans (congrArg (fun qz => up2 qz 5 pa2) ((up2_comm _ _ _ (by decide)).trans (congrArg (fun qz => up2 qz 4 aw2) (up2_up2 _ 1 _ _))))).trans e3)) ?_)
                    refine cw_aload_n (pc := 152) C dX0_ticks_152 rfl 1 rfl ?_
                    refine cw_get (pc := 153) C dX0_ticks_153 7 (v := .ref (A 1)) rfl rfl 0 rfl (fun _ h => List.mem_cons_of_mem _ (List.mem_append_left _ (List.mem_append_left _ (List.mem_append_right _ h)))) (by decide) (List.mem_of_getElem? (i := 1) rfl) ?_
                    refine cw_bipush (pc := 156) C dX0_ticks_156 (nI 39) (by decide) ?_
                    refine cw_iload (pc := 158) C dX0_ticks_158 0 rfl ?_
                    refine cw_iast2 (pc := 160) C dX0_ticks_160 1 1 (wC_g1 Z A) (wC_s1 Z A) (f := lrnS (shfS w Y j) (comS (Y (w j)) (Y (w (j + 1))))) ((up2_ne _ _ (by decide)).trans ((up2_ne _ _ (by decide)).trans (up2_eq _ _ _))) 39 rfl (by decide) (by decide) (up2 (up2 (up2 σ 1 (upd (lrnS (shfS w Y j) (comS (Y (w j)) (Y (w (j + 1))))) 39 (nI (w (j + 1))))) 4 aw2) 5 pa2) ((up2_comm _ _ _ (by decide)).trans (congrArg (fun qz => up2 qz 5 pa2) ((up2_comm _ _ _ (by decide)).trans (congrArg (fun qz => up2 qz 4 aw2) (up2_up2 _ 1 _ _))))) ?_
                    refine cw_iinc (pc := 161) C dX0_ticks_161 8 rfl (nI (j + 1)) (nI_inc _ 1) (by decide) (lv' := [(7, .int (nI (j + 1))), (8, .int (nI (w (j + 1)))), (0, .ref (A 7)), (1, .int (v)), (2, .int (nI m1)), (3, .int (nI k)), (4, .int (nI i)), (5, .int (nI to)), (6, .int (nI N))]) rfl ?_
                    refine cw_goto (pc := 164) (tgt := 111) C dX0_ticks_164 (by decide) ?_
                    refine cw_lv [2, 3, 4, 5, 6, 7, 8, 0] rfl ?_
                    exact ih111 (j + 1) (by omega) (by omega)
              refine cw_lv [2, 3, 4, 5, 6, 7, 1, 0] rfl ?_
              exact L111 (N + 1) 0 (by omega) (by omega)
            · -- 75 f
              have h75 : ¬ (to < i) := fun qq => h75 ((nc_lt (a := to) (b := i) (by omega) (by omega)).mpr qq)
              refine cw_iload (pc := 78) C dX0_ticks_78 5 rfl ?_
              refine cw_iload (pc := 80) C dX0_ticks_80 4 rfl ?_
              refine cw_icmp_le (pc := 82) (tgt := 173) C dX0_ticks_82 (by decide) (fun h82 => ?_) (fun h82 => ?_)
              · -- 82 t
                have h82 : to ≤ i := (nc_le (a := to) (b := i) (by omega) (by omega)).mp h82
                refine cw_eq (σ' := up2 (up2 (up2 σ 1 (tksS (σ 1) v (k + 1))) 4 aw1) 5 pa1) (congrArg (fun q => up2 (up2 (up2 σ 1 q) 4 aw1) 5 pa1) ((goT_e (by omega)).trans hgo)) ?_
                refine cw_iinc (pc := 173) C dX0_ticks_173 3 rfl (nI (k + 1)) (nI_inc _ 1) (by decide) (lv' := [(3, .int (nI (k + 1))), (0, .ref (A 7)), (1, .int (v)), (2, .int (nI m1)), (4, .int (nI i)), (5, .int (nI to))]) rfl ?_
                refine cw_goto (pc := 176) (tgt := 2) C dX0_ticks_176 (by decide) ?_
                refine cw_lv [1, 2, 3, 0] rfl ?_
                exact ih2 (k + 1) aw1 pa1 (by omega) (by omega)
              · -- 82 f
                have h82 : ¬ (to ≤ i) := fun qq => h82 ((nc_le (a := to) (b := i) (by omega) (by omega)).mpr qq)
                refine cw_aload_n (pc := 85) C dX0_ticks_85 rfl 0 rfl ?_
                refine cw_get (pc := 86) C dX0_ticks_86 7 (v := .ref (A 1)) rfl rfl 0 rfl (fun _ h => List.mem_cons_of_mem _ (List.mem_append_left _ (List.mem_append_left _ (List.mem_append_right _ h)))) (by decide) (List.mem_of_getElem? (i := 1) rfl) ?_
                refine cw_bipush (pc := 89) C dX0_ticks_89 (nI 41) (by decide) ?_
                refine cw_iald2 (pc := 91) C dX0_ticks_91 1 1 (wC_g1 Z A) (f := Y) ((up2_ne _ _ (by decide)).trans ((up2_ne _ _ (by decide)).trans (up2_eq _ _ _))) 41 rfl (by decide) (by decide) ?_
                refine cw_if_ne (pc := 92) (tgt := 173) C dX0_ticks_92 (by decide) (fun h92 => ?_) (fun h92 => ?_)
                · -- 92 t
                  refine cw_eq (σ' := up2 (up2 (up2 σ 1 (tksS (σ 1) v (k + 1))) 4 aw1) 5 pa1) (congrArg (fun q => up2 (up2 (up2 σ 1 q) 4 aw1) 5 pa1) ((goT_u h56 (by omega) hH h92).trans hgo)) ?_
                  refine cw_iinc (pc := 173) C dX0_ticks_173 3 rfl (nI (k + 1)) (nI_inc _ 1) (by decide) (lv' := [(3, .int (nI (k + 1))), (0, .ref (A 7)), (1, .int (v)), (2, .int (nI m1)), (4, .int (nI i)), (5, .int (nI to))]) rfl ?_
                  refine cw_goto (pc := 176) (tgt := 2) C dX0_ticks_176 (by decide) ?_
                  refine cw_lv [1, 2, 3, 0] rfl ?_
                  exact ih2 (k + 1) aw1 pa1 (by omega) (by omega)
                · -- 92 f
                  refine cw_aload_n (pc := 95) C dX0_ticks_95 rfl 0 rfl ?_
                  refine cw_get (pc := 96) C dX0_ticks_96 7 (v := .ref (A 3)) rfl rfl 1 rfl (fun _ h => List.mem_cons_of_mem _ (List.mem_append_left _ (List.mem_append_left _ (List.mem_append_right _ h)))) (by decide) (List.mem_of_getElem? (i := 6) rfl) ?_
                  refine cw_iload (pc := 99) C dX0_ticks_99 4 rfl ?_
                  refine cw_iload (pc := 101) C dX0_ticks_101 5 rfl ?_
                  have hf1 : (up2 (up2 (up2 σ 1 Y) 4 aw1) 5 pa1) 1 = Y := ((up2_ne _ _ (by decide)).trans ((up2_ne _ _ (by decide)).trans (up2_eq _ _ _)))
                  refine cw_calli (pc := 103) C dX0_ticks_103 (c_X1_findWay l D Z A (up2 (up2 (up2 σ 1 Y) 4 aw1) 5 pa1) i to (by omega) (by omega) (by omega)) (cwV 2 C.1.2.2.2.2 gX0_ticks_X1_findWay rfl rfl rfl (by decide +kernel) ⟨Nat.le_of_ble_eq_true rfl, Nat.le_of_ble_eq_true rfl⟩) 3 rfl rfl rfl rfl (Nat.le_of_ble_eq_true rfl) (fun r σ1 hr => ?_)
                  rw [hf1] at hr
                  obtain ⟨rfl, aw2, pa2, rfl, hpa⟩ := hr
                  have hs : wyN Y i to ≤ 6 := wayN_le _ _ _ _
                  have hw7 : ∀ j, wyG Y i to j ≤ 7 := fun j => wayG_le _ _ _ hi j
                  have hw0 : Y 39 = nI (wyG Y i to 0) := hIN
                  have hne : ¬ (to = i ∨ ((i ≠ 0 ∧ i < to) ∧ nI 0 < Y 41)) := ne_up h82 h92
                  have hsim : ∀ j, j < wyN Y i to → simN Y (wyG Y i to j) (wyG Y i to (j + 1)) = true := fun j hj => go_sim (hft.resolve_left (fun q => hne (Or.inl q))) hj
                  have hgw := goT_w hne h56
                  refine cw_eq (σ' := up2 (up2 (up2 σ 1 Y) 4 aw2) 5 pa2) (n4x _ _ _ _ _) ?_
                  generalize hN : wyN Y i to = N at hpa hs hsim hgw ⊢
                  generalize hW : wyG Y i to = w at hpa hw7 hw0 hsim hgw
                  refine cw_istore (pc := 106) C dX0_ticks_106 (by decide) (lv' := [(6, .int (nI N)), (0, .ref (A 7)), (1, .int (v)), (2, .int (nI m1)), (3, .int (nI k)), (4, .int (nI i)), (5, .int (nI to))]) rfl ?_
                  refine cw_iconst (pc := 108) C dX0_ticks_108 (nI 0) (by decide) ?_
                  refine cw_istore (pc := 109) C dX0_ticks_109 (by decide) (lv' := [(7, .int (nI 0)), (6, .int (nI N)), (0, .ref (A 7)), (1, .int (v)), (2, .int (nI m1)), (3, .int (nI k)), (4, .int (nI i)), (5, .int (nI to))]) rfl ?_
                  have L111 : ∀ (n111 : Nat) (j : Nat) (hj : j ≤ N) (hm3 : N < j + n111), CW p0 l e0 (rmC 4 91) s0 m0 g0 b0 t0 c0 D A0 9 (wC Z A) Q (up2 (up2 (up2 σ 1 (shfS w Y j)) 4 aw2) 5 pa2) 111 [(0, .ref (A 7)), (1, .int (v)), (2, .int (nI m1)), (3, .int (nI k)), (4, .int (nI i)), (5, .int (nI to)), (6, .int (nI N)), (7, .int (nI j))] [] := by
                    intro n111
                    induction n111 with
                    | zero => intro j hj hm3; exact absurd hm3 (by omega)
                    | succ n111 ih111 =>
                      intro j hj hm3
                      refine cw_iload (pc := 111) C dX0_ticks_111 7 rfl ?_
                      refine cw_iload (pc := 113) C dX0_ticks_113 6 rfl ?_
                      refine cw_icmp_ge (pc := 115) (tgt := 167) C dX0_ticks_115 (by decide) (fun h115 => ?_) (fun h115 => ?_)
                      · -- 115 t
                        have h115 : N ≤ j := (nc_ge (a := j) (b := N) (by omega) (by omega)).mp h115
                        have hje : j = N := by omega
                        refine cw_aload_n (pc := 167) C dX0_ticks_167 rfl 0 rfl ?_
                        refine cw_iload (pc := 168) C dX0_ticks_168 4 rfl ?_
                        have hf1 : (up2 (up2 (up2 σ 1 (shfS w Y j)) 4 aw2) 5 pa2) 1 = shfS w Y j := ((up2_ne _ _ (by decide)).trans ((up2_ne _ _ (by decide)).trans (up2_eq _ _ _)))
                        have ee0 := congrArg (fun qz => noteT qz (w j) i) hf1
                        have e3 := congrArg (fun qz => up2 (up2 (up2 σ 1 qz) 4 aw2) 5 pa2) ee0
                        refine cw_callv (pc := 170) C dX0_ticks_170 (c_X0_noteTurn l D Z A (up2 (up2 (up2 σ 1 (shfS w Y j)) 4 aw2) 5 pa2) (w j) i (hw7 j) hi (by rw [hf1]; exact shfS_in hw0 j)) (cwV 1 C.1.2.2.2.2 gX0_ticks_X0_noteTurn rfl rfl rfl (by decide +kernel) ⟨Nat.le_of_ble_eq_true rfl, Nat.le_of_ble_eq_true rfl⟩) 7 rfl rfl rfl rfl (Nat.le_of_ble_eq_true rfl) (cw_effv (fun _ h => h) (up2 (up2 (up2 σ 1 (noteT (shfS w Y j) (w j) i)) 4 aw2) 5 pa2) (congrArg (wC Z A) (((up2_comm _ _ _ (by decide)).trans (congrArg (fun qz => up2 qz 5 pa2) ((up2_comm _ _ _ (by decide)).trans (congrArg (fun qz => up2 qz 4 aw2) (up2_up2 _ 1 _ _))))).trans e3)) ?_)
                        refine cw_eq (σ' := up2 (up2 (up2 σ 1 (tksS (σ 1) v (k + 1))) 4 aw2) 5 pa2) (congrArg (fun q => up2 (up2 (up2 σ 1 q) 4 aw2) 5 pa2) ((show noteT (shfS w Y j) (w j) i = tksS (σ 1) v (k + 1) by rw [hje]; exact hgw.trans hgo))) ?_
                        refine cw_iinc (pc := 173) C dX0_ticks_173 3 rfl (nI (k + 1)) (nI_inc _ 1) (by decide) (lv' := [(3, .int (nI (k + 1))), (0, .ref (A 7)), (1, .int (v)), (2, .int (nI m1)), (4, .int (nI i)), (5, .int (nI to)), (6, .int (nI N)), (7, .int (nI j))]) rfl ?_
                        refine cw_goto (pc := 176) (tgt := 2) C dX0_ticks_176 (by decide) ?_
                        refine cw_lv [1, 2, 3, 0] rfl ?_
                        exact ih2 (k + 1) aw2 pa2 (by omega) (by omega)
                      · -- 115 f
                        have h115 : ¬ (N ≤ j) := fun qq => h115 ((nc_ge (a := j) (b := N) (by omega) (by omega)).mpr qq)
                        refine cw_aload_n (pc := 118) C dX0_ticks_118 rfl 0 rfl ?_
                        refine cw_get (pc := 119) C dX0_ticks_119 7 (v := .ref (A 3)) rfl rfl 1 rfl (fun _ h => List.mem_cons_of_mem _ (List.mem_append_left _ (List.mem_append_left _ (List.mem_append_right _ h)))) (by decide) (List.mem_of_getElem? (i := 6) rfl) ?_
                        refine cw_iload (pc := 122) C dX0_ticks_122 7 rfl ?_
                        have hf5 : (up2 (up2 (up2 σ 1 (shfS w Y j)) 4 aw2) 5 pa2) 5 = pa2 := (up2_eq _ _ _)
                        have ev0 := congrArg (fun qz => qz j) hf5
                        refine cw_calli (pc := 124) C dX0_ticks_124 (c_X1_onWay l D Z A (up2 (up2 (up2 σ 1 (shfS w Y j)) 4 aw2) 5 pa2) j (by omega)) (cwV 1 C.1.2.2.2.2 gX0_ticks_X1_onWay rfl rfl rfl (by decide +kernel) ⟨Nat.le_of_ble_eq_true rfl, Nat.le_of_ble_eq_true rfl⟩) 3 rfl rfl rfl rfl (Nat.le_of_ble_eq_true rfl) (cw_pure (v := pa2 j) (fun _ _ h => ⟨h.1.trans (ev0), h.2⟩) ?_)
                        have hw1 := hw7 (j + 1)
                        have hwj := hw7 j
                        have hsm := hsim j (by omega)
                        refine cw_top (nI (w (j + 1))) (hpa j (by omega)) ?_
                        refine cw_istore (pc := 127) C dX0_ticks_127 (by decide) (lv' := [(8, .int (nI (w (j + 1)))), (0, .ref (A 7)), (1, .int (v)), (2, .int (nI m1)), (3, .int (nI k)), (4, .int (nI i)), (5, .int (nI to)), (6, .int (nI N)), (7, .int (nI j))]) rfl ?_
                        refine cw_aload_n (pc := 129) C dX0_ticks_129 rfl 1 rfl ?_
                        refine cw_get (pc := 130) C dX0_ticks_130 7 (v := .ref (A 6)) rfl rfl 2 rfl (fun _ h => List.mem_cons_of_mem _ (List.mem_append_left _ (List.mem_append_left _ (List.mem_append_right _ h)))) (by decide) (List.mem_of_getElem? (i := 7) rfl) ?_
                        refine cw_aload_n (pc := 133) C dX0_ticks_133 rfl 1 rfl ?_
                        refine cw_get (pc := 134) C dX0_ticks_134 7 (v := .ref (A 3)) rfl rfl 1 rfl (fun _ h => List.mem_cons_of_mem _ (List.mem_append_left _ (List.mem_append_left _ (List.mem_append_right _ h)))) (by decide) (List.mem_of_getElem? (i := 6) rfl) ?_
                        refine cw_aload_n (pc := 137) C dX0_ticks_137 rfl 1 rfl ?_
                        refine cw_get (pc := 138) C dX0_ticks_138 7 (v := .ref (A 1)) rfl rfl 0 rfl (fun _ h => List.mem_cons_of_mem _ (List.mem_append_left _ (List.mem_append_left _ (List.mem_append_right _ h)))) (by decide) (List.mem_of_getElem? (i := 1) rfl) ?_
                        refine cw_bipush (pc := 141) C dX0_ticks_141 (nI 39) (by decide) ?_
                        refine cw_iald2 (pc := 143) C dX0_ticks_143 1 1 (wC_g1 Z A) (f := shfS w Y j) ((up2_ne _ _ (by decide)).trans ((up2_ne _ _ (by decide)).trans (up2_eq _ _ _))) 39 rfl (by decide) (by decide) ?_
                        refine cw_top (nI (w j)) (shfS_in hw0 j) ?_
                        refine cw_iload (pc := 144) C dX0_ticks_144 0 rfl ?_
                        have hf1 : (up2 (up2 (up2 σ 1 (shfS w Y j)) 4 aw2) 5 pa2) 1 = shfS w Y j := ((up2_ne _ _ (by decide)).trans ((up2_ne _ _ (by decide)).trans (up2_eq _ _ _)))
                        have ev0 := congrArg (fun qz => nI (comS (qz (w j)) (qz (w (j + 1))))) hf1
                        refine cw_calli (pc := 146) C dX0_ticks_146 (c_X1_comingN l D Z A (up2 (up2 (up2 σ 1 (shfS w Y j)) 4 aw2) 5 pa2) (w j) (w (j + 1)) (by rw [hf1]; exact sameG_sets (shfS_same w Y j) hXs) hwj hw1 (by rw [hf1, sameG_sim (shfS_same _ _ _) hwj hw1]; exact hsm)) (cwV 2 C.1.2.2.2.2 gX0_ticks_X1_coming rfl rfl rfl (by decide +kernel) ⟨Nat.le_of_ble_eq_true rfl, Nat.le_of_ble_eq_true rfl⟩) 3 rfl rfl rfl rfl (Nat.le_of_ble_eq_true rfl) (cw_pure (v := nI (comS ((shfS w Y j) (w j)) ((shfS w Y j) (w (j + 1))))) (fun _ _ h => ⟨h.1.trans (ev0), h.2⟩) ?_)
                        refine cw_top (nI (comS (Y (w j)) (Y (w (j + 1))))) (by rw [(shfS_same w Y j).1 _ hwj, (shfS_same w Y j).1 _ hw1]) ?_
                        have hf1 : (up2 (up2 (up2 σ 1 (shfS w Y j)) 4 aw2) 5 pa2) 1 = shfS w Y j := ((up2_ne _ _ (by decide)).trans ((up2_ne _ _ (by decide)).trans (up2_eq _ _ _)))
                        have ee0 := congrArg (fun qz => lrnS qz (comS (Y (w j)) (Y (w (j + 1))))) hf1
                        have e3 := congrArg (fun qz => up2 (up2 (up2 σ 1 qz) 4 aw2) 5 pa2) ee0
                        refine cw_callv (pc := 149) C dX0_ticks_149 (c_X3_learn l D Z A (up2 (up2 (up2 σ 1 (shfS w Y j)) 4 aw2) 5 pa2) (comS (Y (w j)) (Y (w (j + 1)))) (by rw [hf1, shfS_ne _ _ (by omega)]; exact hR) (comS_lt _ _)) (cwV 1 C.1.2.2.2.2 gX0_ticks_X3_learn rfl rfl rfl (by decide +kernel) ⟨Nat.le_of_ble_eq_true rfl, Nat.le_of_ble_eq_true rfl⟩) 6 rfl rfl rfl rfl (Nat.le_of_ble_eq_true rfl) (cw_effv (fun _ h => h) (up2 (up2 (up2 σ 1 (lrnS (shfS w Y j) (comS (Y (w j)) (Y (w (j + 1)))))) 4 aw2) 5 pa2) (congrArg (wC Z A) (((up2_comm _ _ _ (by decide)).trans (congrArg (fun qz => up2 qz 5 pa2) ((up2_comm _ _ _ (by decide)).trans (congrArg (fun qz => up2 qz 4 aw2) (up2_up2 _ 1 _ _))))).trans e3)) ?_)
                        refine cw_aload_n (pc := 152) C dX0_ticks_152 rfl 1 rfl ?_
                        refine cw_get (pc := 153) C dX0_ticks_153 7 (v := .ref (A 1)) rfl rfl 0 rfl (fun _ h => List.mem_cons_of_mem _ (List.mem_append_left _ (List.mem_append_left _ (List.mem_append_right _ h)))) (by decide) (List.mem_of_getElem? (i := 1) rfl) ?_
                        refine cw_bipush (pc := 156) C dX0_ticks_156 (nI 39) (by decide) ?_
                        refine cw_iload (pc := 158) C dX0_ticks_158 0 rfl ?_
                        refine cw_iast2 (pc := 160) C dX0_ticks_160 1 1 (wC_g1 Z A) (wC_s1 Z A) (f := lrnS (shfS w Y j) (comS (Y (w j)) (Y (w (j + 1))))) ((up2_ne _ _ (by decide)).trans ((up2_ne _ _ (by decide)).trans (up2_eq _ _ _))) 39 rfl (by decide) (by decide) (up2 (up2 (up2 σ 1 (upd (lrnS (shfS w Y j) (comS (Y (w j)) (Y (w (j + 1))))) 39 (nI (w (j + 1))))) 4 aw2) 5 pa2) ((up2_comm _ _ _ (by decide)).trans (congrArg (fun qz => up2 qz 5 pa2) ((up2_comm _ _ _ (by decide)).trans (congrArg (fun qz => up2 qz 4 aw2) (up2_up2 _ 1 _ _))))) ?_
                        refine cw_iinc (pc := 161) C dX0_ticks_161 8 rfl (nI (j + 1)) (nI_inc _ 1) (by decide) (lv' := [(7, .int (nI (j + 1))), (8, .int (nI (w (j + 1)))), (0, .ref (A 7)), (1, .int (v)), (2, .int (nI m1)), (3, .int (nI k)), (4, .int (nI i)), (5, .int (nI to)), (6, .int (nI N))]) rfl ?_
                        refine cw_goto (pc := 164) (tgt := 111) C dX0_ticks_164 (by decide) ?_
                        refine cw_lv [2, 3, 4, 5, 6, 7, 8, 0] rfl ?_
                        exact ih111 (j + 1) (by omega) (by omega)
                  refine cw_lv [2, 3, 4, 5, 6, 7, 1, 0] rfl ?_
                  exact L111 (N + 1) 0 (by omega) (by omega)
          · -- 56 f
            have h56 : i = 0 := (nc_eq (a := i) (b := 0) (by omega) (by omega)).mp h56
            refine cw_aload_n (pc := 59) C dX0_ticks_59 rfl 0 rfl ?_
            refine cw_get (pc := 60) C dX0_ticks_60 7 (v := .ref (A 1)) rfl rfl 0 rfl (fun _ h => List.mem_cons_of_mem _ (List.mem_append_left _ (List.mem_append_left _ (List.mem_append_right _ h)))) (by decide) (List.mem_of_getElem? (i := 1) rfl) ?_
            refine cw_bipush (pc := 63) C dX0_ticks_63 (nI 39) (by decide) ?_
            refine cw_iload (pc := 65) C dX0_ticks_65 5 rfl ?_
            refine cw_iast2 (pc := 67) C dX0_ticks_67 1 1 (wC_g1 Z A) (wC_s1 Z A) (f := Y) ((up2_ne _ _ (by decide)).trans ((up2_ne _ _ (by decide)).trans (up2_eq _ _ _))) 39 rfl (by decide) (by decide) (up2 (up2 (up2 σ 1 (upd Y 39 (nI to))) 4 aw1) 5 pa1) ((up2_comm _ _ _ (by decide)).trans (congrArg (fun qz => up2 qz 5 pa1) ((up2_comm _ _ _ (by decide)).trans (congrArg (fun qz => up2 qz 4 aw1) (up2_up2 _ 1 _ _))))) ?_
            refine cw_goto (pc := 68) (tgt := 173) C dX0_ticks_68 (by decide) ?_
            refine cw_eq (σ' := up2 (up2 (up2 σ 1 (tksS (σ 1) v (k + 1))) 4 aw1) 5 pa1) (congrArg (fun q => up2 (up2 (up2 σ 1 q) 4 aw1) 5 pa1) ((goT_0 h56 hIN).trans hgo)) ?_
            refine cw_iinc (pc := 173) C dX0_ticks_173 3 rfl (nI (k + 1)) (nI_inc _ 1) (by decide) (lv' := [(3, .int (nI (k + 1))), (0, .ref (A 7)), (1, .int (v)), (2, .int (nI m1)), (4, .int (nI i)), (5, .int (nI to))]) rfl ?_
            refine cw_goto (pc := 176) (tgt := 2) C dX0_ticks_176 (by decide) ?_
            refine cw_lv [1, 2, 3, 0] rfl ?_
            exact ih2 (k + 1) aw1 pa1 (by omega) (by omega)
        refine cw_lv [2, 3, 4, 5, 1, 0] rfl ?_
        exact L54 (tk0 (tksS (σ 1) v k)) (inN (tk0 (tksS (σ 1) v k))) (wntS (tk0 (tksS (σ 1) v k)) (inN (tk0 (tksS (σ 1) v k))) v) aw pa hi0.1 hi0.2.1 (rowOK_P ho) ho.1 (wntS_le hi0.1) (wntS_fit _ _ _) ho.2.2.2.2.2.2.1 (tickS_eq _ _)
  refine cw_eq (σ' := up2 σ 1 (σ 1)) ((up2_self σ 1).symm) ?_
  refine cw_eq (σ' := up2 (up2 σ 1 (σ 1)) 4 (σ 4)) ((up2_self (up2 σ 1 (σ 1)) 4).symm) ?_
  refine cw_eq (σ' := up2 (up2 (up2 σ 1 (σ 1)) 4 (σ 4)) 5 (σ 5)) ((up2_self (up2 (up2 σ 1 (σ 1)) 4 (σ 4)) 5).symm) ?_
  refine cw_lv [1, 2, 3, 0] rfl ?_
  exact L2 (m1 + 1) 0 (σ 4) (σ 5) (by omega) (by omega)
