theorem c_X1_comingN (l : Launch) (D : va_G) (Z : CZ) (A : Nat → Nat) (σ : St) (g k : Nat) (hX : setsOK (σ 1)) (hg : g ≤ 7) (hk : k ≤ 7) (hs : simN (σ 1) g k = true) : CTi l yX1_coming wsX1_coming 3 63 D Z (wC Z A) σ [.ref (A 3), .int (nI g), .int (nI k)] (fun r σ' => r = nI (comS (σ 1 g) (σ 1 k)) ∧ σ' = σ) := by
  have h := c_X1_coming l D Z A σ g k hX hg hk
  unfold comN at h
  rw [if_pos hs] at h
  exact h
set_option maxHeartbeats 4000000 in
set_option maxRecDepth 100000 in
theorem c_X0_wanted (l : Launch) (D : va_G) (Z : CZ) (A : Nat → Nat) (σ : St) (i : Nat) (v : Int32) (hi : i ≤ 7) (hIN : σ 1 39 = nI i) : CTi l yX0_wanted wsX0_wanted 2 47 D Z (wC Z A) σ [.ref (A 7), .int (v)] (fun r σ' => r = nI (wntS (σ 1) i v) ∧ σ' = σ) := by
  refine CTi.mk (cc := cX0_wanted) (nL := 6) (own := RX0) rfl (by decide) rfl (Nat.le_of_ble_eq_true rfl) ?_
  intro p0 e0 s0 m0 g0 b0 t0 c0 A0 Q C hret
  refine cw_lv (lv' := [(0, .ref (A 7)), (1, .int (v))]) [0, 1] rfl ?_
  refine cw_aload_n (pc := 0) C dX0_wanted_0 rfl 0 rfl ?_
  refine cw_get (pc := 1) C dX0_wanted_1 7 (v := .ref (A 1)) rfl rfl 0 rfl (fun _ h => List.mem_cons_of_mem _ (List.mem_append_left _ (List.mem_append_right _ h))) (by decide) (List.mem_of_getElem? (i := 1) rfl) ?_
  refine cw_bipush (pc := 4) C dX0_wanted_4 (nI 39) (by decide) ?_
  refine cw_iald2 (pc := 6) C dX0_wanted_6 1 1 (wC_g1 Z A) (f := σ 1) rfl 39 rfl (by decide) (by decide) ?_
  refine cw_top (nI i) hIN ?_
  refine cw_istore_n (pc := 7) C dX0_wanted_7 rfl (by decide) (lv' := [(2, .int (nI i)), (0, .ref (A 7)), (1, .int (v))]) rfl ?_
  refine cw_iload_n (pc := 8) C dX0_wanted_8 rfl 0 rfl ?_
  refine cw_if_ne (pc := 9) (tgt := 22) C dX0_wanted_9 (by decide) (fun h9 => ?_) (fun h9 => ?_)
  · -- 9 t
    have h9 : ¬ i = 0 := (nc_ne (a := i) (b := 0) (by omega) (by omega)).mp h9
    refine cw_iconst (pc := 22) C dX0_wanted_22 (nI 5) (by decide) ?_
    refine cw_aload_n (pc := 23) C dX0_wanted_23 rfl 1 rfl ?_
    refine cw_get (pc := 24) C dX0_wanted_24 7 (v := .ref (A 1)) rfl rfl 0 rfl (fun _ h => List.mem_cons_of_mem _ (List.mem_append_left _ (List.mem_append_right _ h))) (by decide) (List.mem_of_getElem? (i := 1) rfl) ?_
    refine cw_bipush (pc := 27) C dX0_wanted_27 (nI 47) (by decide) ?_
    refine cw_iald2 (pc := 29) C dX0_wanted_29 1 1 (wC_g1 Z A) (f := σ 1) rfl 47 rfl (by decide) (by decide) ?_
    refine cw_iconst (pc := 30) C dX0_wanted_30 (nI 3) (by decide) ?_
    refine cw_isub (pc := 31) C dX0_wanted_31 (z := (σ 1 47) - (nI 3)) rfl ?_
    refine cw_imul (pc := 32) C dX0_wanted_32 (z := (nI 5) * ((σ 1 47) - (nI 3))) rfl ?_
    refine cw_bipush (pc := 33) C dX0_wanted_33 (nI 10) (by decide) ?_
    refine cw_aload_n (pc := 35) C dX0_wanted_35 rfl 1 rfl ?_
    refine cw_get (pc := 36) C dX0_wanted_36 7 (v := .ref (A 1)) rfl rfl 0 rfl (fun _ h => List.mem_cons_of_mem _ (List.mem_append_left _ (List.mem_append_right _ h))) (by decide) (List.mem_of_getElem? (i := 1) rfl) ?_
    refine cw_bipush (pc := 39) C dX0_wanted_39 (nI 48) (by decide) ?_
    refine cw_iald2 (pc := 41) C dX0_wanted_41 1 1 (wC_g1 Z A) (f := σ 1) rfl 48 rfl (by decide) (by decide) ?_
    refine cw_imul (pc := 42) C dX0_wanted_42 (z := (nI 10) * (σ 1 48)) rfl ?_
    refine cw_iadd (pc := 43) C dX0_wanted_43 (z := addS (σ 1)) rfl ?_
    refine cw_istore_n (pc := 44) C dX0_wanted_44 rfl (by decide) (lv' := [(3, .int (addS (σ 1))), (2, .int (nI i)), (0, .ref (A 7)), (1, .int (v))]) rfl ?_
    refine cw_iload_n (pc := 45) C dX0_wanted_45 rfl 3 rfl ?_
    refine cw_aload_n (pc := 46) C dX0_wanted_46 rfl 2 rfl ?_
    refine cw_get (pc := 47) C dX0_wanted_47 7 (v := .ref (A 1)) rfl rfl 0 rfl (fun _ h => List.mem_cons_of_mem _ (List.mem_append_left _ (List.mem_append_right _ h))) (by decide) (List.mem_of_getElem? (i := 1) rfl) ?_
    refine cw_bipush (pc := 50) C dX0_wanted_50 (nI 8) (by decide) ?_
    refine cw_iload_n (pc := 52) C dX0_wanted_52 rfl 1 rfl ?_
    refine cw_iadd (pc := 53) C dX0_wanted_53 (z := nI (8 + i)) (nI_add _ _) ?_
    refine cw_iald2 (pc := 54) C dX0_wanted_54 1 1 (wC_g1 Z A) (f := σ 1) rfl (8 + i) rfl (by omega) (by decide) ?_
    refine cw_iload_n (pc := 55) C dX0_wanted_55 rfl 0 rfl ?_
    refine cw_iadd (pc := 56) C dX0_wanted_56 (z := (σ 1 (8 + i)) + (addS (σ 1))) rfl ?_
    refine cw_icmp_lt (pc := 57) (tgt := 72) C dX0_wanted_57 (by decide) (fun h57 => ?_) (fun h57 => ?_)
    · -- 57 t
      refine cw_iconst (pc := 72) C dX0_wanted_72 (nI 0) (by decide) ?_
      refine cw_istore (pc := 73) C dX0_wanted_73 (by decide) (lv' := [(4, .int (nI 0)), (3, .int (addS (σ 1))), (2, .int (nI i)), (0, .ref (A 7)), (1, .int (v))]) rfl ?_
      refine cw_iload (pc := 75) C dX0_wanted_75 0 rfl ?_
      have hl := nxUp_le (fitN (σ 1)) 7 i
      refine cw_if_eq (pc := 77) (tgt := 83) C dX0_wanted_77 (by decide) (fun _ => ?_) (fun h => False.elim (by revert h; decide))
      refine cw_iload_n (pc := 83) C dX0_wanted_83 rfl 4 rfl ?_
      refine cw_aload_n (pc := 84) C dX0_wanted_84 rfl 3 rfl ?_
      refine cw_get (pc := 85) C dX0_wanted_85 7 (v := .ref (A 1)) rfl rfl 0 rfl (fun _ h => List.mem_cons_of_mem _ (List.mem_append_left _ (List.mem_append_right _ h))) (by decide) (List.mem_of_getElem? (i := 1) rfl) ?_
      refine cw_bipush (pc := 88) C dX0_wanted_88 (nI 16) (by decide) ?_
      refine cw_iload_n (pc := 90) C dX0_wanted_90 rfl 2 rfl ?_
      refine cw_iadd (pc := 91) C dX0_wanted_91 (z := nI (16 + i)) (nI_add _ _) ?_
      refine cw_iald2 (pc := 92) C dX0_wanted_92 1 1 (wC_g1 Z A) (f := σ 1) rfl (16 + i) rfl (by omega) (by decide) ?_
      refine cw_iload_n (pc := 93) C dX0_wanted_93 rfl 1 rfl ?_
      refine cw_iadd (pc := 94) C dX0_wanted_94 (z := (σ 1 (16 + i)) + (addS (σ 1))) rfl ?_
      refine cw_icmp_ge (pc := 95) (tgt := 110) C dX0_wanted_95 (by decide) (fun h95 => ?_) (fun h95 => ?_)
      · -- 95 t
        refine cw_iconst (pc := 110) C dX0_wanted_110 (nI 0) (by decide) ?_
        refine cw_istore (pc := 111) C dX0_wanted_111 (by decide) (lv' := [(5, .int (nI 0)), (4, .int (nI 0)), (3, .int (addS (σ 1))), (2, .int (nI i)), (0, .ref (A 7)), (1, .int (v))]) rfl ?_
        refine cw_iload (pc := 113) C dX0_wanted_113 0 rfl ?_
        have hl2 := nxDn_le (fitN (σ 1)) 7 i
        refine cw_if_eq (pc := 115) (tgt := 123) C dX0_wanted_115 (by decide) (fun _ => ?_) (fun h => False.elim (by revert h; decide))
        refine cw_iload_n (pc := 123) C dX0_wanted_123 rfl 3 rfl ?_
        refine hret (nI i) σ _ _ dX0_wanted_124 ?_
        clear hret
        refine ⟨?_, rfl⟩
        rw [wntS, if_neg h9]
        rw [if_neg (show ¬ ¬ abvS (σ 1) i v = 0 by rw [abvS, if_pos h57]; exact fun q => q rfl)]
        rw [if_neg (show ¬ ¬ blwS (σ 1) i v = 0 by rw [blwS, if_pos h95]; exact fun q => q rfl)]
      · -- 95 f
        refine cw_aload_n (pc := 98) C dX0_wanted_98 rfl 3 rfl ?_
        refine cw_get (pc := 99) C dX0_wanted_99 7 (v := .ref (A 3)) rfl rfl 1 rfl (fun _ h => List.mem_cons_of_mem _ (List.mem_append_left _ (List.mem_append_right _ h))) (by decide) (List.mem_of_getElem? (i := 2) rfl) ?_
        refine cw_iload_n (pc := 102) C dX0_wanted_102 rfl 2 rfl ?_
        refine cw_iconst (pc := 103) C dX0_wanted_103 (-1) (by decide) ?_
        refine cw_calli (pc := 104) C dX0_wanted_104 (c_X1_nextDn l D Z A σ i (by omega)) (cwV 2 C.1.2.2.2.2 gX0_wanted_X1_nextFit rfl rfl rfl (by decide +kernel) ⟨Nat.le_of_ble_eq_true rfl, Nat.le_of_ble_eq_true rfl⟩) 3 rfl rfl rfl rfl (Nat.le_of_ble_eq_true rfl) (cw_pure (v := nI (nxDn (fitN (σ 1)) 7 i)) (fun _ _ h => h) ?_)
        refine cw_goto (pc := 107) (tgt := 111) C dX0_wanted_107 (by decide) ?_
        refine cw_istore (pc := 111) C dX0_wanted_111 (by decide) (lv' := [(5, .int (nI (nxDn (fitN (σ 1)) 7 i))), (4, .int (nI 0)), (3, .int (addS (σ 1))), (2, .int (nI i)), (0, .ref (A 7)), (1, .int (v))]) rfl ?_
        refine cw_iload (pc := 113) C dX0_wanted_113 0 rfl ?_
        have hl2 := nxDn_le (fitN (σ 1)) 7 i
        refine cw_if_eq (pc := 115) (tgt := 123) C dX0_wanted_115 (by decide) (fun h115 => ?_) (fun h115 => ?_)
        · -- 115 t
          have h115 : (nxDn (fitN (σ 1)) 7 i) = 0 := (nc_eq (a := nxDn (fitN (σ 1)) 7 i) (b := 0) (by omega) (by omega)).mp h115
          refine cw_iload_n (pc := 123) C dX0_wanted_123 rfl 3 rfl ?_
          refine hret (nI i) σ _ _ dX0_wanted_124 ?_
          clear hret
          refine ⟨?_, rfl⟩
          rw [wntS, if_neg h9]
          rw [if_neg (show ¬ ¬ abvS (σ 1) i v = 0 by rw [abvS, if_pos h57]; exact fun q => q rfl)]
          rw [if_neg (show ¬ ¬ blwS (σ 1) i v = 0 by rw [blwS, if_neg h95]; exact fun q => q h115)]
        · -- 115 f
          have h115 : ¬ ((nxDn (fitN (σ 1)) 7 i) = 0) := fun qq => h115 ((nc_eq (a := nxDn (fitN (σ 1)) 7 i) (b := 0) (by omega) (by omega)).mpr qq)
          refine cw_iload (pc := 118) C dX0_wanted_118 0 rfl ?_
          refine cw_goto (pc := 120) (tgt := 124) C dX0_wanted_120 (by decide) ?_
          refine hret (nI (nxDn (fitN (σ 1)) 7 i)) σ _ _ dX0_wanted_124 ?_
          clear hret
          refine ⟨?_, rfl⟩
          rw [wntS, if_neg h9]
          rw [if_neg (show ¬ ¬ abvS (σ 1) i v = 0 by rw [abvS, if_pos h57]; exact fun q => q rfl)]
          rw [if_pos (show ¬ blwS (σ 1) i v = 0 by rw [blwS, if_neg h95]; exact h115), blwS, if_neg h95]
    · -- 57 f
      refine cw_aload_n (pc := 60) C dX0_wanted_60 rfl 2 rfl ?_
      refine cw_get (pc := 61) C dX0_wanted_61 7 (v := .ref (A 3)) rfl rfl 1 rfl (fun _ h => List.mem_cons_of_mem _ (List.mem_append_left _ (List.mem_append_right _ h))) (by decide) (List.mem_of_getElem? (i := 2) rfl) ?_
      refine cw_iload_n (pc := 64) C dX0_wanted_64 rfl 1 rfl ?_
      refine cw_iconst (pc := 65) C dX0_wanted_65 (nI 1) (by decide) ?_
      refine cw_calli (pc := 66) C dX0_wanted_66 (c_X1_nextUp l D Z A σ i (by omega)) (cwV 2 C.1.2.2.2.2 gX0_wanted_X1_nextFit rfl rfl rfl (by decide +kernel) ⟨Nat.le_of_ble_eq_true rfl, Nat.le_of_ble_eq_true rfl⟩) 3 rfl rfl rfl rfl (Nat.le_of_ble_eq_true rfl) (cw_pure (v := nI (nxUp (fitN (σ 1)) 7 i)) (fun _ _ h => h) ?_)
      refine cw_goto (pc := 69) (tgt := 73) C dX0_wanted_69 (by decide) ?_
      refine cw_istore (pc := 73) C dX0_wanted_73 (by decide) (lv' := [(4, .int (nI (nxUp (fitN (σ 1)) 7 i))), (3, .int (addS (σ 1))), (2, .int (nI i)), (0, .ref (A 7)), (1, .int (v))]) rfl ?_
      refine cw_iload (pc := 75) C dX0_wanted_75 0 rfl ?_
      have hl := nxUp_le (fitN (σ 1)) 7 i
      refine cw_if_eq (pc := 77) (tgt := 83) C dX0_wanted_77 (by decide) (fun h77 => ?_) (fun h77 => ?_)
      · -- 77 t
        have h77 : (nxUp (fitN (σ 1)) 7 i) = 0 := (nc_eq (a := nxUp (fitN (σ 1)) 7 i) (b := 0) (by omega) (by omega)).mp h77
        refine cw_iload_n (pc := 83) C dX0_wanted_83 rfl 4 rfl ?_
        refine cw_aload_n (pc := 84) C dX0_wanted_84 rfl 3 rfl ?_
        refine cw_get (pc := 85) C dX0_wanted_85 7 (v := .ref (A 1)) rfl rfl 0 rfl (fun _ h => List.mem_cons_of_mem _ (List.mem_append_left _ (List.mem_append_right _ h))) (by decide) (List.mem_of_getElem? (i := 1) rfl) ?_
        refine cw_bipush (pc := 88) C dX0_wanted_88 (nI 16) (by decide) ?_
        refine cw_iload_n (pc := 90) C dX0_wanted_90 rfl 2 rfl ?_
        refine cw_iadd (pc := 91) C dX0_wanted_91 (z := nI (16 + i)) (nI_add _ _) ?_
        refine cw_iald2 (pc := 92) C dX0_wanted_92 1 1 (wC_g1 Z A) (f := σ 1) rfl (16 + i) rfl (by omega) (by decide) ?_
        refine cw_iload_n (pc := 93) C dX0_wanted_93 rfl 1 rfl ?_
        refine cw_iadd (pc := 94) C dX0_wanted_94 (z := (σ 1 (16 + i)) + (addS (σ 1))) rfl ?_
        refine cw_icmp_ge (pc := 95) (tgt := 110) C dX0_wanted_95 (by decide) (fun h95 => ?_) (fun h95 => ?_)
        · -- 95 t
          refine cw_iconst (pc := 110) C dX0_wanted_110 (nI 0) (by decide) ?_
          refine cw_istore (pc := 111) C dX0_wanted_111 (by decide) (lv' := [(5, .int (nI 0)), (4, .int (nI (nxUp (fitN (σ 1)) 7 i))), (3, .int (addS (σ 1))), (2, .int (nI i)), (0, .ref (A 7)), (1, .int (v))]) rfl ?_
          refine cw_iload (pc := 113) C dX0_wanted_113 0 rfl ?_
          have hl2 := nxDn_le (fitN (σ 1)) 7 i
          refine cw_if_eq (pc := 115) (tgt := 123) C dX0_wanted_115 (by decide) (fun _ => ?_) (fun h => False.elim (by revert h; decide))
          refine cw_iload_n (pc := 123) C dX0_wanted_123 rfl 3 rfl ?_
          refine hret (nI i) σ _ _ dX0_wanted_124 ?_
          clear hret
          refine ⟨?_, rfl⟩
          rw [wntS, if_neg h9]
          rw [if_neg (show ¬ ¬ abvS (σ 1) i v = 0 by rw [abvS, if_neg h57]; exact fun q => q h77)]
          rw [if_neg (show ¬ ¬ blwS (σ 1) i v = 0 by rw [blwS, if_pos h95]; exact fun q => q rfl)]
        · -- 95 f
          refine cw_aload_n (pc := 98) C dX0_wanted_98 rfl 3 rfl ?_
          refine cw_get (pc := 99) C dX0_wanted_99 7 (v := .ref (A 3)) rfl rfl 1 rfl (fun _ h => List.mem_cons_of_mem _ (List.mem_append_left _ (List.mem_append_right _ h))) (by decide) (List.mem_of_getElem? (i := 2) rfl) ?_
          refine cw_iload_n (pc := 102) C dX0_wanted_102 rfl 2 rfl ?_
          refine cw_iconst (pc := 103) C dX0_wanted_103 (-1) (by decide) ?_
          refine cw_calli (pc := 104) C dX0_wanted_104 (c_X1_nextDn l D Z A σ i (by omega)) (cwV 2 C.1.2.2.2.2 gX0_wanted_X1_nextFit rfl rfl rfl (by decide +kernel) ⟨Nat.le_of_ble_eq_true rfl, Nat.le_of_ble_eq_true rfl⟩) 3 rfl rfl rfl rfl (Nat.le_of_ble_eq_true rfl) (cw_pure (v := nI (nxDn (fitN (σ 1)) 7 i)) (fun _ _ h => h) ?_)
          refine cw_goto (pc := 107) (tgt := 111) C dX0_wanted_107 (by decide) ?_
          refine cw_istore (pc := 111) C dX0_wanted_111 (by decide) (lv' := [(5, .int (nI (nxDn (fitN (σ 1)) 7 i))), (4, .int (nI (nxUp (fitN (σ 1)) 7 i))), (3, .int (addS (σ 1))), (2, .int (nI i)), (0, .ref (A 7)), (1, .int (v))]) rfl ?_
          refine cw_iload (pc := 113) C dX0_wanted_113 0 rfl ?_
          have hl2 := nxDn_le (fitN (σ 1)) 7 i
          refine cw_if_eq (pc := 115) (tgt := 123) C dX0_wanted_115 (by decide) (fun h115 => ?_) (fun h115 => ?_)
          · -- 115 t
            have h115 : (nxDn (fitN (σ 1)) 7 i) = 0 := (nc_eq (a := nxDn (fitN (σ 1)) 7 i) (b := 0) (by omega) (by omega)).mp h115
            refine cw_iload_n (pc := 123) C dX0_wanted_123 rfl 3 rfl ?_
            refine hret (nI i) σ _ _ dX0_wanted_124 ?_
            clear hret
            refine ⟨?_, rfl⟩
            rw [wntS, if_neg h9]
            rw [if_neg (show ¬ ¬ abvS (σ 1) i v = 0 by rw [abvS, if_neg h57]; exact fun q => q h77)]
            rw [if_neg (show ¬ ¬ blwS (σ 1) i v = 0 by rw [blwS, if_neg h95]; exact fun q => q h115)]
          · -- 115 f
            have h115 : ¬ ((nxDn (fitN (σ 1)) 7 i) = 0) := fun qq => h115 ((nc_eq (a := nxDn (fitN (σ 1)) 7 i) (b := 0) (by omega) (by omega)).mpr qq)
            refine cw_iload (pc := 118) C dX0_wanted_118 0 rfl ?_
            refine cw_goto (pc := 120) (tgt := 124) C dX0_wanted_120 (by decide) ?_
            refine hret (nI (nxDn (fitN (σ 1)) 7 i)) σ _ _ dX0_wanted_124 ?_
            clear hret
            refine ⟨?_, rfl⟩
            rw [wntS, if_neg h9]
            rw [if_neg (show ¬ ¬ abvS (σ 1) i v = 0 by rw [abvS, if_neg h57]; exact fun q => q h77)]
            rw [if_pos (show ¬ blwS (σ 1) i v = 0 by rw [blwS, if_neg h95]; exact h115), blwS, if_neg h95]
      · -- 77 f
        have h77 : ¬ ((nxUp (fitN (σ 1)) 7 i) = 0) := fun qq => h77 ((nc_eq (a := nxUp (fitN (σ 1)) 7 i) (b := 0) (by omega) (by omega)).mpr qq)
        refine cw_iload (pc := 80) C dX0_wanted_80 0 rfl ?_
        refine hret (nI (nxUp (fitN (σ 1)) 7 i)) σ _ _ dX0_wanted_82 ?_
        clear hret
        refine ⟨?_, rfl⟩
        rw [wntS, if_neg h9]
        rw [if_pos (show ¬ abvS (σ 1) i v = 0 by rw [abvS, if_neg h57]; exact h77), abvS, if_neg h57]
  · -- 9 f
    have h9 : i = 0 := (nc_eq (a := i) (b := 0) (by omega) (by omega)).mp h9
    have h9 : i = 0 := by omega
    refine cw_aload_n (pc := 12) C dX0_wanted_12 rfl 1 rfl ?_
    refine cw_get (pc := 13) C dX0_wanted_13 7 (v := .ref (A 3)) rfl rfl 1 rfl (fun _ h => List.mem_cons_of_mem _ (List.mem_append_left _ (List.mem_append_right _ h))) (by decide) (List.mem_of_getElem? (i := 2) rfl) ?_
    refine cw_iconst (pc := 16) C dX0_wanted_16 (nI 0) (by decide) ?_
    refine cw_iconst (pc := 17) C dX0_wanted_17 (nI 1) (by decide) ?_
    refine cw_calli (pc := 18) C dX0_wanted_18 (c_X1_nextUp l D Z A σ 0 (by omega)) (cwV 2 C.1.2.2.2.2 gX0_wanted_X1_nextFit rfl rfl rfl (by decide +kernel) ⟨Nat.le_of_ble_eq_true rfl, Nat.le_of_ble_eq_true rfl⟩) 3 rfl rfl rfl rfl (Nat.le_of_ble_eq_true rfl) (cw_pure (v := nI (nxUp (fitN (σ 1)) 7 0)) (fun _ _ h => h) ?_)
    refine hret (nI (nxUp (fitN (σ 1)) 7 0)) σ _ _ dX0_wanted_21 ?_
    clear hret
    exact ⟨by rw [wntS, if_pos h9], rfl⟩
set_option maxHeartbeats 4000000 in
set_option maxRecDepth 100000 in
theorem c_X0_noteTurn (l : Launch) (D : va_G) (Z : CZ) (A : Nat → Nat) (σ : St)  (up : Bool)  : CTv l yX0_noteTurn wsX0_noteTurn 0 0 D Z (wC Z A) σ [.ref (A 7), .int (bI up)] (fun σ' => σ' = up2 σ 1 (noteS (σ 1) up)) := by
  refine CTv.mk (cc := cX0_noteTurn) (nL := 2) (own := RX0) rfl (by decide) rfl (Nat.le_of_ble_eq_true rfl) ?_
  intro p0 e0 s0 m0 g0 b0 t0 c0 A0 Q C hret
  refine cw_lv (lv' := [(0, .ref (A 7)), (1, .int (bI up))]) [0, 1] rfl ?_
  refine cw_iload_n (pc := 0) C dX0_noteTurn_0 rfl 1 rfl ?_
  refine cw_if_eq (pc := 1) (tgt := 21) C dX0_noteTurn_1 (by decide) (fun h1 => ?_) (fun h1 => ?_)
  · -- 1 t
    have h1 := bI_z h1
    refine cw_aload_n (pc := 21) C dX0_noteTurn_21 rfl 0 rfl ?_
    refine cw_get (pc := 22) C dX0_noteTurn_22 7 (v := .ref (A 1)) rfl rfl 0 rfl (fun _ h => List.mem_cons_of_mem _ (List.mem_append_right _ h)) (by decide) (List.mem_of_getElem? (i := 1) rfl) ?_
    refine cw_bipush (pc := 25) C dX0_noteTurn_25 (nI 42) (by decide) ?_
    refine cw_iald2 (pc := 27) C dX0_noteTurn_27 1 1 (wC_g1 Z A) (f := σ 1) rfl 42 rfl (by decide) (by decide) ?_
    refine cw_iconst (pc := 28) C dX0_noteTurn_28 (-1) (by decide) ?_
    refine cw_icmp_eq (pc := 29) (tgt := 71) C dX0_noteTurn_29 (by decide) (fun h29 => ?_) (fun h29 => ?_)
    · -- 29 t
      refine hret σ _ _ dX0_noteTurn_71 ?_
      clear hret
      refine (up2_self σ 1).symm.trans (congrArg (up2 σ 1) ?_)
      simp_all [noteS]
    · -- 29 f
      refine cw_aload_n (pc := 32) C dX0_noteTurn_32 rfl 0 rfl ?_
      refine cw_get (pc := 33) C dX0_noteTurn_33 7 (v := .ref (A 1)) rfl rfl 0 rfl (fun _ h => List.mem_cons_of_mem _ (List.mem_append_right _ h)) (by decide) (List.mem_of_getElem? (i := 1) rfl) ?_
      refine cw_bipush (pc := 36) C dX0_noteTurn_36 (nI 40) (by decide) ?_
      refine cw_iald2 (pc := 38) C dX0_noteTurn_38 1 1 (wC_g1 Z A) (f := σ 1) rfl 40 rfl (by decide) (by decide) ?_
      refine cw_aload_n (pc := 39) C dX0_noteTurn_39 rfl 0 rfl ?_
      refine cw_get (pc := 40) C dX0_noteTurn_40 7 (v := .ref (A 1)) rfl rfl 0 rfl (fun _ h => List.mem_cons_of_mem _ (List.mem_append_right _ h)) (by decide) (List.mem_of_getElem? (i := 1) rfl) ?_
      refine cw_bipush (pc := 43) C dX0_noteTurn_43 (nI 42) (by decide) ?_
      refine cw_iald2 (pc := 45) C dX0_noteTurn_45 1 1 (wC_g1 Z A) (f := σ 1) rfl 42 rfl (by decide) (by decide) ?_
      refine cw_isub (pc := 46) C dX0_noteTurn_46 (z := (σ 1 40) - (σ 1 42)) rfl ?_
      refine cw_iconst (pc := 47) C dX0_noteTurn_47 (nI 5) (by decide) ?_
      refine cw_icmp_gt (pc := 48) (tgt := 71) C dX0_noteTurn_48 (by decide) (fun h48 => ?_) (fun h48 => ?_)
      · -- 48 t
        refine hret σ _ _ dX0_noteTurn_71 ?_
        clear hret
        refine (up2_self σ 1).symm.trans (congrArg (up2 σ 1) ?_)
        simp_all [noteS]
      · -- 48 f
        refine cw_aload_n (pc := 51) C dX0_noteTurn_51 rfl 0 rfl ?_
        refine cw_get (pc := 52) C dX0_noteTurn_52 7 (v := .ref (A 1)) rfl rfl 0 rfl (fun _ h => List.mem_cons_of_mem _ (List.mem_append_right _ h)) (by decide) (List.mem_of_getElem? (i := 1) rfl) ?_
        refine cw_bipush (pc := 55) C dX0_noteTurn_55 (nI 46) (by decide) ?_
        refine cw_dup2 (pc := 57) C dX0_noteTurn_57 rfl rfl ?_
        refine cw_iald2 (pc := 58) C dX0_noteTurn_58 1 1 (wC_g1 Z A) (f := σ 1) rfl 46 rfl (by decide) (by decide) ?_
        refine cw_iconst (pc := 59) C dX0_noteTurn_59 (nI 1) (by decide) ?_
        refine cw_iadd (pc := 60) C dX0_noteTurn_60 (z := (σ 1 46) + (nI 1)) rfl ?_
        refine cw_iast2 (pc := 61) C dX0_noteTurn_61 1 1 (wC_g1 Z A) (wC_s1 Z A) (f := σ 1) rfl 46 rfl (by decide) (by decide) (up2 σ 1 (upd (σ 1) 46 ((σ 1 46) + (nI 1)))) rfl ?_
        refine cw_aload_n (pc := 62) C dX0_noteTurn_62 rfl 0 rfl ?_
        refine cw_get (pc := 63) C dX0_noteTurn_63 7 (v := .ref (A 1)) rfl rfl 0 rfl (fun _ h => List.mem_cons_of_mem _ (List.mem_append_right _ h)) (by decide) (List.mem_of_getElem? (i := 1) rfl) ?_
        refine cw_bipush (pc := 66) C dX0_noteTurn_66 (nI 41) (by decide) ?_
        refine cw_bipush (pc := 68) C dX0_noteTurn_68 (nI 10) (by decide) ?_
        refine cw_iast2 (pc := 70) C dX0_noteTurn_70 1 1 (wC_g1 Z A) (wC_s1 Z A) (f := upd (σ 1) 46 ((σ 1 46) + (nI 1))) (up2_eq _ _ _) 41 rfl (by decide) (by decide) (up2 σ 1 (upd (upd (σ 1) 46 ((σ 1 46) + (nI 1))) 41 (nI 10))) (up2_up2 _ 1 _ _) ?_
        refine hret (up2 σ 1 (upd (upd (σ 1) 46 ((σ 1 46) + (nI 1))) 41 (nI 10))) _ _ dX0_noteTurn_71 ?_
        clear hret
        exact congrArg (up2 σ 1) (by simp_all [noteS])
  · -- 1 f
    have h1 := bI_nz h1
    refine cw_aload_n (pc := 4) C dX0_noteTurn_4 rfl 0 rfl ?_
    refine cw_get (pc := 5) C dX0_noteTurn_5 7 (v := .ref (A 1)) rfl rfl 0 rfl (fun _ h => List.mem_cons_of_mem _ (List.mem_append_right _ h)) (by decide) (List.mem_of_getElem? (i := 1) rfl) ?_
    refine cw_bipush (pc := 8) C dX0_noteTurn_8 (nI 42) (by decide) ?_
    refine cw_aload_n (pc := 10) C dX0_noteTurn_10 rfl 0 rfl ?_
    refine cw_get (pc := 11) C dX0_noteTurn_11 7 (v := .ref (A 1)) rfl rfl 0 rfl (fun _ h => List.mem_cons_of_mem _ (List.mem_append_right _ h)) (by decide) (List.mem_of_getElem? (i := 1) rfl) ?_
    refine cw_bipush (pc := 14) C dX0_noteTurn_14 (nI 40) (by decide) ?_
    refine cw_iald2 (pc := 16) C dX0_noteTurn_16 1 1 (wC_g1 Z A) (f := σ 1) rfl 40 rfl (by decide) (by decide) ?_
    refine cw_iast2 (pc := 17) C dX0_noteTurn_17 1 1 (wC_g1 Z A) (wC_s1 Z A) (f := σ 1) rfl 42 rfl (by decide) (by decide) (up2 σ 1 (upd (σ 1) 42 (σ 1 40))) rfl ?_
    refine cw_goto (pc := 18) (tgt := 71) C dX0_noteTurn_18 (by decide) ?_
    refine hret (up2 σ 1 (upd (σ 1) 42 (σ 1 40))) _ _ dX0_noteTurn_71 ?_
    clear hret
    exact congrArg (up2 σ 1) (by simp_all [noteS])
set_option maxHeartbeats 4000000 in
set_option maxRecDepth 100000 in
theorem c_X0_goTo (l : Launch) (D : va_G) (Z : CZ) (A : Nat → Nat) (σ : St) (i : Nat) (to : Nat) (hi : i ≤ 7) (hIN : σ 1 39 = nI i) (hR : ¬ σ 1 49 = 0) (hX : setsOK (σ 1)) (hto : to ≤ 7) (hft : to = i ∨ fitN (σ 1) to = true) : CTv l yX0_goTo wsX0_goTo 4 90 D Z (wC Z A) σ [.ref (A 7), .int (nI to)] (fun σ' => ∃ aw pa : Nat → Int32, σ' = up2 (up2 (up2 σ 1 (goS (σ 1) i to)) 4 aw) 5 pa) := by
  refine CTv.mk (cc := cX0_goTo) (nL := 7) (own := RX0) rfl (by decide) rfl (Nat.le_of_ble_eq_true rfl) ?_
  intro p0 e0 s0 m0 g0 b0 t0 c0 A0 Q C hret
  refine cw_lv (lv' := [(0, .ref (A 7)), (1, .int (nI to))]) [0, 1] rfl ?_
  refine cw_aload_n (pc := 0) C dX0_goTo_0 rfl 0 rfl ?_
  refine cw_get (pc := 1) C dX0_goTo_1 7 (v := .ref (A 1)) rfl rfl 0 rfl (fun _ h => List.mem_cons_of_mem _ (List.mem_append_left _ (List.mem_append_left _ (List.mem_append_right _ h)))) (by decide) (List.mem_of_getElem? (i := 1) rfl) ?_
  refine cw_bipush (pc := 4) C dX0_goTo_4 (nI 39) (by decide) ?_
  refine cw_iald2 (pc := 6) C dX0_goTo_6 1 1 (wC_g1 Z A) (f := σ 1) rfl 39 rfl (by decide) (by decide) ?_
  refine cw_top (nI i) hIN ?_
  refine cw_istore_n (pc := 7) C dX0_goTo_7 rfl (by decide) (lv' := [(2, .int (nI i)), (0, .ref (A 7)), (1, .int (nI to))]) rfl ?_
  refine cw_iload_n (pc := 8) C dX0_goTo_8 rfl 0 rfl ?_
  refine cw_if_eq (pc := 9) (tgt := 21) C dX0_goTo_9 (by decide) (fun h9 => ?_) (fun h9 => ?_)
  · -- 9 t
    have h9 : i = 0 := (nc_eq (a := i) (b := 0) (by omega) (by omega)).mp h9
    refine cw_iconst (pc := 21) C dX0_goTo_21 (nI 0) (by decide) ?_
    refine cw_istore_n (pc := 22) C dX0_goTo_22 rfl (by decide) (lv' := [(3, .int (nI 0)), (2, .int (nI i)), (0, .ref (A 7)), (1, .int (nI to))]) rfl ?_
    refine cw_iload_n (pc := 23) C dX0_goTo_23 rfl 3 rfl ?_
    refine cw_iload_n (pc := 24) C dX0_goTo_24 rfl 1 rfl ?_
    refine cw_icmp_eq (pc := 25) (tgt := 42) C dX0_goTo_25 (by decide) (fun h25 => ?_) (fun h25 => ?_)
    · -- 25 t
      have h25 : to = i := (nc_eq (a := to) (b := i) (by omega) (by omega)).mp h25
      refine hret σ _ _ dX0_goTo_42 ?_
      clear hret
      exact ⟨σ 4, σ 5, by first | (rw [goS, if_pos (Or.inl h25)]; exact up3_self σ) | (rw [goS, if_pos (Or.inr ⟨⟨by omega, by omega⟩, Int32.not_le.mp h39⟩)]; exact up3_self σ)⟩
    · -- 25 f
      have h25 : ¬ (to = i) := fun qq => h25 ((nc_eq (a := to) (b := i) (by omega) (by omega)).mpr qq)
      refine cw_iload_n (pc := 28) C dX0_goTo_28 rfl 0 rfl ?_
      refine cw_if_eq (pc := 29) (tgt := 43) C dX0_goTo_29 (by decide) (fun _ => ?_) (fun h => False.elim (by revert h; decide))
      refine cw_iload_n (pc := 43) C dX0_goTo_43 rfl 1 rfl ?_
      have hnu : ¬ ((i ≠ 0 ∧ i < to) ∧ nI 0 < σ 1 41) := fun q => absurd q.1 (by omega)
      refine cw_if_ne (pc := 44) (tgt := 56) C dX0_goTo_44 (by decide) (fun h44 => ?_) (fun h44 => ?_)
      · -- 44 t
        have h44 : ¬ i = 0 := (nc_ne (a := i) (b := 0) (by omega) (by omega)).mp h44
        refine cw_aload_n (pc := 56) C dX0_goTo_56 rfl 2 rfl ?_
        refine cw_get (pc := 57) C dX0_goTo_57 7 (v := .ref (A 3)) rfl rfl 1 rfl (fun _ h => List.mem_cons_of_mem _ (List.mem_append_left _ (List.mem_append_left _ (List.mem_append_right _ h)))) (by decide) (List.mem_of_getElem? (i := 2) rfl) ?_
        refine cw_iload_n (pc := 60) C dX0_goTo_60 rfl 1 rfl ?_
        refine cw_iload_n (pc := 61) C dX0_goTo_61 rfl 3 rfl ?_
        refine cw_calli (pc := 62) C dX0_goTo_62 (c_X1_findWay l D Z A σ i to (by omega) (by omega) (by omega)) (cwV 2 C.1.2.2.2.2 gX0_goTo_X1_findWay rfl rfl rfl (by decide +kernel) ⟨Nat.le_of_ble_eq_true rfl, Nat.le_of_ble_eq_true rfl⟩) 3 rfl rfl rfl rfl (Nat.le_of_ble_eq_true rfl) (fun r σ1 hr => ?_)
        obtain ⟨rfl, aw, pa, rfl, hpa⟩ := hr
        have hs : wyN (σ 1) i to ≤ 6 := wayN_le _ _ _ _
        have hw7 : ∀ j, wyG (σ 1) i to j ≤ 7 := fun j => wayG_le _ _ _ hi j
        have hw0 : σ 1 39 = nI (wyG (σ 1) i to 0) := hIN
        have hsim : ∀ j, j < wyN (σ 1) i to → simN (σ 1) (wyG (σ 1) i to j) (wyG (σ 1) i to (j + 1)) = true := fun j hj => go_sim (hft.resolve_left h25) hj
        generalize hN : wyN (σ 1) i to = N at hpa hs hsim ⊢
        generalize hW : wyG (σ 1) i to = w at hpa hw7 hw0 hsim
        refine cw_istore (pc := 65) C dX0_goTo_65 (by decide) (lv' := [(4, .int (nI N)), (3, .int (nI 0)), (2, .int (nI i)), (0, .ref (A 7)), (1, .int (nI to))]) rfl ?_
        refine cw_iconst (pc := 67) C dX0_goTo_67 (nI 0) (by decide) ?_
        refine cw_istore (pc := 68) C dX0_goTo_68 (by decide) (lv' := [(5, .int (nI 0)), (4, .int (nI N)), (3, .int (nI 0)), (2, .int (nI i)), (0, .ref (A 7)), (1, .int (nI to))]) rfl ?_
        have L70 : ∀ (n70 : Nat) (j : Nat) (up : Bool) (hj : j ≤ N) (hm : N < j + n70) (hup : up = decide (i < to)), CW p0 l e0 (rmC 4 90) s0 m0 g0 b0 t0 c0 D A0 7 (wC Z A) Q (up2 (up2 (up2 σ 1 (shfS w (σ 1) j)) 4 aw) 5 pa) 70 [(0, .ref (A 7)), (1, .int (nI to)), (2, .int (nI i)), (3, .int (bI up)), (4, .int (nI N)), (5, .int (nI j))] [] := by
          intro n70
          induction n70 with
          | zero => intro j up hj hm hup; exact absurd hm (by omega)
          | succ n70 ih70 =>
            intro j up hj hm hup
            refine cw_iload (pc := 70) C dX0_goTo_70 5 rfl ?_
            refine cw_iload (pc := 72) C dX0_goTo_72 4 rfl ?_
            refine cw_icmp_ge (pc := 74) (tgt := 126) C dX0_goTo_74 (by decide) (fun h74 => ?_) (fun h74 => ?_)
            · -- 74 t
              have h74 : N ≤ j := (nc_ge (a := j) (b := N) (by omega) (by omega)).mp h74
              have hje : j = N := by omega
              refine cw_iload (pc := 126) C dX0_goTo_126 4 rfl ?_
              refine cw_if_le (pc := 128) (tgt := 136) C dX0_goTo_128 (by decide) (fun h128 => ?_) (fun h128 => ?_)
              · -- 128 t
                have h128 : N ≤ 0 := (nc_le (a := N) (b := 0) (by omega) (by omega)).mp h128
                refine hret (up2 (up2 (up2 σ 1 (shfS w (σ 1) j)) 4 aw) 5 pa) _ _ dX0_goTo_136 ?_
                clear hret
                refine ⟨aw, pa, ?_⟩
                rw [goS, if_neg (fun q => q.elim h25 hnu), if_neg (by omega), hN, if_pos (by omega), hje, show N = 0 by omega]
                rfl
              · -- 128 f
                have h128 : ¬ (N ≤ 0) := fun qq => h128 ((nc_le (a := N) (b := 0) (by omega) (by omega)).mpr qq)
                refine cw_aload_n (pc := 131) C dX0_goTo_131 rfl 0 rfl ?_
                refine cw_iload_n (pc := 132) C dX0_goTo_132 rfl 3 rfl ?_
                have hf1 : (up2 (up2 (up2 σ 1 (shfS w (σ 1) j)) 4 aw) 5 pa) 1 = shfS w (σ 1) j := ((up2_ne _ _ (by decide)).trans ((up2_ne _ _ (by decide)).trans (up2_eq _ _ _)))
                have ee0 := congrArg (fun qz => noteS qz up) hf1
                have e3 := congrArg (fun qz => up2 (up2 (up2 σ 1 qz) 4 aw) 5 pa) ee0
                refine cw_callv (pc := 133) C dX0_goTo_133 (c_X0_noteTurn l D Z A (up2 (up2 (up2 σ 1 (shfS w (σ 1) j)) 4 aw) 5 pa) up) (cwV 1 C.1.2.2.2.2 gX0_goTo_X0_noteTurn rfl rfl rfl (by decide +kernel) ⟨Nat.le_of_ble_eq_true rfl, Nat.le_of_ble_eq_true rfl⟩) 7 rfl rfl rfl rfl (Nat.le_of_ble_eq_true rfl) (cw_effv (fun _ h => h) (up2 (up2 (up2 σ 1 (noteS (shfS w (σ 1) j) up)) 4 aw) 5 pa) (congrArg (wC Z A) (((up2_comm _ _ _ (by decide)).trans (congrArg (fun qz => up2 qz 5 pa) ((up2_comm _ _ _ (by decide)).trans (congrArg (fun qz => up2 qz 4 aw) (up2_up2 _ 1 _ _))))).trans e3)) ?_)
                refine hret (up2 (up2 (up2 σ 1 (noteS (shfS w (σ 1) j) up)) 4 aw) 5 pa) _ _ dX0_goTo_136 ?_
                clear hret
                refine ⟨aw, pa, ?_⟩
                rw [goS, if_neg (fun q => q.elim h25 hnu), if_neg (by omega), hN, hW, if_neg (by omega), ← hje, ← hup]
            · -- 74 f
              have h74 : ¬ (N ≤ j) := fun qq => h74 ((nc_ge (a := j) (b := N) (by omega) (by omega)).mpr qq)
              refine cw_aload_n (pc := 77) C dX0_goTo_77 rfl 0 rfl ?_
              refine cw_get (pc := 78) C dX0_goTo_78 7 (v := .ref (A 3)) rfl rfl 1 rfl (fun _ h => List.mem_cons_of_mem _ (List.mem_append_left _ (List.mem_append_left _ (List.mem_append_right _ h)))) (by decide) (List.mem_of_getElem? (i := 2) rfl) ?_
              refine cw_iload (pc := 81) C dX0_goTo_81 5 rfl ?_
              have hf5 : (up2 (up2 (up2 σ 1 (shfS w (σ 1) j)) 4 aw) 5 pa) 5 = pa := (up2_eq _ _ _)
              have ev0 := congrArg (fun qz => qz j) hf5
              refine cw_calli (pc := 83) C dX0_goTo_83 (c_X1_onWay l D Z A (up2 (up2 (up2 σ 1 (shfS w (σ 1) j)) 4 aw) 5 pa) j (by omega)) (cwV 1 C.1.2.2.2.2 gX0_goTo_X1_onWay rfl rfl rfl (by decide +kernel) ⟨Nat.le_of_ble_eq_true rfl, Nat.le_of_ble_eq_true rfl⟩) 3 rfl rfl rfl rfl (Nat.le_of_ble_eq_true rfl) (cw_pure (v := pa j) (fun _ _ h => ⟨h.1.trans (ev0), h.2⟩) ?_)
              have hw1 := hw7 (j + 1)
              have hwj := hw7 j
              have hsm := hsim j (by omega)
              refine cw_top (nI (w (j + 1))) (hpa j (by omega)) ?_
              refine cw_istore (pc := 86) C dX0_goTo_86 (by decide) (lv' := [(6, .int (nI (w (j + 1)))), (0, .ref (A 7)), (1, .int (nI to)), (2, .int (nI i)), (3, .int (bI up)), (4, .int (nI N)), (5, .int (nI j))]) rfl ?_
              refine cw_aload_n (pc := 88) C dX0_goTo_88 rfl 1 rfl ?_
              refine cw_get (pc := 89) C dX0_goTo_89 7 (v := .ref (A 6)) rfl rfl 2 rfl (fun _ h => List.mem_cons_of_mem _ (List.mem_append_left _ (List.mem_append_left _ (List.mem_append_right _ h)))) (by decide) (List.mem_of_getElem? (i := 3) rfl) ?_
              refine cw_aload_n (pc := 92) C dX0_goTo_92 rfl 1 rfl ?_
              refine cw_get (pc := 93) C dX0_goTo_93 7 (v := .ref (A 3)) rfl rfl 1 rfl (fun _ h => List.mem_cons_of_mem _ (List.mem_append_left _ (List.mem_append_left _ (List.mem_append_right _ h)))) (by decide) (List.mem_of_getElem? (i := 2) rfl) ?_
              refine cw_aload_n (pc := 96) C dX0_goTo_96 rfl 1 rfl ?_
              refine cw_get (pc := 97) C dX0_goTo_97 7 (v := .ref (A 1)) rfl rfl 0 rfl (fun _ h => List.mem_cons_of_mem _ (List.mem_append_left _ (List.mem_append_left _ (List.mem_append_right _ h)))) (by decide) (List.mem_of_getElem? (i := 1) rfl) ?_
              refine cw_bipush (pc := 100) C dX0_goTo_100 (nI 39) (by decide) ?_
              refine cw_iald2 (pc := 102) C dX0_goTo_102 1 1 (wC_g1 Z A) (f := shfS w (σ 1) j) ((up2_ne _ _ (by decide)).trans ((up2_ne _ _ (by decide)).trans (up2_eq _ _ _))) 39 rfl (by decide) (by decide) ?_
              refine cw_top (nI (w j)) (shfS_in hw0 j) ?_
              refine cw_iload (pc := 103) C dX0_goTo_103 0 rfl ?_
              have hf1 : (up2 (up2 (up2 σ 1 (shfS w (σ 1) j)) 4 aw) 5 pa) 1 = shfS w (σ 1) j := ((up2_ne _ _ (by decide)).trans ((up2_ne _ _ (by decide)).trans (up2_eq _ _ _)))
              have ev0 := congrArg (fun qz => nI (comS (qz (w j)) (qz (w (j + 1))))) hf1
              refine cw_calli (pc := 105) C dX0_goTo_105 (c_X1_comingN l D Z A (up2 (up2 (up2 σ 1 (shfS w (σ 1) j)) 4 aw) 5 pa) (w j) (w (j + 1)) (by rw [hf1]; exact sameG_sets (shfS_same w (σ 1) j) hX) hwj hw1 (by rw [hf1, sameG_sim (shfS_same _ _ _) hwj hw1]; exact hsm)) (cwV 2 C.1.2.2.2.2 gX0_goTo_X1_coming rfl rfl rfl (by decide +kernel) ⟨Nat.le_of_ble_eq_true rfl, Nat.le_of_ble_eq_true rfl⟩) 3 rfl rfl rfl rfl (Nat.le_of_ble_eq_true rfl) (cw_pure (v := nI (comS ((shfS w (σ 1) j) (w j)) ((shfS w (σ 1) j) (w (j + 1))))) (fun _ _ h => ⟨h.1.trans (ev0), h.2⟩) ?_)
              refine cw_top (nI (comS (σ 1 (w j)) (σ 1 (w (j + 1))))) (by rw [(shfS_same w (σ 1) j).1 _ hwj, (shfS_same w (σ 1) j).1 _ hw1]) ?_
              have hf1 : (up2 (up2 (up2 σ 1 (shfS w (σ 1) j)) 4 aw) 5 pa) 1 = shfS w (σ 1) j := ((up2_ne _ _ (by decide)).trans ((up2_ne _ _ (by decide)).trans (up2_eq _ _ _)))
              have ee0 := congrArg (fun qz => lrnS qz (comS (σ 1 (w j)) (σ 1 (w (j + 1))))) hf1
              have e3 := congrArg (fun qz => up2 (up2 (up2 σ 1 qz) 4 aw) 5 pa) ee0
              refine cw_callv (pc := 108) C dX0_goTo_108 (c_X3_learn l D Z A (up2 (up2 (up2 σ 1 (shfS w (σ 1) j)) 4 aw) 5 pa) (comS (σ 1 (w j)) (σ 1 (w (j + 1)))) (by rw [hf1, shfS_ne _ _ (by omega)]; exact hR) (comS_lt _ _)) (cwV 1 C.1.2.2.2.2 gX0_goTo_X3_learn rfl rfl rfl (by decide +kernel) ⟨Nat.le_of_ble_eq_true rfl, Nat.le_of_ble_eq_true rfl⟩) 6 rfl rfl rfl rfl (Nat.le_of_ble_eq_true rfl) (cw_effv (fun _ h => h) (up2 (up2 (up2 σ 1 (lrnS (shfS w (σ 1) j) (comS (σ 1 (w j)) (σ 1 (w (j + 1)))))) 4 aw) 5 pa) (congrArg (wC Z A) (((up2_comm _ _ _ (by decide)).trans (congrArg (fun qz => up2 qz 5 pa) ((up2_comm _ _ _ (by decide)).trans (congrArg (fun qz => up2 qz 4 aw) (up2_up2 _ 1 _ _))))).trans e3)) ?_)
              refine cw_aload_n (pc := 111) C dX0_goTo_111 rfl 1 rfl ?_
              refine cw_get (pc := 112) C dX0_goTo_112 7 (v := .ref (A 1)) rfl rfl 0 rfl (fun _ h => List.mem_cons_of_mem _ (List.mem_append_left _ (List.mem_append_left _ (List.mem_append_right _ h)))) (by decide) (List.mem_of_getElem? (i := 1) rfl) ?_
              refine cw_bipush (pc := 115) C dX0_goTo_115 (nI 39) (by decide) ?_
              refine cw_iload (pc := 117) C dX0_goTo_117 0 rfl ?_
              refine cw_iast2 (pc := 119) C dX0_goTo_119 1 1 (wC_g1 Z A) (wC_s1 Z A) (f := lrnS (shfS w (σ 1) j) (comS (σ 1 (w j)) (σ 1 (w (j + 1))))) ((up2_ne _ _ (by decide)).trans ((up2_ne _ _ (by decide)).trans (up2_eq _ _ _))) 39 rfl (by decide) (by decide) (up2 (up2 (up2 σ 1 (upd (lrnS (shfS w (σ 1) j) (comS (σ 1 (w j)) (σ 1 (w (j + 1))))) 39 (nI (w (j + 1))))) 4 aw) 5 pa) ((up2_comm _ _ _ (by decide)).trans (congrArg (fun qz => up2 qz 5 pa) ((up2_comm _ _ _ (by decide)).trans (congrArg (fun qz => up2 qz 4 aw) (up2_up2 _ 1 _ _))))) ?_
              refine cw_iinc (pc := 120) C dX0_goTo_120 6 rfl (nI (j + 1)) (nI_inc _ 1) (by decide) (lv' := [(5, .int (nI (j + 1))), (6, .int (nI (w (j + 1)))), (0, .ref (A 7)), (1, .int (nI to)), (2, .int (nI i)), (3, .int (bI up)), (4, .int (nI N))]) rfl ?_
              refine cw_goto (pc := 123) (tgt := 70) C dX0_goTo_123 (by decide) ?_
              refine cw_lv [2, 3, 4, 5, 6, 0] rfl ?_
              exact ih70 (j + 1) up (by omega) (by omega) hup
        refine cw_eq (σ' := up2 (up2 (up2 σ 1 (σ 1)) 4 aw) 5 pa) (congrArg (fun qz => up2 (up2 qz 4 aw) 5 pa) ((up2_self σ 1).symm)) ?_
        refine cw_lv [4, 5, 3, 2, 1, 0] rfl ?_
        exact L70 (N + 1) 0 false (by omega) (by omega) (by rw [eq_comm]; simp; omega)
      · -- 44 f
        have h44 : i = 0 := (nc_eq (a := i) (b := 0) (by omega) (by omega)).mp h44
        refine cw_aload_n (pc := 47) C dX0_goTo_47 rfl 2 rfl ?_
        refine cw_get (pc := 48) C dX0_goTo_48 7 (v := .ref (A 1)) rfl rfl 0 rfl (fun _ h => List.mem_cons_of_mem _ (List.mem_append_left _ (List.mem_append_left _ (List.mem_append_right _ h)))) (by decide) (List.mem_of_getElem? (i := 1) rfl) ?_
        refine cw_bipush (pc := 51) C dX0_goTo_51 (nI 39) (by decide) ?_
        refine cw_iload_n (pc := 53) C dX0_goTo_53 rfl 3 rfl ?_
        refine cw_iast2 (pc := 54) C dX0_goTo_54 1 1 (wC_g1 Z A) (wC_s1 Z A) (f := σ 1) rfl 39 rfl (by decide) (by decide) (up2 σ 1 (upd (σ 1) 39 (nI to))) rfl ?_
        refine hret (up2 σ 1 (upd (σ 1) 39 (nI to))) _ _ dX0_goTo_55 ?_
        clear hret
        exact ⟨σ 4, σ 5, by rw [goS, if_neg (fun q => q.elim h25 hnu), if_pos (by omega)]; exact up3_145 σ _⟩
  · -- 9 f
    have h9 : ¬ (i = 0) := fun qq => h9 ((nc_eq (a := i) (b := 0) (by omega) (by omega)).mpr qq)
    refine cw_iload_n (pc := 12) C dX0_goTo_12 rfl 2 rfl ?_
    refine cw_iload_n (pc := 13) C dX0_goTo_13 rfl 0 rfl ?_
    refine cw_icmp_le (pc := 14) (tgt := 21) C dX0_goTo_14 (by decide) (fun h14 => ?_) (fun h14 => ?_)
    · -- 14 t
      have h14 : to ≤ i := (nc_le (a := to) (b := i) (by omega) (by omega)).mp h14
      refine cw_iconst (pc := 21) C dX0_goTo_21 (nI 0) (by decide) ?_
      refine cw_istore_n (pc := 22) C dX0_goTo_22 rfl (by decide) (lv' := [(3, .int (nI 0)), (2, .int (nI i)), (0, .ref (A 7)), (1, .int (nI to))]) rfl ?_
      refine cw_iload_n (pc := 23) C dX0_goTo_23 rfl 3 rfl ?_
      refine cw_iload_n (pc := 24) C dX0_goTo_24 rfl 1 rfl ?_
      refine cw_icmp_eq (pc := 25) (tgt := 42) C dX0_goTo_25 (by decide) (fun h25 => ?_) (fun h25 => ?_)
      · -- 25 t
        have h25 : to = i := (nc_eq (a := to) (b := i) (by omega) (by omega)).mp h25
        refine hret σ _ _ dX0_goTo_42 ?_
        clear hret
        exact ⟨σ 4, σ 5, by first | (rw [goS, if_pos (Or.inl h25)]; exact up3_self σ) | (rw [goS, if_pos (Or.inr ⟨⟨by omega, by omega⟩, Int32.not_le.mp h39⟩)]; exact up3_self σ)⟩
      · -- 25 f
        have h25 : ¬ (to = i) := fun qq => h25 ((nc_eq (a := to) (b := i) (by omega) (by omega)).mpr qq)
        refine cw_iload_n (pc := 28) C dX0_goTo_28 rfl 0 rfl ?_
        refine cw_if_eq (pc := 29) (tgt := 43) C dX0_goTo_29 (by decide) (fun _ => ?_) (fun h => False.elim (by revert h; decide))
        refine cw_iload_n (pc := 43) C dX0_goTo_43 rfl 1 rfl ?_
        have hnu : ¬ ((i ≠ 0 ∧ i < to) ∧ nI 0 < σ 1 41) := fun q => absurd q.1 (by omega)
        refine cw_if_ne (pc := 44) (tgt := 56) C dX0_goTo_44 (by decide) (fun h44 => ?_) (fun h44 => ?_)
        · -- 44 t
          have h44 : ¬ i = 0 := (nc_ne (a := i) (b := 0) (by omega) (by omega)).mp h44
          refine cw_aload_n (pc := 56) C dX0_goTo_56 rfl 2 rfl ?_
          refine cw_get (pc := 57) C dX0_goTo_57 7 (v := .ref (A 3)) rfl rfl 1 rfl (fun _ h => List.mem_cons_of_mem _ (List.mem_append_left _ (List.mem_append_left _ (List.mem_append_right _ h)))) (by decide) (List.mem_of_getElem? (i := 2) rfl) ?_
          refine cw_iload_n (pc := 60) C dX0_goTo_60 rfl 1 rfl ?_
          refine cw_iload_n (pc := 61) C dX0_goTo_61 rfl 3 rfl ?_
          refine cw_calli (pc := 62) C dX0_goTo_62 (c_X1_findWay l D Z A σ i to (by omega) (by omega) (by omega)) (cwV 2 C.1.2.2.2.2 gX0_goTo_X1_findWay rfl rfl rfl (by decide +kernel) ⟨Nat.le_of_ble_eq_true rfl, Nat.le_of_ble_eq_true rfl⟩) 3 rfl rfl rfl rfl (Nat.le_of_ble_eq_true rfl) (fun r σ1 hr => ?_)
          obtain ⟨rfl, aw, pa, rfl, hpa⟩ := hr
          have hs : wyN (σ 1) i to ≤ 6 := wayN_le _ _ _ _
          have hw7 : ∀ j, wyG (σ 1) i to j ≤ 7 := fun j => wayG_le _ _ _ hi j
          have hw0 : σ 1 39 = nI (wyG (σ 1) i to 0) := hIN
          have hsim : ∀ j, j < wyN (σ 1) i to → simN (σ 1) (wyG (σ 1) i to j) (wyG (σ 1) i to (j + 1)) = true := fun j hj => go_sim (hft.resolve_left h25) hj
          generalize hN : wyN (σ 1) i to = N at hpa hs hsim ⊢
          generalize hW : wyG (σ 1) i to = w at hpa hw7 hw0 hsim
          refine cw_istore (pc := 65) C dX0_goTo_65 (by decide) (lv' := [(4, .int (nI N)), (3, .int (nI 0)), (2, .int (nI i)), (0, .ref (A 7)), (1, .int (nI to))]) rfl ?_
          refine cw_iconst (pc := 67) C dX0_goTo_67 (nI 0) (by decide) ?_
          refine cw_istore (pc := 68) C dX0_goTo_68 (by decide) (lv' := [(5, .int (nI 0)), (4, .int (nI N)), (3, .int (nI 0)), (2, .int (nI i)), (0, .ref (A 7)), (1, .int (nI to))]) rfl ?_
          have L70 : ∀ (n70 : Nat) (j : Nat) (up : Bool) (hj : j ≤ N) (hm : N < j + n70) (hup : up = decide (i < to)), CW p0 l e0 (rmC 4 90) s0 m0 g0 b0 t0 c0 D A0 7 (wC Z A) Q (up2 (up2 (up2 σ 1 (shfS w (σ 1) j)) 4 aw) 5 pa) 70 [(0, .ref (A 7)), (1, .int (nI to)), (2, .int (nI i)), (3, .int (bI up)), (4, .int (nI N)), (5, .int (nI j))] [] := by
            intro n70
            induction n70 with
            | zero => intro j up hj hm hup; exact absurd hm (by omega)
            | succ n70 ih70 =>
              intro j up hj hm hup
              refine cw_iload (pc := 70) C dX0_goTo_70 5 rfl ?_
              refine cw_iload (pc := 72) C dX0_goTo_72 4 rfl ?_
              refine cw_icmp_ge (pc := 74) (tgt := 126) C dX0_goTo_74 (by decide) (fun h74 => ?_) (fun h74 => ?_)
              · -- 74 t
                have h74 : N ≤ j := (nc_ge (a := j) (b := N) (by omega) (by omega)).mp h74
                have hje : j = N := by omega
                refine cw_iload (pc := 126) C dX0_goTo_126 4 rfl ?_
                refine cw_if_le (pc := 128) (tgt := 136) C dX0_goTo_128 (by decide) (fun h128 => ?_) (fun h128 => ?_)
                · -- 128 t
                  have h128 : N ≤ 0 := (nc_le (a := N) (b := 0) (by omega) (by omega)).mp h128
                  refine hret (up2 (up2 (up2 σ 1 (shfS w (σ 1) j)) 4 aw) 5 pa) _ _ dX0_goTo_136 ?_
                  clear hret
                  refine ⟨aw, pa, ?_⟩
                  rw [goS, if_neg (fun q => q.elim h25 hnu), if_neg (by omega), hN, if_pos (by omega), hje, show N = 0 by omega]
                  rfl
                · -- 128 f
                  have h128 : ¬ (N ≤ 0) := fun qq => h128 ((nc_le (a := N) (b := 0) (by omega) (by omega)).mpr qq)
                  refine cw_aload_n (pc := 131) C dX0_goTo_131 rfl 0 rfl ?_
                  refine cw_iload_n (pc := 132) C dX0_goTo_132 rfl 3 rfl ?_
                  have hf1 : (up2 (up2 (up2 σ 1 (shfS w (σ 1) j)) 4 aw) 5 pa) 1 = shfS w (σ 1) j := ((up2_ne _ _ (by decide)).trans ((up2_ne _ _ (by decide)).trans (up2_eq _ _ _)))
                  have ee0 := congrArg (fun qz => noteS qz up) hf1
                  have e3 := congrArg (fun qz => up2 (up2 (up2 σ 1 qz) 4 aw) 5 pa) ee0
                  refine cw_callv (pc := 133) C dX0_goTo_133 (c_X0_noteTurn l D Z A (up2 (up2 (up2 σ 1 (shfS w (σ 1) j)) 4 aw) 5 pa) up) (cwV 1 C.1.2.2.2.2 gX0_goTo_X0_noteTurn rfl rfl rfl (by decide +kernel) ⟨Nat.le_of_ble_eq_true rfl, Nat.le_of_ble_eq_true rfl⟩) 7 rfl rfl rfl rfl (Nat.le_of_ble_eq_true rfl) (cw_effv (fun _ h => h) (up2 (up2 (up2 σ 1 (noteS (shfS w (σ 1) j) up)) 4 aw) 5 pa) (congrArg (wC Z A) (((up2_comm _ _ _ (by decide)).trans (congrArg (fun qz => up2 qz 5 pa) ((up2_comm _ _ _ (by decide)).trans (congrArg (fun qz => up2 qz 4 aw) (up2_up2 _ 1 _ _))))).trans e3)) ?_)
                  refine hret (up2 (up2 (up2 σ 1 (noteS (shfS w (σ 1) j) up)) 4 aw) 5 pa) _ _ dX0_goTo_136 ?_
                  clear hret
                  refine ⟨aw, pa, ?_⟩
                  rw [goS, if_neg (fun q => q.elim h25 hnu), if_neg (by omega), hN, hW, if_neg (by omega), ← hje, ← hup]
              · -- 74 f
                have h74 : ¬ (N ≤ j) := fun qq => h74 ((nc_ge (a := j) (b := N) (by omega) (by omega)).mpr qq)
                refine cw_aload_n (pc := 77) C dX0_goTo_77 rfl 0 rfl ?_
                refine cw_get (pc := 78) C dX0_goTo_78 7 (v := .ref (A 3)) rfl rfl 1 rfl (fun _ h => List.mem_cons_of_mem _ (List.mem_append_left _ (List.mem_append_left _ (List.mem_append_right _ h)))) (by decide) (List.mem_of_getElem? (i := 2) rfl) ?_
                refine cw_iload (pc := 81) C dX0_goTo_81 5 rfl ?_
                have hf5 : (up2 (up2 (up2 σ 1 (shfS w (σ 1) j)) 4 aw) 5 pa) 5 = pa := (up2_eq _ _ _)
                have ev0 := congrArg (fun qz => qz j) hf5
                refine cw_calli (pc := 83) C dX0_goTo_83 (c_X1_onWay l D Z A (up2 (up2 (up2 σ 1 (shfS w (σ 1) j)) 4 aw) 5 pa) j (by omega)) (cwV 1 C.1.2.2.2.2 gX0_goTo_X1_onWay rfl rfl rfl (by decide +kernel) ⟨Nat.le_of_ble_eq_true rfl, Nat.le_of_ble_eq_true rfl⟩) 3 rfl rfl rfl rfl (Nat.le_of_ble_eq_true rfl) (cw_pure (v := pa j) (fun _ _ h => ⟨h.1.trans (ev0), h.2⟩) ?_)
                have hw1 := hw7 (j + 1)
                have hwj := hw7 j
                have hsm := hsim j (by omega)
                refine cw_top (nI (w (j + 1))) (hpa j (by omega)) ?_
                refine cw_istore (pc := 86) C dX0_goTo_86 (by decide) (lv' := [(6, .int (nI (w (j + 1)))), (0, .ref (A 7)), (1, .int (nI to)), (2, .int (nI i)), (3, .int (bI up)), (4, .int (nI N)), (5, .int (nI j))]) rfl ?_
                refine cw_aload_n (pc := 88) C dX0_goTo_88 rfl 1 rfl ?_
                refine cw_get (pc := 89) C dX0_goTo_89 7 (v := .ref (A 6)) rfl rfl 2 rfl (fun _ h => List.mem_cons_of_mem _ (List.mem_append_left _ (List.mem_append_left _ (List.mem_append_right _ h)))) (by decide) (List.mem_of_getElem? (i := 3) rfl) ?_
                refine cw_aload_n (pc := 92) C dX0_goTo_92 rfl 1 rfl ?_
                refine cw_get (pc := 93) C dX0_goTo_93 7 (v := .ref (A 3)) rfl rfl 1 rfl (fun _ h => List.mem_cons_of_mem _ (List.mem_append_left _ (List.mem_append_left _ (List.mem_append_right _ h)))) (by decide) (List.mem_of_getElem? (i := 2) rfl) ?_
                refine cw_aload_n (pc := 96) C dX0_goTo_96 rfl 1 rfl ?_
                refine cw_get (pc := 97) C dX0_goTo_97 7 (v := .ref (A 1)) rfl rfl 0 rfl (fun _ h => List.mem_cons_of_mem _ (List.mem_append_left _ (List.mem_append_left _ (List.mem_append_right _ h)))) (by decide) (List.mem_of_getElem? (i := 1) rfl) ?_
                refine cw_bipush (pc := 100) C dX0_goTo_100 (nI 39) (by decide) ?_
                refine cw_iald2 (pc := 102) C dX0_goTo_102 1 1 (wC_g1 Z A) (f := shfS w (σ 1) j) ((up2_ne _ _ (by decide)).trans ((up2_ne _ _ (by decide)).trans (up2_eq _ _ _))) 39 rfl (by decide) (by decide) ?_
                refine cw_top (nI (w j)) (shfS_in hw0 j) ?_
                refine cw_iload (pc := 103) C dX0_goTo_103 0 rfl ?_
                have hf1 : (up2 (up2 (up2 σ 1 (shfS w (σ 1) j)) 4 aw) 5 pa) 1 = shfS w (σ 1) j := ((up2_ne _ _ (by decide)).trans ((up2_ne _ _ (by decide)).trans (up2_eq _ _ _)))
                have ev0 := congrArg (fun qz => nI (comS (qz (w j)) (qz (w (j + 1))))) hf1
                refine cw_calli (pc := 105) C dX0_goTo_105 (c_X1_comingN l D Z A (up2 (up2 (up2 σ 1 (shfS w (σ 1) j)) 4 aw) 5 pa) (w j) (w (j + 1)) (by rw [hf1]; exact sameG_sets (shfS_same w (σ 1) j) hX) hwj hw1 (by rw [hf1, sameG_sim (shfS_same _ _ _) hwj hw1]; exact hsm)) (cwV 2 C.1.2.2.2.2 gX0_goTo_X1_coming rfl rfl rfl (by decide +kernel) ⟨Nat.le_of_ble_eq_true rfl, Nat.le_of_ble_eq_true rfl⟩) 3 rfl rfl rfl rfl (Nat.le_of_ble_eq_true rfl) (cw_pure (v := nI (comS ((shfS w (σ 1) j) (w j)) ((shfS w (σ 1) j) (w (j + 1))))) (fun _ _ h => ⟨h.1.trans (ev0), h.2⟩) ?_)
                refine cw_top (nI (comS (σ 1 (w j)) (σ 1 (w (j + 1))))) (by rw [(shfS_same w (σ 1) j).1 _ hwj, (shfS_same w (σ 1) j).1 _ hw1]) ?_
                have hf1 : (up2 (up2 (up2 σ 1 (shfS w (σ 1) j)) 4 aw) 5 pa) 1 = shfS w (σ 1) j := ((up2_ne _ _ (by decide)).trans ((up2_ne _ _ (by decide)).trans (up2_eq _ _ _)))
                have ee0 := congrArg (fun qz => lrnS qz (comS (σ 1 (w j)) (σ 1 (w (j + 1))))) hf1
                have e3 := congrArg (fun qz => up2 (up2 (up2 σ 1 qz) 4 aw) 5 pa) ee0
                refine cw_callv (pc := 108) C dX0_goTo_108 (c_X3_learn l D Z A (up2 (up2 (up2 σ 1 (shfS w (σ 1) j)) 4 aw) 5 pa) (comS (σ 1 (w j)) (σ 1 (w (j + 1)))) (by rw [hf1, shfS_ne _ _ (by omega)]; exact hR) (comS_lt _ _)) (cwV 1 C.1.2.2.2.2 gX0_goTo_X3_learn rfl rfl rfl (by decide +kernel) ⟨Nat.le_of_ble_eq_true rfl, Nat.le_of_ble_eq_true rfl⟩) 6 rfl rfl rfl rfl (Nat.le_of_ble_eq_true rfl) (cw_effv (fun _ h => h) (up2 (up2 (up2 σ 1 (lrnS (shfS w (σ 1) j) (comS (σ 1 (w j)) (σ 1 (w (j + 1)))))) 4 aw) 5 pa) (congrArg (wC Z A) (((up2_comm _ _ _ (by decide)).trans (congrArg (fun qz => up2 qz 5 pa) ((up2_comm _ _ _ (by decide)).trans (congrArg (fun qz => up2 qz 4 aw) (up2_up2 _ 1 _ _))))).trans e3)) ?_)
                refine cw_aload_n (pc := 111) C dX0_goTo_111 rfl 1 rfl ?_
                refine cw_get (pc := 112) C dX0_goTo_112 7 (v := .ref (A 1)) rfl rfl 0 rfl (fun _ h => List.mem_cons_of_mem _ (List.mem_append_left _ (List.mem_append_left _ (List.mem_append_right _ h)))) (by decide) (List.mem_of_getElem? (i := 1) rfl) ?_
                refine cw_bipush (pc := 115) C dX0_goTo_115 (nI 39) (by decide) ?_
                refine cw_iload (pc := 117) C dX0_goTo_117 0 rfl ?_
                refine cw_iast2 (pc := 119) C dX0_goTo_119 1 1 (wC_g1 Z A) (wC_s1 Z A) (f := lrnS (shfS w (σ 1) j) (comS (σ 1 (w j)) (σ 1 (w (j + 1))))) ((up2_ne _ _ (by decide)).trans ((up2_ne _ _ (by decide)).trans (up2_eq _ _ _))) 39 rfl (by decide) (by decide) (up2 (up2 (up2 σ 1 (upd (lrnS (shfS w (σ 1) j) (comS (σ 1 (w j)) (σ 1 (w (j + 1))))) 39 (nI (w (j + 1))))) 4 aw) 5 pa) ((up2_comm _ _ _ (by decide)).trans (congrArg (fun qz => up2 qz 5 pa) ((up2_comm _ _ _ (by decide)).trans (congrArg (fun qz => up2 qz 4 aw) (up2_up2 _ 1 _ _))))) ?_
                refine cw_iinc (pc := 120) C dX0_goTo_120 6 rfl (nI (j + 1)) (nI_inc _ 1) (by decide) (lv' := [(5, .int (nI (j + 1))), (6, .int (nI (w (j + 1)))), (0, .ref (A 7)), (1, .int (nI to)), (2, .int (nI i)), (3, .int (bI up)), (4, .int (nI N))]) rfl ?_
                refine cw_goto (pc := 123) (tgt := 70) C dX0_goTo_123 (by decide) ?_
                refine cw_lv [2, 3, 4, 5, 6, 0] rfl ?_
                exact ih70 (j + 1) up (by omega) (by omega) hup
          refine cw_eq (σ' := up2 (up2 (up2 σ 1 (σ 1)) 4 aw) 5 pa) (congrArg (fun qz => up2 (up2 qz 4 aw) 5 pa) ((up2_self σ 1).symm)) ?_
          refine cw_lv [4, 5, 3, 2, 1, 0] rfl ?_
          exact L70 (N + 1) 0 false (by omega) (by omega) (by rw [eq_comm]; simp; omega)
        · -- 44 f
          have h44 : i = 0 := (nc_eq (a := i) (b := 0) (by omega) (by omega)).mp h44
          refine cw_aload_n (pc := 47) C dX0_goTo_47 rfl 2 rfl ?_
          refine cw_get (pc := 48) C dX0_goTo_48 7 (v := .ref (A 1)) rfl rfl 0 rfl (fun _ h => List.mem_cons_of_mem _ (List.mem_append_left _ (List.mem_append_left _ (List.mem_append_right _ h)))) (by decide) (List.mem_of_getElem? (i := 1) rfl) ?_
          refine cw_bipush (pc := 51) C dX0_goTo_51 (nI 39) (by decide) ?_
          refine cw_iload_n (pc := 53) C dX0_goTo_53 rfl 3 rfl ?_
          refine cw_iast2 (pc := 54) C dX0_goTo_54 1 1 (wC_g1 Z A) (wC_s1 Z A) (f := σ 1) rfl 39 rfl (by decide) (by decide) (up2 σ 1 (upd (σ 1) 39 (nI to))) rfl ?_
          refine hret (up2 σ 1 (upd (σ 1) 39 (nI to))) _ _ dX0_goTo_55 ?_
          clear hret
          exact ⟨σ 4, σ 5, by rw [goS, if_neg (fun q => q.elim h25 hnu), if_pos (by omega)]; exact up3_145 σ _⟩
    · -- 14 f
      have h14 : ¬ (to ≤ i) := fun qq => h14 ((nc_le (a := to) (b := i) (by omega) (by omega)).mpr qq)
      refine cw_iconst (pc := 17) C dX0_goTo_17 (nI 1) (by decide) ?_
      refine cw_goto (pc := 18) (tgt := 22) C dX0_goTo_18 (by decide) ?_
      refine cw_istore_n (pc := 22) C dX0_goTo_22 rfl (by decide) (lv' := [(3, .int (nI 1)), (2, .int (nI i)), (0, .ref (A 7)), (1, .int (nI to))]) rfl ?_
      refine cw_iload_n (pc := 23) C dX0_goTo_23 rfl 3 rfl ?_
      refine cw_iload_n (pc := 24) C dX0_goTo_24 rfl 1 rfl ?_
      refine cw_icmp_eq (pc := 25) (tgt := 42) C dX0_goTo_25 (by decide) (fun h25 => ?_) (fun h25 => ?_)
      · -- 25 t
        have h25 : to = i := (nc_eq (a := to) (b := i) (by omega) (by omega)).mp h25
        refine hret σ _ _ dX0_goTo_42 ?_
        clear hret
        exact ⟨σ 4, σ 5, by first | (rw [goS, if_pos (Or.inl h25)]; exact up3_self σ) | (rw [goS, if_pos (Or.inr ⟨⟨by omega, by omega⟩, Int32.not_le.mp h39⟩)]; exact up3_self σ)⟩
      · -- 25 f
        have h25 : ¬ (to = i) := fun qq => h25 ((nc_eq (a := to) (b := i) (by omega) (by omega)).mpr qq)
        refine cw_iload_n (pc := 28) C dX0_goTo_28 rfl 0 rfl ?_
        refine cw_if_eq (pc := 29) (tgt := 43) C dX0_goTo_29 (by decide) (fun h => False.elim (by revert h; decide)) (fun _ => ?_)
        refine cw_aload_n (pc := 32) C dX0_goTo_32 rfl 2 rfl ?_
        refine cw_get (pc := 33) C dX0_goTo_33 7 (v := .ref (A 1)) rfl rfl 0 rfl (fun _ h => List.mem_cons_of_mem _ (List.mem_append_left _ (List.mem_append_left _ (List.mem_append_right _ h)))) (by decide) (List.mem_of_getElem? (i := 1) rfl) ?_
        refine cw_bipush (pc := 36) C dX0_goTo_36 (nI 41) (by decide) ?_
        refine cw_iald2 (pc := 38) C dX0_goTo_38 1 1 (wC_g1 Z A) (f := σ 1) rfl 41 rfl (by decide) (by decide) ?_
        refine cw_if_le (pc := 39) (tgt := 43) C dX0_goTo_39 (by decide) (fun h39 => ?_) (fun h39 => ?_)
        · -- 39 t
          refine cw_iload_n (pc := 43) C dX0_goTo_43 rfl 1 rfl ?_
          have hnu : ¬ ((i ≠ 0 ∧ i < to) ∧ nI 0 < σ 1 41) := fun q => absurd q.2 (Int32.not_lt.mpr h39)
          refine cw_if_ne (pc := 44) (tgt := 56) C dX0_goTo_44 (by decide) (fun h44 => ?_) (fun h44 => ?_)
          · -- 44 t
            have h44 : ¬ i = 0 := (nc_ne (a := i) (b := 0) (by omega) (by omega)).mp h44
            refine cw_aload_n (pc := 56) C dX0_goTo_56 rfl 2 rfl ?_
            refine cw_get (pc := 57) C dX0_goTo_57 7 (v := .ref (A 3)) rfl rfl 1 rfl (fun _ h => List.mem_cons_of_mem _ (List.mem_append_left _ (List.mem_append_left _ (List.mem_append_right _ h)))) (by decide) (List.mem_of_getElem? (i := 2) rfl) ?_
            refine cw_iload_n (pc := 60) C dX0_goTo_60 rfl 1 rfl ?_
            refine cw_iload_n (pc := 61) C dX0_goTo_61 rfl 3 rfl ?_
            refine cw_calli (pc := 62) C dX0_goTo_62 (c_X1_findWay l D Z A σ i to (by omega) (by omega) (by omega)) (cwV 2 C.1.2.2.2.2 gX0_goTo_X1_findWay rfl rfl rfl (by decide +kernel) ⟨Nat.le_of_ble_eq_true rfl, Nat.le_of_ble_eq_true rfl⟩) 3 rfl rfl rfl rfl (Nat.le_of_ble_eq_true rfl) (fun r σ1 hr => ?_)
            obtain ⟨rfl, aw, pa, rfl, hpa⟩ := hr
            have hs : wyN (σ 1) i to ≤ 6 := wayN_le _ _ _ _
            have hw7 : ∀ j, wyG (σ 1) i to j ≤ 7 := fun j => wayG_le _ _ _ hi j
            have hw0 : σ 1 39 = nI (wyG (σ 1) i to 0) := hIN
            have hsim : ∀ j, j < wyN (σ 1) i to → simN (σ 1) (wyG (σ 1) i to j) (wyG (σ 1) i to (j + 1)) = true := fun j hj => go_sim (hft.resolve_left h25) hj
            generalize hN : wyN (σ 1) i to = N at hpa hs hsim ⊢
            generalize hW : wyG (σ 1) i to = w at hpa hw7 hw0 hsim
            refine cw_istore (pc := 65) C dX0_goTo_65 (by decide) (lv' := [(4, .int (nI N)), (3, .int (nI 1)), (2, .int (nI i)), (0, .ref (A 7)), (1, .int (nI to))]) rfl ?_
            refine cw_iconst (pc := 67) C dX0_goTo_67 (nI 0) (by decide) ?_
            refine cw_istore (pc := 68) C dX0_goTo_68 (by decide) (lv' := [(5, .int (nI 0)), (4, .int (nI N)), (3, .int (nI 1)), (2, .int (nI i)), (0, .ref (A 7)), (1, .int (nI to))]) rfl ?_
            have L70 : ∀ (n70 : Nat) (j : Nat) (up : Bool) (hj : j ≤ N) (hm : N < j + n70) (hup : up = decide (i < to)), CW p0 l e0 (rmC 4 90) s0 m0 g0 b0 t0 c0 D A0 7 (wC Z A) Q (up2 (up2 (up2 σ 1 (shfS w (σ 1) j)) 4 aw) 5 pa) 70 [(0, .ref (A 7)), (1, .int (nI to)), (2, .int (nI i)), (3, .int (bI up)), (4, .int (nI N)), (5, .int (nI j))] [] := by
              intro n70
              induction n70 with
              | zero => intro j up hj hm hup; exact absurd hm (by omega)
              | succ n70 ih70 =>
                intro j up hj hm hup
                refine cw_iload (pc := 70) C dX0_goTo_70 5 rfl ?_
                refine cw_iload (pc := 72) C dX0_goTo_72 4 rfl ?_
                refine cw_icmp_ge (pc := 74) (tgt := 126) C dX0_goTo_74 (by decide) (fun h74 => ?_) (fun h74 => ?_)
                · -- 74 t
                  have h74 : N ≤ j := (nc_ge (a := j) (b := N) (by omega) (by omega)).mp h74
                  have hje : j = N := by omega
                  refine cw_iload (pc := 126) C dX0_goTo_126 4 rfl ?_
                  refine cw_if_le (pc := 128) (tgt := 136) C dX0_goTo_128 (by decide) (fun h128 => ?_) (fun h128 => ?_)
                  · -- 128 t
                    have h128 : N ≤ 0 := (nc_le (a := N) (b := 0) (by omega) (by omega)).mp h128
                    refine hret (up2 (up2 (up2 σ 1 (shfS w (σ 1) j)) 4 aw) 5 pa) _ _ dX0_goTo_136 ?_
                    clear hret
                    refine ⟨aw, pa, ?_⟩
                    rw [goS, if_neg (fun q => q.elim h25 hnu), if_neg (by omega), hN, if_pos (by omega), hje, show N = 0 by omega]
                    rfl
                  · -- 128 f
                    have h128 : ¬ (N ≤ 0) := fun qq => h128 ((nc_le (a := N) (b := 0) (by omega) (by omega)).mpr qq)
                    refine cw_aload_n (pc := 131) C dX0_goTo_131 rfl 0 rfl ?_
                    refine cw_iload_n (pc := 132) C dX0_goTo_132 rfl 3 rfl ?_
                    have hf1 : (up2 (up2 (up2 σ 1 (shfS w (σ 1) j)) 4 aw) 5 pa) 1 = shfS w (σ 1) j := ((up2_ne _ _ (by decide)).trans ((up2_ne _ _ (by decide)).trans (up2_eq _ _ _)))
                    have ee0 := congrArg (fun qz => noteS qz up) hf1
                    have e3 := congrArg (fun qz => up2 (up2 (up2 σ 1 qz) 4 aw) 5 pa) ee0
                    refine cw_callv (pc := 133) C dX0_goTo_133 (c_X0_noteTurn l D Z A (up2 (up2 (up2 σ 1 (shfS w (σ 1) j)) 4 aw) 5 pa) up) (cwV 1 C.1.2.2.2.2 gX0_goTo_X0_noteTurn rfl rfl rfl (by decide +kernel) ⟨Nat.le_of_ble_eq_true rfl, Nat.le_of_ble_eq_true rfl⟩) 7 rfl rfl rfl rfl (Nat.le_of_ble_eq_true rfl) (cw_effv (fun _ h => h) (up2 (up2 (up2 σ 1 (noteS (shfS w (σ 1) j) up)) 4 aw) 5 pa) (congrArg (wC Z A) (((up2_comm _ _ _ (by decide)).trans (congrArg (fun qz => up2 qz 5 pa) ((up2_comm _ _ _ (by decide)).trans (congrArg (fun qz => up2 qz 4 aw) (up2_up2 _ 1 _ _))))).trans e3)) ?_)
                    refine hret (up2 (up2 (up2 σ 1 (noteS (shfS w (σ 1) j) up)) 4 aw) 5 pa) _ _ dX0_goTo_136 ?_
                    clear hret
                    refine ⟨aw, pa, ?_⟩
                    rw [goS, if_neg (fun q => q.elim h25 hnu), if_neg (by omega), hN, hW, if_neg (by omega), ← hje, ← hup]
                · -- 74 f
                  have h74 : ¬ (N ≤ j) := fun qq => h74 ((nc_ge (a := j) (b := N) (by omega) (by omega)).mpr qq)
                  refine cw_aload_n (pc := 77) C dX0_goTo_77 rfl 0 rfl ?_
                  refine cw_get (pc := 78) C dX0_goTo_78 7 (v := .ref (A 3)) rfl rfl 1 rfl (fun _ h => List.mem_cons_of_mem _ (List.mem_append_left _ (List.mem_append_left _ (List.mem_append_right _ h)))) (by decide) (List.mem_of_getElem? (i := 2) rfl) ?_
                  refine cw_iload (pc := 81) C dX0_goTo_81 5 rfl ?_
                  have hf5 : (up2 (up2 (up2 σ 1 (shfS w (σ 1) j)) 4 aw) 5 pa) 5 = pa := (up2_eq _ _ _)
                  have ev0 := congrArg (fun qz => qz j) hf5
                  refine cw_calli (pc := 83) C dX0_goTo_83 (c_X1_onWay l D Z A (up2 (up2 (up2 σ 1 (shfS w (σ 1) j)) 4 aw) 5 pa) j (by omega)) (cwV 1 C.1.2.2.2.2 gX0_goTo_X1_onWay rfl rfl rfl (by decide +kernel) ⟨Nat.le_of_ble_eq_true rfl, Nat.le_of_ble_eq_true rfl⟩) 3 rfl rfl rfl rfl (Nat.le_of_ble_eq_true rfl) (cw_pure (v := pa j) (fun _ _ h => ⟨h.1.trans (ev0), h.2⟩) ?_)
                  have hw1 := hw7 (j + 1)
                  have hwj := hw7 j
                  have hsm := hsim j (by omega)
                  refine cw_top (nI (w (j + 1))) (hpa j (by omega)) ?_
                  refine cw_istore (pc := 86) C dX0_goTo_86 (by decide) (lv' := [(6, .int (nI (w (j + 1)))), (0, .ref (A 7)), (1, .int (nI to)), (2, .int (nI i)), (3, .int (bI up)), (4, .int (nI N)), (5, .int (nI j))]) rfl ?_
                  refine cw_aload_n (pc := 88) C dX0_goTo_88 rfl 1 rfl ?_
                  refine cw_get (pc := 89) C dX0_goTo_89 7 (v := .ref (A 6)) rfl rfl 2 rfl (fun _ h => List.mem_cons_of_mem _ (List.mem_append_left _ (List.mem_append_left _ (List.mem_append_right _ h)))) (by decide) (List.mem_of_getElem? (i := 3) rfl) ?_
                  refine cw_aload_n (pc := 92) C dX0_goTo_92 rfl 1 rfl ?_
                  refine cw_get (pc := 93) C dX0_goTo_93 7 (v := .ref (A 3)) rfl rfl 1 rfl (fun _ h => List.mem_cons_of_mem _ (List.mem_append_left _ (List.mem_append_left _ (List.mem_append_right _ h)))) (by decide) (List.mem_of_getElem? (i := 2) rfl) ?_
                  refine cw_aload_n (pc := 96) C dX0_goTo_96 rfl 1 rfl ?_
                  refine cw_get (pc := 97) C dX0_goTo_97 7 (v := .ref (A 1)) rfl rfl 0 rfl (fun _ h => List.mem_cons_of_mem _ (List.mem_append_left _ (List.mem_append_left _ (List.mem_append_right _ h)))) (by decide) (List.mem_of_getElem? (i := 1) rfl) ?_
                  refine cw_bipush (pc := 100) C dX0_goTo_100 (nI 39) (by decide) ?_
                  refine cw_iald2 (pc := 102) C dX0_goTo_102 1 1 (wC_g1 Z A) (f := shfS w (σ 1) j) ((up2_ne _ _ (by decide)).trans ((up2_ne _ _ (by decide)).trans (up2_eq _ _ _))) 39 rfl (by decide) (by decide) ?_
                  refine cw_top (nI (w j)) (shfS_in hw0 j) ?_
                  refine cw_iload (pc := 103) C dX0_goTo_103 0 rfl ?_
                  have hf1 : (up2 (up2 (up2 σ 1 (shfS w (σ 1) j)) 4 aw) 5 pa) 1 = shfS w (σ 1) j := ((up2_ne _ _ (by decide)).trans ((up2_ne _ _ (by decide)).trans (up2_eq _ _ _)))
                  have ev0 := congrArg (fun qz => nI (comS (qz (w j)) (qz (w (j + 1))))) hf1
                  refine cw_calli (pc := 105) C dX0_goTo_105 (c_X1_comingN l D Z A (up2 (up2 (up2 σ 1 (shfS w (σ 1) j)) 4 aw) 5 pa) (w j) (w (j + 1)) (by rw [hf1]; exact sameG_sets (shfS_same w (σ 1) j) hX) hwj hw1 (by rw [hf1, sameG_sim (shfS_same _ _ _) hwj hw1]; exact hsm)) (cwV 2 C.1.2.2.2.2 gX0_goTo_X1_coming rfl rfl rfl (by decide +kernel) ⟨Nat.le_of_ble_eq_true rfl, Nat.le_of_ble_eq_true rfl⟩) 3 rfl rfl rfl rfl (Nat.le_of_ble_eq_true rfl) (cw_pure (v := nI (comS ((shfS w (σ 1) j) (w j)) ((shfS w (σ 1) j) (w (j + 1))))) (fun _ _ h => ⟨h.1.trans (ev0), h.2⟩) ?_)
                  refine cw_top (nI (comS (σ 1 (w j)) (σ 1 (w (j + 1))))) (by rw [(shfS_same w (σ 1) j).1 _ hwj, (shfS_same w (σ 1) j).1 _ hw1]) ?_
                  have hf1 : (up2 (up2 (up2 σ 1 (shfS w (σ 1) j)) 4 aw) 5 pa) 1 = shfS w (σ 1) j := ((up2_ne _ _ (by decide)).trans ((up2_ne _ _ (by decide)).trans (up2_eq _ _ _)))
                  have ee0 := congrArg (fun qz => lrnS qz (comS (σ 1 (w j)) (σ 1 (w (j + 1))))) hf1
                  have e3 := congrArg (fun qz => up2 (up2 (up2 σ 1 qz) 4 aw) 5 pa) ee0
                  refine cw_callv (pc := 108) C dX0_goTo_108 (c_X3_learn l D Z A (up2 (up2 (up2 σ 1 (shfS w (σ 1) j)) 4 aw) 5 pa) (comS (σ 1 (w j)) (σ 1 (w (j + 1)))) (by rw [hf1, shfS_ne _ _ (by omega)]; exact hR) (comS_lt _ _)) (cwV 1 C.1.2.2.2.2 gX0_goTo_X3_learn rfl rfl rfl (by decide +kernel) ⟨Nat.le_of_ble_eq_true rfl, Nat.le_of_ble_eq_true rfl⟩) 6 rfl rfl rfl rfl (Nat.le_of_ble_eq_true rfl) (cw_effv (fun _ h => h) (up2 (up2 (up2 σ 1 (lrnS (shfS w (σ 1) j) (comS (σ 1 (w j)) (σ 1 (w (j + 1)))))) 4 aw) 5 pa) (congrArg (wC Z A) (((up2_comm _ _ _ (by decide)).trans (congrArg (fun qz => up2 qz 5 pa) ((up2_comm _ _ _ (by decide)).trans (congrArg (fun qz => up2 qz 4 aw) (up2_up2 _ 1 _ _))))).trans e3)) ?_)
                  refine cw_aload_n (pc := 111) C dX0_goTo_111 rfl 1 rfl ?_
                  refine cw_get (pc := 112) C dX0_goTo_112 7 (v := .ref (A 1)) rfl rfl 0 rfl (fun _ h => List.mem_cons_of_mem _ (List.mem_append_left _ (List.mem_append_left _ (List.mem_append_right _ h)))) (by decide) (List.mem_of_getElem? (i := 1) rfl) ?_
                  refine cw_bipush (pc := 115) C dX0_goTo_115 (nI 39) (by decide) ?_
                  refine cw_iload (pc := 117) C dX0_goTo_117 0 rfl ?_
                  refine cw_iast2 (pc := 119) C dX0_goTo_119 1 1 (wC_g1 Z A) (wC_s1 Z A) (f := lrnS (shfS w (σ 1) j) (comS (σ 1 (w j)) (σ 1 (w (j + 1))))) ((up2_ne _ _ (by decide)).trans ((up2_ne _ _ (by decide)).trans (up2_eq _ _ _))) 39 rfl (by decide) (by decide) (up2 (up2 (up2 σ 1 (upd (lrnS (shfS w (σ 1) j) (comS (σ 1 (w j)) (σ 1 (w (j + 1))))) 39 (nI (w (j + 1))))) 4 aw) 5 pa) ((up2_comm _ _ _ (by decide)).trans (congrArg (fun qz => up2 qz 5 pa) ((up2_comm _ _ _ (by decide)).trans (congrArg (fun qz => up2 qz 4 aw) (up2_up2 _ 1 _ _))))) ?_
                  refine cw_iinc (pc := 120) C dX0_goTo_120 6 rfl (nI (j + 1)) (nI_inc _ 1) (by decide) (lv' := [(5, .int (nI (j + 1))), (6, .int (nI (w (j + 1)))), (0, .ref (A 7)), (1, .int (nI to)), (2, .int (nI i)), (3, .int (bI up)), (4, .int (nI N))]) rfl ?_
                  refine cw_goto (pc := 123) (tgt := 70) C dX0_goTo_123 (by decide) ?_
                  refine cw_lv [2, 3, 4, 5, 6, 0] rfl ?_
                  exact ih70 (j + 1) up (by omega) (by omega) hup
            refine cw_eq (σ' := up2 (up2 (up2 σ 1 (σ 1)) 4 aw) 5 pa) (congrArg (fun qz => up2 (up2 qz 4 aw) 5 pa) ((up2_self σ 1).symm)) ?_
            refine cw_lv [4, 5, 3, 2, 1, 0] rfl ?_
            exact L70 (N + 1) 0 true (by omega) (by omega) (by rw [eq_comm]; simp; omega)
          · -- 44 f
            have h44 : i = 0 := (nc_eq (a := i) (b := 0) (by omega) (by omega)).mp h44
            refine cw_aload_n (pc := 47) C dX0_goTo_47 rfl 2 rfl ?_
            refine cw_get (pc := 48) C dX0_goTo_48 7 (v := .ref (A 1)) rfl rfl 0 rfl (fun _ h => List.mem_cons_of_mem _ (List.mem_append_left _ (List.mem_append_left _ (List.mem_append_right _ h)))) (by decide) (List.mem_of_getElem? (i := 1) rfl) ?_
            refine cw_bipush (pc := 51) C dX0_goTo_51 (nI 39) (by decide) ?_
            refine cw_iload_n (pc := 53) C dX0_goTo_53 rfl 3 rfl ?_
            refine cw_iast2 (pc := 54) C dX0_goTo_54 1 1 (wC_g1 Z A) (wC_s1 Z A) (f := σ 1) rfl 39 rfl (by decide) (by decide) (up2 σ 1 (upd (σ 1) 39 (nI to))) rfl ?_
            refine hret (up2 σ 1 (upd (σ 1) 39 (nI to))) _ _ dX0_goTo_55 ?_
            clear hret
            exact ⟨σ 4, σ 5, by rw [goS, if_neg (fun q => q.elim h25 hnu), if_pos (by omega)]; exact up3_145 σ _⟩
        · -- 39 f
          refine hret σ _ _ dX0_goTo_42 ?_
          clear hret
          exact ⟨σ 4, σ 5, by first | (rw [goS, if_pos (Or.inl h25)]; exact up3_self σ) | (rw [goS, if_pos (Or.inr ⟨⟨by omega, by omega⟩, Int32.not_le.mp h39⟩)]; exact up3_self σ)⟩
set_option maxHeartbeats 4000000 in
set_option maxRecDepth 100000 in
theorem c_X0_ticks (l : Launch) (D : va_G) (Z : CZ) (A : Nat → Nat) (σ : St)  (v : Int32) (m1 : Nat) (hX : rowOK (σ 1)) (hm1 : m1 ≤ 60) : CTi l yX0_ticks wsX0_ticks 5 116 D Z (wC Z A) σ [.ref (A 7), .int (v), .int (nI m1)] (fun r σ' => r = nI (inN (tksS (σ 1) v m1)) ∧ ∃ aw pa : Nat → Int32, σ' = up2 (up2 (up2 σ 1 (tksS (σ 1) v m1)) 4 aw) 5 pa) := by
  refine CTi.mk (cc := cX0_ticks) (nL := 4) (own := RX0) rfl (by decide) rfl (Nat.le_of_ble_eq_true rfl) ?_
  intro p0 e0 s0 m0 g0 b0 t0 c0 A0 Q C hret
  refine cw_lv (lv' := [(0, .ref (A 7)), (1, .int (v)), (2, .int (nI m1))]) [0, 1, 2] rfl ?_
  refine cw_iconst (pc := 0) C dX0_ticks_0 (nI 0) (by decide) ?_
  refine cw_istore_n (pc := 1) C dX0_ticks_1 rfl (by decide) (lv' := [(3, .int (nI 0)), (0, .ref (A 7)), (1, .int (v)), (2, .int (nI m1))]) rfl ?_
  have L2 : ∀ (n2 : Nat) (k : Nat) (aw : Nat → Int32) (pa : Nat → Int32) (hk : k ≤ m1) (hm : m1 < k + n2), CW p0 l e0 (rmC 5 116) s0 m0 g0 b0 t0 c0 D A0 4 (wC Z A) Q (up2 (up2 (up2 σ 1 (tksS (σ 1) v k)) 4 aw) 5 pa) 2 [(0, .ref (A 7)), (1, .int (v)), (2, .int (nI m1)), (3, .int (nI k))] [] := by
    intro n2
    induction n2 with
    | zero => intro k aw pa hk hm; exact absurd hm (by omega)
    | succ n2 ih2 =>
      intro k aw pa hk hm
      refine cw_iload_n (pc := 2) C dX0_ticks_2 rfl 3 rfl ?_
      refine cw_iload_n (pc := 3) C dX0_ticks_3 rfl 2 rfl ?_
      refine cw_icmp_ge (pc := 4) (tgt := 54) C dX0_ticks_4 (by decide) (fun h4 => ?_) (fun h4 => ?_)
      · -- 4 t
        have h4 : m1 ≤ k := (nc_ge (a := k) (b := m1) (by omega) (by omega)).mp h4
        have hk : k = m1 := by omega
        refine cw_aload_n (pc := 54) C dX0_ticks_54 rfl 0 rfl ?_
        refine cw_get (pc := 55) C dX0_ticks_55 7 (v := .ref (A 1)) rfl rfl 0 rfl (fun _ h => List.mem_cons_of_mem _ (List.mem_append_left _ (List.mem_append_left _ (List.mem_append_right _ h)))) (by decide) (List.mem_of_getElem? (i := 1) rfl) ?_
        refine cw_bipush (pc := 58) C dX0_ticks_58 (nI 39) (by decide) ?_
        refine cw_iald2 (pc := 60) C dX0_ticks_60 1 1 (wC_g1 Z A) (f := tksS (σ 1) v k) ((up2_ne _ _ (by decide)).trans ((up2_ne _ _ (by decide)).trans (up2_eq _ _ _))) 39 rfl (by decide) (by decide) ?_
        refine cw_top (nI (inN (tksS (σ 1) v k))) (rowOK_in (tksS_ok hX v k)).2.1 ?_
        refine hret (nI (inN (tksS (σ 1) v k))) (up2 (up2 (up2 σ 1 (tksS (σ 1) v k)) 4 aw) 5 pa) _ _ dX0_ticks_61 ?_
        clear hret
        exact ⟨by rw [hk], aw, pa, by rw [hk]⟩
      · -- 4 f
        have h4 : ¬ (m1 ≤ k) := fun qq => h4 ((nc_ge (a := k) (b := m1) (by omega) (by omega)).mpr qq)
        refine cw_aload_n (pc := 7) C dX0_ticks_7 rfl 0 rfl ?_
        refine cw_get (pc := 8) C dX0_ticks_8 7 (v := .ref (A 1)) rfl rfl 0 rfl (fun _ h => List.mem_cons_of_mem _ (List.mem_append_left _ (List.mem_append_left _ (List.mem_append_right _ h)))) (by decide) (List.mem_of_getElem? (i := 1) rfl) ?_
        refine cw_bipush (pc := 11) C dX0_ticks_11 (nI 40) (by decide) ?_
        refine cw_dup2 (pc := 13) C dX0_ticks_13 rfl rfl ?_
        refine cw_iald2 (pc := 14) C dX0_ticks_14 1 1 (wC_g1 Z A) (f := tksS (σ 1) v k) ((up2_ne _ _ (by decide)).trans ((up2_ne _ _ (by decide)).trans (up2_eq _ _ _))) 40 rfl (by decide) (by decide) ?_
        refine cw_iconst (pc := 15) C dX0_ticks_15 (nI 1) (by decide) ?_
        refine cw_iadd (pc := 16) C dX0_ticks_16 (z := ((tksS (σ 1) v k) 40) + (nI 1)) rfl ?_
        refine cw_iast2 (pc := 17) C dX0_ticks_17 1 1 (wC_g1 Z A) (wC_s1 Z A) (f := tksS (σ 1) v k) ((up2_ne _ _ (by decide)).trans ((up2_ne _ _ (by decide)).trans (up2_eq _ _ _))) 40 rfl (by decide) (by decide) (up2 (up2 (up2 σ 1 (upd (tksS (σ 1) v k) 40 (((tksS (σ 1) v k) 40) + (nI 1)))) 4 aw) 5 pa) ((up2_comm _ _ _ (by decide)).trans (congrArg (fun qz => up2 qz 5 pa) ((up2_comm _ _ _ (by decide)).trans (congrArg (fun qz => up2 qz 4 aw) (up2_up2 _ 1 _ _))))) ?_
        refine cw_aload_n (pc := 18) C dX0_ticks_18 rfl 0 rfl ?_
        refine cw_get (pc := 19) C dX0_ticks_19 7 (v := .ref (A 1)) rfl rfl 0 rfl (fun _ h => List.mem_cons_of_mem _ (List.mem_append_left _ (List.mem_append_left _ (List.mem_append_right _ h)))) (by decide) (List.mem_of_getElem? (i := 1) rfl) ?_
        refine cw_bipush (pc := 22) C dX0_ticks_22 (nI 41) (by decide) ?_
        refine cw_iald2 (pc := 24) C dX0_ticks_24 1 1 (wC_g1 Z A) (f := upd (tksS (σ 1) v k) 40 (((tksS (σ 1) v k) 40) + (nI 1))) ((up2_ne _ _ (by decide)).trans ((up2_ne _ _ (by decide)).trans (up2_eq _ _ _))) 41 rfl (by decide) (by decide) ?_
        refine cw_if_le (pc := 25) (tgt := 39) C dX0_ticks_25 (by decide) (fun h25 => ?_) (fun h25 => ?_)
        · -- 25 t
          refine cw_eq (σ' := up2 (up2 (up2 σ 1 (tk0 (tksS (σ 1) v k))) 4 aw) 5 pa) (congrArg (fun q => up2 (up2 (up2 σ 1 q) 4 aw) 5 pa) (by rw [tk0, tk1, if_neg (show ¬ nI 0 < _ from Int32.not_lt.mpr h25)])) ?_
          have ho := tk0_ok (tksS_ok hX v k)
          have hi0 := rowOK_in ho
          refine cw_aload_n (pc := 39) C dX0_ticks_39 rfl 0 rfl ?_
          refine cw_aload_n (pc := 40) C dX0_ticks_40 rfl 0 rfl ?_
          refine cw_iload_n (pc := 41) C dX0_ticks_41 rfl 1 rfl ?_
          have hf1 : (up2 (up2 (up2 σ 1 (tk0 (tksS (σ 1) v k))) 4 aw) 5 pa) 1 = tk0 (tksS (σ 1) v k) := ((up2_ne _ _ (by decide)).trans ((up2_ne _ _ (by decide)).trans (up2_eq _ _ _)))
          refine cw_calli (pc := 42) C dX0_ticks_42 (c_X0_wanted l D Z A (up2 (up2 (up2 σ 1 (tk0 (tksS (σ 1) v k))) 4 aw) 5 pa) (inN (tk0 (tksS (σ 1) v k))) v hi0.1 (by rw [hf1]; exact hi0.2.1)) (cwV 1 C.1.2.2.2.2 gX0_ticks_X0_wanted rfl rfl rfl (by decide +kernel) ⟨Nat.le_of_ble_eq_true rfl, Nat.le_of_ble_eq_true rfl⟩) 7 rfl rfl rfl rfl (Nat.le_of_ble_eq_true rfl) (cw_pure (v := nI (wntS (tk0 (tksS (σ 1) v k)) (inN (tk0 (tksS (σ 1) v k))) v)) (fun _ _ h => h) ?_)
          have hf1 : (up2 (up2 (up2 σ 1 (tk0 (tksS (σ 1) v k))) 4 aw) 5 pa) 1 = tk0 (tksS (σ 1) v k) := ((up2_ne _ _ (by decide)).trans ((up2_ne _ _ (by decide)).trans (up2_eq _ _ _)))
          refine cw_callv (pc := 45) C dX0_ticks_45 (c_X0_goTo l D Z A (up2 (up2 (up2 σ 1 (tk0 (tksS (σ 1) v k))) 4 aw) 5 pa) (inN (tk0 (tksS (σ 1) v k))) (wntS (tk0 (tksS (σ 1) v k)) (inN (tk0 (tksS (σ 1) v k))) v) hi0.1 (by rw [hf1]; exact hi0.2.1) (by rw [hf1]; exact rowOK_R ho) (by rw [hf1]; exact ho.1) (wntS_le hi0.1) (by rw [hf1]; exact wntS_fit _ _ _)) (cwV 1 C.1.2.2.2.2 gX0_ticks_X0_goTo rfl rfl rfl (by decide +kernel) ⟨Nat.le_of_ble_eq_true rfl, Nat.le_of_ble_eq_true rfl⟩) 7 rfl rfl rfl rfl (Nat.le_of_ble_eq_true rfl) (fun σ1 hr => ?_)
          obtain ⟨aw2, pa2, hr⟩ := hr
          rw [hf1, tickS_eq] at hr
          subst hr
          refine cw_eq (σ' := up2 (up2 (up2 σ 1 (tksS (σ 1) v (k + 1))) 4 aw2) 5 pa2) (n6 _ _ _ _ _ _ _) ?_
          refine cw_iinc (pc := 48) C dX0_ticks_48 3 rfl (nI (k + 1)) (nI_inc _ 1) (by decide) (lv' := [(3, .int (nI (k + 1))), (0, .ref (A 7)), (1, .int (v)), (2, .int (nI m1))]) rfl ?_
          refine cw_goto (pc := 51) (tgt := 2) C dX0_ticks_51 (by decide) ?_
          refine cw_lv [1, 2, 3, 0] rfl ?_
          exact ih2 (k + 1) aw2 pa2 (by omega) (by omega)
        · -- 25 f
          refine cw_aload_n (pc := 28) C dX0_ticks_28 rfl 0 rfl ?_
          refine cw_get (pc := 29) C dX0_ticks_29 7 (v := .ref (A 1)) rfl rfl 0 rfl (fun _ h => List.mem_cons_of_mem _ (List.mem_append_left _ (List.mem_append_left _ (List.mem_append_right _ h)))) (by decide) (List.mem_of_getElem? (i := 1) rfl) ?_
          refine cw_bipush (pc := 32) C dX0_ticks_32 (nI 41) (by decide) ?_
          refine cw_dup2 (pc := 34) C dX0_ticks_34 rfl rfl ?_
          refine cw_iald2 (pc := 35) C dX0_ticks_35 1 1 (wC_g1 Z A) (f := upd (tksS (σ 1) v k) 40 (((tksS (σ 1) v k) 40) + (nI 1))) ((up2_ne _ _ (by decide)).trans ((up2_ne _ _ (by decide)).trans (up2_eq _ _ _))) 41 rfl (by decide) (by decide) ?_
          refine cw_iconst (pc := 36) C dX0_ticks_36 (nI 1) (by decide) ?_
          refine cw_isub (pc := 37) C dX0_ticks_37 (z := ((tksS (σ 1) v k) 41) - (nI 1)) rfl ?_
          refine cw_iast2 (pc := 38) C dX0_ticks_38 1 1 (wC_g1 Z A) (wC_s1 Z A) (f := upd (tksS (σ 1) v k) 40 (((tksS (σ 1) v k) 40) + (nI 1))) ((up2_ne _ _ (by decide)).trans ((up2_ne _ _ (by decide)).trans (up2_eq _ _ _))) 41 rfl (by decide) (by decide) (up2 (up2 (up2 σ 1 (upd (upd (tksS (σ 1) v k) 40 (((tksS (σ 1) v k) 40) + (nI 1))) 41 (((tksS (σ 1) v k) 41) - (nI 1)))) 4 aw) 5 pa) ((up2_comm _ _ _ (by decide)).trans (congrArg (fun qz => up2 qz 5 pa) ((up2_comm _ _ _ (by decide)).trans (congrArg (fun qz => up2 qz 4 aw) (up2_up2 _ 1 _ _))))) ?_
          refine cw_eq (σ' := up2 (up2 (up2 σ 1 (tk0 (tksS (σ 1) v k))) 4 aw) 5 pa) (congrArg (fun q => up2 (up2 (up2 σ 1 q) 4 aw) 5 pa) (by rw [tk0, tk1, if_pos (show nI 0 < _ from Int32.not_le.mp h25), upd_ne (show 41 ≠ 40 by decide)])) ?_
          have ho := tk0_ok (tksS_ok hX v k)
          have hi0 := rowOK_in ho
          refine cw_aload_n (pc := 39) C dX0_ticks_39 rfl 0 rfl ?_
          refine cw_aload_n (pc := 40) C dX0_ticks_40 rfl 0 rfl ?_
          refine cw_iload_n (pc := 41) C dX0_ticks_41 rfl 1 rfl ?_
          have hf1 : (up2 (up2 (up2 σ 1 (tk0 (tksS (σ 1) v k))) 4 aw) 5 pa) 1 = tk0 (tksS (σ 1) v k) := ((up2_ne _ _ (by decide)).trans ((up2_ne _ _ (by decide)).trans (up2_eq _ _ _)))
          refine cw_calli (pc := 42) C dX0_ticks_42 (c_X0_wanted l D Z A (up2 (up2 (up2 σ 1 (tk0 (tksS (σ 1) v k))) 4 aw) 5 pa) (inN (tk0 (tksS (σ 1) v k))) v hi0.1 (by rw [hf1]; exact hi0.2.1)) (cwV 1 C.1.2.2.2.2 gX0_ticks_X0_wanted rfl rfl rfl (by decide +kernel) ⟨Nat.le_of_ble_eq_true rfl, Nat.le_of_ble_eq_true rfl⟩) 7 rfl rfl rfl rfl (Nat.le_of_ble_eq_true rfl) (cw_pure (v := nI (wntS (tk0 (tksS (σ 1) v k)) (inN (tk0 (tksS (σ 1) v k))) v)) (fun _ _ h => h) ?_)
          have hf1 : (up2 (up2 (up2 σ 1 (tk0 (tksS (σ 1) v k))) 4 aw) 5 pa) 1 = tk0 (tksS (σ 1) v k) := ((up2_ne _ _ (by decide)).trans ((up2_ne _ _ (by decide)).trans (up2_eq _ _ _)))
          refine cw_callv (pc := 45) C dX0_ticks_45 (c_X0_goTo l D Z A (up2 (up2 (up2 σ 1 (tk0 (tksS (σ 1) v k))) 4 aw) 5 pa) (inN (tk0 (tksS (σ 1) v k))) (wntS (tk0 (tksS (σ 1) v k)) (inN (tk0 (tksS (σ 1) v k))) v) hi0.1 (by rw [hf1]; exact hi0.2.1) (by rw [hf1]; exact rowOK_R ho) (by rw [hf1]; exact ho.1) (wntS_le hi0.1) (by rw [hf1]; exact wntS_fit _ _ _)) (cwV 1 C.1.2.2.2.2 gX0_ticks_X0_goTo rfl rfl rfl (by decide +kernel) ⟨Nat.le_of_ble_eq_true rfl, Nat.le_of_ble_eq_true rfl⟩) 7 rfl rfl rfl rfl (Nat.le_of_ble_eq_true rfl) (fun σ1 hr => ?_)
          obtain ⟨aw2, pa2, hr⟩ := hr
          rw [hf1, tickS_eq] at hr
          subst hr
          refine cw_eq (σ' := up2 (up2 (up2 σ 1 (tksS (σ 1) v (k + 1))) 4 aw2) 5 pa2) (n6 _ _ _ _ _ _ _) ?_
          refine cw_iinc (pc := 48) C dX0_ticks_48 3 rfl (nI (k + 1)) (nI_inc _ 1) (by decide) (lv' := [(3, .int (nI (k + 1))), (0, .ref (A 7)), (1, .int (v)), (2, .int (nI m1))]) rfl ?_
          refine cw_goto (pc := 51) (tgt := 2) C dX0_ticks_51 (by decide) ?_
          refine cw_lv [1, 2, 3, 0] rfl ?_
          exact ih2 (k + 1) aw2 pa2 (by omega) (by omega)
  refine cw_eq (σ' := up2 σ 1 (σ 1)) ((up2_self σ 1).symm) ?_
  refine cw_eq (σ' := up2 (up2 σ 1 (σ 1)) 4 (σ 4)) ((up2_self (up2 σ 1 (σ 1)) 4).symm) ?_
  refine cw_eq (σ' := up2 (up2 (up2 σ 1 (σ 1)) 4 (σ 4)) 5 (σ 5)) ((up2_self (up2 (up2 σ 1 (σ 1)) 4 (σ 4)) 5).symm) ?_
  refine cw_lv [1, 2, 3, 0] rfl ?_
  exact L2 (m1 + 1) 0 (σ 4) (σ 5) (by omega) (by omega)
