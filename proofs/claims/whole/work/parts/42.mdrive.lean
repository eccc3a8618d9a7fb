set_option maxHeartbeats 4000000 in
set_option maxRecDepth 100000 in
theorem c_X7_nextDn (l : Launch) (D : va_G) (Z : CZ) (A : Nat → Nat) (σ : St) (X : Nat → Int32)  (g : Nat) (hT : σ 1 = mrow X) (hg1 : 1 ≤ g) (hg : g ≤ 7) : CTi l yX7_nextFit wsX7_nextFit 2 42 D Z (wM Z A) σ [.ref (A 0), .int (nI g), .int ((-1))] (fun r σ' => r = nI (nxDn (fitN X) 7 g) ∧ σ' = σ) := by
  refine CTi.mk (cc := cX7_nextFit) (nL := 4) (own := RX7) rfl (by decide) rfl (Nat.le_of_ble_eq_true rfl) ?_
  intro p0 e0 s0 m0 g0 b0 t0 c0 A0 Q C hret
  refine cw_lv (lv' := [(0, .ref (A 0)), (1, .int (nI g)), (2, .int ((-1)))]) [0, 1, 2] rfl ?_
  refine cw_iload_n (pc := 0) C dX7_nextFit_0 rfl 1 rfl ?_
  refine cw_iload_n (pc := 1) C dX7_nextFit_1 rfl 2 rfl ?_
  refine cw_iadd (pc := 2) C dX7_nextFit_2 (z := (nI g) + (-1)) rfl ?_
  refine cw_top (nI (g - 1)) (nI_m1 hg1) ?_
  refine cw_istore_n (pc := 3) C dX7_nextFit_3 rfl (by decide) (lv' := [(3, .int (nI (g - 1))), (0, .ref (A 0)), (1, .int (nI g)), (2, .int ((-1)))]) rfl ?_
  have L4 : ∀ (n4 : Nat) (i : Nat) (h : Nat) (hi : i ≤ 7) (hm : 7 < i + n4) (hh : h = g - i - 1) (hr : nxDn (fitN X) 7 g = nxDn (fitN X) (7 - i) (g - i)), CW p0 l e0 (rmC 2 42) s0 m0 g0 b0 t0 c0 D A0 4 (wM Z A) Q σ 4 [(0, .ref (A 0)), (1, .int (nI g)), (2, .int ((-1))), (3, .int (nI h))] [] := by
    intro n4
    induction n4 with
    | zero => intro i h hi hm hh hr; exact absurd hm (by omega)
    | succ n4 ih4 =>
      intro i h hi hm hh hr
      refine cw_iload_n (pc := 4) C dX7_nextFit_4 rfl 3 rfl ?_
      refine cw_calls (pc := 5) C dX7_nextFit_5 (c_X7_isGear l D Z A σ (nI h)) (va_cwS 1 C.1.2.2.2.2 gX7_nextFit_X7_isGear rfl rfl rfl (by decide +kernel) ⟨Nat.le_of_ble_eq_true rfl, Nat.le_of_ble_eq_true rfl⟩) rfl rfl (Nat.le_of_ble_eq_true rfl) (cw_purez (b := gearB (nI h)) (fun _ _ h => h) ?_)
      refine cw_if_eq (pc := 8) (tgt := 26) C dX7_nextFit_8 (by decide) (fun h8 => ?_) (fun h8 => ?_)
      · -- 8 t
        have h8 := bI_z h8
        refine cw_iload_n (pc := 26) C dX7_nextFit_26 rfl 3 rfl ?_
        refine cw_calls (pc := 27) C dX7_nextFit_27 (c_X7_isGear l D Z A σ (nI h)) (va_cwS 1 C.1.2.2.2.2 gX7_nextFit_X7_isGear rfl rfl rfl (by decide +kernel) ⟨Nat.le_of_ble_eq_true rfl, Nat.le_of_ble_eq_true rfl⟩) rfl rfl (Nat.le_of_ble_eq_true rfl) (cw_purez (b := gearB (nI h)) (fun _ _ h => h) ?_)
        refine cw_if_eq (pc := 30) (tgt := 37) C dX7_nextFit_30 (by decide) (fun h30 => ?_) (fun h30 => ?_)
        · -- 30 t
          have h30 := bI_z h30
          refine cw_iconst (pc := 37) C dX7_nextFit_37 (nI 0) (by decide) ?_
          refine hret (nI 0) σ _ _ dX7_nextFit_38 ?_
          clear hret
          refine ⟨?_, rfl⟩
          rw [hr, nxDn_0 (by rw [gearB_N (by omega)] at h8; simp at h8; omega)]
        · -- 30 f
          have h30 := bI_nz h30
          refine cw_iload_n (pc := 33) C dX7_nextFit_33 rfl 3 rfl ?_
          refine cw_goto (pc := 34) (tgt := 38) C dX7_nextFit_34 (by decide) ?_
          refine hret (nI h) σ _ _ dX7_nextFit_38 ?_
          clear hret
          exact absurd (h8.symm.trans h30) (by decide)
      · -- 8 f
        have h8 := bI_nz h8
        have hs1 : 1 ≤ h ∧ h ≤ 7 := by rw [gearB_N (by omega)] at h8; simpa using h8
        refine cw_aload_n (pc := 11) C dX7_nextFit_11 rfl 0 rfl ?_
        refine cw_iload_n (pc := 12) C dX7_nextFit_12 rfl 3 rfl ?_
        refine cw_calli (pc := 13) C dX7_nextFit_13 (c_X7_isFit l D Z A σ X h hT hs1.1 hs1.2) (cwV 1 C.1.2.2.2.2 gX7_nextFit_X7_isFit rfl rfl rfl (by decide +kernel) ⟨Nat.le_of_ble_eq_true rfl, Nat.le_of_ble_eq_true rfl⟩) 0 rfl rfl rfl rfl (Nat.le_of_ble_eq_true rfl) (cw_purez (b := fitN X h) (fun _ _ h => h) ?_)
        refine cw_if_ne (pc := 16) (tgt := 26) C dX7_nextFit_16 (by decide) (fun h16 => ?_) (fun h16 => ?_)
        · -- 16 t
          have h16 := bI_nz h16
          refine cw_iload_n (pc := 26) C dX7_nextFit_26 rfl 3 rfl ?_
          refine cw_calls (pc := 27) C dX7_nextFit_27 (c_X7_isGear l D Z A σ (nI h)) (va_cwS 1 C.1.2.2.2.2 gX7_nextFit_X7_isGear rfl rfl rfl (by decide +kernel) ⟨Nat.le_of_ble_eq_true rfl, Nat.le_of_ble_eq_true rfl⟩) rfl rfl (Nat.le_of_ble_eq_true rfl) (cw_purez (b := gearB (nI h)) (fun _ _ h => h) ?_)
          refine cw_if_eq (pc := 30) (tgt := 37) C dX7_nextFit_30 (by decide) (fun h30 => ?_) (fun h30 => ?_)
          · -- 30 t
            have h30 := bI_z h30
            refine cw_iconst (pc := 37) C dX7_nextFit_37 (nI 0) (by decide) ?_
            refine hret (nI 0) σ _ _ dX7_nextFit_38 ?_
            clear hret
            exact absurd (h8.symm.trans h30) (by decide)
          · -- 30 f
            have h30 := bI_nz h30
            refine cw_iload_n (pc := 33) C dX7_nextFit_33 rfl 3 rfl ?_
            refine cw_goto (pc := 34) (tgt := 38) C dX7_nextFit_34 (by decide) ?_
            refine hret (nI h) σ _ _ dX7_nextFit_38 ?_
            clear hret
            refine ⟨?_, rfl⟩
            rw [hr, show 7 - i = (7 - (i + 1)) + 1 by omega, nxDn, if_pos (by rw [← hh]; exact h16), hh]
        · -- 16 f
          have h16 := bI_z h16
          refine cw_iload_n (pc := 19) C dX7_nextFit_19 rfl 3 rfl ?_
          refine cw_iload_n (pc := 20) C dX7_nextFit_20 rfl 2 rfl ?_
          refine cw_iadd (pc := 21) C dX7_nextFit_21 (z := (nI h) + (-1)) rfl ?_
          refine cw_top (nI (h - 1)) (nI_m1 hs1.1) ?_
          refine cw_istore_n (pc := 22) C dX7_nextFit_22 rfl (by decide) (lv' := [(3, .int (nI (h - 1))), (0, .ref (A 0)), (1, .int (nI g)), (2, .int ((-1)))]) rfl ?_
          refine cw_goto (pc := 23) (tgt := 4) C dX7_nextFit_23 (by decide) ?_
          refine cw_lv [1, 2, 3, 0] rfl ?_
          exact ih4 (i + 1) (h - 1) (by omega) (by omega) (by omega) (by rw [hr, show 7 - i = (7 - (i + 1)) + 1 by omega, nxDn, if_neg (by rw [← hh, h16]; decide), Nat.sub_sub])
  refine cw_lv [1, 2, 3, 0] rfl ?_
  exact L4 8 0 (g - 1) (by omega) (by omega) rfl rfl
set_option maxHeartbeats 4000000 in
set_option maxRecDepth 100000 in
theorem c_X7_wantAt (l : Launch) (D : va_G) (Z : CZ) (A : Nat → Nat) (σ : St) (X : Nat → Int32) (i : Nat) (v : Int32) (hT : σ 1 = mrow X) (hi : i ≤ 7) (hIN : X 39 = nI i) : CTi l yX7_wantAt wsX7_wantAt 3 65 D Z (wM Z A) σ [.ref (A 0), .int (v)] (fun r σ' => r = nI (wntS X i v) ∧ σ' = σ) := by
  refine CTi.mk (cc := cX7_wantAt) (nL := 6) (own := RX7) rfl (by decide) rfl (Nat.le_of_ble_eq_true rfl) ?_
  intro p0 e0 s0 m0 g0 b0 t0 c0 A0 Q C hret
  refine cw_lv (lv' := [(0, .ref (A 0)), (1, .int (v))]) [0, 1] rfl ?_
  refine cw_aload_n (pc := 0) C dX7_wantAt_0 rfl 0 rfl ?_
  refine cw_get (pc := 1) C dX7_wantAt_1 0 (v := .ref (A 1)) rfl rfl 0 rfl (fun _ h => List.mem_cons_of_mem _ (List.mem_append_right _ h)) (by decide) (List.mem_of_getElem? (i := 1) rfl) ?_
  refine cw_bipush (pc := 4) C dX7_wantAt_4 (nI 43) (by decide) ?_
  refine cw_iald2 (pc := 6) C dX7_wantAt_6 1 1 (wM_g1 Z A) (f := σ 1) rfl 43 rfl (by decide) (by decide) ?_
  refine cw_top (nI i) ((mr hT (by omega) (by omega) rfl).trans hIN) ?_
  refine cw_istore_n (pc := 7) C dX7_wantAt_7 rfl (by decide) (lv' := [(2, .int (nI i)), (0, .ref (A 0)), (1, .int (v))]) rfl ?_
  refine cw_iload_n (pc := 8) C dX7_wantAt_8 rfl 0 rfl ?_
  refine cw_if_ne (pc := 9) (tgt := 19) C dX7_wantAt_9 (by decide) (fun h9 => ?_) (fun h9 => ?_)
  · -- 9 t
    have h9 : ¬ i = 0 := (nc_ne (a := i) (b := 0) (by omega) (by omega)).mp h9
    refine cw_iconst (pc := 19) C dX7_wantAt_19 (nI 5) (by decide) ?_
    refine cw_aload_n (pc := 20) C dX7_wantAt_20 rfl 1 rfl ?_
    refine cw_get (pc := 21) C dX7_wantAt_21 0 (v := .ref (A 1)) rfl rfl 0 rfl (fun _ h => List.mem_cons_of_mem _ (List.mem_append_right _ h)) (by decide) (List.mem_of_getElem? (i := 1) rfl) ?_
    refine cw_bipush (pc := 24) C dX7_wantAt_24 (nI 39) (by decide) ?_
    refine cw_iald2 (pc := 26) C dX7_wantAt_26 1 1 (wM_g1 Z A) (f := σ 1) rfl 39 rfl (by decide) (by decide) ?_
    refine cw_top (X 47 - nI 3) (mr39 hT) ?_
    refine cw_imul (pc := 27) C dX7_wantAt_27 (z := (nI 5) * (X 47 - nI 3)) rfl ?_
    refine cw_bipush (pc := 28) C dX7_wantAt_28 (nI 10) (by decide) ?_
    refine cw_aload_n (pc := 30) C dX7_wantAt_30 rfl 1 rfl ?_
    refine cw_get (pc := 31) C dX7_wantAt_31 0 (v := .ref (A 1)) rfl rfl 0 rfl (fun _ h => List.mem_cons_of_mem _ (List.mem_append_right _ h)) (by decide) (List.mem_of_getElem? (i := 1) rfl) ?_
    refine cw_bipush (pc := 34) C dX7_wantAt_34 (nI 40) (by decide) ?_
    refine cw_iald2 (pc := 36) C dX7_wantAt_36 1 1 (wM_g1 Z A) (f := σ 1) rfl 40 rfl (by decide) (by decide) ?_
    refine cw_top (X 48) (mr hT (by omega) (by omega) rfl) ?_
    refine cw_imul (pc := 37) C dX7_wantAt_37 (z := (nI 10) * (X 48)) rfl ?_
    refine cw_iadd (pc := 38) C dX7_wantAt_38 (z := ((nI 5) * (X 47 - nI 3)) + ((nI 10) * (X 48))) rfl ?_
    refine cw_top (addS X) rfl ?_
    refine cw_istore_n (pc := 39) C dX7_wantAt_39 rfl (by decide) (lv' := [(3, .int (addS X)), (2, .int (nI i)), (0, .ref (A 0)), (1, .int (v))]) rfl ?_
    refine cw_aload_n (pc := 40) C dX7_wantAt_40 rfl 2 rfl ?_
    refine cw_iload_n (pc := 41) C dX7_wantAt_41 rfl 1 rfl ?_
    refine cw_iconst (pc := 42) C dX7_wantAt_42 (nI 1) (by decide) ?_
    refine cw_calli (pc := 43) C dX7_wantAt_43 (c_X7_nextUp l D Z A σ X i hT hi) (cwV 2 C.1.2.2.2.2 gX7_wantAt_X7_nextFit rfl rfl rfl (by decide +kernel) ⟨Nat.le_of_ble_eq_true rfl, Nat.le_of_ble_eq_true rfl⟩) 0 rfl rfl rfl rfl (Nat.le_of_ble_eq_true rfl) (cw_pure (v := nI (nxUp (fitN X) 7 i)) (fun _ _ h => h) ?_)
    refine cw_istore (pc := 46) C dX7_wantAt_46 (by decide) (lv' := [(4, .int (nI (nxUp (fitN X) 7 i))), (3, .int (addS X)), (2, .int (nI i)), (0, .ref (A 0)), (1, .int (v))]) rfl ?_
    refine cw_aload_n (pc := 48) C dX7_wantAt_48 rfl 3 rfl ?_
    refine cw_iload_n (pc := 49) C dX7_wantAt_49 rfl 2 rfl ?_
    refine cw_iconst (pc := 50) C dX7_wantAt_50 (-1) (by decide) ?_
    refine cw_calli (pc := 51) C dX7_wantAt_51 (c_X7_nextDn l D Z A σ X i hT (by omega) hi) (cwV 2 C.1.2.2.2.2 gX7_wantAt_X7_nextFit rfl rfl rfl (by decide +kernel) ⟨Nat.le_of_ble_eq_true rfl, Nat.le_of_ble_eq_true rfl⟩) 0 rfl rfl rfl rfl (Nat.le_of_ble_eq_true rfl) (cw_pure (v := nI (nxDn (fitN X) 7 i)) (fun _ _ h => h) ?_)
    refine cw_istore (pc := 54) C dX7_wantAt_54 (by decide) (lv' := [(5, .int (nI (nxDn (fitN X) 7 i))), (4, .int (nI (nxUp (fitN X) 7 i))), (3, .int (addS X)), (2, .int (nI i)), (0, .ref (A 0)), (1, .int (v))]) rfl ?_
    refine cw_iload_n (pc := 56) C dX7_wantAt_56 rfl 5 rfl ?_
    refine cw_aload_n (pc := 57) C dX7_wantAt_57 rfl 4 rfl ?_
    refine cw_get (pc := 58) C dX7_wantAt_58 0 (v := .ref (A 1)) rfl rfl 0 rfl (fun _ h => List.mem_cons_of_mem _ (List.mem_append_right _ h)) (by decide) (List.mem_of_getElem? (i := 1) rfl) ?_
    refine cw_bipush (pc := 61) C dX7_wantAt_61 (nI 23) (by decide) ?_
    refine cw_iload_n (pc := 63) C dX7_wantAt_63 rfl 3 rfl ?_
    refine cw_iadd (pc := 64) C dX7_wantAt_64 (z := nI (23 + i)) (nI_add _ _) ?_
    refine cw_iald2 (pc := 65) C dX7_wantAt_65 1 1 (wM_g1 Z A) (f := σ 1) rfl (23 + i) rfl (by omega) (by decide) ?_
    refine cw_top (X (8 + i)) (mr hT (by omega) (by omega) (pm_up (by omega))) ?_
    refine cw_iload_n (pc := 66) C dX7_wantAt_66 rfl 2 rfl ?_
    refine cw_iadd (pc := 67) C dX7_wantAt_67 (z := (X (8 + i)) + (addS X)) rfl ?_
    refine cw_icmp_lt (pc := 68) (tgt := 81) C dX7_wantAt_68 (by decide) (fun h68 => ?_) (fun h68 => ?_)
    · -- 68 t
      refine cw_iload_n (pc := 81) C dX7_wantAt_81 rfl 5 rfl ?_
      refine cw_aload_n (pc := 82) C dX7_wantAt_82 rfl 4 rfl ?_
      refine cw_get (pc := 83) C dX7_wantAt_83 0 (v := .ref (A 1)) rfl rfl 0 rfl (fun _ h => List.mem_cons_of_mem _ (List.mem_append_right _ h)) (by decide) (List.mem_of_getElem? (i := 1) rfl) ?_
      refine cw_bipush (pc := 86) C dX7_wantAt_86 (nI 31) (by decide) ?_
      refine cw_iload_n (pc := 88) C dX7_wantAt_88 rfl 3 rfl ?_
      refine cw_iadd (pc := 89) C dX7_wantAt_89 (z := nI (31 + i)) (nI_add _ _) ?_
      refine cw_iald2 (pc := 90) C dX7_wantAt_90 1 1 (wM_g1 Z A) (f := σ 1) rfl (31 + i) rfl (by omega) (by decide) ?_
      refine cw_top (X (16 + i)) (mr hT (by omega) (by omega) (pm_dn (by omega))) ?_
      refine cw_iload_n (pc := 91) C dX7_wantAt_91 rfl 2 rfl ?_
      refine cw_iadd (pc := 92) C dX7_wantAt_92 (z := (X (16 + i)) + (addS X)) rfl ?_
      refine cw_icmp_ge (pc := 93) (tgt := 106) C dX7_wantAt_93 (by decide) (fun h93 => ?_) (fun h93 => ?_)
      · -- 93 t
        refine cw_iload_n (pc := 106) C dX7_wantAt_106 rfl 3 rfl ?_
        refine hret (nI i) σ _ _ dX7_wantAt_107 ?_
        clear hret
        refine ⟨?_, rfl⟩
        rw [wntS, if_neg h9]
        have ha : abvS X i v = 0 := by rw [abvS, if_pos h68]
        rw [if_neg (by rw [ha]; omega)]
        have hb : blwS X i v = 0 := by rw [blwS, if_pos h93]
        rw [if_neg (by rw [hb]; omega)]
      · -- 93 f
        refine cw_iload (pc := 96) C dX7_wantAt_96 0 rfl ?_
        have hl2 := nxDn_le (fitN X) 7 i
        refine cw_if_le (pc := 98) (tgt := 106) C dX7_wantAt_98 (by decide) (fun h98 => ?_) (fun h98 => ?_)
        · -- 98 t
          have h98 : (nxDn (fitN X) 7 i) ≤ 0 := (nc_le (a := nxDn (fitN X) 7 i) (b := 0) (by omega) (by omega)).mp h98
          refine cw_iload_n (pc := 106) C dX7_wantAt_106 rfl 3 rfl ?_
          refine hret (nI i) σ _ _ dX7_wantAt_107 ?_
          clear hret
          refine ⟨?_, rfl⟩
          rw [wntS, if_neg h9]
          have ha : abvS X i v = 0 := by rw [abvS, if_pos h68]
          rw [if_neg (by rw [ha]; omega)]
          have hb : blwS X i v = nxDn (fitN X) 7 i := by rw [blwS, if_neg h93]
          rw [if_neg (by rw [hb]; omega)]
        · -- 98 f
          have h98 : ¬ ((nxDn (fitN X) 7 i) ≤ 0) := fun qq => h98 ((nc_le (a := nxDn (fitN X) 7 i) (b := 0) (by omega) (by omega)).mpr qq)
          refine cw_iload (pc := 101) C dX7_wantAt_101 0 rfl ?_
          refine cw_goto (pc := 103) (tgt := 107) C dX7_wantAt_103 (by decide) ?_
          refine hret (nI (nxDn (fitN X) 7 i)) σ _ _ dX7_wantAt_107 ?_
          clear hret
          refine ⟨?_, rfl⟩
          rw [wntS, if_neg h9]
          have ha : abvS X i v = 0 := by rw [abvS, if_pos h68]
          rw [if_neg (by rw [ha]; omega)]
          have hb : blwS X i v = nxDn (fitN X) 7 i := by rw [blwS, if_neg h93]
          rw [if_pos (by rw [hb]; omega), hb]
    · -- 68 f
      refine cw_iload (pc := 71) C dX7_wantAt_71 1 rfl ?_
      have hl := nxUp_le (fitN X) 7 i
      refine cw_if_le (pc := 73) (tgt := 81) C dX7_wantAt_73 (by decide) (fun h73 => ?_) (fun h73 => ?_)
      · -- 73 t
        have h73 : (nxUp (fitN X) 7 i) ≤ 0 := (nc_le (a := nxUp (fitN X) 7 i) (b := 0) (by omega) (by omega)).mp h73
        refine cw_iload_n (pc := 81) C dX7_wantAt_81 rfl 5 rfl ?_
        refine cw_aload_n (pc := 82) C dX7_wantAt_82 rfl 4 rfl ?_
        refine cw_get (pc := 83) C dX7_wantAt_83 0 (v := .ref (A 1)) rfl rfl 0 rfl (fun _ h => List.mem_cons_of_mem _ (List.mem_append_right _ h)) (by decide) (List.mem_of_getElem? (i := 1) rfl) ?_
        refine cw_bipush (pc := 86) C dX7_wantAt_86 (nI 31) (by decide) ?_
        refine cw_iload_n (pc := 88) C dX7_wantAt_88 rfl 3 rfl ?_
        refine cw_iadd (pc := 89) C dX7_wantAt_89 (z := nI (31 + i)) (nI_add _ _) ?_
        refine cw_iald2 (pc := 90) C dX7_wantAt_90 1 1 (wM_g1 Z A) (f := σ 1) rfl (31 + i) rfl (by omega) (by decide) ?_
        refine cw_top (X (16 + i)) (mr hT (by omega) (by omega) (pm_dn (by omega))) ?_
        refine cw_iload_n (pc := 91) C dX7_wantAt_91 rfl 2 rfl ?_
        refine cw_iadd (pc := 92) C dX7_wantAt_92 (z := (X (16 + i)) + (addS X)) rfl ?_
        refine cw_icmp_ge (pc := 93) (tgt := 106) C dX7_wantAt_93 (by decide) (fun h93 => ?_) (fun h93 => ?_)
        · -- 93 t
          refine cw_iload_n (pc := 106) C dX7_wantAt_106 rfl 3 rfl ?_
          refine hret (nI i) σ _ _ dX7_wantAt_107 ?_
          clear hret
          refine ⟨?_, rfl⟩
          rw [wntS, if_neg h9]
          have ha : abvS X i v = nxUp (fitN X) 7 i := by rw [abvS, if_neg h68]
          rw [if_neg (by rw [ha]; omega)]
          have hb : blwS X i v = 0 := by rw [blwS, if_pos h93]
          rw [if_neg (by rw [hb]; omega)]
        · -- 93 f
          refine cw_iload (pc := 96) C dX7_wantAt_96 0 rfl ?_
          have hl2 := nxDn_le (fitN X) 7 i
          refine cw_if_le (pc := 98) (tgt := 106) C dX7_wantAt_98 (by decide) (fun h98 => ?_) (fun h98 => ?_)
          · -- 98 t
            have h98 : (nxDn (fitN X) 7 i) ≤ 0 := (nc_le (a := nxDn (fitN X) 7 i) (b := 0) (by omega) (by omega)).mp h98
            refine cw_iload_n (pc := 106) C dX7_wantAt_106 rfl 3 rfl ?_
            refine hret (nI i) σ _ _ dX7_wantAt_107 ?_
            clear hret
            refine ⟨?_, rfl⟩
            rw [wntS, if_neg h9]
            have ha : abvS X i v = nxUp (fitN X) 7 i := by rw [abvS, if_neg h68]
            rw [if_neg (by rw [ha]; omega)]
            have hb : blwS X i v = nxDn (fitN X) 7 i := by rw [blwS, if_neg h93]
            rw [if_neg (by rw [hb]; omega)]
          · -- 98 f
            have h98 : ¬ ((nxDn (fitN X) 7 i) ≤ 0) := fun qq => h98 ((nc_le (a := nxDn (fitN X) 7 i) (b := 0) (by omega) (by omega)).mpr qq)
            refine cw_iload (pc := 101) C dX7_wantAt_101 0 rfl ?_
            refine cw_goto (pc := 103) (tgt := 107) C dX7_wantAt_103 (by decide) ?_
            refine hret (nI (nxDn (fitN X) 7 i)) σ _ _ dX7_wantAt_107 ?_
            clear hret
            refine ⟨?_, rfl⟩
            rw [wntS, if_neg h9]
            have ha : abvS X i v = nxUp (fitN X) 7 i := by rw [abvS, if_neg h68]
            rw [if_neg (by rw [ha]; omega)]
            have hb : blwS X i v = nxDn (fitN X) 7 i := by rw [blwS, if_neg h93]
            rw [if_pos (by rw [hb]; omega), hb]
      · -- 73 f
        have h73 : ¬ ((nxUp (fitN X) 7 i) ≤ 0) := fun qq => h73 ((nc_le (a := nxUp (fitN X) 7 i) (b := 0) (by omega) (by omega)).mpr qq)
        refine cw_iload (pc := 76) C dX7_wantAt_76 1 rfl ?_
        refine cw_goto (pc := 78) (tgt := 107) C dX7_wantAt_78 (by decide) ?_
        refine hret (nI (nxUp (fitN X) 7 i)) σ _ _ dX7_wantAt_107 ?_
        clear hret
        refine ⟨?_, rfl⟩
        rw [wntS, if_neg h9]
        have ha : abvS X i v = nxUp (fitN X) 7 i := by rw [abvS, if_neg h68]
        rw [if_pos (by rw [ha]; omega), ha]
  · -- 9 f
    have h9 : i = 0 := (nc_eq (a := i) (b := 0) (by omega) (by omega)).mp h9
    have h9 : i = 0 := by omega
    refine cw_aload_n (pc := 12) C dX7_wantAt_12 rfl 1 rfl ?_
    refine cw_iconst (pc := 13) C dX7_wantAt_13 (nI 0) (by decide) ?_
    refine cw_iconst (pc := 14) C dX7_wantAt_14 (nI 1) (by decide) ?_
    refine cw_calli (pc := 15) C dX7_wantAt_15 (c_X7_nextUp l D Z A σ X 0 hT (by omega)) (cwV 2 C.1.2.2.2.2 gX7_wantAt_X7_nextFit rfl rfl rfl (by decide +kernel) ⟨Nat.le_of_ble_eq_true rfl, Nat.le_of_ble_eq_true rfl⟩) 0 rfl rfl rfl rfl (Nat.le_of_ble_eq_true rfl) (cw_pure (v := nI (nxUp (fitN X) 7 0)) (fun _ _ h => h) ?_)
    refine hret (nI (nxUp (fitN X) 7 0)) σ _ _ dX7_wantAt_18 ?_
    clear hret
    exact ⟨by rw [wntS, if_pos h9], rfl⟩
set_option maxHeartbeats 4000000 in
set_option maxRecDepth 100000 in
theorem c_X7_shift (l : Launch) (D : va_G) (Z : CZ) (A : Nat → Nat) (σ : St) (X : Nat → Int32)  (g : Nat) (k : Nat) (hT : σ 1 = mrow X) (hO : rowOK X) (hg : g ≤ 7) (hk : k ≤ 7) (hs : simN X g k = true) : CTv l yX7_shift wsX7_shift 3 69 D Z (wM Z A) σ [.ref (A 0), .int (nI g), .int (nI k)] (fun σ' => σ' = up2 σ 1 (mrow (lrnS X (comS (X g) (X k))))) := by
  refine CTv.mk (cc := cX7_shift) (nL := 7) (own := RX7) rfl (by decide) rfl (Nat.le_of_ble_eq_true rfl) ?_
  intro p0 e0 s0 m0 g0 b0 t0 c0 A0 Q C hret
  have hc := comS_lt (X g) (X k)
  have hR := rowOK_R hO
  refine cw_lv (lv' := [(0, .ref (A 0)), (1, .int (nI g)), (2, .int (nI k))]) [0, 1, 2] rfl ?_
  refine cw_aload_n (pc := 0) C dX7_shift_0 rfl 0 rfl ?_
  refine cw_iload_n (pc := 1) C dX7_shift_1 rfl 1 rfl ?_
  refine cw_iload_n (pc := 2) C dX7_shift_2 rfl 2 rfl ?_
  refine cw_calli (pc := 3) C dX7_shift_3 (c_X7_coming l D Z A σ X g k hT hO.1 hg hk hs) (cwV 2 C.1.2.2.2.2 gX7_shift_X7_coming rfl rfl rfl (by decide +kernel) ⟨Nat.le_of_ble_eq_true rfl, Nat.le_of_ble_eq_true rfl⟩) 0 rfl rfl rfl rfl (Nat.le_of_ble_eq_true rfl) (cw_pure (v := nI (comS (X g) (X k))) (fun _ _ h => h) ?_)
  refine cw_istore_n (pc := 6) C dX7_shift_6 rfl (by decide) (lv' := [(3, .int (nI (comS (X g) (X k)))), (0, .ref (A 0)), (1, .int (nI g)), (2, .int (nI k))]) rfl ?_
  refine cw_aload_n (pc := 7) C dX7_shift_7 rfl 1 rfl ?_
  refine cw_iload_n (pc := 8) C dX7_shift_8 rfl 0 rfl ?_
  refine cw_iconst (pc := 9) C dX7_shift_9 (nI 0) (by decide) ?_
  refine cw_calli (pc := 10) C dX7_shift_10 (c_X7_worst0 l D Z A σ X (comS (X g) (X k)) hT hR hc) (cwV 2 C.1.2.2.2.2 gX7_shift_X7_worstOf rfl rfl rfl (by decide +kernel) ⟨Nat.le_of_ble_eq_true rfl, Nat.le_of_ble_eq_true rfl⟩) 0 rfl rfl rfl rfl (Nat.le_of_ble_eq_true rfl) (cw_pure (v := flS X (comS (X g) (X k))) (fun _ _ h => h) ?_)
  refine cw_aload_n (pc := 13) C dX7_shift_13 rfl 1 rfl ?_
  refine cw_get (pc := 14) C dX7_shift_14 0 (v := .ref (A 1)) rfl rfl 0 rfl (fun _ h => List.mem_cons_of_mem _ (List.mem_append_right _ h)) (by decide) (List.mem_of_getElem? (i := 1) rfl) ?_
  refine cw_bipush (pc := 17) C dX7_shift_17 (nI 42) (by decide) ?_
  refine cw_iald2 (pc := 19) C dX7_shift_19 1 1 (wM_g1 Z A) (f := σ 1) rfl 42 rfl (by decide) (by decide) ?_
  refine cw_top (X 50) (mr hT (by omega) (by omega) rfl) ?_
  refine cw_icmp_le (pc := 20) (tgt := 27) C dX7_shift_20 (by decide) (fun h20 => ?_) (fun h20 => ?_)
  · -- 20 t
    refine cw_iconst (pc := 27) C dX7_shift_27 (nI 0) (by decide) ?_
    refine cw_istore (pc := 28) C dX7_shift_28 (by decide) (lv' := [(4, .int (nI 0)), (3, .int (nI (comS (X g) (X k)))), (0, .ref (A 0)), (1, .int (nI g)), (2, .int (nI k))]) rfl ?_
    refine cw_aload_n (pc := 30) C dX7_shift_30 rfl 2 rfl ?_
    refine cw_iload_n (pc := 31) C dX7_shift_31 rfl 1 rfl ?_
    refine cw_iconst (pc := 32) C dX7_shift_32 (nI 1) (by decide) ?_
    refine cw_calli (pc := 33) C dX7_shift_33 (c_X7_worst1 l D Z A σ X (comS (X g) (X k)) hT hR hc) (cwV 2 C.1.2.2.2.2 gX7_shift_X7_worstOf rfl rfl rfl (by decide +kernel) ⟨Nat.le_of_ble_eq_true rfl, Nat.le_of_ble_eq_true rfl⟩) 0 rfl rfl rfl rfl (Nat.le_of_ble_eq_true rfl) (cw_pure (v := bdS X (comS (X g) (X k))) (fun _ _ h => h) ?_)
    refine cw_aload_n (pc := 36) C dX7_shift_36 rfl 2 rfl ?_
    refine cw_get (pc := 37) C dX7_shift_37 0 (v := .ref (A 1)) rfl rfl 0 rfl (fun _ h => List.mem_cons_of_mem _ (List.mem_append_right _ h)) (by decide) (List.mem_of_getElem? (i := 1) rfl) ?_
    refine cw_bipush (pc := 40) C dX7_shift_40 (nI 42) (by decide) ?_
    refine cw_iald2 (pc := 42) C dX7_shift_42 1 1 (wM_g1 Z A) (f := σ 1) rfl 42 rfl (by decide) (by decide) ?_
    refine cw_top (X 50) (mr hT (by omega) (by omega) rfl) ?_
    refine cw_icmp_le (pc := 43) (tgt := 50) C dX7_shift_43 (by decide) (fun h43 => ?_) (fun h43 => ?_)
    · -- 43 t
      refine cw_iconst (pc := 50) C dX7_shift_50 (nI 0) (by decide) ?_
      refine cw_istore (pc := 51) C dX7_shift_51 (by decide) (lv' := [(5, .int (nI 0)), (4, .int (nI 0)), (3, .int (nI (comS (X g) (X k)))), (0, .ref (A 0)), (1, .int (nI g)), (2, .int (nI k))]) rfl ?_
      refine cw_aload_n (pc := 53) C dX7_shift_53 rfl 3 rfl ?_
      refine cw_get (pc := 54) C dX7_shift_54 0 (v := .ref (A 1)) rfl rfl 0 rfl (fun _ h => List.mem_cons_of_mem _ (List.mem_append_right _ h)) (by decide) (List.mem_of_getElem? (i := 1) rfl) ?_
      refine cw_bipush (pc := 57) C dX7_shift_57 (nI 18) (by decide) ?_
      refine cw_iload_n (pc := 59) C dX7_shift_59 rfl 2 rfl ?_
      refine cw_iadd (pc := 60) C dX7_shift_60 (z := nI (18 + (comS (X g) (X k)))) (nI_add _ _) ?_
      refine cw_iald2 (pc := 61) C dX7_shift_61 1 1 (wM_g1 Z A) (f := σ 1) rfl (18 + (comS (X g) (X k))) rfl (by omega) (by decide) ?_
      refine cw_top (X (34 + comS (X g) (X k))) (mr hT (by omega) (by omega) (pm_fi (by omega))) ?_
      refine cw_iload (pc := 62) C dX7_shift_62 1 rfl ?_
      refine cw_if_eq (pc := 64) (tgt := 71) C dX7_shift_64 (by decide) (fun _ => ?_) (fun h => False.elim (by revert h; decide))
      refine cw_iload (pc := 71) C dX7_shift_71 0 rfl ?_
      refine cw_if_eq (pc := 73) (tgt := 80) C dX7_shift_73 (by decide) (fun _ => ?_) (fun h => False.elim (by revert h; decide))
      refine cw_iconst (pc := 80) C dX7_shift_80 (nI 0) (by decide) ?_
      refine cw_iadd (pc := 81) C dX7_shift_81 (z := (X (34 + comS (X g) (X k))) + (nI 0)) rfl ?_
      refine cw_istore (pc := 82) C dX7_shift_82 (by decide) (lv' := [(6, .int ((X (34 + comS (X g) (X k))) + (nI 0))), (5, .int (nI 0)), (4, .int (nI 0)), (3, .int (nI (comS (X g) (X k)))), (0, .ref (A 0)), (1, .int (nI g)), (2, .int (nI k))]) rfl ?_
      refine cw_aload_n (pc := 84) C dX7_shift_84 rfl 4 rfl ?_
      refine cw_get (pc := 85) C dX7_shift_85 0 (v := .ref (A 1)) rfl rfl 0 rfl (fun _ h => List.mem_cons_of_mem _ (List.mem_append_right _ h)) (by decide) (List.mem_of_getElem? (i := 1) rfl) ?_
      refine cw_bipush (pc := 88) C dX7_shift_88 (nI 18) (by decide) ?_
      refine cw_iload_n (pc := 90) C dX7_shift_90 rfl 3 rfl ?_
      refine cw_iadd (pc := 91) C dX7_shift_91 (z := nI (18 + (comS (X g) (X k)))) (nI_add _ _) ?_
      refine cw_iload (pc := 92) C dX7_shift_92 0 rfl ?_
      refine cw_bipush (pc := 94) C dX7_shift_94 (nI 20) (by decide) ?_
      refine cw_icmp_le (pc := 96) (tgt := 104) C dX7_shift_96 (by decide) (fun h96 => ?_) (fun h96 => ?_)
      · -- 96 t
        refine cw_iload (pc := 104) C dX7_shift_104 0 rfl ?_
        refine cw_iconst (pc := 106) C dX7_shift_106 (nI 1) (by decide) ?_
        refine cw_icmp_ge (pc := 107) (tgt := 114) C dX7_shift_107 (by decide) (fun h107 => ?_) (fun h107 => ?_)
        · -- 107 t
          refine cw_iload (pc := 114) C dX7_shift_114 0 rfl ?_
          refine cw_iast2 (pc := 116) C dX7_shift_116 1 1 (wM_g1 Z A) (wM_s1 Z A) (f := σ 1) rfl (18 + (comS (X g) (X k))) rfl (by omega) (by decide) (up2 σ 1 (upd (σ 1) (18 + (comS (X g) (X k))) ((X (34 + comS (X g) (X k))) + (nI 0)))) rfl ?_
          refine cw_aload_n (pc := 117) C dX7_shift_117 rfl 4 rfl ?_
          refine cw_get (pc := 118) C dX7_shift_118 0 (v := .ref (A 1)) rfl rfl 0 rfl (fun _ h => List.mem_cons_of_mem _ (List.mem_append_right _ h)) (by decide) (List.mem_of_getElem? (i := 1) rfl) ?_
          refine cw_bipush (pc := 121) C dX7_shift_121 (nI 47) (by decide) ?_
          refine cw_dup2 (pc := 123) C dX7_shift_123 rfl rfl ?_
          refine cw_iald2 (pc := 124) C dX7_shift_124 1 1 (wM_g1 Z A) (f := upd (σ 1) (18 + (comS (X g) (X k))) ((X (34 + comS (X g) (X k))) + (nI 0))) (up2_eq _ _ _) 47 rfl (by decide) (by decide) ?_
          refine cw_top (X 43) (by rw [upd_ne (by omega)]; exact mr hT (by omega) (by omega) rfl) ?_
          refine cw_iconst (pc := 125) C dX7_shift_125 (nI 1) (by decide) ?_
          refine cw_iadd (pc := 126) C dX7_shift_126 (z := (X 43) + (nI 1)) rfl ?_
          refine cw_iast2 (pc := 127) C dX7_shift_127 1 1 (wM_g1 Z A) (wM_s1 Z A) (f := upd (σ 1) (18 + (comS (X g) (X k))) ((X (34 + comS (X g) (X k))) + (nI 0))) (up2_eq _ _ _) 47 rfl (by decide) (by decide) (up2 σ 1 (upd (upd (σ 1) (18 + (comS (X g) (X k))) ((X (34 + comS (X g) (X k))) + (nI 0))) 47 ((X 43) + (nI 1)))) (up2_up2 _ 1 _ _) ?_
          refine cw_aload_n (pc := 128) C dX7_shift_128 rfl 4 rfl ?_
          refine cw_get (pc := 129) C dX7_shift_129 0 (v := .ref (A 1)) rfl rfl 0 rfl (fun _ h => List.mem_cons_of_mem _ (List.mem_append_right _ h)) (by decide) (List.mem_of_getElem? (i := 1) rfl) ?_
          refine cw_bipush (pc := 132) C dX7_shift_132 (nI 48) (by decide) ?_
          refine cw_dup2 (pc := 134) C dX7_shift_134 rfl rfl ?_
          refine cw_iald2 (pc := 135) C dX7_shift_135 1 1 (wM_g1 Z A) (f := upd (upd (σ 1) (18 + (comS (X g) (X k))) ((X (34 + comS (X g) (X k))) + (nI 0))) 47 ((X 43) + (nI 1))) (up2_eq _ _ _) 48 rfl (by decide) (by decide) ?_
          refine cw_top (X 44) (by rw [upd_ne (by omega), upd_ne (by omega)]; exact mr hT (by omega) (by omega) rfl) ?_
          refine cw_iload (pc := 136) C dX7_shift_136 2 rfl ?_
          refine cw_if_eq (pc := 138) (tgt := 145) C dX7_shift_138 (by decide) (fun _ => ?_) (fun h => False.elim (by revert h; decide))
          refine cw_iconst (pc := 145) C dX7_shift_145 (nI 0) (by decide) ?_
          refine cw_iadd (pc := 146) C dX7_shift_146 (z := (X 44) + (nI 0)) rfl ?_
          refine cw_iast2 (pc := 147) C dX7_shift_147 1 1 (wM_g1 Z A) (wM_s1 Z A) (f := upd (upd (σ 1) (18 + (comS (X g) (X k))) ((X (34 + comS (X g) (X k))) + (nI 0))) 47 ((X 43) + (nI 1))) (up2_eq _ _ _) 48 rfl (by decide) (by decide) (up2 σ 1 (upd (upd (upd (σ 1) (18 + (comS (X g) (X k))) ((X (34 + comS (X g) (X k))) + (nI 0))) 47 ((X 43) + (nI 1))) 48 ((X 44) + (nI 0)))) (up2_up2 _ 1 _ _) ?_
          refine cw_aload_n (pc := 148) C dX7_shift_148 rfl 4 rfl ?_
          refine cw_get (pc := 149) C dX7_shift_149 0 (v := .ref (A 1)) rfl rfl 0 rfl (fun _ h => List.mem_cons_of_mem _ (List.mem_append_right _ h)) (by decide) (List.mem_of_getElem? (i := 1) rfl) ?_
          refine cw_bipush (pc := 152) C dX7_shift_152 (nI 49) (by decide) ?_
          refine cw_dup2 (pc := 154) C dX7_shift_154 rfl rfl ?_
          refine cw_iald2 (pc := 155) C dX7_shift_155 1 1 (wM_g1 Z A) (f := upd (upd (upd (σ 1) (18 + (comS (X g) (X k))) ((X (34 + comS (X g) (X k))) + (nI 0))) 47 ((X 43) + (nI 1))) 48 ((X 44) + (nI 0))) (up2_eq _ _ _) 49 rfl (by decide) (by decide) ?_
          refine cw_top (X 45) (by rw [upd_ne (by omega), upd_ne (by omega), upd_ne (by omega)]; exact mr hT (by omega) (by omega) rfl) ?_
          refine cw_iload (pc := 156) C dX7_shift_156 1 rfl ?_
          refine cw_if_eq (pc := 158) (tgt := 165) C dX7_shift_158 (by decide) (fun _ => ?_) (fun h => False.elim (by revert h; decide))
          refine cw_iconst (pc := 165) C dX7_shift_165 (nI 0) (by decide) ?_
          refine cw_iadd (pc := 166) C dX7_shift_166 (z := (X 45) + (nI 0)) rfl ?_
          refine cw_iast2 (pc := 167) C dX7_shift_167 1 1 (wM_g1 Z A) (wM_s1 Z A) (f := upd (upd (upd (σ 1) (18 + (comS (X g) (X k))) ((X (34 + comS (X g) (X k))) + (nI 0))) 47 ((X 43) + (nI 1))) 48 ((X 44) + (nI 0))) (up2_eq _ _ _) 49 rfl (by decide) (by decide) (up2 σ 1 (upd (upd (upd (upd (σ 1) (18 + (comS (X g) (X k))) ((X (34 + comS (X g) (X k))) + (nI 0))) 47 ((X 43) + (nI 1))) 48 ((X 44) + (nI 0))) 49 ((X 45) + (nI 0)))) (up2_up2 _ 1 _ _) ?_
          refine hret (up2 σ 1 (upd (upd (upd (upd (σ 1) (18 + (comS (X g) (X k))) ((X (34 + comS (X g) (X k))) + (nI 0))) 47 ((X 43) + (nI 1))) 48 ((X 44) + (nI 0))) 49 ((X 45) + (nI 0)))) _ _ dX7_shift_168 ?_
          clear hret
          refine congrArg (up2 σ 1) ?_
          rw [← mlS_no hO hc (Int32.not_lt.mpr h20) (Int32.not_lt.mpr h43), hT, mrow_upd (j := 18 + comS (X g) (X k)) (by omega) (by omega), pm_fi (by omega), mrow_upd (j := 47) (by omega) (by omega), mrow_upd (j := 48) (by omega) (by omega), mrow_upd (j := 49) (by omega) (by omega)]
          unfold mlS clipF
          rw [if_neg (Int32.not_lt.mpr h96), if_neg (Int32.not_lt.mpr h107)]
          rfl
        · -- 107 f
          refine cw_iconst (pc := 110) C dX7_shift_110 (nI 1) (by decide) ?_
          refine cw_goto (pc := 111) (tgt := 116) C dX7_shift_111 (by decide) ?_
          refine cw_iast2 (pc := 116) C dX7_shift_116 1 1 (wM_g1 Z A) (wM_s1 Z A) (f := σ 1) rfl (18 + (comS (X g) (X k))) rfl (by omega) (by decide) (up2 σ 1 (upd (σ 1) (18 + (comS (X g) (X k))) (nI 1))) rfl ?_
          refine cw_aload_n (pc := 117) C dX7_shift_117 rfl 4 rfl ?_
          refine cw_get (pc := 118) C dX7_shift_118 0 (v := .ref (A 1)) rfl rfl 0 rfl (fun _ h => List.mem_cons_of_mem _ (List.mem_append_right _ h)) (by decide) (List.mem_of_getElem? (i := 1) rfl) ?_
          refine cw_bipush (pc := 121) C dX7_shift_121 (nI 47) (by decide) ?_
          refine cw_dup2 (pc := 123) C dX7_shift_123 rfl rfl ?_
          refine cw_iald2 (pc := 124) C dX7_shift_124 1 1 (wM_g1 Z A) (f := upd (σ 1) (18 + (comS (X g) (X k))) (nI 1)) (up2_eq _ _ _) 47 rfl (by decide) (by decide) ?_
          refine cw_top (X 43) (by rw [upd_ne (by omega)]; exact mr hT (by omega) (by omega) rfl) ?_
          refine cw_iconst (pc := 125) C dX7_shift_125 (nI 1) (by decide) ?_
          refine cw_iadd (pc := 126) C dX7_shift_126 (z := (X 43) + (nI 1)) rfl ?_
          refine cw_iast2 (pc := 127) C dX7_shift_127 1 1 (wM_g1 Z A) (wM_s1 Z A) (f := upd (σ 1) (18 + (comS (X g) (X k))) (nI 1)) (up2_eq _ _ _) 47 rfl (by decide) (by decide) (up2 σ 1 (upd (upd (σ 1) (18 + (comS (X g) (X k))) (nI 1)) 47 ((X 43) + (nI 1)))) (up2_up2 _ 1 _ _) ?_
          refine cw_aload_n (pc := 128) C dX7_shift_128 rfl 4 rfl ?_
          refine cw_get (pc := 129) C dX7_shift_129 0 (v := .ref (A 1)) rfl rfl 0 rfl (fun _ h => List.mem_cons_of_mem _ (List.mem_append_right _ h)) (by decide) (List.mem_of_getElem? (i := 1) rfl) ?_
          refine cw_bipush (pc := 132) C dX7_shift_132 (nI 48) (by decide) ?_
          refine cw_dup2 (pc := 134) C dX7_shift_134 rfl rfl ?_
          refine cw_iald2 (pc := 135) C dX7_shift_135 1 1 (wM_g1 Z A) (f := upd (upd (σ 1) (18 + (comS (X g) (X k))) (nI 1)) 47 ((X 43) + (nI 1))) (up2_eq _ _ _) 48 rfl (by decide) (by decide) ?_
          refine cw_top (X 44) (by rw [upd_ne (by omega), upd_ne (by omega)]; exact mr hT (by omega) (by omega) rfl) ?_
          refine cw_iload (pc := 136) C dX7_shift_136 2 rfl ?_
          refine cw_if_eq (pc := 138) (tgt := 145) C dX7_shift_138 (by decide) (fun _ => ?_) (fun h => False.elim (by revert h; decide))
          refine cw_iconst (pc := 145) C dX7_shift_145 (nI 0) (by decide) ?_
          refine cw_iadd (pc := 146) C dX7_shift_146 (z := (X 44) + (nI 0)) rfl ?_
          refine cw_iast2 (pc := 147) C dX7_shift_147 1 1 (wM_g1 Z A) (wM_s1 Z A) (f := upd (upd (σ 1) (18 + (comS (X g) (X k))) (nI 1)) 47 ((X 43) + (nI 1))) (up2_eq _ _ _) 48 rfl (by decide) (by decide) (up2 σ 1 (upd (upd (upd (σ 1) (18 + (comS (X g) (X k))) (nI 1)) 47 ((X 43) + (nI 1))) 48 ((X 44) + (nI 0)))) (up2_up2 _ 1 _ _) ?_
          refine cw_aload_n (pc := 148) C dX7_shift_148 rfl 4 rfl ?_
          refine cw_get (pc := 149) C dX7_shift_149 0 (v := .ref (A 1)) rfl rfl 0 rfl (fun _ h => List.mem_cons_of_mem _ (List.mem_append_right _ h)) (by decide) (List.mem_of_getElem? (i := 1) rfl) ?_
          refine cw_bipush (pc := 152) C dX7_shift_152 (nI 49) (by decide) ?_
          refine cw_dup2 (pc := 154) C dX7_shift_154 rfl rfl ?_
          refine cw_iald2 (pc := 155) C dX7_shift_155 1 1 (wM_g1 Z A) (f := upd (upd (upd (σ 1) (18 + (comS (X g) (X k))) (nI 1)) 47 ((X 43) + (nI 1))) 48 ((X 44) + (nI 0))) (up2_eq _ _ _) 49 rfl (by decide) (by decide) ?_
          refine cw_top (X 45) (by rw [upd_ne (by omega), upd_ne (by omega), upd_ne (by omega)]; exact mr hT (by omega) (by omega) rfl) ?_
          refine cw_iload (pc := 156) C dX7_shift_156 1 rfl ?_
          refine cw_if_eq (pc := 158) (tgt := 165) C dX7_shift_158 (by decide) (fun _ => ?_) (fun h => False.elim (by revert h; decide))
          refine cw_iconst (pc := 165) C dX7_shift_165 (nI 0) (by decide) ?_
          refine cw_iadd (pc := 166) C dX7_shift_166 (z := (X 45) + (nI 0)) rfl ?_
          refine cw_iast2 (pc := 167) C dX7_shift_167 1 1 (wM_g1 Z A) (wM_s1 Z A) (f := upd (upd (upd (σ 1) (18 + (comS (X g) (X k))) (nI 1)) 47 ((X 43) + (nI 1))) 48 ((X 44) + (nI 0))) (up2_eq _ _ _) 49 rfl (by decide) (by decide) (up2 σ 1 (upd (upd (upd (upd (σ 1) (18 + (comS (X g) (X k))) (nI 1)) 47 ((X 43) + (nI 1))) 48 ((X 44) + (nI 0))) 49 ((X 45) + (nI 0)))) (up2_up2 _ 1 _ _) ?_
          refine hret (up2 σ 1 (upd (upd (upd (upd (σ 1) (18 + (comS (X g) (X k))) (nI 1)) 47 ((X 43) + (nI 1))) 48 ((X 44) + (nI 0))) 49 ((X 45) + (nI 0)))) _ _ dX7_shift_168 ?_
          clear hret
          refine congrArg (up2 σ 1) ?_
          rw [← mlS_no hO hc (Int32.not_lt.mpr h20) (Int32.not_lt.mpr h43), hT, mrow_upd (j := 18 + comS (X g) (X k)) (by omega) (by omega), pm_fi (by omega), mrow_upd (j := 47) (by omega) (by omega), mrow_upd (j := 48) (by omega) (by omega), mrow_upd (j := 49) (by omega) (by omega)]
          unfold mlS clipF
          rw [if_neg (Int32.not_lt.mpr h96), if_pos (Int32.not_le.mp h107)]
          rfl
      · -- 96 f
        refine cw_bipush (pc := 99) C dX7_shift_99 (nI 20) (by decide) ?_
        refine cw_goto (pc := 101) (tgt := 116) C dX7_shift_101 (by decide) ?_
        refine cw_iast2 (pc := 116) C dX7_shift_116 1 1 (wM_g1 Z A) (wM_s1 Z A) (f := σ 1) rfl (18 + (comS (X g) (X k))) rfl (by omega) (by decide) (up2 σ 1 (upd (σ 1) (18 + (comS (X g) (X k))) (nI 20))) rfl ?_
        refine cw_aload_n (pc := 117) C dX7_shift_117 rfl 4 rfl ?_
        refine cw_get (pc := 118) C dX7_shift_118 0 (v := .ref (A 1)) rfl rfl 0 rfl (fun _ h => List.mem_cons_of_mem _ (List.mem_append_right _ h)) (by decide) (List.mem_of_getElem? (i := 1) rfl) ?_
        refine cw_bipush (pc := 121) C dX7_shift_121 (nI 47) (by decide) ?_
        refine cw_dup2 (pc := 123) C dX7_shift_123 rfl rfl ?_
        refine cw_iald2 (pc := 124) C dX7_shift_124 1 1 (wM_g1 Z A) (f := upd (σ 1) (18 + (comS (X g) (X k))) (nI 20)) (up2_eq _ _ _) 47 rfl (by decide) (by decide) ?_
        refine cw_top (X 43) (by rw [upd_ne (by omega)]; exact mr hT (by omega) (by omega) rfl) ?_
        refine cw_iconst (pc := 125) C dX7_shift_125 (nI 1) (by decide) ?_
        refine cw_iadd (pc := 126) C dX7_shift_126 (z := (X 43) + (nI 1)) rfl ?_
        refine cw_iast2 (pc := 127) C dX7_shift_127 1 1 (wM_g1 Z A) (wM_s1 Z A) (f := upd (σ 1) (18 + (comS (X g) (X k))) (nI 20)) (up2_eq _ _ _) 47 rfl (by decide) (by decide) (up2 σ 1 (upd (upd (σ 1) (18 + (comS (X g) (X k))) (nI 20)) 47 ((X 43) + (nI 1)))) (up2_up2 _ 1 _ _) ?_
        refine cw_aload_n (pc := 128) C dX7_shift_128 rfl 4 rfl ?_
        refine cw_get (pc := 129) C dX7_shift_129 0 (v := .ref (A 1)) rfl rfl 0 rfl (fun _ h => List.mem_cons_of_mem _ (List.mem_append_right _ h)) (by decide) (List.mem_of_getElem? (i := 1) rfl) ?_
        refine cw_bipush (pc := 132) C dX7_shift_132 (nI 48) (by decide) ?_
        refine cw_dup2 (pc := 134) C dX7_shift_134 rfl rfl ?_
        refine cw_iald2 (pc := 135) C dX7_shift_135 1 1 (wM_g1 Z A) (f := upd (upd (σ 1) (18 + (comS (X g) (X k))) (nI 20)) 47 ((X 43) + (nI 1))) (up2_eq _ _ _) 48 rfl (by decide) (by decide) ?_
        refine cw_top (X 44) (by rw [upd_ne (by omega), upd_ne (by omega)]; exact mr hT (by omega) (by omega) rfl) ?_
        refine cw_iload (pc := 136) C dX7_shift_136 2 rfl ?_
        refine cw_if_eq (pc := 138) (tgt := 145) C dX7_shift_138 (by decide) (fun _ => ?_) (fun h => False.elim (by revert h; decide))
        refine cw_iconst (pc := 145) C dX7_shift_145 (nI 0) (by decide) ?_
        refine cw_iadd (pc := 146) C dX7_shift_146 (z := (X 44) + (nI 0)) rfl ?_
        refine cw_iast2 (pc := 147) C dX7_shift_147 1 1 (wM_g1 Z A) (wM_s1 Z A) (f := upd (upd (σ 1) (18 + (comS (X g) (X k))) (nI 20)) 47 ((X 43) + (nI 1))) (up2_eq _ _ _) 48 rfl (by decide) (by decide) (up2 σ 1 (upd (upd (upd (σ 1) (18 + (comS (X g) (X k))) (nI 20)) 47 ((X 43) + (nI 1))) 48 ((X 44) + (nI 0)))) (up2_up2 _ 1 _ _) ?_
        refine cw_aload_n (pc := 148) C dX7_shift_148 rfl 4 rfl ?_
        refine cw_get (pc := 149) C dX7_shift_149 0 (v := .ref (A 1)) rfl rfl 0 rfl (fun _ h => List.mem_cons_of_mem _ (List.mem_append_right _ h)) (by decide) (List.mem_of_getElem? (i := 1) rfl) ?_
        refine cw_bipush (pc := 152) C dX7_shift_152 (nI 49) (by decide) ?_
        refine cw_dup2 (pc := 154) C dX7_shift_154 rfl rfl ?_
        refine cw_iald2 (pc := 155) C dX7_shift_155 1 1 (wM_g1 Z A) (f := upd (upd (upd (σ 1) (18 + (comS (X g) (X k))) (nI 20)) 47 ((X 43) + (nI 1))) 48 ((X 44) + (nI 0))) (up2_eq _ _ _) 49 rfl (by decide) (by decide) ?_
        refine cw_top (X 45) (by rw [upd_ne (by omega), upd_ne (by omega), upd_ne (by omega)]; exact mr hT (by omega) (by omega) rfl) ?_
        refine cw_iload (pc := 156) C dX7_shift_156 1 rfl ?_
        refine cw_if_eq (pc := 158) (tgt := 165) C dX7_shift_158 (by decide) (fun _ => ?_) (fun h => False.elim (by revert h; decide))
        refine cw_iconst (pc := 165) C dX7_shift_165 (nI 0) (by decide) ?_
        refine cw_iadd (pc := 166) C dX7_shift_166 (z := (X 45) + (nI 0)) rfl ?_
        refine cw_iast2 (pc := 167) C dX7_shift_167 1 1 (wM_g1 Z A) (wM_s1 Z A) (f := upd (upd (upd (σ 1) (18 + (comS (X g) (X k))) (nI 20)) 47 ((X 43) + (nI 1))) 48 ((X 44) + (nI 0))) (up2_eq _ _ _) 49 rfl (by decide) (by decide) (up2 σ 1 (upd (upd (upd (upd (σ 1) (18 + (comS (X g) (X k))) (nI 20)) 47 ((X 43) + (nI 1))) 48 ((X 44) + (nI 0))) 49 ((X 45) + (nI 0)))) (up2_up2 _ 1 _ _) ?_
        refine hret (up2 σ 1 (upd (upd (upd (upd (σ 1) (18 + (comS (X g) (X k))) (nI 20)) 47 ((X 43) + (nI 1))) 48 ((X 44) + (nI 0))) 49 ((X 45) + (nI 0)))) _ _ dX7_shift_168 ?_
        clear hret
        refine congrArg (up2 σ 1) ?_
        rw [← mlS_no hO hc (Int32.not_lt.mpr h20) (Int32.not_lt.mpr h43), hT, mrow_upd (j := 18 + comS (X g) (X k)) (by omega) (by omega), pm_fi (by omega), mrow_upd (j := 47) (by omega) (by omega), mrow_upd (j := 48) (by omega) (by omega), mrow_upd (j := 49) (by omega) (by omega)]
        unfold mlS clipF
        rw [if_pos (Int32.not_le.mp h96)]
        rfl
    · -- 43 f
      refine cw_iconst (pc := 46) C dX7_shift_46 (nI 1) (by decide) ?_
      refine cw_goto (pc := 47) (tgt := 51) C dX7_shift_47 (by decide) ?_
      refine cw_istore (pc := 51) C dX7_shift_51 (by decide) (lv' := [(5, .int (nI 1)), (4, .int (nI 0)), (3, .int (nI (comS (X g) (X k)))), (0, .ref (A 0)), (1, .int (nI g)), (2, .int (nI k))]) rfl ?_
      refine cw_aload_n (pc := 53) C dX7_shift_53 rfl 3 rfl ?_
      refine cw_get (pc := 54) C dX7_shift_54 0 (v := .ref (A 1)) rfl rfl 0 rfl (fun _ h => List.mem_cons_of_mem _ (List.mem_append_right _ h)) (by decide) (List.mem_of_getElem? (i := 1) rfl) ?_
      refine cw_bipush (pc := 57) C dX7_shift_57 (nI 18) (by decide) ?_
      refine cw_iload_n (pc := 59) C dX7_shift_59 rfl 2 rfl ?_
      refine cw_iadd (pc := 60) C dX7_shift_60 (z := nI (18 + (comS (X g) (X k)))) (nI_add _ _) ?_
      refine cw_iald2 (pc := 61) C dX7_shift_61 1 1 (wM_g1 Z A) (f := σ 1) rfl (18 + (comS (X g) (X k))) rfl (by omega) (by decide) ?_
      refine cw_top (X (34 + comS (X g) (X k))) (mr hT (by omega) (by omega) (pm_fi (by omega))) ?_
      refine cw_iload (pc := 62) C dX7_shift_62 1 rfl ?_
      refine cw_if_eq (pc := 64) (tgt := 71) C dX7_shift_64 (by decide) (fun _ => ?_) (fun h => False.elim (by revert h; decide))
      refine cw_iload (pc := 71) C dX7_shift_71 0 rfl ?_
      refine cw_if_eq (pc := 73) (tgt := 80) C dX7_shift_73 (by decide) (fun h => False.elim (by revert h; decide)) (fun _ => ?_)
      refine cw_iconst (pc := 76) C dX7_shift_76 (-1) (by decide) ?_
      refine cw_goto (pc := 77) (tgt := 81) C dX7_shift_77 (by decide) ?_
      refine cw_iadd (pc := 81) C dX7_shift_81 (z := (X (34 + comS (X g) (X k))) + (-1)) rfl ?_
      refine cw_istore (pc := 82) C dX7_shift_82 (by decide) (lv' := [(6, .int ((X (34 + comS (X g) (X k))) + (-1))), (5, .int (nI 1)), (4, .int (nI 0)), (3, .int (nI (comS (X g) (X k)))), (0, .ref (A 0)), (1, .int (nI g)), (2, .int (nI k))]) rfl ?_
      refine cw_aload_n (pc := 84) C dX7_shift_84 rfl 4 rfl ?_
      refine cw_get (pc := 85) C dX7_shift_85 0 (v := .ref (A 1)) rfl rfl 0 rfl (fun _ h => List.mem_cons_of_mem _ (List.mem_append_right _ h)) (by decide) (List.mem_of_getElem? (i := 1) rfl) ?_
      refine cw_bipush (pc := 88) C dX7_shift_88 (nI 18) (by decide) ?_
      refine cw_iload_n (pc := 90) C dX7_shift_90 rfl 3 rfl ?_
      refine cw_iadd (pc := 91) C dX7_shift_91 (z := nI (18 + (comS (X g) (X k)))) (nI_add _ _) ?_
      refine cw_iload (pc := 92) C dX7_shift_92 0 rfl ?_
      refine cw_bipush (pc := 94) C dX7_shift_94 (nI 20) (by decide) ?_
      refine cw_icmp_le (pc := 96) (tgt := 104) C dX7_shift_96 (by decide) (fun h96 => ?_) (fun h96 => ?_)
      · -- 96 t
        refine cw_iload (pc := 104) C dX7_shift_104 0 rfl ?_
        refine cw_iconst (pc := 106) C dX7_shift_106 (nI 1) (by decide) ?_
        refine cw_icmp_ge (pc := 107) (tgt := 114) C dX7_shift_107 (by decide) (fun h107 => ?_) (fun h107 => ?_)
        · -- 107 t
          refine cw_iload (pc := 114) C dX7_shift_114 0 rfl ?_
          refine cw_iast2 (pc := 116) C dX7_shift_116 1 1 (wM_g1 Z A) (wM_s1 Z A) (f := σ 1) rfl (18 + (comS (X g) (X k))) rfl (by omega) (by decide) (up2 σ 1 (upd (σ 1) (18 + (comS (X g) (X k))) ((X (34 + comS (X g) (X k))) + (-1)))) rfl ?_
          refine cw_aload_n (pc := 117) C dX7_shift_117 rfl 4 rfl ?_
          refine cw_get (pc := 118) C dX7_shift_118 0 (v := .ref (A 1)) rfl rfl 0 rfl (fun _ h => List.mem_cons_of_mem _ (List.mem_append_right _ h)) (by decide) (List.mem_of_getElem? (i := 1) rfl) ?_
          refine cw_bipush (pc := 121) C dX7_shift_121 (nI 47) (by decide) ?_
          refine cw_dup2 (pc := 123) C dX7_shift_123 rfl rfl ?_
          refine cw_iald2 (pc := 124) C dX7_shift_124 1 1 (wM_g1 Z A) (f := upd (σ 1) (18 + (comS (X g) (X k))) ((X (34 + comS (X g) (X k))) + (-1))) (up2_eq _ _ _) 47 rfl (by decide) (by decide) ?_
          refine cw_top (X 43) (by rw [upd_ne (by omega)]; exact mr hT (by omega) (by omega) rfl) ?_
          refine cw_iconst (pc := 125) C dX7_shift_125 (nI 1) (by decide) ?_
          refine cw_iadd (pc := 126) C dX7_shift_126 (z := (X 43) + (nI 1)) rfl ?_
          refine cw_iast2 (pc := 127) C dX7_shift_127 1 1 (wM_g1 Z A) (wM_s1 Z A) (f := upd (σ 1) (18 + (comS (X g) (X k))) ((X (34 + comS (X g) (X k))) + (-1))) (up2_eq _ _ _) 47 rfl (by decide) (by decide) (up2 σ 1 (upd (upd (σ 1) (18 + (comS (X g) (X k))) ((X (34 + comS (X g) (X k))) + (-1))) 47 ((X 43) + (nI 1)))) (up2_up2 _ 1 _ _) ?_
          refine cw_aload_n (pc := 128) C dX7_shift_128 rfl 4 rfl ?_
          refine cw_get (pc := 129) C dX7_shift_129 0 (v := .ref (A 1)) rfl rfl 0 rfl (fun _ h => List.mem_cons_of_mem _ (List.mem_append_right _ h)) (by decide) (List.mem_of_getElem? (i := 1) rfl) ?_
          refine cw_bipush (pc := 132) C dX7_shift_132 (nI 48) (by decide) ?_
          refine cw_dup2 (pc := 134) C dX7_shift_134 rfl rfl ?_
          refine cw_iald2 (pc := 135) C dX7_shift_135 1 1 (wM_g1 Z A) (f := upd (upd (σ 1) (18 + (comS (X g) (X k))) ((X (34 + comS (X g) (X k))) + (-1))) 47 ((X 43) + (nI 1))) (up2_eq _ _ _) 48 rfl (by decide) (by decide) ?_
          refine cw_top (X 44) (by rw [upd_ne (by omega), upd_ne (by omega)]; exact mr hT (by omega) (by omega) rfl) ?_
          refine cw_iload (pc := 136) C dX7_shift_136 2 rfl ?_
          refine cw_if_eq (pc := 138) (tgt := 145) C dX7_shift_138 (by decide) (fun _ => ?_) (fun h => False.elim (by revert h; decide))
          refine cw_iconst (pc := 145) C dX7_shift_145 (nI 0) (by decide) ?_
          refine cw_iadd (pc := 146) C dX7_shift_146 (z := (X 44) + (nI 0)) rfl ?_
          refine cw_iast2 (pc := 147) C dX7_shift_147 1 1 (wM_g1 Z A) (wM_s1 Z A) (f := upd (upd (σ 1) (18 + (comS (X g) (X k))) ((X (34 + comS (X g) (X k))) + (-1))) 47 ((X 43) + (nI 1))) (up2_eq _ _ _) 48 rfl (by decide) (by decide) (up2 σ 1 (upd (upd (upd (σ 1) (18 + (comS (X g) (X k))) ((X (34 + comS (X g) (X k))) + (-1))) 47 ((X 43) + (nI 1))) 48 ((X 44) + (nI 0)))) (up2_up2 _ 1 _ _) ?_
          refine cw_aload_n (pc := 148) C dX7_shift_148 rfl 4 rfl ?_
          refine cw_get (pc := 149) C dX7_shift_149 0 (v := .ref (A 1)) rfl rfl 0 rfl (fun _ h => List.mem_cons_of_mem _ (List.mem_append_right _ h)) (by decide) (List.mem_of_getElem? (i := 1) rfl) ?_
          refine cw_bipush (pc := 152) C dX7_shift_152 (nI 49) (by decide) ?_
          refine cw_dup2 (pc := 154) C dX7_shift_154 rfl rfl ?_
          refine cw_iald2 (pc := 155) C dX7_shift_155 1 1 (wM_g1 Z A) (f := upd (upd (upd (σ 1) (18 + (comS (X g) (X k))) ((X (34 + comS (X g) (X k))) + (-1))) 47 ((X 43) + (nI 1))) 48 ((X 44) + (nI 0))) (up2_eq _ _ _) 49 rfl (by decide) (by decide) ?_
          refine cw_top (X 45) (by rw [upd_ne (by omega), upd_ne (by omega), upd_ne (by omega)]; exact mr hT (by omega) (by omega) rfl) ?_
          refine cw_iload (pc := 156) C dX7_shift_156 1 rfl ?_
          refine cw_if_eq (pc := 158) (tgt := 165) C dX7_shift_158 (by decide) (fun h => False.elim (by revert h; decide)) (fun _ => ?_)
          refine cw_iconst (pc := 161) C dX7_shift_161 (nI 1) (by decide) ?_
          refine cw_goto (pc := 162) (tgt := 166) C dX7_shift_162 (by decide) ?_
          refine cw_iadd (pc := 166) C dX7_shift_166 (z := (X 45) + (nI 1)) rfl ?_
          refine cw_iast2 (pc := 167) C dX7_shift_167 1 1 (wM_g1 Z A) (wM_s1 Z A) (f := upd (upd (upd (σ 1) (18 + (comS (X g) (X k))) ((X (34 + comS (X g) (X k))) + (-1))) 47 ((X 43) + (nI 1))) 48 ((X 44) + (nI 0))) (up2_eq _ _ _) 49 rfl (by decide) (by decide) (up2 σ 1 (upd (upd (upd (upd (σ 1) (18 + (comS (X g) (X k))) ((X (34 + comS (X g) (X k))) + (-1))) 47 ((X 43) + (nI 1))) 48 ((X 44) + (nI 0))) 49 ((X 45) + (nI 1)))) (up2_up2 _ 1 _ _) ?_
          refine hret (up2 σ 1 (upd (upd (upd (upd (σ 1) (18 + (comS (X g) (X k))) ((X (34 + comS (X g) (X k))) + (-1))) 47 ((X 43) + (nI 1))) 48 ((X 44) + (nI 0))) 49 ((X 45) + (nI 1)))) _ _ dX7_shift_168 ?_
          clear hret
          refine congrArg (up2 σ 1) ?_
          rw [← mlS_bd hO hc (Int32.not_lt.mpr h20) (Int32.not_le.mp h43), hT, mrow_upd (j := 18 + comS (X g) (X k)) (by omega) (by omega), pm_fi (by omega), mrow_upd (j := 47) (by omega) (by omega), mrow_upd (j := 48) (by omega) (by omega), mrow_upd (j := 49) (by omega) (by omega)]
          unfold mlS clipF
          rw [if_neg (Int32.not_lt.mpr h96), if_neg (Int32.not_lt.mpr h107)]
          rfl
        · -- 107 f
          refine cw_iconst (pc := 110) C dX7_shift_110 (nI 1) (by decide) ?_
          refine cw_goto (pc := 111) (tgt := 116) C dX7_shift_111 (by decide) ?_
          refine cw_iast2 (pc := 116) C dX7_shift_116 1 1 (wM_g1 Z A) (wM_s1 Z A) (f := σ 1) rfl (18 + (comS (X g) (X k))) rfl (by omega) (by decide) (up2 σ 1 (upd (σ 1) (18 + (comS (X g) (X k))) (nI 1))) rfl ?_
          refine cw_aload_n (pc := 117) C dX7_shift_117 rfl 4 rfl ?_
          refine cw_get (pc := 118) C dX7_shift_118 0 (v := .ref (A 1)) rfl rfl 0 rfl (fun _ h => List.mem_cons_of_mem _ (List.mem_append_right _ h)) (by decide) (List.mem_of_getElem? (i := 1) rfl) ?_
          refine cw_bipush (pc := 121) C dX7_shift_121 (nI 47) (by decide) ?_
          refine cw_dup2 (pc := 123) C dX7_shift_123 rfl rfl ?_
          refine cw_iald2 (pc := 124) C dX7_shift_124 1 1 (wM_g1 Z A) (f := upd (σ 1) (18 + (comS (X g) (X k))) (nI 1)) (up2_eq _ _ _) 47 rfl (by decide) (by decide) ?_
          refine cw_top (X 43) (by rw [upd_ne (by omega)]; exact mr hT (by omega) (by omega) rfl) ?_
          refine cw_iconst (pc := 125) C dX7_shift_125 (nI 1) (by decide) ?_
          refine cw_iadd (pc := 126) C dX7_shift_126 (z := (X 43) + (nI 1)) rfl ?_
          refine cw_iast2 (pc := 127) C dX7_shift_127 1 1 (wM_g1 Z A) (wM_s1 Z A) (f := upd (σ 1) (18 + (comS (X g) (X k))) (nI 1)) (up2_eq _ _ _) 47 rfl (by decide) (by decide) (up2 σ 1 (upd (upd (σ 1) (18 + (comS (X g) (X k))) (nI 1)) 47 ((X 43) + (nI 1)))) (up2_up2 _ 1 _ _) ?_
          refine cw_aload_n (pc := 128) C dX7_shift_128 rfl 4 rfl ?_
          refine cw_get (pc := 129) C dX7_shift_129 0 (v := .ref (A 1)) rfl rfl 0 rfl (fun _ h => List.mem_cons_of_mem _ (List.mem_append_right _ h)) (by decide) (List.mem_of_getElem? (i := 1) rfl) ?_
          refine cw_bipush (pc := 132) C dX7_shift_132 (nI 48) (by decide) ?_
          refine cw_dup2 (pc := 134) C dX7_shift_134 rfl rfl ?_
          refine cw_iald2 (pc := 135) C dX7_shift_135 1 1 (wM_g1 Z A) (f := upd (upd (σ 1) (18 + (comS (X g) (X k))) (nI 1)) 47 ((X 43) + (nI 1))) (up2_eq _ _ _) 48 rfl (by decide) (by decide) ?_
          refine cw_top (X 44) (by rw [upd_ne (by omega), upd_ne (by omega)]; exact mr hT (by omega) (by omega) rfl) ?_
          refine cw_iload (pc := 136) C dX7_shift_136 2 rfl ?_
          refine cw_if_eq (pc := 138) (tgt := 145) C dX7_shift_138 (by decide) (fun _ => ?_) (fun h => False.elim (by revert h; decide))
          refine cw_iconst (pc := 145) C dX7_shift_145 (nI 0) (by decide) ?_
          refine cw_iadd (pc := 146) C dX7_shift_146 (z := (X 44) + (nI 0)) rfl ?_
          refine cw_iast2 (pc := 147) C dX7_shift_147 1 1 (wM_g1 Z A) (wM_s1 Z A) (f := upd (upd (σ 1) (18 + (comS (X g) (X k))) (nI 1)) 47 ((X 43) + (nI 1))) (up2_eq _ _ _) 48 rfl (by decide) (by decide) (up2 σ 1 (upd (upd (upd (σ 1) (18 + (comS (X g) (X k))) (nI 1)) 47 ((X 43) + (nI 1))) 48 ((X 44) + (nI 0)))) (up2_up2 _ 1 _ _) ?_
          refine cw_aload_n (pc := 148) C dX7_shift_148 rfl 4 rfl ?_
          refine cw_get (pc := 149) C dX7_shift_149 0 (v := .ref (A 1)) rfl rfl 0 rfl (fun _ h => List.mem_cons_of_mem _ (List.mem_append_right _ h)) (by decide) (List.mem_of_getElem? (i := 1) rfl) ?_
          refine cw_bipush (pc := 152) C dX7_shift_152 (nI 49) (by decide) ?_
          refine cw_dup2 (pc := 154) C dX7_shift_154 rfl rfl ?_
          refine cw_iald2 (pc := 155) C dX7_shift_155 1 1 (wM_g1 Z A) (f := upd (upd (upd (σ 1) (18 + (comS (X g) (X k))) (nI 1)) 47 ((X 43) + (nI 1))) 48 ((X 44) + (nI 0))) (up2_eq _ _ _) 49 rfl (by decide) (by decide) ?_
          refine cw_top (X 45) (by rw [upd_ne (by omega), upd_ne (by omega), upd_ne (by omega)]; exact mr hT (by omega) (by omega) rfl) ?_
          refine cw_iload (pc := 156) C dX7_shift_156 1 rfl ?_
          refine cw_if_eq (pc := 158) (tgt := 165) C dX7_shift_158 (by decide) (fun h => False.elim (by revert h; decide)) (fun _ => ?_)
          refine cw_iconst (pc := 161) C dX7_shift_161 (nI 1) (by decide) ?_
          refine cw_goto (pc := 162) (tgt := 166) C dX7_shift_162 (by decide) ?_
          refine cw_iadd (pc := 166) C dX7_shift_166 (z := (X 45) + (nI 1)) rfl ?_
          refine cw_iast2 (pc := 167) C dX7_shift_167 1 1 (wM_g1 Z A) (wM_s1 Z A) (f := upd (upd (upd (σ 1) (18 + (comS (X g) (X k))) (nI 1)) 47 ((X 43) + (nI 1))) 48 ((X 44) + (nI 0))) (up2_eq _ _ _) 49 rfl (by decide) (by decide) (up2 σ 1 (upd (upd (upd (upd (σ 1) (18 + (comS (X g) (X k))) (nI 1)) 47 ((X 43) + (nI 1))) 48 ((X 44) + (nI 0))) 49 ((X 45) + (nI 1)))) (up2_up2 _ 1 _ _) ?_
          refine hret (up2 σ 1 (upd (upd (upd (upd (σ 1) (18 + (comS (X g) (X k))) (nI 1)) 47 ((X 43) + (nI 1))) 48 ((X 44) + (nI 0))) 49 ((X 45) + (nI 1)))) _ _ dX7_shift_168 ?_
          clear hret
          refine congrArg (up2 σ 1) ?_
          rw [← mlS_bd hO hc (Int32.not_lt.mpr h20) (Int32.not_le.mp h43), hT, mrow_upd (j := 18 + comS (X g) (X k)) (by omega) (by omega), pm_fi (by omega), mrow_upd (j := 47) (by omega) (by omega), mrow_upd (j := 48) (by omega) (by omega), mrow_upd (j := 49) (by omega) (by omega)]
          unfold mlS clipF
          rw [if_neg (Int32.not_lt.mpr h96), if_pos (Int32.not_le.mp h107)]
          rfl
      · -- 96 f
        refine cw_bipush (pc := 99) C dX7_shift_99 (nI 20) (by decide) ?_
        refine cw_goto (pc := 101) (tgt := 116) C dX7_shift_101 (by decide) ?_
        refine cw_iast2 (pc := 116) C dX7_shift_116 1 1 (wM_g1 Z A) (wM_s1 Z A) (f := σ 1) rfl (18 + (comS (X g) (X k))) rfl (by omega) (by decide) (up2 σ 1 (upd (σ 1) (18 + (comS (X g) (X k))) (nI 20))) rfl ?_
        refine cw_aload_n (pc := 117) C dX7_shift_117 rfl 4 rfl ?_
        refine cw_get (pc := 118) C dX7_shift_118 0 (v := .ref (A 1)) rfl rfl 0 rfl (fun _ h => List.mem_cons_of_mem _ (List.mem_append_right _ h)) (by decide) (List.mem_of_getElem? (i := 1) rfl) ?_
        refine cw_bipush (pc := 121) C dX7_shift_121 (nI 47) (by decide) ?_
        refine cw_dup2 (pc := 123) C dX7_shift_123 rfl rfl ?_
        refine cw_iald2 (pc := 124) C dX7_shift_124 1 1 (wM_g1 Z A) (f := upd (σ 1) (18 + (comS (X g) (X k))) (nI 20)) (up2_eq _ _ _) 47 rfl (by decide) (by decide) ?_
        refine cw_top (X 43) (by rw [upd_ne (by omega)]; exact mr hT (by omega) (by omega) rfl) ?_
        refine cw_iconst (pc := 125) C dX7_shift_125 (nI 1) (by decide) ?_
        refine cw_iadd (pc := 126) C dX7_shift_126 (z := (X 43) + (nI 1)) rfl ?_
        refine cw_iast2 (pc := 127) C dX7_shift_127 1 1 (wM_g1 Z A) (wM_s1 Z A) (f := upd (σ 1) (18 + (comS (X g) (X k))) (nI 20)) (up2_eq _ _ _) 47 rfl (by decide) (by decide) (up2 σ 1 (upd (upd (σ 1) (18 + (comS (X g) (X k))) (nI 20)) 47 ((X 43) + (nI 1)))) (up2_up2 _ 1 _ _) ?_
        refine cw_aload_n (pc := 128) C dX7_shift_128 rfl 4 rfl ?_
        refine cw_get (pc := 129) C dX7_shift_129 0 (v := .ref (A 1)) rfl rfl 0 rfl (fun _ h => List.mem_cons_of_mem _ (List.mem_append_right _ h)) (by decide) (List.mem_of_getElem? (i := 1) rfl) ?_
        refine cw_bipush (pc := 132) C dX7_shift_132 (nI 48) (by decide) ?_
        refine cw_dup2 (pc := 134) C dX7_shift_134 rfl rfl ?_
        refine cw_iald2 (pc := 135) C dX7_shift_135 1 1 (wM_g1 Z A) (f := upd (upd (σ 1) (18 + (comS (X g) (X k))) (nI 20)) 47 ((X 43) + (nI 1))) (up2_eq _ _ _) 48 rfl (by decide) (by decide) ?_
        refine cw_top (X 44) (by rw [upd_ne (by omega), upd_ne (by omega)]; exact mr hT (by omega) (by omega) rfl) ?_
        refine cw_iload (pc := 136) C dX7_shift_136 2 rfl ?_
        refine cw_if_eq (pc := 138) (tgt := 145) C dX7_shift_138 (by decide) (fun _ => ?_) (fun h => False.elim (by revert h; decide))
        refine cw_iconst (pc := 145) C dX7_shift_145 (nI 0) (by decide) ?_
        refine cw_iadd (pc := 146) C dX7_shift_146 (z := (X 44) + (nI 0)) rfl ?_
        refine cw_iast2 (pc := 147) C dX7_shift_147 1 1 (wM_g1 Z A) (wM_s1 Z A) (f := upd (upd (σ 1) (18 + (comS (X g) (X k))) (nI 20)) 47 ((X 43) + (nI 1))) (up2_eq _ _ _) 48 rfl (by decide) (by decide) (up2 σ 1 (upd (upd (upd (σ 1) (18 + (comS (X g) (X k))) (nI 20)) 47 ((X 43) + (nI 1))) 48 ((X 44) + (nI 0)))) (up2_up2 _ 1 _ _) ?_
        refine cw_aload_n (pc := 148) C dX7_shift_148 rfl 4 rfl ?_
        refine cw_get (pc := 149) C dX7_shift_149 0 (v := .ref (A 1)) rfl rfl 0 rfl (fun _ h => List.mem_cons_of_mem _ (List.mem_append_right _ h)) (by decide) (List.mem_of_getElem? (i := 1) rfl) ?_
        refine cw_bipush (pc := 152) C dX7_shift_152 (nI 49) (by decide) ?_
        refine cw_dup2 (pc := 154) C dX7_shift_154 rfl rfl ?_
        refine cw_iald2 (pc := 155) C dX7_shift_155 1 1 (wM_g1 Z A) (f := upd (upd (upd (σ 1) (18 + (comS (X g) (X k))) (nI 20)) 47 ((X 43) + (nI 1))) 48 ((X 44) + (nI 0))) (up2_eq _ _ _) 49 rfl (by decide) (by decide) ?_
        refine cw_top (X 45) (by rw [upd_ne (by omega), upd_ne (by omega), upd_ne (by omega)]; exact mr hT (by omega) (by omega) rfl) ?_
        refine cw_iload (pc := 156) C dX7_shift_156 1 rfl ?_
        refine cw_if_eq (pc := 158) (tgt := 165) C dX7_shift_158 (by decide) (fun h => False.elim (by revert h; decide)) (fun _ => ?_)
        refine cw_iconst (pc := 161) C dX7_shift_161 (nI 1) (by decide) ?_
        refine cw_goto (pc := 162) (tgt := 166) C dX7_shift_162 (by decide) ?_
        refine cw_iadd (pc := 166) C dX7_shift_166 (z := (X 45) + (nI 1)) rfl ?_
        refine cw_iast2 (pc := 167) C dX7_shift_167 1 1 (wM_g1 Z A) (wM_s1 Z A) (f := upd (upd (upd (σ 1) (18 + (comS (X g) (X k))) (nI 20)) 47 ((X 43) + (nI 1))) 48 ((X 44) + (nI 0))) (up2_eq _ _ _) 49 rfl (by decide) (by decide) (up2 σ 1 (upd (upd (upd (upd (σ 1) (18 + (comS (X g) (X k))) (nI 20)) 47 ((X 43) + (nI 1))) 48 ((X 44) + (nI 0))) 49 ((X 45) + (nI 1)))) (up2_up2 _ 1 _ _) ?_
        refine hret (up2 σ 1 (upd (upd (upd (upd (σ 1) (18 + (comS (X g) (X k))) (nI 20)) 47 ((X 43) + (nI 1))) 48 ((X 44) + (nI 0))) 49 ((X 45) + (nI 1)))) _ _ dX7_shift_168 ?_
        clear hret
        refine congrArg (up2 σ 1) ?_
        rw [← mlS_bd hO hc (Int32.not_lt.mpr h20) (Int32.not_le.mp h43), hT, mrow_upd (j := 18 + comS (X g) (X k)) (by omega) (by omega), pm_fi (by omega), mrow_upd (j := 47) (by omega) (by omega), mrow_upd (j := 48) (by omega) (by omega), mrow_upd (j := 49) (by omega) (by omega)]
        unfold mlS clipF
        rw [if_pos (Int32.not_le.mp h96)]
        rfl
  · -- 20 f
    refine cw_iconst (pc := 23) C dX7_shift_23 (nI 1) (by decide) ?_
    refine cw_goto (pc := 24) (tgt := 28) C dX7_shift_24 (by decide) ?_
    refine cw_istore (pc := 28) C dX7_shift_28 (by decide) (lv' := [(4, .int (nI 1)), (3, .int (nI (comS (X g) (X k)))), (0, .ref (A 0)), (1, .int (nI g)), (2, .int (nI k))]) rfl ?_
    refine cw_aload_n (pc := 30) C dX7_shift_30 rfl 2 rfl ?_
    refine cw_iload_n (pc := 31) C dX7_shift_31 rfl 1 rfl ?_
    refine cw_iconst (pc := 32) C dX7_shift_32 (nI 1) (by decide) ?_
    refine cw_calli (pc := 33) C dX7_shift_33 (c_X7_worst1 l D Z A σ X (comS (X g) (X k)) hT hR hc) (cwV 2 C.1.2.2.2.2 gX7_shift_X7_worstOf rfl rfl rfl (by decide +kernel) ⟨Nat.le_of_ble_eq_true rfl, Nat.le_of_ble_eq_true rfl⟩) 0 rfl rfl rfl rfl (Nat.le_of_ble_eq_true rfl) (cw_pure (v := bdS X (comS (X g) (X k))) (fun _ _ h => h) ?_)
    refine cw_aload_n (pc := 36) C dX7_shift_36 rfl 2 rfl ?_
    refine cw_get (pc := 37) C dX7_shift_37 0 (v := .ref (A 1)) rfl rfl 0 rfl (fun _ h => List.mem_cons_of_mem _ (List.mem_append_right _ h)) (by decide) (List.mem_of_getElem? (i := 1) rfl) ?_
    refine cw_bipush (pc := 40) C dX7_shift_40 (nI 42) (by decide) ?_
    refine cw_iald2 (pc := 42) C dX7_shift_42 1 1 (wM_g1 Z A) (f := σ 1) rfl 42 rfl (by decide) (by decide) ?_
    refine cw_top (X 50) (mr hT (by omega) (by omega) rfl) ?_
    refine cw_icmp_le (pc := 43) (tgt := 50) C dX7_shift_43 (by decide) (fun h43 => ?_) (fun h43 => ?_)
    · -- 43 t
      refine cw_iconst (pc := 50) C dX7_shift_50 (nI 0) (by decide) ?_
      refine cw_istore (pc := 51) C dX7_shift_51 (by decide) (lv' := [(5, .int (nI 0)), (4, .int (nI 1)), (3, .int (nI (comS (X g) (X k)))), (0, .ref (A 0)), (1, .int (nI g)), (2, .int (nI k))]) rfl ?_
      refine cw_aload_n (pc := 53) C dX7_shift_53 rfl 3 rfl ?_
      refine cw_get (pc := 54) C dX7_shift_54 0 (v := .ref (A 1)) rfl rfl 0 rfl (fun _ h => List.mem_cons_of_mem _ (List.mem_append_right _ h)) (by decide) (List.mem_of_getElem? (i := 1) rfl) ?_
      refine cw_bipush (pc := 57) C dX7_shift_57 (nI 18) (by decide) ?_
      refine cw_iload_n (pc := 59) C dX7_shift_59 rfl 2 rfl ?_
      refine cw_iadd (pc := 60) C dX7_shift_60 (z := nI (18 + (comS (X g) (X k)))) (nI_add _ _) ?_
      refine cw_iald2 (pc := 61) C dX7_shift_61 1 1 (wM_g1 Z A) (f := σ 1) rfl (18 + (comS (X g) (X k))) rfl (by omega) (by decide) ?_
      refine cw_top (X (34 + comS (X g) (X k))) (mr hT (by omega) (by omega) (pm_fi (by omega))) ?_
      refine cw_iload (pc := 62) C dX7_shift_62 1 rfl ?_
      refine cw_if_eq (pc := 64) (tgt := 71) C dX7_shift_64 (by decide) (fun h => False.elim (by revert h; decide)) (fun _ => ?_)
      refine cw_iconst (pc := 67) C dX7_shift_67 (nI 1) (by decide) ?_
      refine cw_goto (pc := 68) (tgt := 81) C dX7_shift_68 (by decide) ?_
      refine cw_iadd (pc := 81) C dX7_shift_81 (z := (X (34 + comS (X g) (X k))) + (nI 1)) rfl ?_
      refine cw_istore (pc := 82) C dX7_shift_82 (by decide) (lv' := [(6, .int ((X (34 + comS (X g) (X k))) + (nI 1))), (5, .int (nI 0)), (4, .int (nI 1)), (3, .int (nI (comS (X g) (X k)))), (0, .ref (A 0)), (1, .int (nI g)), (2, .int (nI k))]) rfl ?_
      refine cw_aload_n (pc := 84) C dX7_shift_84 rfl 4 rfl ?_
      refine cw_get (pc := 85) C dX7_shift_85 0 (v := .ref (A 1)) rfl rfl 0 rfl (fun _ h => List.mem_cons_of_mem _ (List.mem_append_right _ h)) (by decide) (List.mem_of_getElem? (i := 1) rfl) ?_
      refine cw_bipush (pc := 88) C dX7_shift_88 (nI 18) (by decide) ?_
      refine cw_iload_n (pc := 90) C dX7_shift_90 rfl 3 rfl ?_
      refine cw_iadd (pc := 91) C dX7_shift_91 (z := nI (18 + (comS (X g) (X k)))) (nI_add _ _) ?_
      refine cw_iload (pc := 92) C dX7_shift_92 0 rfl ?_
      refine cw_bipush (pc := 94) C dX7_shift_94 (nI 20) (by decide) ?_
      refine cw_icmp_le (pc := 96) (tgt := 104) C dX7_shift_96 (by decide) (fun h96 => ?_) (fun h96 => ?_)
      · -- 96 t
        refine cw_iload (pc := 104) C dX7_shift_104 0 rfl ?_
        refine cw_iconst (pc := 106) C dX7_shift_106 (nI 1) (by decide) ?_
        refine cw_icmp_ge (pc := 107) (tgt := 114) C dX7_shift_107 (by decide) (fun h107 => ?_) (fun h107 => ?_)
        · -- 107 t
          refine cw_iload (pc := 114) C dX7_shift_114 0 rfl ?_
          refine cw_iast2 (pc := 116) C dX7_shift_116 1 1 (wM_g1 Z A) (wM_s1 Z A) (f := σ 1) rfl (18 + (comS (X g) (X k))) rfl (by omega) (by decide) (up2 σ 1 (upd (σ 1) (18 + (comS (X g) (X k))) ((X (34 + comS (X g) (X k))) + (nI 1)))) rfl ?_
          refine cw_aload_n (pc := 117) C dX7_shift_117 rfl 4 rfl ?_
          refine cw_get (pc := 118) C dX7_shift_118 0 (v := .ref (A 1)) rfl rfl 0 rfl (fun _ h => List.mem_cons_of_mem _ (List.mem_append_right _ h)) (by decide) (List.mem_of_getElem? (i := 1) rfl) ?_
          refine cw_bipush (pc := 121) C dX7_shift_121 (nI 47) (by decide) ?_
          refine cw_dup2 (pc := 123) C dX7_shift_123 rfl rfl ?_
          refine cw_iald2 (pc := 124) C dX7_shift_124 1 1 (wM_g1 Z A) (f := upd (σ 1) (18 + (comS (X g) (X k))) ((X (34 + comS (X g) (X k))) + (nI 1))) (up2_eq _ _ _) 47 rfl (by decide) (by decide) ?_
          refine cw_top (X 43) (by rw [upd_ne (by omega)]; exact mr hT (by omega) (by omega) rfl) ?_
          refine cw_iconst (pc := 125) C dX7_shift_125 (nI 1) (by decide) ?_
          refine cw_iadd (pc := 126) C dX7_shift_126 (z := (X 43) + (nI 1)) rfl ?_
          refine cw_iast2 (pc := 127) C dX7_shift_127 1 1 (wM_g1 Z A) (wM_s1 Z A) (f := upd (σ 1) (18 + (comS (X g) (X k))) ((X (34 + comS (X g) (X k))) + (nI 1))) (up2_eq _ _ _) 47 rfl (by decide) (by decide) (up2 σ 1 (upd (upd (σ 1) (18 + (comS (X g) (X k))) ((X (34 + comS (X g) (X k))) + (nI 1))) 47 ((X 43) + (nI 1)))) (up2_up2 _ 1 _ _) ?_
          refine cw_aload_n (pc := 128) C dX7_shift_128 rfl 4 rfl ?_
          refine cw_get (pc := 129) C dX7_shift_129 0 (v := .ref (A 1)) rfl rfl 0 rfl (fun _ h => List.mem_cons_of_mem _ (List.mem_append_right _ h)) (by decide) (List.mem_of_getElem? (i := 1) rfl) ?_
          refine cw_bipush (pc := 132) C dX7_shift_132 (nI 48) (by decide) ?_
          refine cw_dup2 (pc := 134) C dX7_shift_134 rfl rfl ?_
          refine cw_iald2 (pc := 135) C dX7_shift_135 1 1 (wM_g1 Z A) (f := upd (upd (σ 1) (18 + (comS (X g) (X k))) ((X (34 + comS (X g) (X k))) + (nI 1))) 47 ((X 43) + (nI 1))) (up2_eq _ _ _) 48 rfl (by decide) (by decide) ?_
          refine cw_top (X 44) (by rw [upd_ne (by omega), upd_ne (by omega)]; exact mr hT (by omega) (by omega) rfl) ?_
          refine cw_iload (pc := 136) C dX7_shift_136 2 rfl ?_
          refine cw_if_eq (pc := 138) (tgt := 145) C dX7_shift_138 (by decide) (fun h => False.elim (by revert h; decide)) (fun _ => ?_)
          refine cw_iconst (pc := 141) C dX7_shift_141 (nI 1) (by decide) ?_
          refine cw_goto (pc := 142) (tgt := 146) C dX7_shift_142 (by decide) ?_
          refine cw_iadd (pc := 146) C dX7_shift_146 (z := (X 44) + (nI 1)) rfl ?_
          refine cw_iast2 (pc := 147) C dX7_shift_147 1 1 (wM_g1 Z A) (wM_s1 Z A) (f := upd (upd (σ 1) (18 + (comS (X g) (X k))) ((X (34 + comS (X g) (X k))) + (nI 1))) 47 ((X 43) + (nI 1))) (up2_eq _ _ _) 48 rfl (by decide) (by decide) (up2 σ 1 (upd (upd (upd (σ 1) (18 + (comS (X g) (X k))) ((X (34 + comS (X g) (X k))) + (nI 1))) 47 ((X 43) + (nI 1))) 48 ((X 44) + (nI 1)))) (up2_up2 _ 1 _ _) ?_
          refine cw_aload_n (pc := 148) C dX7_shift_148 rfl 4 rfl ?_
          refine cw_get (pc := 149) C dX7_shift_149 0 (v := .ref (A 1)) rfl rfl 0 rfl (fun _ h => List.mem_cons_of_mem _ (List.mem_append_right _ h)) (by decide) (List.mem_of_getElem? (i := 1) rfl) ?_
          refine cw_bipush (pc := 152) C dX7_shift_152 (nI 49) (by decide) ?_
          refine cw_dup2 (pc := 154) C dX7_shift_154 rfl rfl ?_
          refine cw_iald2 (pc := 155) C dX7_shift_155 1 1 (wM_g1 Z A) (f := upd (upd (upd (σ 1) (18 + (comS (X g) (X k))) ((X (34 + comS (X g) (X k))) + (nI 1))) 47 ((X 43) + (nI 1))) 48 ((X 44) + (nI 1))) (up2_eq _ _ _) 49 rfl (by decide) (by decide) ?_
          refine cw_top (X 45) (by rw [upd_ne (by omega), upd_ne (by omega), upd_ne (by omega)]; exact mr hT (by omega) (by omega) rfl) ?_
          refine cw_iload (pc := 156) C dX7_shift_156 1 rfl ?_
          refine cw_if_eq (pc := 158) (tgt := 165) C dX7_shift_158 (by decide) (fun _ => ?_) (fun h => False.elim (by revert h; decide))
          refine cw_iconst (pc := 165) C dX7_shift_165 (nI 0) (by decide) ?_
          refine cw_iadd (pc := 166) C dX7_shift_166 (z := (X 45) + (nI 0)) rfl ?_
          refine cw_iast2 (pc := 167) C dX7_shift_167 1 1 (wM_g1 Z A) (wM_s1 Z A) (f := upd (upd (upd (σ 1) (18 + (comS (X g) (X k))) ((X (34 + comS (X g) (X k))) + (nI 1))) 47 ((X 43) + (nI 1))) 48 ((X 44) + (nI 1))) (up2_eq _ _ _) 49 rfl (by decide) (by decide) (up2 σ 1 (upd (upd (upd (upd (σ 1) (18 + (comS (X g) (X k))) ((X (34 + comS (X g) (X k))) + (nI 1))) 47 ((X 43) + (nI 1))) 48 ((X 44) + (nI 1))) 49 ((X 45) + (nI 0)))) (up2_up2 _ 1 _ _) ?_
          refine hret (up2 σ 1 (upd (upd (upd (upd (σ 1) (18 + (comS (X g) (X k))) ((X (34 + comS (X g) (X k))) + (nI 1))) 47 ((X 43) + (nI 1))) 48 ((X 44) + (nI 1))) 49 ((X 45) + (nI 0)))) _ _ dX7_shift_168 ?_
          clear hret
          refine congrArg (up2 σ 1) ?_
          rw [← mlS_fl hO hc (Int32.not_le.mp h20), hT, mrow_upd (j := 18 + comS (X g) (X k)) (by omega) (by omega), pm_fi (by omega), mrow_upd (j := 47) (by omega) (by omega), mrow_upd (j := 48) (by omega) (by omega), mrow_upd (j := 49) (by omega) (by omega)]
          unfold mlS clipF
          rw [if_neg (Int32.not_lt.mpr h96), if_neg (Int32.not_lt.mpr h107)]
          rfl
        · -- 107 f
          refine cw_iconst (pc := 110) C dX7_shift_110 (nI 1) (by decide) ?_
          refine cw_goto (pc := 111) (tgt := 116) C dX7_shift_111 (by decide) ?_
          refine cw_iast2 (pc := 116) C dX7_shift_116 1 1 (wM_g1 Z A) (wM_s1 Z A) (f := σ 1) rfl (18 + (comS (X g) (X k))) rfl (by omega) (by decide) (up2 σ 1 (upd (σ 1) (18 + (comS (X g) (X k))) (nI 1))) rfl ?_
          refine cw_aload_n (pc := 117) C dX7_shift_117 rfl 4 rfl ?_
          refine cw_get (pc := 118) C dX7_shift_118 0 (v := .ref (A 1)) rfl rfl 0 rfl (fun _ h => List.mem_cons_of_mem _ (List.mem_append_right _ h)) (by decide) (List.mem_of_getElem? (i := 1) rfl) ?_
          refine cw_bipush (pc := 121) C dX7_shift_121 (nI 47) (by decide) ?_
          refine cw_dup2 (pc := 123) C dX7_shift_123 rfl rfl ?_
          refine cw_iald2 (pc := 124) C dX7_shift_124 1 1 (wM_g1 Z A) (f := upd (σ 1) (18 + (comS (X g) (X k))) (nI 1)) (up2_eq _ _ _) 47 rfl (by decide) (by decide) ?_
          refine cw_top (X 43) (by rw [upd_ne (by omega)]; exact mr hT (by omega) (by omega) rfl) ?_
          refine cw_iconst (pc := 125) C dX7_shift_125 (nI 1) (by decide) ?_
          refine cw_iadd (pc := 126) C dX7_shift_126 (z := (X 43) + (nI 1)) rfl ?_
          refine cw_iast2 (pc := 127) C dX7_shift_127 1 1 (wM_g1 Z A) (wM_s1 Z A) (f := upd (σ 1) (18 + (comS (X g) (X k))) (nI 1)) (up2_eq _ _ _) 47 rfl (by decide) (by decide) (up2 σ 1 (upd (upd (σ 1) (18 + (comS (X g) (X k))) (nI 1)) 47 ((X 43) + (nI 1)))) (up2_up2 _ 1 _ _) ?_
          refine cw_aload_n (pc := 128) C dX7_shift_128 rfl 4 rfl ?_
          refine cw_get (pc := 129) C dX7_shift_129 0 (v := .ref (A 1)) rfl rfl 0 rfl (fun _ h => List.mem_cons_of_mem _ (List.mem_append_right _ h)) (by decide) (List.mem_of_getElem? (i := 1) rfl) ?_
          refine cw_bipush (pc := 132) C dX7_shift_132 (nI 48) (by decide) ?_
          refine cw_dup2 (pc := 134) C dX7_shift_134 rfl rfl ?_
          refine cw_iald2 (pc := 135) C dX7_shift_135 1 1 (wM_g1 Z A) (f := upd (upd (σ 1) (18 + (comS (X g) (X k))) (nI 1)) 47 ((X 43) + (nI 1))) (up2_eq _ _ _) 48 rfl (by decide) (by decide) ?_
          refine cw_top (X 44) (by rw [upd_ne (by omega), upd_ne (by omega)]; exact mr hT (by omega) (by omega) rfl) ?_
          refine cw_iload (pc := 136) C dX7_shift_136 2 rfl ?_
          refine cw_if_eq (pc := 138) (tgt := 145) C dX7_shift_138 (by decide) (fun h => False.elim (by revert h; decide)) (fun _ => ?_)
          refine cw_iconst (pc := 141) C dX7_shift_141 (nI 1) (by decide) ?_
          refine cw_goto (pc := 142) (tgt := 146) C dX7_shift_142 (by decide) ?_
          refine cw_iadd (pc := 146) C dX7_shift_146 (z := (X 44) + (nI 1)) rfl ?_
          refine cw_iast2 (pc := 147) C dX7_shift_147 1 1 (wM_g1 Z A) (wM_s1 Z A) (f := upd (upd (σ 1) (18 + (comS (X g) (X k))) (nI 1)) 47 ((X 43) + (nI 1))) (up2_eq _ _ _) 48 rfl (by decide) (by decide) (up2 σ 1 (upd (upd (upd (σ 1) (18 + (comS (X g) (X k))) (nI 1)) 47 ((X 43) + (nI 1))) 48 ((X 44) + (nI 1)))) (up2_up2 _ 1 _ _) ?_
          refine cw_aload_n (pc := 148) C dX7_shift_148 rfl 4 rfl ?_
          refine cw_get (pc := 149) C dX7_shift_149 0 (v := .ref (A 1)) rfl rfl 0 rfl (fun _ h => List.mem_cons_of_mem _ (List.mem_append_right _ h)) (by decide) (List.mem_of_getElem? (i := 1) rfl) ?_
          refine cw_bipush (pc := 152) C dX7_shift_152 (nI 49) (by decide) ?_
          refine cw_dup2 (pc := 154) C dX7_shift_154 rfl rfl ?_
          refine cw_iald2 (pc := 155) C dX7_shift_155 1 1 (wM_g1 Z A) (f := upd (upd (upd (σ 1) (18 + (comS (X g) (X k))) (nI 1)) 47 ((X 43) + (nI 1))) 48 ((X 44) + (nI 1))) (up2_eq _ _ _) 49 rfl (by decide) (by decide) ?_
          refine cw_top (X 45) (by rw [upd_ne (by omega), upd_ne (by omega), upd_ne (by omega)]; exact mr hT (by omega) (by omega) rfl) ?_
          refine cw_iload (pc := 156) C dX7_shift_156 1 rfl ?_
          refine cw_if_eq (pc := 158) (tgt := 165) C dX7_shift_158 (by decide) (fun _ => ?_) (fun h => False.elim (by revert h; decide))
          refine cw_iconst (pc := 165) C dX7_shift_165 (nI 0) (by decide) ?_
          refine cw_iadd (pc := 166) C dX7_shift_166 (z := (X 45) + (nI 0)) rfl ?_
          refine cw_iast2 (pc := 167) C dX7_shift_167 1 1 (wM_g1 Z A) (wM_s1 Z A) (f := upd (upd (upd (σ 1) (18 + (comS (X g) (X k))) (nI 1)) 47 ((X 43) + (nI 1))) 48 ((X 44) + (nI 1))) (up2_eq _ _ _) 49 rfl (by decide) (by decide) (up2 σ 1 (upd (upd (upd (upd (σ 1) (18 + (comS (X g) (X k))) (nI 1)) 47 ((X 43) + (nI 1))) 48 ((X 44) + (nI 1))) 49 ((X 45) + (nI 0)))) (up2_up2 _ 1 _ _) ?_
          refine hret (up2 σ 1 (upd (upd (upd (upd (σ 1) (18 + (comS (X g) (X k))) (nI 1)) 47 ((X 43) + (nI 1))) 48 ((X 44) + (nI 1))) 49 ((X 45) + (nI 0)))) _ _ dX7_shift_168 ?_
          clear hret
          refine congrArg (up2 σ 1) ?_
          rw [← mlS_fl hO hc (Int32.not_le.mp h20), hT, mrow_upd (j := 18 + comS (X g) (X k)) (by omega) (by omega), pm_fi (by omega), mrow_upd (j := 47) (by omega) (by omega), mrow_upd (j := 48) (by omega) (by omega), mrow_upd (j := 49) (by omega) (by omega)]
          unfold mlS clipF
          rw [if_neg (Int32.not_lt.mpr h96), if_pos (Int32.not_le.mp h107)]
          rfl
      · -- 96 f
        refine cw_bipush (pc := 99) C dX7_shift_99 (nI 20) (by decide) ?_
        refine cw_goto (pc := 101) (tgt := 116) C dX7_shift_101 (by decide) ?_
        refine cw_iast2 (pc := 116) C dX7_shift_116 1 1 (wM_g1 Z A) (wM_s1 Z A) (f := σ 1) rfl (18 + (comS (X g) (X k))) rfl (by omega) (by decide) (up2 σ 1 (upd (σ 1) (18 + (comS (X g) (X k))) (nI 20))) rfl ?_
        refine cw_aload_n (pc := 117) C dX7_shift_117 rfl 4 rfl ?_
        refine cw_get (pc := 118) C dX7_shift_118 0 (v := .ref (A 1)) rfl rfl 0 rfl (fun _ h => List.mem_cons_of_mem _ (List.mem_append_right _ h)) (by decide) (List.mem_of_getElem? (i := 1) rfl) ?_
        refine cw_bipush (pc := 121) C dX7_shift_121 (nI 47) (by decide) ?_
        refine cw_dup2 (pc := 123) C dX7_shift_123 rfl rfl ?_
        refine cw_iald2 (pc := 124) C dX7_shift_124 1 1 (wM_g1 Z A) (f := upd (σ 1) (18 + (comS (X g) (X k))) (nI 20)) (up2_eq _ _ _) 47 rfl (by decide) (by decide) ?_
        refine cw_top (X 43) (by rw [upd_ne (by omega)]; exact mr hT (by omega) (by omega) rfl) ?_
        refine cw_iconst (pc := 125) C dX7_shift_125 (nI 1) (by decide) ?_
        refine cw_iadd (pc := 126) C dX7_shift_126 (z := (X 43) + (nI 1)) rfl ?_
        refine cw_iast2 (pc := 127) C dX7_shift_127 1 1 (wM_g1 Z A) (wM_s1 Z A) (f := upd (σ 1) (18 + (comS (X g) (X k))) (nI 20)) (up2_eq _ _ _) 47 rfl (by decide) (by decide) (up2 σ 1 (upd (upd (σ 1) (18 + (comS (X g) (X k))) (nI 20)) 47 ((X 43) + (nI 1)))) (up2_up2 _ 1 _ _) ?_
        refine cw_aload_n (pc := 128) C dX7_shift_128 rfl 4 rfl ?_
        refine cw_get (pc := 129) C dX7_shift_129 0 (v := .ref (A 1)) rfl rfl 0 rfl (fun _ h => List.mem_cons_of_mem _ (List.mem_append_right _ h)) (by decide) (List.mem_of_getElem? (i := 1) rfl) ?_
        refine cw_bipush (pc := 132) C dX7_shift_132 (nI 48) (by decide) ?_
        refine cw_dup2 (pc := 134) C dX7_shift_134 rfl rfl ?_
        refine cw_iald2 (pc := 135) C dX7_shift_135 1 1 (wM_g1 Z A) (f := upd (upd (σ 1) (18 + (comS (X g) (X k))) (nI 20)) 47 ((X 43) + (nI 1))) (up2_eq _ _ _) 48 rfl (by decide) (by decide) ?_
        refine cw_top (X 44) (by rw [upd_ne (by omega), upd_ne (by omega)]; exact mr hT (by omega) (by omega) rfl) ?_
        refine cw_iload (pc := 136) C dX7_shift_136 2 rfl ?_
        refine cw_if_eq (pc := 138) (tgt := 145) C dX7_shift_138 (by decide) (fun h => False.elim (by revert h; decide)) (fun _ => ?_)
        refine cw_iconst (pc := 141) C dX7_shift_141 (nI 1) (by decide) ?_
        refine cw_goto (pc := 142) (tgt := 146) C dX7_shift_142 (by decide) ?_
        refine cw_iadd (pc := 146) C dX7_shift_146 (z := (X 44) + (nI 1)) rfl ?_
        refine cw_iast2 (pc := 147) C dX7_shift_147 1 1 (wM_g1 Z A) (wM_s1 Z A) (f := upd (upd (σ 1) (18 + (comS (X g) (X k))) (nI 20)) 47 ((X 43) + (nI 1))) (up2_eq _ _ _) 48 rfl (by decide) (by decide) (up2 σ 1 (upd (upd (upd (σ 1) (18 + (comS (X g) (X k))) (nI 20)) 47 ((X 43) + (nI 1))) 48 ((X 44) + (nI 1)))) (up2_up2 _ 1 _ _) ?_
        refine cw_aload_n (pc := 148) C dX7_shift_148 rfl 4 rfl ?_
        refine cw_get (pc := 149) C dX7_shift_149 0 (v := .ref (A 1)) rfl rfl 0 rfl (fun _ h => List.mem_cons_of_mem _ (List.mem_append_right _ h)) (by decide) (List.mem_of_getElem? (i := 1) rfl) ?_
        refine cw_bipush (pc := 152) C dX7_shift_152 (nI 49) (by decide) ?_
        refine cw_dup2 (pc := 154) C dX7_shift_154 rfl rfl ?_
        refine cw_iald2 (pc := 155) C dX7_shift_155 1 1 (wM_g1 Z A) (f := upd (upd (upd (σ 1) (18 + (comS (X g) (X k))) (nI 20)) 47 ((X 43) + (nI 1))) 48 ((X 44) + (nI 1))) (up2_eq _ _ _) 49 rfl (by decide) (by decide) ?_
        refine cw_top (X 45) (by rw [upd_ne (by omega), upd_ne (by omega), upd_ne (by omega)]; exact mr hT (by omega) (by omega) rfl) ?_
        refine cw_iload (pc := 156) C dX7_shift_156 1 rfl ?_
        refine cw_if_eq (pc := 158) (tgt := 165) C dX7_shift_158 (by decide) (fun _ => ?_) (fun h => False.elim (by revert h; decide))
        refine cw_iconst (pc := 165) C dX7_shift_165 (nI 0) (by decide) ?_
        refine cw_iadd (pc := 166) C dX7_shift_166 (z := (X 45) + (nI 0)) rfl ?_
        refine cw_iast2 (pc := 167) C dX7_shift_167 1 1 (wM_g1 Z A) (wM_s1 Z A) (f := upd (upd (upd (σ 1) (18 + (comS (X g) (X k))) (nI 20)) 47 ((X 43) + (nI 1))) 48 ((X 44) + (nI 1))) (up2_eq _ _ _) 49 rfl (by decide) (by decide) (up2 σ 1 (upd (upd (upd (upd (σ 1) (18 + (comS (X g) (X k))) (nI 20)) 47 ((X 43) + (nI 1))) 48 ((X 44) + (nI 1))) 49 ((X 45) + (nI 0)))) (up2_up2 _ 1 _ _) ?_
        refine hret (up2 σ 1 (upd (upd (upd (upd (σ 1) (18 + (comS (X g) (X k))) (nI 20)) 47 ((X 43) + (nI 1))) 48 ((X 44) + (nI 1))) 49 ((X 45) + (nI 0)))) _ _ dX7_shift_168 ?_
        clear hret
        refine congrArg (up2 σ 1) ?_
        rw [← mlS_fl hO hc (Int32.not_le.mp h20), hT, mrow_upd (j := 18 + comS (X g) (X k)) (by omega) (by omega), pm_fi (by omega), mrow_upd (j := 47) (by omega) (by omega), mrow_upd (j := 48) (by omega) (by omega), mrow_upd (j := 49) (by omega) (by omega)]
        unfold mlS clipF
        rw [if_pos (Int32.not_le.mp h96)]
        rfl
    · -- 43 f
      refine cw_iconst (pc := 46) C dX7_shift_46 (nI 1) (by decide) ?_
      refine cw_goto (pc := 47) (tgt := 51) C dX7_shift_47 (by decide) ?_
      refine cw_istore (pc := 51) C dX7_shift_51 (by decide) (lv' := [(5, .int (nI 1)), (4, .int (nI 1)), (3, .int (nI (comS (X g) (X k)))), (0, .ref (A 0)), (1, .int (nI g)), (2, .int (nI k))]) rfl ?_
      refine cw_aload_n (pc := 53) C dX7_shift_53 rfl 3 rfl ?_
      refine cw_get (pc := 54) C dX7_shift_54 0 (v := .ref (A 1)) rfl rfl 0 rfl (fun _ h => List.mem_cons_of_mem _ (List.mem_append_right _ h)) (by decide) (List.mem_of_getElem? (i := 1) rfl) ?_
      refine cw_bipush (pc := 57) C dX7_shift_57 (nI 18) (by decide) ?_
      refine cw_iload_n (pc := 59) C dX7_shift_59 rfl 2 rfl ?_
      refine cw_iadd (pc := 60) C dX7_shift_60 (z := nI (18 + (comS (X g) (X k)))) (nI_add _ _) ?_
      refine cw_iald2 (pc := 61) C dX7_shift_61 1 1 (wM_g1 Z A) (f := σ 1) rfl (18 + (comS (X g) (X k))) rfl (by omega) (by decide) ?_
      refine cw_top (X (34 + comS (X g) (X k))) (mr hT (by omega) (by omega) (pm_fi (by omega))) ?_
      refine cw_iload (pc := 62) C dX7_shift_62 1 rfl ?_
      refine cw_if_eq (pc := 64) (tgt := 71) C dX7_shift_64 (by decide) (fun h => False.elim (by revert h; decide)) (fun _ => ?_)
      refine cw_iconst (pc := 67) C dX7_shift_67 (nI 1) (by decide) ?_
      refine cw_goto (pc := 68) (tgt := 81) C dX7_shift_68 (by decide) ?_
      refine cw_iadd (pc := 81) C dX7_shift_81 (z := (X (34 + comS (X g) (X k))) + (nI 1)) rfl ?_
      refine cw_istore (pc := 82) C dX7_shift_82 (by decide) (lv' := [(6, .int ((X (34 + comS (X g) (X k))) + (nI 1))), (5, .int (nI 1)), (4, .int (nI 1)), (3, .int (nI (comS (X g) (X k)))), (0, .ref (A 0)), (1, .int (nI g)), (2, .int (nI k))]) rfl ?_
      refine cw_aload_n (pc := 84) C dX7_shift_84 rfl 4 rfl ?_
      refine cw_get (pc := 85) C dX7_shift_85 0 (v := .ref (A 1)) rfl rfl 0 rfl (fun _ h => List.mem_cons_of_mem _ (List.mem_append_right _ h)) (by decide) (List.mem_of_getElem? (i := 1) rfl) ?_
      refine cw_bipush (pc := 88) C dX7_shift_88 (nI 18) (by decide) ?_
      refine cw_iload_n (pc := 90) C dX7_shift_90 rfl 3 rfl ?_
      refine cw_iadd (pc := 91) C dX7_shift_91 (z := nI (18 + (comS (X g) (X k)))) (nI_add _ _) ?_
      refine cw_iload (pc := 92) C dX7_shift_92 0 rfl ?_
      refine cw_bipush (pc := 94) C dX7_shift_94 (nI 20) (by decide) ?_
      refine cw_icmp_le (pc := 96) (tgt := 104) C dX7_shift_96 (by decide) (fun h96 => ?_) (fun h96 => ?_)
      · -- 96 t
        refine cw_iload (pc := 104) C dX7_shift_104 0 rfl ?_
        refine cw_iconst (pc := 106) C dX7_shift_106 (nI 1) (by decide) ?_
        refine cw_icmp_ge (pc := 107) (tgt := 114) C dX7_shift_107 (by decide) (fun h107 => ?_) (fun h107 => ?_)
        · -- 107 t
          refine cw_iload (pc := 114) C dX7_shift_114 0 rfl ?_
          refine cw_iast2 (pc := 116) C dX7_shift_116 1 1 (wM_g1 Z A) (wM_s1 Z A) (f := σ 1) rfl (18 + (comS (X g) (X k))) rfl (by omega) (by decide) (up2 σ 1 (upd (σ 1) (18 + (comS (X g) (X k))) ((X (34 + comS (X g) (X k))) + (nI 1)))) rfl ?_
          refine cw_aload_n (pc := 117) C dX7_shift_117 rfl 4 rfl ?_
          refine cw_get (pc := 118) C dX7_shift_118 0 (v := .ref (A 1)) rfl rfl 0 rfl (fun _ h => List.mem_cons_of_mem _ (List.mem_append_right _ h)) (by decide) (List.mem_of_getElem? (i := 1) rfl) ?_
          refine cw_bipush (pc := 121) C dX7_shift_121 (nI 47) (by decide) ?_
          refine cw_dup2 (pc := 123) C dX7_shift_123 rfl rfl ?_
          refine cw_iald2 (pc := 124) C dX7_shift_124 1 1 (wM_g1 Z A) (f := upd (σ 1) (18 + (comS (X g) (X k))) ((X (34 + comS (X g) (X k))) + (nI 1))) (up2_eq _ _ _) 47 rfl (by decide) (by decide) ?_
          refine cw_top (X 43) (by rw [upd_ne (by omega)]; exact mr hT (by omega) (by omega) rfl) ?_
          refine cw_iconst (pc := 125) C dX7_shift_125 (nI 1) (by decide) ?_
          refine cw_iadd (pc := 126) C dX7_shift_126 (z := (X 43) + (nI 1)) rfl ?_
          refine cw_iast2 (pc := 127) C dX7_shift_127 1 1 (wM_g1 Z A) (wM_s1 Z A) (f := upd (σ 1) (18 + (comS (X g) (X k))) ((X (34 + comS (X g) (X k))) + (nI 1))) (up2_eq _ _ _) 47 rfl (by decide) (by decide) (up2 σ 1 (upd (upd (σ 1) (18 + (comS (X g) (X k))) ((X (34 + comS (X g) (X k))) + (nI 1))) 47 ((X 43) + (nI 1)))) (up2_up2 _ 1 _ _) ?_
          refine cw_aload_n (pc := 128) C dX7_shift_128 rfl 4 rfl ?_
          refine cw_get (pc := 129) C dX7_shift_129 0 (v := .ref (A 1)) rfl rfl 0 rfl (fun _ h => List.mem_cons_of_mem _ (List.mem_append_right _ h)) (by decide) (List.mem_of_getElem? (i := 1) rfl) ?_
          refine cw_bipush (pc := 132) C dX7_shift_132 (nI 48) (by decide) ?_
          refine cw_dup2 (pc := 134) C dX7_shift_134 rfl rfl ?_
          refine cw_iald2 (pc := 135) C dX7_shift_135 1 1 (wM_g1 Z A) (f := upd (upd (σ 1) (18 + (comS (X g) (X k))) ((X (34 + comS (X g) (X k))) + (nI 1))) 47 ((X 43) + (nI 1))) (up2_eq _ _ _) 48 rfl (by decide) (by decide) ?_
          refine cw_top (X 44) (by rw [upd_ne (by omega), upd_ne (by omega)]; exact mr hT (by omega) (by omega) rfl) ?_
          refine cw_iload (pc := 136) C dX7_shift_136 2 rfl ?_
          refine cw_if_eq (pc := 138) (tgt := 145) C dX7_shift_138 (by decide) (fun h => False.elim (by revert h; decide)) (fun _ => ?_)
          refine cw_iconst (pc := 141) C dX7_shift_141 (nI 1) (by decide) ?_
          refine cw_goto (pc := 142) (tgt := 146) C dX7_shift_142 (by decide) ?_
          refine cw_iadd (pc := 146) C dX7_shift_146 (z := (X 44) + (nI 1)) rfl ?_
          refine cw_iast2 (pc := 147) C dX7_shift_147 1 1 (wM_g1 Z A) (wM_s1 Z A) (f := upd (upd (σ 1) (18 + (comS (X g) (X k))) ((X (34 + comS (X g) (X k))) + (nI 1))) 47 ((X 43) + (nI 1))) (up2_eq _ _ _) 48 rfl (by decide) (by decide) (up2 σ 1 (upd (upd (upd (σ 1) (18 + (comS (X g) (X k))) ((X (34 + comS (X g) (X k))) + (nI 1))) 47 ((X 43) + (nI 1))) 48 ((X 44) + (nI 1)))) (up2_up2 _ 1 _ _) ?_
          refine cw_aload_n (pc := 148) C dX7_shift_148 rfl 4 rfl ?_
          refine cw_get (pc := 149) C dX7_shift_149 0 (v := .ref (A 1)) rfl rfl 0 rfl (fun _ h => List.mem_cons_of_mem _ (List.mem_append_right _ h)) (by decide) (List.mem_of_getElem? (i := 1) rfl) ?_
          refine cw_bipush (pc := 152) C dX7_shift_152 (nI 49) (by decide) ?_
          refine cw_dup2 (pc := 154) C dX7_shift_154 rfl rfl ?_
          refine cw_iald2 (pc := 155) C dX7_shift_155 1 1 (wM_g1 Z A) (f := upd (upd (upd (σ 1) (18 + (comS (X g) (X k))) ((X (34 + comS (X g) (X k))) + (nI 1))) 47 ((X 43) + (nI 1))) 48 ((X 44) + (nI 1))) (up2_eq _ _ _) 49 rfl (by decide) (by decide) ?_
          refine cw_top (X 45) (by rw [upd_ne (by omega), upd_ne (by omega), upd_ne (by omega)]; exact mr hT (by omega) (by omega) rfl) ?_
          refine cw_iload (pc := 156) C dX7_shift_156 1 rfl ?_
          refine cw_if_eq (pc := 158) (tgt := 165) C dX7_shift_158 (by decide) (fun h => False.elim (by revert h; decide)) (fun _ => ?_)
          refine cw_iconst (pc := 161) C dX7_shift_161 (nI 1) (by decide) ?_
          refine cw_goto (pc := 162) (tgt := 166) C dX7_shift_162 (by decide) ?_
          refine cw_iadd (pc := 166) C dX7_shift_166 (z := (X 45) + (nI 1)) rfl ?_
          refine cw_iast2 (pc := 167) C dX7_shift_167 1 1 (wM_g1 Z A) (wM_s1 Z A) (f := upd (upd (upd (σ 1) (18 + (comS (X g) (X k))) ((X (34 + comS (X g) (X k))) + (nI 1))) 47 ((X 43) + (nI 1))) 48 ((X 44) + (nI 1))) (up2_eq _ _ _) 49 rfl (by decide) (by decide) (up2 σ 1 (upd (upd (upd (upd (σ 1) (18 + (comS (X g) (X k))) ((X (34 + comS (X g) (X k))) + (nI 1))) 47 ((X 43) + (nI 1))) 48 ((X 44) + (nI 1))) 49 ((X 45) + (nI 1)))) (up2_up2 _ 1 _ _) ?_
          refine hret (up2 σ 1 (upd (upd (upd (upd (σ 1) (18 + (comS (X g) (X k))) ((X (34 + comS (X g) (X k))) + (nI 1))) 47 ((X 43) + (nI 1))) 48 ((X 44) + (nI 1))) 49 ((X 45) + (nI 1)))) _ _ dX7_shift_168 ?_
          clear hret
          exact absurd (not_both hO (comS_lt _ _) (Int32.not_le.mp h20) (Int32.not_le.mp h43)) id
        · -- 107 f
          refine cw_iconst (pc := 110) C dX7_shift_110 (nI 1) (by decide) ?_
          refine cw_goto (pc := 111) (tgt := 116) C dX7_shift_111 (by decide) ?_
          refine cw_iast2 (pc := 116) C dX7_shift_116 1 1 (wM_g1 Z A) (wM_s1 Z A) (f := σ 1) rfl (18 + (comS (X g) (X k))) rfl (by omega) (by decide) (up2 σ 1 (upd (σ 1) (18 + (comS (X g) (X k))) (nI 1))) rfl ?_
          refine cw_aload_n (pc := 117) C dX7_shift_117 rfl 4 rfl ?_
          refine cw_get (pc := 118) C dX7_shift_118 0 (v := .ref (A 1)) rfl rfl 0 rfl (fun _ h => List.mem_cons_of_mem _ (List.mem_append_right _ h)) (by decide) (List.mem_of_getElem? (i := 1) rfl) ?_
          refine cw_bipush (pc := 121) C dX7_shift_121 (nI 47) (by decide) ?_
          refine cw_dup2 (pc := 123) C dX7_shift_123 rfl rfl ?_
          refine cw_iald2 (pc := 124) C dX7_shift_124 1 1 (wM_g1 Z A) (f := upd (σ 1) (18 + (comS (X g) (X k))) (nI 1)) (up2_eq _ _ _) 47 rfl (by decide) (by decide) ?_
          refine cw_top (X 43) (by rw [upd_ne (by omega)]; exact mr hT (by omega) (by omega) rfl) ?_
          refine cw_iconst (pc := 125) C dX7_shift_125 (nI 1) (by decide) ?_
          refine cw_iadd (pc := 126) C dX7_shift_126 (z := (X 43) + (nI 1)) rfl ?_
          refine cw_iast2 (pc := 127) C dX7_shift_127 1 1 (wM_g1 Z A) (wM_s1 Z A) (f := upd (σ 1) (18 + (comS (X g) (X k))) (nI 1)) (up2_eq _ _ _) 47 rfl (by decide) (by decide) (up2 σ 1 (upd (upd (σ 1) (18 + (comS (X g) (X k))) (nI 1)) 47 ((X 43) + (nI 1)))) (up2_up2 _ 1 _ _) ?_
          refine cw_aload_n (pc := 128) C dX7_shift_128 rfl 4 rfl ?_
          refine cw_get (pc := 129) C dX7_shift_129 0 (v := .ref (A 1)) rfl rfl 0 rfl (fun _ h => List.mem_cons_of_mem _ (List.mem_append_right _ h)) (by decide) (List.mem_of_getElem? (i := 1) rfl) ?_
          refine cw_bipush (pc := 132) C dX7_shift_132 (nI 48) (by decide) ?_
          refine cw_dup2 (pc := 134) C dX7_shift_134 rfl rfl ?_
          refine cw_iald2 (pc := 135) C dX7_shift_135 1 1 (wM_g1 Z A) (f := upd (upd (σ 1) (18 + (comS (X g) (X k))) (nI 1)) 47 ((X 43) + (nI 1))) (up2_eq _ _ _) 48 rfl (by decide) (by decide) ?_
          refine cw_top (X 44) (by rw [upd_ne (by omega), upd_ne (by omega)]; exact mr hT (by omega) (by omega) rfl) ?_
          refine cw_iload (pc := 136) C dX7_shift_136 2 rfl ?_
          refine cw_if_eq (pc := 138) (tgt := 145) C dX7_shift_138 (by decide) (fun h => False.elim (by revert h; decide)) (fun _ => ?_)
          refine cw_iconst (pc := 141) C dX7_shift_141 (nI 1) (by decide) ?_
          refine cw_goto (pc := 142) (tgt := 146) C dX7_shift_142 (by decide) ?_
          refine cw_iadd (pc := 146) C dX7_shift_146 (z := (X 44) + (nI 1)) rfl ?_
          refine cw_iast2 (pc := 147) C dX7_shift_147 1 1 (wM_g1 Z A) (wM_s1 Z A) (f := upd (upd (σ 1) (18 + (comS (X g) (X k))) (nI 1)) 47 ((X 43) + (nI 1))) (up2_eq _ _ _) 48 rfl (by decide) (by decide) (up2 σ 1 (upd (upd (upd (σ 1) (18 + (comS (X g) (X k))) (nI 1)) 47 ((X 43) + (nI 1))) 48 ((X 44) + (nI 1)))) (up2_up2 _ 1 _ _) ?_
          refine cw_aload_n (pc := 148) C dX7_shift_148 rfl 4 rfl ?_
          refine cw_get (pc := 149) C dX7_shift_149 0 (v := .ref (A 1)) rfl rfl 0 rfl (fun _ h => List.mem_cons_of_mem _ (List.mem_append_right _ h)) (by decide) (List.mem_of_getElem? (i := 1) rfl) ?_
          refine cw_bipush (pc := 152) C dX7_shift_152 (nI 49) (by decide) ?_
          refine cw_dup2 (pc := 154) C dX7_shift_154 rfl rfl ?_
          refine cw_iald2 (pc := 155) C dX7_shift_155 1 1 (wM_g1 Z A) (f := upd (upd (upd (σ 1) (18 + (comS (X g) (X k))) (nI 1)) 47 ((X 43) + (nI 1))) 48 ((X 44) + (nI 1))) (up2_eq _ _ _) 49 rfl (by decide) (by decide) ?_
          refine cw_top (X 45) (by rw [upd_ne (by omega), upd_ne (by omega), upd_ne (by omega)]; exact mr hT (by omega) (by omega) rfl) ?_
          refine cw_iload (pc := 156) C dX7_shift_156 1 rfl ?_
          refine cw_if_eq (pc := 158) (tgt := 165) C dX7_shift_158 (by decide) (fun h => False.elim (by revert h; decide)) (fun _ => ?_)
          refine cw_iconst (pc := 161) C dX7_shift_161 (nI 1) (by decide) ?_
          refine cw_goto (pc := 162) (tgt := 166) C dX7_shift_162 (by decide) ?_
          refine cw_iadd (pc := 166) C dX7_shift_166 (z := (X 45) + (nI 1)) rfl ?_
          refine cw_iast2 (pc := 167) C dX7_shift_167 1 1 (wM_g1 Z A) (wM_s1 Z A) (f := upd (upd (upd (σ 1) (18 + (comS (X g) (X k))) (nI 1)) 47 ((X 43) + (nI 1))) 48 ((X 44) + (nI 1))) (up2_eq _ _ _) 49 rfl (by decide) (by decide) (up2 σ 1 (upd (upd (upd (upd (σ 1) (18 + (comS (X g) (X k))) (nI 1)) 47 ((X 43) + (nI 1))) 48 ((X 44) + (nI 1))) 49 ((X 45) + (nI 1)))) (up2_up2 _ 1 _ _) ?_
          refine hret (up2 σ 1 (upd (upd (upd (upd (σ 1) (18 + (comS (X g) (X k))) (nI 1)) 47 ((X 43) + (nI 1))) 48 ((X 44) + (nI 1))) 49 ((X 45) + (nI 1)))) _ _ dX7_shift_168 ?_
          clear hret
          exact absurd (not_both hO (comS_lt _ _) (Int32.not_le.mp h20) (Int32.not_le.mp h43)) id
      · -- 96 f
        refine cw_bipush (pc := 99) C dX7_shift_99 (nI 20) (by decide) ?_
        refine cw_goto (pc := 101) (tgt := 116) C dX7_shift_101 (by decide) ?_
        refine cw_iast2 (pc := 116) C dX7_shift_116 1 1 (wM_g1 Z A) (wM_s1 Z A) (f := σ 1) rfl (18 + (comS (X g) (X k))) rfl (by omega) (by decide) (up2 σ 1 (upd (σ 1) (18 + (comS (X g) (X k))) (nI 20))) rfl ?_
        refine cw_aload_n (pc := 117) C dX7_shift_117 rfl 4 rfl ?_
        refine cw_get (pc := 118) C dX7_shift_118 0 (v := .ref (A 1)) rfl rfl 0 rfl (fun _ h => List.mem_cons_of_mem _ (List.mem_append_right _ h)) (by decide) (List.mem_of_getElem? (i := 1) rfl) ?_
        refine cw_bipush (pc := 121) C dX7_shift_121 (nI 47) (by decide) ?_
        refine cw_dup2 (pc := 123) C dX7_shift_123 rfl rfl ?_
        refine cw_iald2 (pc := 124) C dX7_shift_124 1 1 (wM_g1 Z A) (f := upd (σ 1) (18 + (comS (X g) (X k))) (nI 20)) (up2_eq _ _ _) 47 rfl (by decide) (by decide) ?_
        refine cw_top (X 43) (by rw [upd_ne (by omega)]; exact mr hT (by omega) (by omega) rfl) ?_
        refine cw_iconst (pc := 125) C dX7_shift_125 (nI 1) (by decide) ?_
        refine cw_iadd (pc := 126) C dX7_shift_126 (z := (X 43) + (nI 1)) rfl ?_
        refine cw_iast2 (pc := 127) C dX7_shift_127 1 1 (wM_g1 Z A) (wM_s1 Z A) (f := upd (σ 1) (18 + (comS (X g) (X k))) (nI 20)) (up2_eq _ _ _) 47 rfl (by decide) (by decide) (up2 σ 1 (upd (upd (σ 1) (18 + (comS (X g) (X k))) (nI 20)) 47 ((X 43) + (nI 1)))) (up2_up2 _ 1 _ _) ?_
        refine cw_aload_n (pc := 128) C dX7_shift_128 rfl 4 rfl ?_
        refine cw_get (pc := 129) C dX7_shift_129 0 (v := .ref (A 1)) rfl rfl 0 rfl (fun _ h => List.mem_cons_of_mem _ (List.mem_append_right _ h)) (by decide) (List.mem_of_getElem? (i := 1) rfl) ?_
        refine cw_bipush (pc := 132) C dX7_shift_132 (nI 48) (by decide) ?_
        refine cw_dup2 (pc := 134) C dX7_shift_134 rfl rfl ?_
        refine cw_iald2 (pc := 135) C dX7_shift_135 1 1 (wM_g1 Z A) (f := upd (upd (σ 1) (18 + (comS (X g) (X k))) (nI 20)) 47 ((X 43) + (nI 1))) (up2_eq _ _ _) 48 rfl (by decide) (by decide) ?_
        refine cw_top (X 44) (by rw [upd_ne (by omega), upd_ne (by omega)]; exact mr hT (by omega) (by omega) rfl) ?_
        refine cw_iload (pc := 136) C dX7_shift_136 2 rfl ?_
        refine cw_if_eq (pc := 138) (tgt := 145) C dX7_shift_138 (by decide) (fun h => False.elim (by revert h; decide)) (fun _ => ?_)
        refine cw_iconst (pc := 141) C dX7_shift_141 (nI 1) (by decide) ?_
        refine cw_goto (pc := 142) (tgt := 146) C dX7_shift_142 (by decide) ?_
        refine cw_iadd (pc := 146) C dX7_shift_146 (z := (X 44) + (nI 1)) rfl ?_
        refine cw_iast2 (pc := 147) C dX7_shift_147 1 1 (wM_g1 Z A) (wM_s1 Z A) (f := upd (upd (σ 1) (18 + (comS (X g) (X k))) (nI 20)) 47 ((X 43) + (nI 1))) (up2_eq _ _ _) 48 rfl (by decide) (by decide) (up2 σ 1 (upd (upd (upd (σ 1) (18 + (comS (X g) (X k))) (nI 20)) 47 ((X 43) + (nI 1))) 48 ((X 44) + (nI 1)))) (up2_up2 _ 1 _ _) ?_
        refine cw_aload_n (pc := 148) C dX7_shift_148 rfl 4 rfl ?_
        refine cw_get (pc := 149) C dX7_shift_149 0 (v := .ref (A 1)) rfl rfl 0 rfl (fun _ h => List.mem_cons_of_mem _ (List.mem_append_right _ h)) (by decide) (List.mem_of_getElem? (i := 1) rfl) ?_
        refine cw_bipush (pc := 152) C dX7_shift_152 (nI 49) (by decide) ?_
        refine cw_dup2 (pc := 154) C dX7_shift_154 rfl rfl ?_
        refine cw_iald2 (pc := 155) C dX7_shift_155 1 1 (wM_g1 Z A) (f := upd (upd (upd (σ 1) (18 + (comS (X g) (X k))) (nI 20)) 47 ((X 43) + (nI 1))) 48 ((X 44) + (nI 1))) (up2_eq _ _ _) 49 rfl (by decide) (by decide) ?_
        refine cw_top (X 45) (by rw [upd_ne (by omega), upd_ne (by omega), upd_ne (by omega)]; exact mr hT (by omega) (by omega) rfl) ?_
        refine cw_iload (pc := 156) C dX7_shift_156 1 rfl ?_
        refine cw_if_eq (pc := 158) (tgt := 165) C dX7_shift_158 (by decide) (fun h => False.elim (by revert h; decide)) (fun _ => ?_)
        refine cw_iconst (pc := 161) C dX7_shift_161 (nI 1) (by decide) ?_
        refine cw_goto (pc := 162) (tgt := 166) C dX7_shift_162 (by decide) ?_
        refine cw_iadd (pc := 166) C dX7_shift_166 (z := (X 45) + (nI 1)) rfl ?_
        refine cw_iast2 (pc := 167) C dX7_shift_167 1 1 (wM_g1 Z A) (wM_s1 Z A) (f := upd (upd (upd (σ 1) (18 + (comS (X g) (X k))) (nI 20)) 47 ((X 43) + (nI 1))) 48 ((X 44) + (nI 1))) (up2_eq _ _ _) 49 rfl (by decide) (by decide) (up2 σ 1 (upd (upd (upd (upd (σ 1) (18 + (comS (X g) (X k))) (nI 20)) 47 ((X 43) + (nI 1))) 48 ((X 44) + (nI 1))) 49 ((X 45) + (nI 1)))) (up2_up2 _ 1 _ _) ?_
        refine hret (up2 σ 1 (upd (upd (upd (upd (σ 1) (18 + (comS (X g) (X k))) (nI 20)) 47 ((X 43) + (nI 1))) 48 ((X 44) + (nI 1))) 49 ((X 45) + (nI 1)))) _ _ dX7_shift_168 ?_
        clear hret
        exact absurd (not_both hO (comS_lt _ _) (Int32.not_le.mp h20) (Int32.not_le.mp h43)) id
set_option maxHeartbeats 4000000 in
set_option maxRecDepth 100000 in
theorem c_X7_findWay (l : Launch) (D : va_G) (Z : CZ) (A : Nat → Nat) (σ : St) (X : Nat → Int32)  (g : Nat) (to : Nat) (hT : σ 1 = mrow X) (hX : setsOK X) (hg1 : 1 ≤ g) (hg : g ≤ 7) (hF : fitN X to = true) : CTv l yX7_findWay wsX7_findWay 2 49 D Z (wM Z A) σ [.ref (A 0), .int (nI g), .int (nI to)] (fun σ' => ∃ fa ra : Nat → Int32, σ' = up2 (up2 (up2 σ 0 (upd (σ 0) 15 (nI (wyN X g to)))) 9 fa) 10 ra ∧ ∀ j, j < wyN X g to → ra j = nI (wyG X g to (j + 1))) := by
  refine CTv.mk (cc := cX7_findWay) (nL := 6) (own := RX7) rfl (by decide) rfl (Nat.le_of_ble_eq_true rfl) ?_
  intro p0 e0 s0 m0 g0 b0 t0 c0 A0 Q C hret
  have hto := fitN_rng hF
  have hs : wyN X g to ≤ 6 := wayN_le _ _ _ _
  refine cw_lv (lv' := [(0, .ref (A 0)), (1, .int (nI g)), (2, .int (nI to))]) [0, 1, 2] rfl ?_
  refine cw_iconst (pc := 0) C dX7_findWay_0 (nI 1) (by decide) ?_
  refine cw_istore_n (pc := 1) C dX7_findWay_1 rfl (by decide) (lv' := [(3, .int (nI 1)), (0, .ref (A 0)), (1, .int (nI g)), (2, .int (nI to))]) rfl ?_
  have L2 : ∀ (n2 : Nat) (i : Nat) (fa : Nat → Int32) (hi : i ≤ 7) (hm : 7 < i + n2) (hfa : ∀ k, 1 ≤ k → k ≤ i → fa k = nI (if k = to then 0 else 100)), CW p0 l e0 (rmC 2 49) s0 m0 g0 b0 t0 c0 D A0 6 (wM Z A) Q (up2 σ 9 fa) 2 [(0, .ref (A 0)), (1, .int (nI g)), (2, .int (nI to)), (3, .int (nI (i + 1)))] [] := by
    intro n2
    induction n2 with
    | zero => intro i fa hi hm hfa; exact absurd hm (by omega)
    | succ n2 ih2 =>
      intro i fa hi hm hfa
      refine cw_iload_n (pc := 2) C dX7_findWay_2 rfl 3 rfl ?_
      refine cw_bipush (pc := 3) C dX7_findWay_3 (nI 7) (by decide) ?_
      refine cw_icmp_gt (pc := 5) (tgt := 31) C dX7_findWay_5 (by decide) (fun h5 => ?_) (fun h5 => ?_)
      · -- 5 t
        have h5 : 7 < (i + 1) := (nc_gt (a := i + 1) (b := 7) (by omega) (by omega)).mp h5
        obtain rfl : i = 7 := by omega
        refine cw_iconst (pc := 31) C dX7_findWay_31 (nI 0) (by decide) ?_
        refine cw_istore_n (pc := 32) C dX7_findWay_32 rfl (by decide) (lv' := [(3, .int (nI 0)), (0, .ref (A 0)), (1, .int (nI g)), (2, .int (nI to))]) rfl ?_
        have L33 : ∀ (n33 : Nat) (r : Nat) (fa : Nat → Int32) (f : Nat → Nat) (hr : r ≤ 7) (hm : 7 < r + n33) (hfa : ∀ k, 1 ≤ k → k ≤ 7 → fa k = nI (f k)) (hI : gsI (fitN X) (adX X) to r 1 1 f), CW p0 l e0 (rmC 2 49) s0 m0 g0 b0 t0 c0 D A0 6 (wM Z A) Q (up2 σ 9 fa) 33 [(0, .ref (A 0)), (1, .int (nI g)), (2, .int (nI to)), (3, .int (nI r))] [] := by
          intro n33
          induction n33 with
          | zero => intro r fa f hr hm hfa hI; exact absurd hm (by omega)
          | succ n33 ih33 =>
            intro r fa f hr hm hfa hI
            refine cw_iload_n (pc := 33) C dX7_findWay_33 rfl 3 rfl ?_
            refine cw_bipush (pc := 34) C dX7_findWay_34 (nI 7) (by decide) ?_
            refine cw_icmp_ge (pc := 36) (tgt := 133) C dX7_findWay_36 (by decide) (fun h36 => ?_) (fun h36 => ?_)
            · -- 36 t
              have h36 : 7 ≤ r := (nc_ge (a := r) (b := 7) (by omega) (by omega)).mp h36
              obtain rfl : r = 7 := by omega
              refine cw_aload_n (pc := 133) C dX7_findWay_133 rfl 0 rfl ?_
              refine cw_iconst (pc := 134) C dX7_findWay_134 (nI 0) (by decide) ?_
              refine cw_put (pc := 135) C dX7_findWay_135 0 (ty := .int) rfl rfl 15 (fun _ h => List.mem_cons_of_mem _ (List.mem_append_right _ h)) tyX7_ok nmX7 (by decide) (List.mem_of_getElem? (i := 2) rfl) rfl (by decide +kernel) rfl rfl (Nat.le_of_ble_eq_true rfl) (up2 (up2 σ 0 (upd (σ 0) 15 (nI 0))) 9 fa) ((wM_p0_15 Z A _ _).trans (congrArg (wM Z A) ((up2_comm _ _ _ (by decide)).trans (congrArg (fun qz => up2 qz 9 fa) rfl)))) ?_
              refine cw_iload_n (pc := 138) C dX7_findWay_138 rfl 1 rfl ?_
              refine cw_istore_n (pc := 139) C dX7_findWay_139 rfl (by decide) (lv' := [(3, .int (nI g)), (0, .ref (A 0)), (1, .int (nI g)), (2, .int (nI to))]) rfl ?_
              have L140 : ∀ (n140 : Nat) (i : Nat) (cur : Nat) (ra : Nat → Int32) (hi : i ≤ wyN X g to) (hm4 : wyN X g to < i + n140) (hcur : cur = wyG X g to i) (hra : ∀ j, j < i → ra j = nI (wyG X g to (j + 1))), CW p0 l e0 (rmC 2 49) s0 m0 g0 b0 t0 c0 D A0 6 (wM Z A) Q (up2 (up2 (up2 σ 0 (upd (σ 0) 15 (nI i))) 9 fa) 10 ra) 140 [(0, .ref (A 0)), (1, .int (nI g)), (2, .int (nI to)), (3, .int (nI cur))] [] := by
                intro n140
                induction n140 with
                | zero => intro i cur ra hi hm4 hcur hra; exact absurd hm4 (by omega)
                | succ n140 ih140 =>
                  intro i cur ra hi hm4 hcur hra
                  have hc1 := gs_cur hI hF hg1 hg hi
                  rw [← hcur] at hc1
                  refine cw_aload_n (pc := 140) C dX7_findWay_140 rfl 0 rfl ?_
                  refine cw_get (pc := 141) C dX7_findWay_141 0 (v := .ref (A 9)) rfl rfl 13 rfl (fun _ h => List.mem_cons_of_mem _ (List.mem_append_right _ h)) (by decide) (List.mem_of_getElem? (i := 1) rfl) ?_
                  refine cw_iload_n (pc := 144) C dX7_findWay_144 rfl 3 rfl ?_
                  refine cw_iald2 (pc := 145) C dX7_findWay_145 9 9 (wM_g9 Z A) (f := fa) ((up2_ne _ _ (by decide)).trans (up2_eq _ _ _)) cur rfl (by omega) (by decide) ?_
                  refine cw_top (nI (f cur)) (hfa _ (by omega) (by omega)) ?_
                  refine cw_if_le (pc := 146) (tgt := 224) C dX7_findWay_146 (by decide) (fun h146 => ?_) (fun h146 => ?_)
                  · -- 146 t
                    have h146 : (f cur) ≤ 0 := (nc_le (a := f cur) (b := 0) (by omega) (by omega)).mp h146
                    refine hret (up2 (up2 (up2 σ 0 (upd (σ 0) 15 (nI i))) 9 fa) 10 ra) _ _ dX7_findWay_224 ?_
                    clear hret
                    have hiN : i = wyN X g to := by omega
                    exact ⟨fa, ra, by rw [hiN], fun j hj => hra j (by omega)⟩
                  · -- 146 f
                    have h146 : ¬ ((f cur) ≤ 0) := fun qq => h146 ((nc_le (a := f cur) (b := 0) (by omega) (by omega)).mpr qq)
                    refine cw_aload_n (pc := 149) C dX7_findWay_149 rfl 0 rfl ?_
                    refine cw_get (pc := 150) C dX7_findWay_150 0 (v := .ref (A 9)) rfl rfl 13 rfl (fun _ h => List.mem_cons_of_mem _ (List.mem_append_right _ h)) (by decide) (List.mem_of_getElem? (i := 1) rfl) ?_
                    refine cw_iload_n (pc := 153) C dX7_findWay_153 rfl 3 rfl ?_
                    refine cw_iald2 (pc := 154) C dX7_findWay_154 9 9 (wM_g9 Z A) (f := fa) ((up2_ne _ _ (by decide)).trans (up2_eq _ _ _)) cur rfl (by omega) (by decide) ?_
                    refine cw_top (nI (f cur)) (hfa _ (by omega) (by omega)) ?_
                    refine cw_bipush (pc := 155) C dX7_findWay_155 (nI 100) (by decide) ?_
                    refine cw_icmp_ge (pc := 157) (tgt := 224) C dX7_findWay_157 (by decide) (fun h157 => ?_) (fun h157 => ?_)
                    · -- 157 t
                      have h157 : 100 ≤ (f cur) := (nc_ge (a := f cur) (b := 100) (by omega) (by omega)).mp h157
                      refine hret (up2 (up2 (up2 σ 0 (upd (σ 0) 15 (nI i))) 9 fa) 10 ra) _ _ dX7_findWay_224 ?_
                      clear hret
                      have hiN : i = wyN X g to := by omega
                      exact ⟨fa, ra, by rw [hiN], fun j hj => hra j (by omega)⟩
                    · -- 157 f
                      have h157 : ¬ (100 ≤ (f cur)) := fun qq => h157 ((nc_ge (a := f cur) (b := 100) (by omega) (by omega)).mpr qq)
                      have hiN : i < wyN X g to := by omega
                      have hgo := gs_goes hI hF hg1 hg hiN
                      refine cw_iconst (pc := 160) C dX7_findWay_160 (nI 1) (by decide) ?_
                      refine cw_istore (pc := 161) C dX7_findWay_161 (by decide) (lv' := [(4, .int (nI 1)), (0, .ref (A 0)), (1, .int (nI g)), (2, .int (nI to)), (3, .int (nI cur))]) rfl ?_
                      have L163 : ∀ (n163 : Nat) (y : Nat) (hyq : y < wyG X g to (i + 1)) (hm5 : wyG X g to (i + 1) ≤ y + n163), CW p0 l e0 (rmC 2 49) s0 m0 g0 b0 t0 c0 D A0 6 (wM Z A) Q (up2 (up2 (up2 σ 0 (upd (σ 0) 15 (nI i))) 9 fa) 10 ra) 163 [(0, .ref (A 0)), (1, .int (nI g)), (2, .int (nI to)), (3, .int (nI cur)), (4, .int (nI (y + 1)))] [] := by
                        intro n163
                        induction n163 with
                        | zero => intro y hyq hm5; exact absurd hm5 (by omega)
                        | succ n163 ih163 =>
                          intro y hyq hm5
                          refine cw_aload_n (pc := 163) C dX7_findWay_163 rfl 0 rfl ?_
                          refine cw_iload_n (pc := 164) C dX7_findWay_164 rfl 3 rfl ?_
                          refine cw_iload (pc := 165) C dX7_findWay_165 4 rfl ?_
                          refine cw_calli (pc := 167) C dX7_findWay_167 (c_X7_areSimple l D Z A (up2 (up2 (up2 σ 0 (upd (σ 0) 15 (nI i))) 9 fa) 10 ra) X cur (y + 1) hT hX (by omega) (by omega) (by omega) (by omega)) (cwV 2 C.1.2.2.2.2 gX7_findWay_X7_areSimple rfl rfl rfl (by decide +kernel) ⟨Nat.le_of_ble_eq_true rfl, Nat.le_of_ble_eq_true rfl⟩) 0 rfl rfl rfl rfl (Nat.le_of_ble_eq_true rfl) (cw_purez (b := simN X cur (y + 1)) (fun _ _ h => h) ?_)
                          refine cw_if_eq (pc := 170) (tgt := 191) C dX7_findWay_170 (by decide) (fun h170 => ?_) (fun h170 => ?_)
                          · -- 170 t
                            have h170 := bI_z h170
                            refine cw_iinc (pc := 191) C dX7_findWay_191 4 rfl (nI (y + 1 + 1)) (nI_inc _ 1) (by decide) (lv' := [(4, .int (nI (y + 1 + 1))), (0, .ref (A 0)), (1, .int (nI g)), (2, .int (nI to)), (3, .int (nI cur))]) rfl ?_
                            refine cw_goto (pc := 194) (tgt := 163) C dX7_findWay_194 (by decide) ?_
                            refine cw_lv [1, 2, 3, 4, 0] rfl ?_
                            exact ih163 (y + 1) (by
            rcases Nat.lt_or_ge (y + 1) (wyG X g to (i + 1)) with q | q
            · exact q
            · have e : y + 1 = wyG X g to (i + 1) := by omega
              rw [← e, ← hcur] at hgo
              rw [hgo.1] at h170; cases h170) (by omega)
                          · -- 170 f
                            have h170 := bI_nz h170
                            have hb1 := (hI (y + 1) (by omega) (by omega)).1
                            refine cw_aload_n (pc := 173) C dX7_findWay_173 rfl 0 rfl ?_
                            refine cw_get (pc := 174) C dX7_findWay_174 0 (v := .ref (A 9)) rfl rfl 13 rfl (fun _ h => List.mem_cons_of_mem _ (List.mem_append_right _ h)) (by decide) (List.mem_of_getElem? (i := 1) rfl) ?_
                            refine cw_iload (pc := 177) C dX7_findWay_177 4 rfl ?_
                            refine cw_iald2 (pc := 179) C dX7_findWay_179 9 9 (wM_g9 Z A) (f := fa) ((up2_ne _ _ (by decide)).trans (up2_eq _ _ _)) (y + 1) rfl (by omega) (by decide) ?_
                            refine cw_top (nI (f (y + 1))) (hfa _ (by omega) (by omega)) ?_
                            refine cw_iconst (pc := 180) C dX7_findWay_180 (nI 1) (by decide) ?_
                            refine cw_iadd (pc := 181) C dX7_findWay_181 (z := nI (f (y + 1) + 1)) (nI_add _ _) ?_
                            refine cw_aload_n (pc := 182) C dX7_findWay_182 rfl 0 rfl ?_
                            refine cw_get (pc := 183) C dX7_findWay_183 0 (v := .ref (A 9)) rfl rfl 13 rfl (fun _ h => List.mem_cons_of_mem _ (List.mem_append_right _ h)) (by decide) (List.mem_of_getElem? (i := 1) rfl) ?_
                            refine cw_iload_n (pc := 186) C dX7_findWay_186 rfl 3 rfl ?_
                            refine cw_iald2 (pc := 187) C dX7_findWay_187 9 9 (wM_g9 Z A) (f := fa) ((up2_ne _ _ (by decide)).trans (up2_eq _ _ _)) cur rfl (by omega) (by decide) ?_
                            refine cw_top (nI (f cur)) (hfa _ (by omega) (by omega)) ?_
                            refine cw_icmp_eq (pc := 188) (tgt := 197) C dX7_findWay_188 (by decide) (fun h188 => ?_) (fun h188 => ?_)
                            · -- 188 t
                              have h188 : (f (y + 1) + 1) = (f cur) := (nc_eq (a := f (y + 1) + 1) (b := f cur) (by omega) (by omega)).mp h188
                              refine cw_aload_n (pc := 197) C dX7_findWay_197 rfl 0 rfl ?_
                              refine cw_get (pc := 198) C dX7_findWay_198 0 (v := .ref (A 10)) rfl rfl 14 rfl (fun _ h => List.mem_cons_of_mem _ (List.mem_append_right _ h)) (by decide) (List.mem_of_getElem? (i := 3) rfl) ?_
                              refine cw_aload_n (pc := 201) C dX7_findWay_201 rfl 0 rfl ?_
                              refine cw_get (pc := 202) C dX7_findWay_202 0 (v := .int ((upd (σ 0) 15 (nI i)) 15)) rfl rfl 15 rfl (fun _ h => List.mem_cons_of_mem _ (List.mem_append_right _ h)) (by decide) (List.mem_of_getElem? (i := 2) rfl) ?_
                              refine cw_top (nI i) (upd_same _ _ _) ?_
                              refine cw_iload (pc := 205) C dX7_findWay_205 4 rfl ?_
                              refine cw_iast2 (pc := 207) C dX7_findWay_207 10 10 (wM_g10 Z A) (wM_s10 Z A) (f := ra) (up2_eq _ _ _) i rfl (by omega) (by decide) (up2 (up2 (up2 σ 0 (upd (σ 0) 15 (nI i))) 9 fa) 10 (upd ra i (nI (y + 1)))) (up2_up2 _ 10 _ _) ?_
                              refine cw_aload_n (pc := 208) C dX7_findWay_208 rfl 0 rfl ?_
                              refine cw_dup (pc := 209) C dX7_findWay_209 rfl ?_
                              refine cw_get (pc := 210) C dX7_findWay_210 0 (v := .int ((upd (σ 0) 15 (nI i)) 15)) rfl rfl 15 rfl (fun _ h => List.mem_cons_of_mem _ (List.mem_append_right _ h)) (by decide) (List.mem_of_getElem? (i := 2) rfl) ?_
                              refine cw_top (nI i) (upd_same _ _ _) ?_
                              refine cw_iconst (pc := 213) C dX7_findWay_213 (nI 1) (by decide) ?_
                              refine cw_iadd (pc := 214) C dX7_findWay_214 (z := nI (i + 1)) (nI_add _ _) ?_
                              refine cw_put (pc := 215) C dX7_findWay_215 0 (ty := .int) rfl rfl 15 (fun _ h => List.mem_cons_of_mem _ (List.mem_append_right _ h)) tyX7_ok nmX7 (by decide) (List.mem_of_getElem? (i := 2) rfl) rfl (by decide +kernel) rfl rfl (Nat.le_of_ble_eq_true rfl) (up2 (up2 (up2 σ 0 (upd (upd (σ 0) 15 (nI i)) 15 (nI (i + 1)))) 9 fa) 10 (upd ra i (nI (y + 1)))) ((wM_p0_15 Z A _ _).trans (congrArg (wM Z A) ((up2_comm _ _ _ (by decide)).trans (congrArg (fun qz => up2 qz 10 (upd ra i (nI (y + 1)))) ((up2_comm _ _ _ (by decide)).trans (congrArg (fun qz => up2 qz 9 fa) (up2_up2 _ 0 _ _))))))) ?_
                              refine cw_iload (pc := 218) C dX7_findWay_218 4 rfl ?_
                              refine cw_istore_n (pc := 220) C dX7_findWay_220 rfl (by decide) (lv' := [(3, .int (nI (y + 1))), (0, .ref (A 0)), (1, .int (nI g)), (2, .int (nI to)), (4, .int (nI (y + 1)))]) rfl ?_
                              have hyq2 : y + 1 = wyG X g to (i + 1) := by have := gs_found hI hF hg1 hg (show i < wyN X g to by omega) (y := y + 1) (by omega) (by omega) (by rw [← hcur]; exact h170) (by rw [← hcur]; exact h188); omega
                              refine cw_eq (σ' := up2 (up2 (up2 σ 0 (upd (σ 0) 15 (nI (i + 1)))) 9 fa) 10 (upd ra i (nI (y + 1)))) (congrArg (fun qz => up2 (up2 (up2 σ 0 qz) 9 fa) 10 (upd ra i (nI (y + 1)))) (upd_upd _ _ _ _)) ?_
                              refine cw_goto (pc := 221) (tgt := 140) C dX7_findWay_221 (by decide) ?_
                              refine cw_lv [1, 2, 3, 0] rfl ?_
                              exact ih140 (i + 1) (y + 1) (upd ra i (nI (y + 1))) (by omega) (by omega) hyq2 (fun j hj => by
            rcases Nat.lt_or_ge j i with q | q
            · rw [upd_ne (by omega)]; exact hra j q
            · obtain rfl : j = i := by omega
              rw [upd_same, hyq2])
                            · -- 188 f
                              have h188 : ¬ ((f (y + 1) + 1) = (f cur)) := fun qq => h188 ((nc_eq (a := f (y + 1) + 1) (b := f cur) (by omega) (by omega)).mpr qq)
                              refine cw_iinc (pc := 191) C dX7_findWay_191 4 rfl (nI (y + 1 + 1)) (nI_inc _ 1) (by decide) (lv' := [(4, .int (nI (y + 1 + 1))), (0, .ref (A 0)), (1, .int (nI g)), (2, .int (nI to)), (3, .int (nI cur))]) rfl ?_
                              refine cw_goto (pc := 194) (tgt := 163) C dX7_findWay_194 (by decide) ?_
                              refine cw_lv [1, 2, 3, 4, 0] rfl ?_
                              exact ih163 (y + 1) (by
            rcases Nat.lt_or_ge (y + 1) (wyG X g to (i + 1)) with q | q
            · exact q
            · have e : y + 1 = wyG X g to (i + 1) := by omega
              rw [← e, ← hcur] at hgo
              exact absurd hgo.2.1 h188) (by omega)
                      refine cw_lv [1, 2, 3, 4, 0] rfl ?_
                      exact L163 7 0 (by omega) (by omega)
              refine cw_eq (σ' := up2 (up2 (up2 σ 0 (upd (σ 0) 15 (nI 0))) 9 fa) 10 (σ 10)) ((up2_self (up2 (up2 σ 0 (upd (σ 0) 15 (nI 0))) 9 fa) 10).symm) ?_
              refine cw_lv [1, 2, 3, 0] rfl ?_
              exact L140 (wyN X g to + 1) 0 g (σ 10) (by omega) (by omega) rfl (fun j hj => absurd hj (by omega))
            · -- 36 f
              have h36 : ¬ (7 ≤ r) := fun qq => h36 ((nc_ge (a := r) (b := 7) (by omega) (by omega)).mpr qq)
              refine cw_iconst (pc := 39) C dX7_findWay_39 (nI 1) (by decide) ?_
              refine cw_istore (pc := 40) C dX7_findWay_40 (by decide) (lv' := [(4, .int (nI 1)), (0, .ref (A 0)), (1, .int (nI g)), (2, .int (nI to)), (3, .int (nI r))]) rfl ?_
              have L42 : ∀ (n42 : Nat) (i : Nat) (fa : Nat → Int32) (f : Nat → Nat) (hi : i ≤ 7) (hm2 : 7 < i + n42) (hfa : ∀ k, 1 ≤ k → k ≤ 7 → fa k = nI (f k)) (hI : gsI (fitN X) (adX X) to r (i + 1) 1 f), CW p0 l e0 (rmC 2 49) s0 m0 g0 b0 t0 c0 D A0 6 (wM Z A) Q (up2 σ 9 fa) 42 [(0, .ref (A 0)), (1, .int (nI g)), (2, .int (nI to)), (3, .int (nI r)), (4, .int (nI (i + 1)))] [] := by
                intro n42
                induction n42 with
                | zero => intro i fa f hi hm2 hfa hI; exact absurd hm2 (by omega)
                | succ n42 ih42 =>
                  intro i fa f hi hm2 hfa hI
                  refine cw_iload (pc := 42) C dX7_findWay_42 4 rfl ?_
                  refine cw_bipush (pc := 44) C dX7_findWay_44 (nI 7) (by decide) ?_
                  refine cw_icmp_gt (pc := 46) (tgt := 127) C dX7_findWay_46 (by decide) (fun h46 => ?_) (fun h46 => ?_)
                  · -- 46 t
                    have h46 : 7 < (i + 1) := (nc_gt (a := i + 1) (b := 7) (by omega) (by omega)).mp h46
                    have hi7 : i = 7 := by omega
                    refine cw_iinc (pc := 127) C dX7_findWay_127 3 rfl (nI (r + 1)) (nI_inc _ 1) (by decide) (lv' := [(3, .int (nI (r + 1))), (0, .ref (A 0)), (1, .int (nI g)), (2, .int (nI to)), (4, .int (nI (i + 1)))]) rfl ?_
                    refine cw_goto (pc := 130) (tgt := 33) C dX7_findWay_130 (by decide) ?_
                    refine cw_lv [1, 2, 3, 0] rfl ?_
                    exact ih33 (r + 1) fa f (by omega) (by omega) hfa (by rw [hi7] at hI; exact gs_r _ _ _ hI)
                  · -- 46 f
                    have h46 : ¬ (7 < (i + 1)) := fun qq => h46 ((nc_gt (a := i + 1) (b := 7) (by omega) (by omega)).mpr qq)
                    refine cw_iconst (pc := 49) C dX7_findWay_49 (nI 1) (by decide) ?_
                    refine cw_istore (pc := 50) C dX7_findWay_50 (by decide) (lv' := [(5, .int (nI 1)), (0, .ref (A 0)), (1, .int (nI g)), (2, .int (nI to)), (3, .int (nI r)), (4, .int (nI (i + 1)))]) rfl ?_
                    have L52 : ∀ (n52 : Nat) (j : Nat) (fa : Nat → Int32) (f : Nat → Nat) (hj : j ≤ 7) (hm3 : 7 < j + n52) (hfa : ∀ k, 1 ≤ k → k ≤ 7 → fa k = nI (f k)) (hI : gsI (fitN X) (adX X) to r (i + 1) (j + 1) f), CW p0 l e0 (rmC 2 49) s0 m0 g0 b0 t0 c0 D A0 6 (wM Z A) Q (up2 σ 9 fa) 52 [(0, .ref (A 0)), (1, .int (nI g)), (2, .int (nI to)), (3, .int (nI r)), (4, .int (nI (i + 1))), (5, .int (nI (j + 1)))] [] := by
                      intro n52
                      induction n52 with
                      | zero => intro j fa f hj hm3 hfa hI; exact absurd hm3 (by omega)
                      | succ n52 ih52 =>
                        intro j fa f hj hm3 hfa hI
                        refine cw_iload (pc := 52) C dX7_findWay_52 5 rfl ?_
                        refine cw_bipush (pc := 54) C dX7_findWay_54 (nI 7) (by decide) ?_
                        refine cw_icmp_gt (pc := 56) (tgt := 121) C dX7_findWay_56 (by decide) (fun h56 => ?_) (fun h56 => ?_)
                        · -- 56 t
                          have h56 : 7 < (j + 1) := (nc_gt (a := j + 1) (b := 7) (by omega) (by omega)).mp h56
                          have hj7 : j = 7 := by omega
                          refine cw_iinc (pc := 121) C dX7_findWay_121 4 rfl (nI (i + 1 + 1)) (nI_inc _ 1) (by decide) (lv' := [(4, .int (nI (i + 1 + 1))), (0, .ref (A 0)), (1, .int (nI g)), (2, .int (nI to)), (3, .int (nI r)), (5, .int (nI (j + 1)))]) rfl ?_
                          refine cw_goto (pc := 124) (tgt := 42) C dX7_findWay_124 (by decide) ?_
                          refine cw_lv [1, 2, 3, 4, 0] rfl ?_
                          exact ih42 (i + 1) fa f (by omega) (by omega) hfa (by rw [hj7] at hI; exact gs_i _ _ _ hI)
                        · -- 56 f
                          have h56 : ¬ (7 < (j + 1)) := fun qq => h56 ((nc_gt (a := j + 1) (b := 7) (by omega) (by omega)).mpr qq)
                          refine cw_aload_n (pc := 59) C dX7_findWay_59 rfl 0 rfl ?_
                          refine cw_get (pc := 60) C dX7_findWay_60 0 (v := .ref (A 9)) rfl rfl 13 rfl (fun _ h => List.mem_cons_of_mem _ (List.mem_append_right _ h)) (by decide) (List.mem_of_getElem? (i := 1) rfl) ?_
                          refine cw_iload (pc := 63) C dX7_findWay_63 4 rfl ?_
                          refine cw_aload_n (pc := 65) C dX7_findWay_65 rfl 0 rfl ?_
                          refine cw_iload (pc := 66) C dX7_findWay_66 4 rfl ?_
                          refine cw_iload (pc := 68) C dX7_findWay_68 5 rfl ?_
                          refine cw_calli (pc := 70) C dX7_findWay_70 (c_X7_areSimple l D Z A (up2 σ 9 fa) X (i + 1) (j + 1) hT hX (by omega) (by omega) (by omega) (by omega)) (cwV 2 C.1.2.2.2.2 gX7_findWay_X7_areSimple rfl rfl rfl (by decide +kernel) ⟨Nat.le_of_ble_eq_true rfl, Nat.le_of_ble_eq_true rfl⟩) 0 rfl rfl rfl rfl (Nat.le_of_ble_eq_true rfl) (cw_purez (b := simN X (i + 1) (j + 1)) (fun _ _ h => h) ?_)
                          have hb1 := (hI (j + 1) (by omega) (by omega)).1
                          have hb2 := (hI (i + 1) (by omega) (by omega)).1
                          refine cw_if_eq (pc := 73) (tgt := 107) C dX7_findWay_73 (by decide) (fun h73 => ?_) (fun h73 => ?_)
                          · -- 73 t
                            have h73 := bI_z h73
                            refine cw_aload_n (pc := 107) C dX7_findWay_107 rfl 0 rfl ?_
                            refine cw_get (pc := 108) C dX7_findWay_108 0 (v := .ref (A 9)) rfl rfl 13 rfl (fun _ h => List.mem_cons_of_mem _ (List.mem_append_right _ h)) (by decide) (List.mem_of_getElem? (i := 1) rfl) ?_
                            refine cw_iload (pc := 111) C dX7_findWay_111 4 rfl ?_
                            refine cw_iald2 (pc := 113) C dX7_findWay_113 9 9 (wM_g9 Z A) (f := fa) (up2_eq _ _ _) (i + 1) rfl (by omega) (by decide) ?_
                            refine cw_top (nI (f (i + 1))) (hfa _ (by omega) (by omega)) ?_
                            refine cw_iast2 (pc := 114) C dX7_findWay_114 9 9 (wM_g9 Z A) (wM_s9 Z A) (f := fa) (up2_eq _ _ _) (i + 1) rfl (by omega) (by decide) (up2 σ 9 (upd fa (i + 1) (nI (f (i + 1))))) (up2_up2 _ 9 _ _) ?_
                            refine cw_iinc (pc := 115) C dX7_findWay_115 5 rfl (nI (j + 1 + 1)) (nI_inc _ 1) (by decide) (lv' := [(5, .int (nI (j + 1 + 1))), (0, .ref (A 0)), (1, .int (nI g)), (2, .int (nI to)), (3, .int (nI r)), (4, .int (nI (i + 1)))]) rfl ?_
                            refine cw_goto (pc := 118) (tgt := 52) C dX7_findWay_118 (by decide) ?_
                            refine cw_lv [1, 2, 3, 4, 5, 0] rfl ?_
                            exact ih52 (j + 1) (upd fa (i + 1) (nI (f (i + 1)))) f (by omega) (by omega) (far_keep hfa) (gs_keep _ _ _ hI (by omega) (by omega) (by omega) (by omega) (Or.inl (simN_no h73)) hF)
                          · -- 73 f
                            have h73 := bI_nz h73
                            refine cw_aload_n (pc := 76) C dX7_findWay_76 rfl 0 rfl ?_
                            refine cw_get (pc := 77) C dX7_findWay_77 0 (v := .ref (A 9)) rfl rfl 13 rfl (fun _ h => List.mem_cons_of_mem _ (List.mem_append_right _ h)) (by decide) (List.mem_of_getElem? (i := 1) rfl) ?_
                            refine cw_iload (pc := 80) C dX7_findWay_80 5 rfl ?_
                            refine cw_iald2 (pc := 82) C dX7_findWay_82 9 9 (wM_g9 Z A) (f := fa) (up2_eq _ _ _) (j + 1) rfl (by omega) (by decide) ?_
                            refine cw_top (nI (f (j + 1))) (hfa _ (by omega) (by omega)) ?_
                            refine cw_iconst (pc := 83) C dX7_findWay_83 (nI 1) (by decide) ?_
                            refine cw_iadd (pc := 84) C dX7_findWay_84 (z := nI (f (j + 1) + 1)) (nI_add _ _) ?_
                            refine cw_aload_n (pc := 85) C dX7_findWay_85 rfl 0 rfl ?_
                            refine cw_get (pc := 86) C dX7_findWay_86 0 (v := .ref (A 9)) rfl rfl 13 rfl (fun _ h => List.mem_cons_of_mem _ (List.mem_append_right _ h)) (by decide) (List.mem_of_getElem? (i := 1) rfl) ?_
                            refine cw_iload (pc := 89) C dX7_findWay_89 4 rfl ?_
                            refine cw_iald2 (pc := 91) C dX7_findWay_91 9 9 (wM_g9 Z A) (f := fa) (up2_eq _ _ _) (i + 1) rfl (by omega) (by decide) ?_
                            refine cw_top (nI (f (i + 1))) (hfa _ (by omega) (by omega)) ?_
                            refine cw_icmp_ge (pc := 92) (tgt := 107) C dX7_findWay_92 (by decide) (fun h92 => ?_) (fun h92 => ?_)
                            · -- 92 t
                              have h92 : (f (i + 1)) ≤ (f (j + 1) + 1) := (nc_ge (a := f (j + 1) + 1) (b := f (i + 1)) (by omega) (by omega)).mp h92
                              refine cw_aload_n (pc := 107) C dX7_findWay_107 rfl 0 rfl ?_
                              refine cw_get (pc := 108) C dX7_findWay_108 0 (v := .ref (A 9)) rfl rfl 13 rfl (fun _ h => List.mem_cons_of_mem _ (List.mem_append_right _ h)) (by decide) (List.mem_of_getElem? (i := 1) rfl) ?_
                              refine cw_iload (pc := 111) C dX7_findWay_111 4 rfl ?_
                              refine cw_iald2 (pc := 113) C dX7_findWay_113 9 9 (wM_g9 Z A) (f := fa) (up2_eq _ _ _) (i + 1) rfl (by omega) (by decide) ?_
                              refine cw_top (nI (f (i + 1))) (hfa _ (by omega) (by omega)) ?_
                              refine cw_iast2 (pc := 114) C dX7_findWay_114 9 9 (wM_g9 Z A) (wM_s9 Z A) (f := fa) (up2_eq _ _ _) (i + 1) rfl (by omega) (by decide) (up2 σ 9 (upd fa (i + 1) (nI (f (i + 1))))) (up2_up2 _ 9 _ _) ?_
                              refine cw_iinc (pc := 115) C dX7_findWay_115 5 rfl (nI (j + 1 + 1)) (nI_inc _ 1) (by decide) (lv' := [(5, .int (nI (j + 1 + 1))), (0, .ref (A 0)), (1, .int (nI g)), (2, .int (nI to)), (3, .int (nI r)), (4, .int (nI (i + 1)))]) rfl ?_
                              refine cw_goto (pc := 118) (tgt := 52) C dX7_findWay_118 (by decide) ?_
                              refine cw_lv [1, 2, 3, 4, 5, 0] rfl ?_
                              exact ih52 (j + 1) (upd fa (i + 1) (nI (f (i + 1)))) f (by omega) (by omega) (far_keep hfa) (gs_keep _ _ _ hI (by omega) (by omega) (by omega) (by omega) (Or.inr (by omega)) hF)
                            · -- 92 f
                              have h92 : ¬ ((f (i + 1)) ≤ (f (j + 1) + 1)) := fun qq => h92 ((nc_ge (a := f (j + 1) + 1) (b := f (i + 1)) (by omega) (by omega)).mpr qq)
                              refine cw_aload_n (pc := 95) C dX7_findWay_95 rfl 0 rfl ?_
                              refine cw_get (pc := 96) C dX7_findWay_96 0 (v := .ref (A 9)) rfl rfl 13 rfl (fun _ h => List.mem_cons_of_mem _ (List.mem_append_right _ h)) (by decide) (List.mem_of_getElem? (i := 1) rfl) ?_
                              refine cw_iload (pc := 99) C dX7_findWay_99 5 rfl ?_
                              refine cw_iald2 (pc := 101) C dX7_findWay_101 9 9 (wM_g9 Z A) (f := fa) (up2_eq _ _ _) (j + 1) rfl (by omega) (by decide) ?_
                              refine cw_top (nI (f (j + 1))) (hfa _ (by omega) (by omega)) ?_
                              refine cw_iconst (pc := 102) C dX7_findWay_102 (nI 1) (by decide) ?_
                              refine cw_iadd (pc := 103) C dX7_findWay_103 (z := nI (f (j + 1) + 1)) (nI_add _ _) ?_
                              refine cw_goto (pc := 104) (tgt := 114) C dX7_findWay_104 (by decide) ?_
                              refine cw_iast2 (pc := 114) C dX7_findWay_114 9 9 (wM_g9 Z A) (wM_s9 Z A) (f := fa) (up2_eq _ _ _) (i + 1) rfl (by omega) (by decide) (up2 σ 9 (upd fa (i + 1) (nI (f (j + 1) + 1)))) (up2_up2 _ 9 _ _) ?_
                              refine cw_iinc (pc := 115) C dX7_findWay_115 5 rfl (nI (j + 1 + 1)) (nI_inc _ 1) (by decide) (lv' := [(5, .int (nI (j + 1 + 1))), (0, .ref (A 0)), (1, .int (nI g)), (2, .int (nI to)), (3, .int (nI r)), (4, .int (nI (i + 1)))]) rfl ?_
                              refine cw_goto (pc := 118) (tgt := 52) C dX7_findWay_118 (by decide) ?_
                              refine cw_lv [1, 2, 3, 4, 5, 0] rfl ?_
                              exact ih52 (j + 1) (upd fa (i + 1) (nI (f (j + 1) + 1))) (fun k9 => if k9 = i + 1 then f (j + 1) + 1 else f k9) (by omega) (by omega) (far_set hfa) (gs_set _ _ _ hI (by omega) (by omega) (by omega) (by omega) (simN_yes h73).1 (simN_yes h73).2 (by omega))
                    refine cw_lv [1, 2, 3, 4, 5, 0] rfl ?_
                    exact L52 8 0 fa f (by omega) (by omega) hfa hI
              refine cw_lv [1, 2, 3, 4, 0] rfl ?_
              exact L42 8 0 fa f (by omega) (by omega) hfa hI
        refine cw_lv [1, 2, 3, 0] rfl ?_
        exact L33 8 0 fa (fun k => if k = to then 0 else 100) (by omega) (by omega) hfa (gs_0 _ _ _ (fun k _ _ => rfl))
      · -- 5 f
        have h5 : ¬ (7 < (i + 1)) := fun qq => h5 ((nc_gt (a := i + 1) (b := 7) (by omega) (by omega)).mpr qq)
        refine cw_aload_n (pc := 8) C dX7_findWay_8 rfl 0 rfl ?_
        refine cw_get (pc := 9) C dX7_findWay_9 0 (v := .ref (A 9)) rfl rfl 13 rfl (fun _ h => List.mem_cons_of_mem _ (List.mem_append_right _ h)) (by decide) (List.mem_of_getElem? (i := 1) rfl) ?_
        refine cw_iload_n (pc := 12) C dX7_findWay_12 rfl 3 rfl ?_
        refine cw_iload_n (pc := 13) C dX7_findWay_13 rfl 3 rfl ?_
        refine cw_iload_n (pc := 14) C dX7_findWay_14 rfl 2 rfl ?_
        refine cw_icmp_ne (pc := 15) (tgt := 22) C dX7_findWay_15 (by decide) (fun h15 => ?_) (fun h15 => ?_)
        · -- 15 t
          have h15 : ¬ (i + 1) = to := (nc_ne (a := i + 1) (b := to) (by omega) (by omega)).mp h15
          refine cw_bipush (pc := 22) C dX7_findWay_22 (nI 100) (by decide) ?_
          refine cw_iast2 (pc := 24) C dX7_findWay_24 9 9 (wM_g9 Z A) (wM_s9 Z A) (f := fa) (up2_eq _ _ _) (i + 1) rfl (by omega) (by decide) (up2 σ 9 (upd fa (i + 1) (nI 100))) (up2_up2 _ 9 _ _) ?_
          refine cw_iinc (pc := 25) C dX7_findWay_25 3 rfl (nI (i + 1 + 1)) (nI_inc _ 1) (by decide) (lv' := [(3, .int (nI (i + 1 + 1))), (0, .ref (A 0)), (1, .int (nI g)), (2, .int (nI to))]) rfl ?_
          refine cw_goto (pc := 28) (tgt := 2) C dX7_findWay_28 (by decide) ?_
          refine cw_lv [1, 2, 3, 0] rfl ?_
          exact ih2 (i + 1) (upd fa (i + 1) (nI 100)) (by omega) (by omega) (up_ext (G := fun k => nI (if k = to then 0 else 100)) hfa (by simp [h15]))
        · -- 15 f
          have h15 : (i + 1) = to := (nc_eq (a := i + 1) (b := to) (by omega) (by omega)).mp h15
          refine cw_iconst (pc := 18) C dX7_findWay_18 (nI 0) (by decide) ?_
          refine cw_goto (pc := 19) (tgt := 24) C dX7_findWay_19 (by decide) ?_
          refine cw_iast2 (pc := 24) C dX7_findWay_24 9 9 (wM_g9 Z A) (wM_s9 Z A) (f := fa) (up2_eq _ _ _) (i + 1) rfl (by omega) (by decide) (up2 σ 9 (upd fa (i + 1) (nI 0))) (up2_up2 _ 9 _ _) ?_
          refine cw_iinc (pc := 25) C dX7_findWay_25 3 rfl (nI (i + 1 + 1)) (nI_inc _ 1) (by decide) (lv' := [(3, .int (nI (i + 1 + 1))), (0, .ref (A 0)), (1, .int (nI g)), (2, .int (nI to))]) rfl ?_
          refine cw_goto (pc := 28) (tgt := 2) C dX7_findWay_28 (by decide) ?_
          refine cw_lv [1, 2, 3, 0] rfl ?_
          exact ih2 (i + 1) (upd fa (i + 1) (nI 0)) (by omega) (by omega) (up_ext (G := fun k => nI (if k = to then 0 else 100)) hfa (by simp [h15]))
  refine cw_eq (σ' := up2 σ 9 (σ 9)) ((up2_self σ 9).symm) ?_
  refine cw_lv [1, 2, 3, 0] rfl ?_
  exact L2 8 0 (σ 9) (by omega) (by omega) (fun k k1 k2 => absurd k2 (by omega))
