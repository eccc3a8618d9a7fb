set_option maxHeartbeats 4000000 in
set_option maxRecDepth 100000 in
theorem c_X6_refusal0 (l : Launch) (D : va_G) (Z : CZ) (A : Nat → Nat) (σ : St)    : CTi l yX6_refusal wsX6_refusal 1 22 D Z (wC Z A) σ [.ref (A 0), .int ((-2))] (fun r σ' => r = (-2) ∧ σ' = up2 σ 2 (cntF (σ 2) 0)) := by
  refine CTi.mk (cc := cX6_refusal) (nL := 2) (own := RX6) rfl (by decide) rfl (Nat.le_of_ble_eq_true rfl) ?_
  intro p0 e0 s0 m0 g0 b0 t0 c0 A0 Q C hret
  refine cw_lv (lv' := [(0, .ref (A 0)), (1, .int ((-2)))]) [0, 1] rfl ?_
  refine cw_iload_n (pc := 0) C dX6_refusal_0 rfl 1 rfl ?_
  refine cw_bipush (pc := 1) C dX6_refusal_1 (-4) (by decide) ?_
  refine cw_bipush (pc := 3) C dX6_refusal_3 (-2) (by decide) ?_
  refine cw_calls (pc := 5) C dX6_refusal_5 (c_X6_isWithin l D Z A σ (-2) (-4) (-2)) (va_cwS 3 C.1.2.2.2.2 gX6_refusal_X6_isWithin rfl rfl rfl (by decide +kernel) ⟨Nat.le_of_ble_eq_true rfl, Nat.le_of_ble_eq_true rfl⟩) rfl rfl (Nat.le_of_ble_eq_true rfl) (cw_purez (b := withinB (-2) (-4) (-2)) (fun _ _ h => h) ?_)
  refine cw_if_eq (pc := 8) (tgt := 24) C dX6_refusal_8 (by decide) (fun h8 => absurd h8 (by decide)) (fun h8 => ?_)
  refine cw_aload_n (pc := 11) C dX6_refusal_11 rfl 0 rfl ?_
  refine cw_get (pc := 12) C dX6_refusal_12 0 (v := .ref (A 2)) rfl rfl 1 rfl (fun _ h => List.mem_cons_of_mem _ (List.mem_append_right _ h)) (by decide) (List.mem_of_getElem? (i := 1) rfl) ?_
  refine cw_bipush (pc := 15) C dX6_refusal_15 (-2) (by decide) ?_
  refine cw_iload_n (pc := 17) C dX6_refusal_17 rfl 1 rfl ?_
  refine cw_isub (pc := 18) C dX6_refusal_18 (z := nI 0) (by decide) ?_
  refine cw_dup2 (pc := 19) C dX6_refusal_19 rfl rfl ?_
  refine cw_iald2 (pc := 20) C dX6_refusal_20 2 2 (wC_g2 Z A) (f := σ 2) rfl 0 rfl (by decide) (by decide) ?_
  refine cw_iconst (pc := 21) C dX6_refusal_21 (nI 1) (by decide) ?_
  refine cw_iadd (pc := 22) C dX6_refusal_22 (z := (σ 2 0) + (nI 1)) rfl ?_
  refine cw_iast2 (pc := 23) C dX6_refusal_23 2 2 (wC_g2 Z A) (wC_s2 Z A) (f := σ 2) rfl 0 rfl (by decide) (by decide) (up2 σ 2 (upd (σ 2) 0 ((σ 2 0) + (nI 1)))) rfl ?_
  refine cw_iload_n (pc := 24) C dX6_refusal_24 rfl 1 rfl ?_
  refine hret (-2) (up2 σ 2 (upd (σ 2) 0 ((σ 2 0) + (nI 1)))) _ _ dX6_refusal_25 ?_
  clear hret
  exact ⟨rfl, rfl⟩
set_option maxHeartbeats 4000000 in
set_option maxRecDepth 100000 in
theorem c_X6_refusal1 (l : Launch) (D : va_G) (Z : CZ) (A : Nat → Nat) (σ : St)    : CTi l yX6_refusal wsX6_refusal 1 22 D Z (wC Z A) σ [.ref (A 0), .int ((-3))] (fun r σ' => r = (-3) ∧ σ' = up2 σ 2 (cntF (σ 2) 1)) := by
  refine CTi.mk (cc := cX6_refusal) (nL := 2) (own := RX6) rfl (by decide) rfl (Nat.le_of_ble_eq_true rfl) ?_
  intro p0 e0 s0 m0 g0 b0 t0 c0 A0 Q C hret
  refine cw_lv (lv' := [(0, .ref (A 0)), (1, .int ((-3)))]) [0, 1] rfl ?_
  refine cw_iload_n (pc := 0) C dX6_refusal_0 rfl 1 rfl ?_
  refine cw_bipush (pc := 1) C dX6_refusal_1 (-4) (by decide) ?_
  refine cw_bipush (pc := 3) C dX6_refusal_3 (-2) (by decide) ?_
  refine cw_calls (pc := 5) C dX6_refusal_5 (c_X6_isWithin l D Z A σ (-3) (-4) (-2)) (va_cwS 3 C.1.2.2.2.2 gX6_refusal_X6_isWithin rfl rfl rfl (by decide +kernel) ⟨Nat.le_of_ble_eq_true rfl, Nat.le_of_ble_eq_true rfl⟩) rfl rfl (Nat.le_of_ble_eq_true rfl) (cw_purez (b := withinB (-3) (-4) (-2)) (fun _ _ h => h) ?_)
  refine cw_if_eq (pc := 8) (tgt := 24) C dX6_refusal_8 (by decide) (fun h8 => absurd h8 (by decide)) (fun h8 => ?_)
  refine cw_aload_n (pc := 11) C dX6_refusal_11 rfl 0 rfl ?_
  refine cw_get (pc := 12) C dX6_refusal_12 0 (v := .ref (A 2)) rfl rfl 1 rfl (fun _ h => List.mem_cons_of_mem _ (List.mem_append_right _ h)) (by decide) (List.mem_of_getElem? (i := 1) rfl) ?_
  refine cw_bipush (pc := 15) C dX6_refusal_15 (-2) (by decide) ?_
  refine cw_iload_n (pc := 17) C dX6_refusal_17 rfl 1 rfl ?_
  refine cw_isub (pc := 18) C dX6_refusal_18 (z := nI 1) (by decide) ?_
  refine cw_dup2 (pc := 19) C dX6_refusal_19 rfl rfl ?_
  refine cw_iald2 (pc := 20) C dX6_refusal_20 2 2 (wC_g2 Z A) (f := σ 2) rfl 1 rfl (by decide) (by decide) ?_
  refine cw_iconst (pc := 21) C dX6_refusal_21 (nI 1) (by decide) ?_
  refine cw_iadd (pc := 22) C dX6_refusal_22 (z := (σ 2 1) + (nI 1)) rfl ?_
  refine cw_iast2 (pc := 23) C dX6_refusal_23 2 2 (wC_g2 Z A) (wC_s2 Z A) (f := σ 2) rfl 1 rfl (by decide) (by decide) (up2 σ 2 (upd (σ 2) 1 ((σ 2 1) + (nI 1)))) rfl ?_
  refine cw_iload_n (pc := 24) C dX6_refusal_24 rfl 1 rfl ?_
  refine hret (-3) (up2 σ 2 (upd (σ 2) 1 ((σ 2 1) + (nI 1)))) _ _ dX6_refusal_25 ?_
  clear hret
  exact ⟨rfl, rfl⟩
set_option maxHeartbeats 4000000 in
set_option maxRecDepth 100000 in
theorem c_X6_refusal2 (l : Launch) (D : va_G) (Z : CZ) (A : Nat → Nat) (σ : St)    : CTi l yX6_refusal wsX6_refusal 1 22 D Z (wC Z A) σ [.ref (A 0), .int ((-4))] (fun r σ' => r = (-4) ∧ σ' = up2 σ 2 (cntF (σ 2) 2)) := by
  refine CTi.mk (cc := cX6_refusal) (nL := 2) (own := RX6) rfl (by decide) rfl (Nat.le_of_ble_eq_true rfl) ?_
  intro p0 e0 s0 m0 g0 b0 t0 c0 A0 Q C hret
  refine cw_lv (lv' := [(0, .ref (A 0)), (1, .int ((-4)))]) [0, 1] rfl ?_
  refine cw_iload_n (pc := 0) C dX6_refusal_0 rfl 1 rfl ?_
  refine cw_bipush (pc := 1) C dX6_refusal_1 (-4) (by decide) ?_
  refine cw_bipush (pc := 3) C dX6_refusal_3 (-2) (by decide) ?_
  refine cw_calls (pc := 5) C dX6_refusal_5 (c_X6_isWithin l D Z A σ (-4) (-4) (-2)) (va_cwS 3 C.1.2.2.2.2 gX6_refusal_X6_isWithin rfl rfl rfl (by decide +kernel) ⟨Nat.le_of_ble_eq_true rfl, Nat.le_of_ble_eq_true rfl⟩) rfl rfl (Nat.le_of_ble_eq_true rfl) (cw_purez (b := withinB (-4) (-4) (-2)) (fun _ _ h => h) ?_)
  refine cw_if_eq (pc := 8) (tgt := 24) C dX6_refusal_8 (by decide) (fun h8 => absurd h8 (by decide)) (fun h8 => ?_)
  refine cw_aload_n (pc := 11) C dX6_refusal_11 rfl 0 rfl ?_
  refine cw_get (pc := 12) C dX6_refusal_12 0 (v := .ref (A 2)) rfl rfl 1 rfl (fun _ h => List.mem_cons_of_mem _ (List.mem_append_right _ h)) (by decide) (List.mem_of_getElem? (i := 1) rfl) ?_
  refine cw_bipush (pc := 15) C dX6_refusal_15 (-2) (by decide) ?_
  refine cw_iload_n (pc := 17) C dX6_refusal_17 rfl 1 rfl ?_
  refine cw_isub (pc := 18) C dX6_refusal_18 (z := nI 2) (by decide) ?_
  refine cw_dup2 (pc := 19) C dX6_refusal_19 rfl rfl ?_
  refine cw_iald2 (pc := 20) C dX6_refusal_20 2 2 (wC_g2 Z A) (f := σ 2) rfl 2 rfl (by decide) (by decide) ?_
  refine cw_iconst (pc := 21) C dX6_refusal_21 (nI 1) (by decide) ?_
  refine cw_iadd (pc := 22) C dX6_refusal_22 (z := (σ 2 2) + (nI 1)) rfl ?_
  refine cw_iast2 (pc := 23) C dX6_refusal_23 2 2 (wC_g2 Z A) (wC_s2 Z A) (f := σ 2) rfl 2 rfl (by decide) (by decide) (up2 σ 2 (upd (σ 2) 2 ((σ 2 2) + (nI 1)))) rfl ?_
  refine cw_iload_n (pc := 24) C dX6_refusal_24 rfl 1 rfl ?_
  refine hret (-4) (up2 σ 2 (upd (σ 2) 2 ((σ 2 2) + (nI 1)))) _ _ dX6_refusal_25 ?_
  clear hret
  exact ⟨rfl, rfl⟩
set_option maxHeartbeats 4000000 in
set_option maxRecDepth 100000 in
theorem c_X6_of (l : Launch) (D : va_G) (Z : CZ) (A : Nat → Nat) (σ : St) (X F : Nat → Int32) (ck co : Int32) (K : Nat → Nat → Int32) (nn : Nat) (B : Nat → Int32) (L : Nat)  (g : Int32) (w : Int32) (ha : absC σ X F ck co K nn B L) (hi : absI X K nn B L) : CTi l yX6_of wsX6_of 4 86 D Z (wC Z A) σ [.ref (A 0), .int (g), .int (w)] (fun r σ' => r = ansV (ofA X g w) ∧ absC σ' X (ansF F (ofA X g w)) ck co K nn B L) := by
  refine CTi.mk (cc := cX6_of) (nL := 3) (own := RX6) rfl (by decide) rfl (Nat.le_of_ble_eq_true rfl) ?_
  intro p0 e0 s0 m0 g0 b0 t0 c0 A0 Q C hret
  obtain ⟨rfl, rfl, rfl, rfl, rfl, ⟨o9, p9, hT⟩, dd, hdd, hd, hn, hK⟩ := ha
  obtain ⟨hOK, hOKK, hnn, hL, hB⟩ := hi
  refine cw_lv (lv' := [(0, .ref (A 0)), (1, .int (g)), (2, .int (w))]) [0, 1, 2] rfl ?_
  refine cw_iload_n (pc := 0) C dX6_of_0 rfl 1 rfl ?_
  refine cw_calls (pc := 1) C dX6_of_1 (c_X6_isGear l D Z A σ g) (va_cwS 1 C.1.2.2.2.2 gX6_of_X6_isGear rfl rfl rfl (by decide +kernel) ⟨Nat.le_of_ble_eq_true rfl, Nat.le_of_ble_eq_true rfl⟩) rfl rfl (Nat.le_of_ble_eq_true rfl) (cw_purez (b := gearB g) (fun _ _ h => h) ?_)
  refine cw_if_ne (pc := 4) (tgt := 14) C dX6_of_4 (by decide) (fun h4 => ?_) (fun h4 => ?_)
  · -- 4 t
    have h4 := bI_nz h4
    obtain ⟨j, hj1, hj2, rfl⟩ := gearB_t h4
    have hjn : tN (nI j) = j := tN_N (by omega)
    refine cw_iload_n (pc := 14) C dX6_of_14 rfl 2 rfl ?_
    by_cases q15_0 : w = nI 0
    · -- case 0
      subst q15_0
      refine cw_tableIn (pc := 15) (off := 33) (tgt := 48) C dX6_of_15 (by decide) (by decide) (by decide +kernel) (by decide) ?_
      refine cw_aload_n (pc := 48) C dX6_of_48 rfl 0 rfl ?_
      refine cw_get (pc := 49) C dX6_of_49 0 (v := .ref (A 1)) rfl rfl 0 rfl (fun _ h => List.mem_cons_of_mem _ (List.mem_append_left _ (List.mem_append_right _ h))) (by decide) (List.mem_of_getElem? (i := 1) rfl) ?_
      refine cw_iconst (pc := 52) C dX6_of_52 (nI 0) (by decide) ?_
      refine cw_iload_n (pc := 53) C dX6_of_53 rfl 1 rfl ?_
      refine cw_iadd (pc := 54) C dX6_of_54 (z := nI j) (nI_0add _) ?_
      refine cw_iald2 (pc := 55) C dX6_of_55 1 1 (wC_g1 Z A) (f := σ 1) rfl j rfl (by omega) (by decide) ?_
      refine hret (σ 1 j) σ _ _ dX6_of_56 ?_
      clear hret
      have hq : ofA (σ 1) (nI j) (nI 0) = .inl (σ 1 j) := by first | (rw [ofA, if_pos h4, if_pos rfl, hjn]; done) | (rw [ofA, if_pos h4, if_pos rfl, hjn]; rfl)
      rw [hq]
      exact ⟨rfl, ⟨rfl, rfl, rfl, rfl, rfl, ⟨o9, p9, hT⟩, dd, hdd, hd, hn, hK⟩⟩
    by_cases q15_1 : w = nI 1
    · -- case 1
      subst q15_1
      refine cw_tableIn (pc := 15) (off := 42) (tgt := 57) C dX6_of_15 (by decide) (by decide) (by decide +kernel) (by decide) ?_
      refine cw_aload_n (pc := 57) C dX6_of_57 rfl 0 rfl ?_
      refine cw_get (pc := 58) C dX6_of_58 0 (v := .ref (A 3)) rfl rfl 2 rfl (fun _ h => List.mem_cons_of_mem _ (List.mem_append_left _ (List.mem_append_right _ h))) (by decide) (List.mem_of_getElem? (i := 2) rfl) ?_
      refine cw_iload_n (pc := 61) C dX6_of_61 rfl 1 rfl ?_
      refine cw_calli (pc := 62) C dX6_of_62 (c_X1_isFitN l D Z A σ j (by omega)) (cwV 1 C.1.2.2.2.2 gX6_of_X1_isFit rfl rfl rfl (by decide +kernel) ⟨Nat.le_of_ble_eq_true rfl, Nat.le_of_ble_eq_true rfl⟩) 3 rfl rfl rfl rfl (Nat.le_of_ble_eq_true rfl) (cw_purez (b := fitN (σ 1) j) (fun _ _ h => h) ?_)
      refine cw_if_eq (pc := 65) (tgt := 72) C dX6_of_65 (by decide) (fun h65 => ?_) (fun h65 => ?_)
      · -- 65 t
        have h65 := bI_z h65
        refine cw_iconst (pc := 72) C dX6_of_72 (nI 0) (by decide) ?_
        refine hret (nI 0) σ _ _ dX6_of_73 ?_
        clear hret
        have hq : ofA (σ 1) (nI j) (nI 1) = .inl (nI 0) := by first | (rw [ofA, if_pos h4, if_neg q15_0, if_pos rfl, hjn, h65]; done) | (rw [ofA, if_pos h4, if_neg q15_0, if_pos rfl, hjn, h65]; rfl)
        rw [hq]
        exact ⟨rfl, ⟨rfl, rfl, rfl, rfl, rfl, ⟨o9, p9, hT⟩, dd, hdd, hd, hn, hK⟩⟩
      · -- 65 f
        have h65 := bI_nz h65
        refine cw_iconst (pc := 68) C dX6_of_68 (nI 1) (by decide) ?_
        refine cw_goto (pc := 69) (tgt := 73) C dX6_of_69 (by decide) ?_
        refine hret (nI 1) σ _ _ dX6_of_73 ?_
        clear hret
        have hq : ofA (σ 1) (nI j) (nI 1) = .inl (nI 1) := by first | (rw [ofA, if_pos h4, if_neg q15_0, if_pos rfl, hjn, h65]; done) | (rw [ofA, if_pos h4, if_neg q15_0, if_pos rfl, hjn, h65]; rfl)
        rw [hq]
        exact ⟨rfl, ⟨rfl, rfl, rfl, rfl, rfl, ⟨o9, p9, hT⟩, dd, hdd, hd, hn, hK⟩⟩
    by_cases q15_2 : w = nI 2
    · -- case 2
      subst q15_2
      refine cw_tableIn (pc := 15) (off := 59) (tgt := 74) C dX6_of_15 (by decide) (by decide) (by decide +kernel) (by decide) ?_
      refine cw_aload_n (pc := 74) C dX6_of_74 rfl 0 rfl ?_
      refine cw_get (pc := 75) C dX6_of_75 0 (v := .ref (A 1)) rfl rfl 0 rfl (fun _ h => List.mem_cons_of_mem _ (List.mem_append_left _ (List.mem_append_right _ h))) (by decide) (List.mem_of_getElem? (i := 1) rfl) ?_
      refine cw_bipush (pc := 78) C dX6_of_78 (nI 8) (by decide) ?_
      refine cw_iload_n (pc := 80) C dX6_of_80 rfl 1 rfl ?_
      refine cw_iadd (pc := 81) C dX6_of_81 (z := nI (8 + j)) (nI_add _ _) ?_
      refine cw_iald2 (pc := 82) C dX6_of_82 1 1 (wC_g1 Z A) (f := σ 1) rfl (8 + j) rfl (by omega) (by decide) ?_
      refine hret (σ 1 (8 + j)) σ _ _ dX6_of_83 ?_
      clear hret
      have hq : ofA (σ 1) (nI j) (nI 2) = .inl (σ 1 (8 + j)) := by first | (rw [ofA, if_pos h4, if_neg q15_0, if_neg q15_1, if_pos rfl, hjn]; done) | (rw [ofA, if_pos h4, if_neg q15_0, if_neg q15_1, if_pos rfl, hjn]; rfl)
      rw [hq]
      exact ⟨rfl, ⟨rfl, rfl, rfl, rfl, rfl, ⟨o9, p9, hT⟩, dd, hdd, hd, hn, hK⟩⟩
    by_cases q15_3 : w = nI 3
    · -- case 3
      subst q15_3
      refine cw_tableIn (pc := 15) (off := 69) (tgt := 84) C dX6_of_15 (by decide) (by decide) (by decide +kernel) (by decide) ?_
      refine cw_aload_n (pc := 84) C dX6_of_84 rfl 0 rfl ?_
      refine cw_get (pc := 85) C dX6_of_85 0 (v := .ref (A 1)) rfl rfl 0 rfl (fun _ h => List.mem_cons_of_mem _ (List.mem_append_left _ (List.mem_append_right _ h))) (by decide) (List.mem_of_getElem? (i := 1) rfl) ?_
      refine cw_bipush (pc := 88) C dX6_of_88 (nI 16) (by decide) ?_
      refine cw_iload_n (pc := 90) C dX6_of_90 rfl 1 rfl ?_
      refine cw_iadd (pc := 91) C dX6_of_91 (z := nI (16 + j)) (nI_add _ _) ?_
      refine cw_iald2 (pc := 92) C dX6_of_92 1 1 (wC_g1 Z A) (f := σ 1) rfl (16 + j) rfl (by omega) (by decide) ?_
      refine hret (σ 1 (16 + j)) σ _ _ dX6_of_93 ?_
      clear hret
      have hq : ofA (σ 1) (nI j) (nI 3) = .inl (σ 1 (16 + j)) := by first | (rw [ofA, if_pos h4, if_neg q15_0, if_neg q15_1, if_neg q15_2, if_pos rfl, hjn]; done) | (rw [ofA, if_pos h4, if_neg q15_0, if_neg q15_1, if_neg q15_2, if_pos rfl, hjn]; rfl)
      rw [hq]
      exact ⟨rfl, ⟨rfl, rfl, rfl, rfl, rfl, ⟨o9, p9, hT⟩, dd, hdd, hd, hn, hK⟩⟩
    by_cases q15_4 : w = nI 4
    · -- case 4
      subst q15_4
      refine cw_tableIn (pc := 15) (off := 79) (tgt := 94) C dX6_of_15 (by decide) (by decide) (by decide +kernel) (by decide) ?_
      refine cw_aload_n (pc := 94) C dX6_of_94 rfl 0 rfl ?_
      refine cw_get (pc := 95) C dX6_of_95 0 (v := .ref (A 3)) rfl rfl 2 rfl (fun _ h => List.mem_cons_of_mem _ (List.mem_append_left _ (List.mem_append_right _ h))) (by decide) (List.mem_of_getElem? (i := 2) rfl) ?_
      refine cw_iload_n (pc := 98) C dX6_of_98 rfl 1 rfl ?_
      refine cw_calli (pc := 99) C dX6_of_99 (c_X1_countSimple l D Z A σ j (by omega)) (cwV 1 C.1.2.2.2.2 gX6_of_X1_countSimple rfl rfl rfl (by decide +kernel) ⟨Nat.le_of_ble_eq_true rfl, Nat.le_of_ble_eq_true rfl⟩) 3 rfl rfl rfl rfl (Nat.le_of_ble_eq_true rfl) (cw_pure (v := nI (cntN (fun q9 => simN (σ 1) j (q9 + 1)) 7)) (fun _ _ h => h) ?_)
      refine hret (nI (cntN (fun q9 => simN (σ 1) j (q9 + 1)) 7)) σ _ _ dX6_of_102 ?_
      clear hret
      have hq : ofA (σ 1) (nI j) (nI 4) = .inl (nI (cntN (fun q9 => simN (σ 1) j (q9 + 1)) 7)) := by first | (rw [ofA, if_pos h4, if_neg q15_0, if_neg q15_1, if_neg q15_2, if_neg q15_3, if_pos rfl, hjn]; done) | (rw [ofA, if_pos h4, if_neg q15_0, if_neg q15_1, if_neg q15_2, if_neg q15_3, if_pos rfl, hjn]; rfl)
      rw [hq]
      exact ⟨rfl, ⟨rfl, rfl, rfl, rfl, rfl, ⟨o9, p9, hT⟩, dd, hdd, hd, hn, hK⟩⟩
    refine cw_tableOut (pc := 15) (tgt := 103) C dX6_of_15 (tsw_out (lo := 0) (n := 5) (fun k hk => by rcases (show k = 0 ∨ k = 1 ∨ k = 2 ∨ k = 3 ∨ k = 4 by omega) with rfl | rfl | rfl | rfl | rfl <;> assumption)) (by decide) ?_
    refine cw_aload_n (pc := 103) C dX6_of_103 rfl 0 rfl ?_
    refine cw_bipush (pc := 104) C dX6_of_104 (-2) (by decide) ?_
    refine cw_calli (pc := 106) C dX6_of_106 (c_X6_refusal0 l D Z A σ ) (cwV 1 C.1.2.2.2.2 gX6_of_X6_refusal rfl rfl rfl (by decide +kernel) ⟨Nat.le_of_ble_eq_true rfl, Nat.le_of_ble_eq_true rfl⟩) 0 rfl rfl rfl rfl (Nat.le_of_ble_eq_true rfl) (cw_eff (v := (-2)) (fun _ _ h => h) (up2 σ 2 (cntF (σ 2) 0)) rfl ?_)
    refine hret (-2) (up2 σ 2 (cntF (σ 2) 0)) _ _ dX6_of_109 ?_
    clear hret
    have hq : ofA (σ 1) (nI j) w = .inr 0 := by first | (rw [ofA, if_pos h4, if_neg q15_0, if_neg q15_1, if_neg q15_2, if_neg q15_3, if_neg q15_4]; done) | (rw [ofA, if_pos h4, if_neg q15_0, if_neg q15_1, if_neg q15_2, if_neg q15_3, if_neg q15_4]; rfl)
    rw [hq]
    exact ⟨rfl, ⟨rfl, rfl, rfl, rfl, rfl, ⟨o9, p9, hT⟩, dd, hdd, hd, hn, fun i hi => (up2_ne _ _ (by omega)).trans (hK i hi)⟩⟩
  · -- 4 f
    have h4 := bI_z h4
    refine cw_aload_n (pc := 7) C dX6_of_7 rfl 0 rfl ?_
    refine cw_bipush (pc := 8) C dX6_of_8 (-2) (by decide) ?_
    refine cw_calli (pc := 10) C dX6_of_10 (c_X6_refusal0 l D Z A σ ) (cwV 1 C.1.2.2.2.2 gX6_of_X6_refusal rfl rfl rfl (by decide +kernel) ⟨Nat.le_of_ble_eq_true rfl, Nat.le_of_ble_eq_true rfl⟩) 0 rfl rfl rfl rfl (Nat.le_of_ble_eq_true rfl) (cw_eff (v := (-2)) (fun _ _ h => h) (up2 σ 2 (cntF (σ 2) 0)) rfl ?_)
    refine hret (-2) (up2 σ 2 (cntF (σ 2) 0)) _ _ dX6_of_13 ?_
    clear hret
    have hq : ofA (σ 1) g w = .inr 0 := by first | (rw [ofA, h4, if_neg (by decide)]; done) | (rw [ofA, h4, if_neg (by decide)]; rfl)
    rw [hq]
    exact ⟨rfl, ⟨rfl, rfl, rfl, rfl, rfl, ⟨o9, p9, hT⟩, dd, hdd, hd, hn, fun i hi => (up2_ne _ _ (by omega)).trans (hK i hi)⟩⟩
set_option maxHeartbeats 4000000 in
set_option maxRecDepth 100000 in
theorem c_X6_clutch (l : Launch) (D : va_G) (Z : CZ) (A : Nat → Nat) (σ : St) (X F : Nat → Int32) (ck co : Int32) (K : Nat → Nat → Int32) (nn : Nat) (B : Nat → Int32) (L : Nat)  (k : Int32) (w : Int32) (ha : absC σ X F ck co K nn B L) (hi : absI X K nn B L) : CTi l yX6_clutch wsX6_clutch 2 43 D Z (wC Z A) σ [.ref (A 0), .int (k), .int (w)] (fun r σ' => r = ansV (clA X k w) ∧ absC σ' X (ansF F (clA X k w)) ck co K nn B L) := by
  refine CTi.mk (cc := cX6_clutch) (nL := 3) (own := RX6) rfl (by decide) rfl (Nat.le_of_ble_eq_true rfl) ?_
  intro p0 e0 s0 m0 g0 b0 t0 c0 A0 Q C hret
  obtain ⟨rfl, rfl, rfl, rfl, rfl, ⟨o9, p9, hT⟩, dd, hdd, hd, hn, hK⟩ := ha
  obtain ⟨hOK, hOKK, hnn, hL, hB⟩ := hi
  refine cw_lv (lv' := [(0, .ref (A 0)), (1, .int (k)), (2, .int (w))]) [0, 1, 2] rfl ?_
  refine cw_iload_n (pc := 0) C dX6_clutch_0 rfl 1 rfl ?_
  refine cw_calls (pc := 1) C dX6_clutch_1 (c_X6_isClutch l D Z A σ k) (va_cwS 1 C.1.2.2.2.2 gX6_clutch_X6_isClutch rfl rfl rfl (by decide +kernel) ⟨Nat.le_of_ble_eq_true rfl, Nat.le_of_ble_eq_true rfl⟩) rfl rfl (Nat.le_of_ble_eq_true rfl) (cw_purez (b := clB k) (fun _ _ h => h) ?_)
  refine cw_if_ne (pc := 4) (tgt := 14) C dX6_clutch_4 (by decide) (fun h4 => ?_) (fun h4 => ?_)
  · -- 4 t
    have h4 := bI_nz h4
    obtain ⟨j, hj1, rfl⟩ := clB_t h4
    have hjn : tN (nI j) = j := tN_N (by omega)
    refine cw_iload_n (pc := 14) C dX6_clutch_14 rfl 2 rfl ?_
    by_cases q15_0 : w = nI 0
    · -- case 0
      subst q15_0
      refine cw_tableIn (pc := 15) (off := 29) (tgt := 44) C dX6_clutch_15 (by decide) (by decide) (by decide +kernel) (by decide) ?_
      refine cw_aload_n (pc := 44) C dX6_clutch_44 rfl 0 rfl ?_
      refine cw_get (pc := 45) C dX6_clutch_45 0 (v := .ref (A 1)) rfl rfl 0 rfl (fun _ h => List.mem_cons_of_mem _ (List.mem_append_left _ (List.mem_append_right _ h))) (by decide) (List.mem_of_getElem? (i := 1) rfl) ?_
      refine cw_bipush (pc := 48) C dX6_clutch_48 (nI 24) (by decide) ?_
      refine cw_iload_n (pc := 50) C dX6_clutch_50 rfl 1 rfl ?_
      refine cw_iadd (pc := 51) C dX6_clutch_51 (z := nI (24 + j)) (nI_add _ _) ?_
      refine cw_iald2 (pc := 52) C dX6_clutch_52 1 1 (wC_g1 Z A) (f := σ 1) rfl (24 + j) rfl (by omega) (by decide) ?_
      refine hret (σ 1 (24 + j)) σ _ _ dX6_clutch_53 ?_
      clear hret
      have hq : clA (σ 1) (nI j) (nI 0) = .inl (σ 1 (24 + j)) := by first | (rw [clA, if_pos h4, if_pos rfl, hjn]; done) | (rw [clA, if_pos h4, if_pos rfl, hjn]; rfl)
      rw [hq]
      exact ⟨rfl, ⟨rfl, rfl, rfl, rfl, rfl, ⟨o9, p9, hT⟩, dd, hdd, hd, hn, hK⟩⟩
    by_cases q15_1 : w = nI 1
    · -- case 1
      subst q15_1
      refine cw_tableIn (pc := 15) (off := 39) (tgt := 54) C dX6_clutch_15 (by decide) (by decide) (by decide +kernel) (by decide) ?_
      refine cw_aload_n (pc := 54) C dX6_clutch_54 rfl 0 rfl ?_
      refine cw_get (pc := 55) C dX6_clutch_55 0 (v := .ref (A 1)) rfl rfl 0 rfl (fun _ h => List.mem_cons_of_mem _ (List.mem_append_left _ (List.mem_append_right _ h))) (by decide) (List.mem_of_getElem? (i := 1) rfl) ?_
      refine cw_bipush (pc := 58) C dX6_clutch_58 (nI 29) (by decide) ?_
      refine cw_iload_n (pc := 60) C dX6_clutch_60 rfl 1 rfl ?_
      refine cw_iadd (pc := 61) C dX6_clutch_61 (z := nI (29 + j)) (nI_add _ _) ?_
      refine cw_iald2 (pc := 62) C dX6_clutch_62 1 1 (wC_g1 Z A) (f := σ 1) rfl (29 + j) rfl (by omega) (by decide) ?_
      refine hret (σ 1 (29 + j)) σ _ _ dX6_clutch_63 ?_
      clear hret
      have hq : clA (σ 1) (nI j) (nI 1) = .inl (σ 1 (29 + j)) := by first | (rw [clA, if_pos h4, if_neg q15_0, if_pos rfl, hjn]; done) | (rw [clA, if_pos h4, if_neg q15_0, if_pos rfl, hjn]; rfl)
      rw [hq]
      exact ⟨rfl, ⟨rfl, rfl, rfl, rfl, rfl, ⟨o9, p9, hT⟩, dd, hdd, hd, hn, hK⟩⟩
    by_cases q15_2 : w = nI 2
    · -- case 2
      subst q15_2
      refine cw_tableIn (pc := 15) (off := 49) (tgt := 64) C dX6_clutch_15 (by decide) (by decide) (by decide +kernel) (by decide) ?_
      refine cw_aload_n (pc := 64) C dX6_clutch_64 rfl 0 rfl ?_
      refine cw_get (pc := 65) C dX6_clutch_65 0 (v := .ref (A 1)) rfl rfl 0 rfl (fun _ h => List.mem_cons_of_mem _ (List.mem_append_left _ (List.mem_append_right _ h))) (by decide) (List.mem_of_getElem? (i := 1) rfl) ?_
      refine cw_bipush (pc := 68) C dX6_clutch_68 (nI 34) (by decide) ?_
      refine cw_iload_n (pc := 70) C dX6_clutch_70 rfl 1 rfl ?_
      refine cw_iadd (pc := 71) C dX6_clutch_71 (z := nI (34 + j)) (nI_add _ _) ?_
      refine cw_iald2 (pc := 72) C dX6_clutch_72 1 1 (wC_g1 Z A) (f := σ 1) rfl (34 + j) rfl (by omega) (by decide) ?_
      refine hret (σ 1 (34 + j)) σ _ _ dX6_clutch_73 ?_
      clear hret
      have hq : clA (σ 1) (nI j) (nI 2) = .inl (σ 1 (34 + j)) := by first | (rw [clA, if_pos h4, if_neg q15_0, if_neg q15_1, if_pos rfl, hjn]; done) | (rw [clA, if_pos h4, if_neg q15_0, if_neg q15_1, if_pos rfl, hjn]; rfl)
      rw [hq]
      exact ⟨rfl, ⟨rfl, rfl, rfl, rfl, rfl, ⟨o9, p9, hT⟩, dd, hdd, hd, hn, hK⟩⟩
    by_cases q15_3 : w = nI 3
    · -- case 3
      subst q15_3
      refine cw_tableIn (pc := 15) (off := 59) (tgt := 74) C dX6_clutch_15 (by decide) (by decide) (by decide +kernel) (by decide) ?_
      refine cw_aload_n (pc := 74) C dX6_clutch_74 rfl 0 rfl ?_
      refine cw_get (pc := 75) C dX6_clutch_75 0 (v := .ref (A 3)) rfl rfl 2 rfl (fun _ h => List.mem_cons_of_mem _ (List.mem_append_left _ (List.mem_append_right _ h))) (by decide) (List.mem_of_getElem? (i := 2) rfl) ?_
      refine cw_iload_n (pc := 78) C dX6_clutch_78 rfl 1 rfl ?_
      refine cw_calli (pc := 79) C dX6_clutch_79 (c_X1_countClosing l D Z A σ j) (cwV 1 C.1.2.2.2.2 gX6_clutch_X1_countClosing rfl rfl rfl (by decide +kernel) ⟨Nat.le_of_ble_eq_true rfl, Nat.le_of_ble_eq_true rfl⟩) 3 rfl rfl rfl rfl (Nat.le_of_ble_eq_true rfl) (cw_pure (v := sumI (fun q9 => sbit (σ 1 (q9 + 1)) j) 7) (fun _ _ h => h) ?_)
      refine hret (sumI (fun q9 => sbit (σ 1 (q9 + 1)) j) 7) σ _ _ dX6_clutch_82 ?_
      clear hret
      have hq : clA (σ 1) (nI j) (nI 3) = .inl (sumI (fun q9 => sbit (σ 1 (q9 + 1)) j) 7) := by first | (rw [clA, if_pos h4, if_neg q15_0, if_neg q15_1, if_neg q15_2, if_pos rfl, hjn]; done) | (rw [clA, if_pos h4, if_neg q15_0, if_neg q15_1, if_neg q15_2, if_pos rfl, hjn]; rfl)
      rw [hq]
      exact ⟨rfl, ⟨rfl, rfl, rfl, rfl, rfl, ⟨o9, p9, hT⟩, dd, hdd, hd, hn, hK⟩⟩
    refine cw_tableOut (pc := 15) (tgt := 83) C dX6_clutch_15 (tsw_out (lo := 0) (n := 4) (fun k hk => by rcases (show k = 0 ∨ k = 1 ∨ k = 2 ∨ k = 3 by omega) with rfl | rfl | rfl | rfl <;> assumption)) (by decide) ?_
    refine cw_aload_n (pc := 83) C dX6_clutch_83 rfl 0 rfl ?_
    refine cw_bipush (pc := 84) C dX6_clutch_84 (-2) (by decide) ?_
    refine cw_calli (pc := 86) C dX6_clutch_86 (c_X6_refusal0 l D Z A σ ) (cwV 1 C.1.2.2.2.2 gX6_clutch_X6_refusal rfl rfl rfl (by decide +kernel) ⟨Nat.le_of_ble_eq_true rfl, Nat.le_of_ble_eq_true rfl⟩) 0 rfl rfl rfl rfl (Nat.le_of_ble_eq_true rfl) (cw_eff (v := (-2)) (fun _ _ h => h) (up2 σ 2 (cntF (σ 2) 0)) rfl ?_)
    refine hret (-2) (up2 σ 2 (cntF (σ 2) 0)) _ _ dX6_clutch_89 ?_
    clear hret
    have hq : clA (σ 1) (nI j) w = .inr 0 := by first | (rw [clA, if_pos h4, if_neg q15_0, if_neg q15_1, if_neg q15_2, if_neg q15_3]; done) | (rw [clA, if_pos h4, if_neg q15_0, if_neg q15_1, if_neg q15_2, if_neg q15_3]; rfl)
    rw [hq]
    exact ⟨rfl, ⟨rfl, rfl, rfl, rfl, rfl, ⟨o9, p9, hT⟩, dd, hdd, hd, hn, fun i hi => (up2_ne _ _ (by omega)).trans (hK i hi)⟩⟩
  · -- 4 f
    have h4 := bI_z h4
    refine cw_aload_n (pc := 7) C dX6_clutch_7 rfl 0 rfl ?_
    refine cw_bipush (pc := 8) C dX6_clutch_8 (-2) (by decide) ?_
    refine cw_calli (pc := 10) C dX6_clutch_10 (c_X6_refusal0 l D Z A σ ) (cwV 1 C.1.2.2.2.2 gX6_clutch_X6_refusal rfl rfl rfl (by decide +kernel) ⟨Nat.le_of_ble_eq_true rfl, Nat.le_of_ble_eq_true rfl⟩) 0 rfl rfl rfl rfl (Nat.le_of_ble_eq_true rfl) (cw_eff (v := (-2)) (fun _ _ h => h) (up2 σ 2 (cntF (σ 2) 0)) rfl ?_)
    refine hret (-2) (up2 σ 2 (cntF (σ 2) 0)) _ _ dX6_clutch_13 ?_
    clear hret
    have hq : clA (σ 1) k w = .inr 0 := by first | (rw [clA, h4, if_neg (by decide)]; done) | (rw [clA, h4, if_neg (by decide)]; rfl)
    rw [hq]
    exact ⟨rfl, ⟨rfl, rfl, rfl, rfl, rfl, ⟨o9, p9, hT⟩, dd, hdd, hd, hn, fun i hi => (up2_ne _ _ (by omega)).trans (hK i hi)⟩⟩
set_option maxHeartbeats 4000000 in
set_option maxRecDepth 100000 in
theorem c_X6_ties (l : Launch) (D : va_G) (Z : CZ) (A : Nat → Nat) (σ : St) (X F : Nat → Int32) (ck co : Int32) (K : Nat → Nat → Int32) (nn : Nat) (B : Nat → Int32) (L : Nat)  (v : Int32) (ha : absC σ X F ck co K nn B L) (hi : absI X K nn B L) : CTi l yX6_ties wsX6_ties 2 43 D Z (wC Z A) σ [.ref (A 0), .int (v)] (fun r σ' => r = ansV (tiA X v) ∧ absC σ' X (ansF F (tiA X v)) ck co K nn B L) := by
  refine CTi.mk (cc := cX6_ties) (nL := 2) (own := RX6) rfl (by decide) rfl (Nat.le_of_ble_eq_true rfl) ?_
  intro p0 e0 s0 m0 g0 b0 t0 c0 A0 Q C hret
  obtain ⟨rfl, rfl, rfl, rfl, rfl, ⟨o9, p9, hT⟩, dd, hdd, hd, hn, hK⟩ := ha
  obtain ⟨hOK, hOKK, hnn, hL, hB⟩ := hi
  refine cw_lv (lv' := [(0, .ref (A 0)), (1, .int (v))]) [0, 1] rfl ?_
  refine cw_iload_n (pc := 0) C dX6_ties_0 rfl 1 rfl ?_
  refine cw_iconst (pc := 1) C dX6_ties_1 (nI 0) (by decide) ?_
  refine cw_bipush (pc := 2) C dX6_ties_2 (nI 31) (by decide) ?_
  refine cw_calls (pc := 4) C dX6_ties_4 (c_X6_isWithin l D Z A σ v (nI 0) (nI 31)) (va_cwS 3 C.1.2.2.2.2 gX6_ties_X6_isWithin rfl rfl rfl (by decide +kernel) ⟨Nat.le_of_ble_eq_true rfl, Nat.le_of_ble_eq_true rfl⟩) rfl rfl (Nat.le_of_ble_eq_true rfl) (cw_purez (b := withinB v (nI 0) (nI 31)) (fun _ _ h => h) ?_)
  refine cw_if_ne (pc := 7) (tgt := 17) C dX6_ties_7 (by decide) (fun h7 => ?_) (fun h7 => ?_)
  · -- 7 t
    have h7 := bI_nz h7
    refine cw_aload_n (pc := 17) C dX6_ties_17 rfl 0 rfl ?_
    refine cw_get (pc := 18) C dX6_ties_18 0 (v := .ref (A 3)) rfl rfl 2 rfl (fun _ h => List.mem_cons_of_mem _ (List.mem_append_left _ (List.mem_append_right _ h))) (by decide) (List.mem_of_getElem? (i := 1) rfl) ?_
    refine cw_iload_n (pc := 21) C dX6_ties_21 rfl 1 rfl ?_
    refine cw_calli (pc := 22) C dX6_ties_22 (c_X1_countWithin l D Z A σ v) (cwV 1 C.1.2.2.2.2 gX6_ties_X1_countWithin rfl rfl rfl (by decide +kernel) ⟨Nat.le_of_ble_eq_true rfl, Nat.le_of_ble_eq_true rfl⟩) 3 rfl rfl rfl rfl (Nat.le_of_ble_eq_true rfl) (cw_pure (v := nI (cntN (fun q9 => withP (σ 1 (q9 + 1)) v) 7)) (fun _ _ h => h) ?_)
    refine cw_iconst (pc := 25) C dX6_ties_25 (nI 2) (by decide) ?_
    have hcn := cntN_le (fun q9 => withP ((σ 1) (q9 + 1)) v) 7
    refine cw_icmp_lt (pc := 26) (tgt := 33) C dX6_ties_26 (by decide) (fun h26 => ?_) (fun h26 => ?_)
    · -- 26 t
      have h26 : (cntN (fun q9 => withP (σ 1 (q9 + 1)) v) 7) < 2 := (nc_lt (a := cntN (fun q9 => withP (σ 1 (q9 + 1)) v) 7) (b := 2) (by omega) (by omega)).mp h26
      refine cw_iconst (pc := 33) C dX6_ties_33 (nI 0) (by decide) ?_
      refine hret (nI 0) σ _ _ dX6_ties_34 ?_
      clear hret
      have hq : tiA (σ 1) v = .inl (nI 0) := by first | (rw [tiA, if_pos h7, decide_eq_false (by omega)]; done) | (rw [tiA, if_pos h7, decide_eq_false (by omega)]; rfl)
      rw [hq]
      exact ⟨rfl, ⟨rfl, rfl, rfl, rfl, rfl, ⟨o9, p9, hT⟩, dd, hdd, hd, hn, hK⟩⟩
    · -- 26 f
      have h26 : ¬ ((cntN (fun q9 => withP (σ 1 (q9 + 1)) v) 7) < 2) := fun qq => h26 ((nc_lt (a := cntN (fun q9 => withP (σ 1 (q9 + 1)) v) 7) (b := 2) (by omega) (by omega)).mpr qq)
      refine cw_iconst (pc := 29) C dX6_ties_29 (nI 1) (by decide) ?_
      refine cw_goto (pc := 30) (tgt := 34) C dX6_ties_30 (by decide) ?_
      refine hret (nI 1) σ _ _ dX6_ties_34 ?_
      clear hret
      have hq : tiA (σ 1) v = .inl (nI 1) := by first | (rw [tiA, if_pos h7, decide_eq_true (by omega)]; done) | (rw [tiA, if_pos h7, decide_eq_true (by omega)]; rfl)
      rw [hq]
      exact ⟨rfl, ⟨rfl, rfl, rfl, rfl, rfl, ⟨o9, p9, hT⟩, dd, hdd, hd, hn, hK⟩⟩
  · -- 7 f
    have h7 := bI_z h7
    refine cw_aload_n (pc := 10) C dX6_ties_10 rfl 0 rfl ?_
    refine cw_bipush (pc := 11) C dX6_ties_11 (-2) (by decide) ?_
    refine cw_calli (pc := 13) C dX6_ties_13 (c_X6_refusal0 l D Z A σ ) (cwV 1 C.1.2.2.2.2 gX6_ties_X6_refusal rfl rfl rfl (by decide +kernel) ⟨Nat.le_of_ble_eq_true rfl, Nat.le_of_ble_eq_true rfl⟩) 0 rfl rfl rfl rfl (Nat.le_of_ble_eq_true rfl) (cw_eff (v := (-2)) (fun _ _ h => h) (up2 σ 2 (cntF (σ 2) 0)) rfl ?_)
    refine hret (-2) (up2 σ 2 (cntF (σ 2) 0)) _ _ dX6_ties_16 ?_
    clear hret
    have hq : tiA (σ 1) v = .inr 0 := by first | (rw [tiA, h7, if_neg (by decide)]; done) | (rw [tiA, h7, if_neg (by decide)]; rfl)
    rw [hq]
    exact ⟨rfl, ⟨rfl, rfl, rfl, rfl, rfl, ⟨o9, p9, hT⟩, dd, hdd, hd, hn, fun i hi => (up2_ne _ _ (by omega)).trans (hK i hi)⟩⟩
set_option maxHeartbeats 4000000 in
set_option maxRecDepth 100000 in
theorem c_X6_simple (l : Launch) (D : va_G) (Z : CZ) (A : Nat → Nat) (σ : St) (X F : Nat → Int32) (ck co : Int32) (K : Nat → Nat → Int32) (nn : Nat) (B : Nat → Int32) (L : Nat)  (g : Int32) (k : Int32) (w : Int32) (ha : absC σ X F ck co K nn B L) (hi : absI X K nn B L) : CTi l yX6_simple wsX6_simple 4 85 D Z (wC Z A) σ [.ref (A 0), .int (g), .int (k), .int (w)] (fun r σ' => r = ansV (smA X g k w) ∧ absC σ' X (ansF F (smA X g k w)) ck co K nn B L) := by
  refine CTi.mk (cc := cX6_simple) (nL := 4) (own := RX6) rfl (by decide) rfl (Nat.le_of_ble_eq_true rfl) ?_
  intro p0 e0 s0 m0 g0 b0 t0 c0 A0 Q C hret
  obtain ⟨rfl, rfl, rfl, rfl, rfl, ⟨o9, p9, hT⟩, dd, hdd, hd, hn, hK⟩ := ha
  obtain ⟨hOK, hOKK, hnn, hL, hB⟩ := hi
  refine cw_lv (lv' := [(0, .ref (A 0)), (1, .int (g)), (2, .int (k)), (3, .int (w))]) [0, 1, 2, 3] rfl ?_
  refine cw_iload_n (pc := 0) C dX6_simple_0 rfl 1 rfl ?_
  refine cw_iload_n (pc := 1) C dX6_simple_1 rfl 2 rfl ?_
  refine cw_calls (pc := 2) C dX6_simple_2 (c_X6_arePair l D Z A σ g k) (va_cwS 2 C.1.2.2.2.2 gX6_simple_X6_arePair rfl rfl rfl (by decide +kernel) ⟨Nat.le_of_ble_eq_true rfl, Nat.le_of_ble_eq_true rfl⟩) rfl rfl (Nat.le_of_ble_eq_true rfl) (cw_purez (b := pairB g k) (fun _ _ h => h) ?_)
  refine cw_if_ne (pc := 5) (tgt := 15) C dX6_simple_5 (by decide) (fun h5 => ?_) (fun h5 => ?_)
  · -- 5 t
    have h5 := bI_nz h5
    obtain ⟨j1, j2, ha1, ha2, hb1, hb2, hne, rfl, rfl⟩ := pairB_t h5
    have hj1 : tN (nI j1) = j1 := tN_N (by omega)
    have hj2 : tN (nI j2) = j2 := tN_N (by omega)
    refine cw_iload_n (pc := 15) C dX6_simple_15 rfl 3 rfl ?_
    by_cases q16_0 : w = nI 0
    · -- case 0
      subst q16_0
      refine cw_tableIn (pc := 16) (off := 28) (tgt := 44) C dX6_simple_16 (by decide) (by decide) (by decide +kernel) (by decide) ?_
      refine cw_aload_n (pc := 44) C dX6_simple_44 rfl 0 rfl ?_
      refine cw_get (pc := 45) C dX6_simple_45 0 (v := .ref (A 3)) rfl rfl 2 rfl (fun _ h => List.mem_cons_of_mem _ (List.mem_append_left _ (List.mem_append_right _ h))) (by decide) (List.mem_of_getElem? (i := 1) rfl) ?_
      refine cw_iload_n (pc := 48) C dX6_simple_48 rfl 1 rfl ?_
      refine cw_iload_n (pc := 49) C dX6_simple_49 rfl 2 rfl ?_
      refine cw_calli (pc := 50) C dX6_simple_50 (c_X1_isSimple l D Z A σ j1 j2 (by omega) (by omega)) (cwV 2 C.1.2.2.2.2 gX6_simple_X1_isSimple rfl rfl rfl (by decide +kernel) ⟨Nat.le_of_ble_eq_true rfl, Nat.le_of_ble_eq_true rfl⟩) 3 rfl rfl rfl rfl (Nat.le_of_ble_eq_true rfl) (cw_purez (b := simN (σ 1) j1 j2) (fun _ _ h => h) ?_)
      refine cw_if_eq (pc := 53) (tgt := 60) C dX6_simple_53 (by decide) (fun h53 => ?_) (fun h53 => ?_)
      · -- 53 t
        have h53 := bI_z h53
        refine cw_iconst (pc := 60) C dX6_simple_60 (nI 0) (by decide) ?_
        refine hret (nI 0) σ _ _ dX6_simple_61 ?_
        clear hret
        have hq : smA (σ 1) (nI j1) (nI j2) (nI 0) = .inl (nI 0) := by first | (rw [smA, if_pos h5, if_pos rfl, hj1, hj2, h53]; done) | (rw [smA, if_pos h5, if_pos rfl, hj1, hj2, h53]; rfl)
        rw [hq]
        exact ⟨rfl, ⟨rfl, rfl, rfl, rfl, rfl, ⟨o9, p9, hT⟩, dd, hdd, hd, hn, hK⟩⟩
      · -- 53 f
        have h53 := bI_nz h53
        refine cw_iconst (pc := 56) C dX6_simple_56 (nI 1) (by decide) ?_
        refine cw_goto (pc := 57) (tgt := 61) C dX6_simple_57 (by decide) ?_
        refine hret (nI 1) σ _ _ dX6_simple_61 ?_
        clear hret
        have hq : smA (σ 1) (nI j1) (nI j2) (nI 0) = .inl (nI 1) := by first | (rw [smA, if_pos h5, if_pos rfl, hj1, hj2, h53]; done) | (rw [smA, if_pos h5, if_pos rfl, hj1, hj2, h53]; rfl)
        rw [hq]
        exact ⟨rfl, ⟨rfl, rfl, rfl, rfl, rfl, ⟨o9, p9, hT⟩, dd, hdd, hd, hn, hK⟩⟩
    by_cases q16_1 : w = nI 1
    · -- case 1
      subst q16_1
      refine cw_tableIn (pc := 16) (off := 46) (tgt := 62) C dX6_simple_16 (by decide) (by decide) (by decide +kernel) (by decide) ?_
      refine cw_aload_n (pc := 62) C dX6_simple_62 rfl 0 rfl ?_
      refine cw_get (pc := 63) C dX6_simple_63 0 (v := .ref (A 3)) rfl rfl 2 rfl (fun _ h => List.mem_cons_of_mem _ (List.mem_append_left _ (List.mem_append_right _ h))) (by decide) (List.mem_of_getElem? (i := 1) rfl) ?_
      refine cw_iload_n (pc := 66) C dX6_simple_66 rfl 1 rfl ?_
      refine cw_iload_n (pc := 67) C dX6_simple_67 rfl 2 rfl ?_
      refine cw_calli (pc := 68) C dX6_simple_68 (c_X1_coming l D Z A σ j1 j2 hOK.1 (by omega) (by omega)) (cwV 2 C.1.2.2.2.2 gX6_simple_X1_coming rfl rfl rfl (by decide +kernel) ⟨Nat.le_of_ble_eq_true rfl, Nat.le_of_ble_eq_true rfl⟩) 3 rfl rfl rfl rfl (Nat.le_of_ble_eq_true rfl) (cw_pure (v := comN (σ 1) j1 j2) (fun _ _ h => h) ?_)
      refine hret (comN (σ 1) j1 j2) σ _ _ dX6_simple_71 ?_
      clear hret
      have hq : smA (σ 1) (nI j1) (nI j2) (nI 1) = .inl (comN (σ 1) j1 j2) := by first | (rw [smA, if_pos h5, if_neg q16_0, if_pos rfl, hj1, hj2]; done) | (rw [smA, if_pos h5, if_neg q16_0, if_pos rfl, hj1, hj2]; rfl)
      rw [hq]
      exact ⟨rfl, ⟨rfl, rfl, rfl, rfl, rfl, ⟨o9, p9, hT⟩, dd, hdd, hd, hn, hK⟩⟩
    by_cases q16_2 : w = nI 2
    · -- case 2
      subst q16_2
      refine cw_tableIn (pc := 16) (off := 56) (tgt := 72) C dX6_simple_16 (by decide) (by decide) (by decide +kernel) (by decide) ?_
      refine cw_aload_n (pc := 72) C dX6_simple_72 rfl 0 rfl ?_
      refine cw_get (pc := 73) C dX6_simple_73 0 (v := .ref (A 3)) rfl rfl 2 rfl (fun _ h => List.mem_cons_of_mem _ (List.mem_append_left _ (List.mem_append_right _ h))) (by decide) (List.mem_of_getElem? (i := 1) rfl) ?_
      refine cw_iload_n (pc := 76) C dX6_simple_76 rfl 2 rfl ?_
      refine cw_iload_n (pc := 77) C dX6_simple_77 rfl 1 rfl ?_
      refine cw_calli (pc := 78) C dX6_simple_78 (c_X1_coming l D Z A σ j2 j1 hOK.1 (by omega) (by omega)) (cwV 2 C.1.2.2.2.2 gX6_simple_X1_coming rfl rfl rfl (by decide +kernel) ⟨Nat.le_of_ble_eq_true rfl, Nat.le_of_ble_eq_true rfl⟩) 3 rfl rfl rfl rfl (Nat.le_of_ble_eq_true rfl) (cw_pure (v := comN (σ 1) j2 j1) (fun _ _ h => h) ?_)
      refine hret (comN (σ 1) j2 j1) σ _ _ dX6_simple_81 ?_
      clear hret
      have hq : smA (σ 1) (nI j1) (nI j2) (nI 2) = .inl (comN (σ 1) j2 j1) := by first | (rw [smA, if_pos h5, if_neg q16_0, if_neg q16_1, if_pos rfl, hj1, hj2]; done) | (rw [smA, if_pos h5, if_neg q16_0, if_neg q16_1, if_pos rfl, hj1, hj2]; rfl)
      rw [hq]
      exact ⟨rfl, ⟨rfl, rfl, rfl, rfl, rfl, ⟨o9, p9, hT⟩, dd, hdd, hd, hn, hK⟩⟩
    refine cw_tableOut (pc := 16) (tgt := 82) C dX6_simple_16 (tsw_out (lo := 0) (n := 3) (fun k hk => by rcases (show k = 0 ∨ k = 1 ∨ k = 2 by omega) with rfl | rfl | rfl <;> assumption)) (by decide) ?_
    refine cw_aload_n (pc := 82) C dX6_simple_82 rfl 0 rfl ?_
    refine cw_bipush (pc := 83) C dX6_simple_83 (-2) (by decide) ?_
    refine cw_calli (pc := 85) C dX6_simple_85 (c_X6_refusal0 l D Z A σ ) (cwV 1 C.1.2.2.2.2 gX6_simple_X6_refusal rfl rfl rfl (by decide +kernel) ⟨Nat.le_of_ble_eq_true rfl, Nat.le_of_ble_eq_true rfl⟩) 0 rfl rfl rfl rfl (Nat.le_of_ble_eq_true rfl) (cw_eff (v := (-2)) (fun _ _ h => h) (up2 σ 2 (cntF (σ 2) 0)) rfl ?_)
    refine hret (-2) (up2 σ 2 (cntF (σ 2) 0)) _ _ dX6_simple_88 ?_
    clear hret
    have hq : smA (σ 1) (nI j1) (nI j2) w = .inr 0 := by first | (rw [smA, if_pos h5, if_neg q16_0, if_neg q16_1, if_neg q16_2]; done) | (rw [smA, if_pos h5, if_neg q16_0, if_neg q16_1, if_neg q16_2]; rfl)
    rw [hq]
    exact ⟨rfl, ⟨rfl, rfl, rfl, rfl, rfl, ⟨o9, p9, hT⟩, dd, hdd, hd, hn, fun i hi => (up2_ne _ _ (by omega)).trans (hK i hi)⟩⟩
  · -- 5 f
    have h5 := bI_z h5
    refine cw_aload_n (pc := 8) C dX6_simple_8 rfl 0 rfl ?_
    refine cw_bipush (pc := 9) C dX6_simple_9 (-2) (by decide) ?_
    refine cw_calli (pc := 11) C dX6_simple_11 (c_X6_refusal0 l D Z A σ ) (cwV 1 C.1.2.2.2.2 gX6_simple_X6_refusal rfl rfl rfl (by decide +kernel) ⟨Nat.le_of_ble_eq_true rfl, Nat.le_of_ble_eq_true rfl⟩) 0 rfl rfl rfl rfl (Nat.le_of_ble_eq_true rfl) (cw_eff (v := (-2)) (fun _ _ h => h) (up2 σ 2 (cntF (σ 2) 0)) rfl ?_)
    refine hret (-2) (up2 σ 2 (cntF (σ 2) 0)) _ _ dX6_simple_14 ?_
    clear hret
    have hq : smA (σ 1) g k w = .inr 0 := by first | (rw [smA, h5, if_neg (by decide)]; done) | (rw [smA, h5, if_neg (by decide)]; rfl)
    rw [hq]
    exact ⟨rfl, ⟨rfl, rfl, rfl, rfl, rfl, ⟨o9, p9, hT⟩, dd, hdd, hd, hn, fun i hi => (up2_ne _ _ (by omega)).trans (hK i hi)⟩⟩
set_option maxHeartbeats 4000000 in
set_option maxRecDepth 100000 in
theorem c_X6_way (l : Launch) (D : va_G) (Z : CZ) (A : Nat → Nat) (σ : St) (X F : Nat → Int32) (ck co : Int32) (K : Nat → Nat → Int32) (nn : Nat) (B : Nat → Int32) (L : Nat)  (g : Int32) (k : Int32) (i : Int32) (ha : absC σ X F ck co K nn B L) (hi : absI X K nn B L) : CTi l yX6_way wsX6_way 4 90 D Z (wC Z A) σ [.ref (A 0), .int (g), .int (k), .int (i)] (fun r σ' => r = ansV (wyA X g k i) ∧ absC σ' X (ansF F (wyA X g k i)) ck co K nn B L) := by
  refine CTi.mk (cc := cX6_way) (nL := 5) (own := RX6) rfl (by decide) rfl (Nat.le_of_ble_eq_true rfl) ?_
  intro p0 e0 s0 m0 g0 b0 t0 c0 A0 Q C hret
  obtain ⟨rfl, rfl, rfl, rfl, rfl, ⟨o9, p9, hT⟩, dd, hdd, hd, hn, hK⟩ := ha
  obtain ⟨hOK, hOKK, hnn, hL, hB⟩ := hi
  refine cw_lv (lv' := [(0, .ref (A 0)), (1, .int (g)), (2, .int (k)), (3, .int (i))]) [0, 1, 2, 3] rfl ?_
  refine cw_iload_n (pc := 0) C dX6_way_0 rfl 1 rfl ?_
  refine cw_iload_n (pc := 1) C dX6_way_1 rfl 2 rfl ?_
  refine cw_calls (pc := 2) C dX6_way_2 (c_X6_arePair l D Z A σ g k) (va_cwS 2 C.1.2.2.2.2 gX6_way_X6_arePair rfl rfl rfl (by decide +kernel) ⟨Nat.le_of_ble_eq_true rfl, Nat.le_of_ble_eq_true rfl⟩) rfl rfl (Nat.le_of_ble_eq_true rfl) (cw_purez (b := pairB g k) (fun _ _ h => h) ?_)
  refine cw_if_eq (pc := 5) (tgt := 13) C dX6_way_5 (by decide) (fun h5 => ?_) (fun h5 => ?_)
  · -- 5 t
    have h5 := bI_z h5
    refine cw_aload_n (pc := 13) C dX6_way_13 rfl 0 rfl ?_
    refine cw_bipush (pc := 14) C dX6_way_14 (-2) (by decide) ?_
    refine cw_calli (pc := 16) C dX6_way_16 (c_X6_refusal0 l D Z A σ ) (cwV 1 C.1.2.2.2.2 gX6_way_X6_refusal rfl rfl rfl (by decide +kernel) ⟨Nat.le_of_ble_eq_true rfl, Nat.le_of_ble_eq_true rfl⟩) 0 rfl rfl rfl rfl (Nat.le_of_ble_eq_true rfl) (cw_eff (v := (-2)) (fun _ _ h => h) (up2 σ 2 (cntF (σ 2) 0)) rfl ?_)
    refine hret (-2) (up2 σ 2 (cntF (σ 2) 0)) _ _ dX6_way_19 ?_
    clear hret
    have hq : wyA (σ 1) g k i = .inr 0 := by first | (rw [wyA, if_neg (fun q => absurd q.1 (by rw [h5]; decide))]; done) | (rw [wyA, if_neg (fun q => absurd q.1 (by rw [h5]; decide))]; rfl)
    rw [hq]
    exact ⟨rfl, ⟨rfl, rfl, rfl, rfl, rfl, ⟨o9, p9, hT⟩, dd, hdd, hd, hn, fun i hi => (up2_ne _ _ (by omega)).trans (hK i hi)⟩⟩
  · -- 5 f
    have h5 := bI_nz h5
    obtain ⟨j1, j2, ha1, ha2, hb1, hb2, hne, rfl, rfl⟩ := pairB_t h5
    have hj1 : tN (nI j1) = j1 := tN_N (by omega)
    have hj2 : tN (nI j2) = j2 := tN_N (by omega)
    refine cw_iload_n (pc := 8) C dX6_way_8 rfl 3 rfl ?_
    refine cw_iconst (pc := 9) C dX6_way_9 (-1) (by decide) ?_
    refine cw_icmp_ge (pc := 10) (tgt := 20) C dX6_way_10 (by decide) (fun h10 => ?_) (fun h10 => ?_)
    · -- 10 t
      refine cw_aload_n (pc := 20) C dX6_way_20 rfl 0 rfl ?_
      refine cw_get (pc := 21) C dX6_way_21 0 (v := .ref (A 3)) rfl rfl 2 rfl (fun _ h => List.mem_cons_of_mem _ (List.mem_append_left _ (List.mem_append_right _ h))) (by decide) (List.mem_of_getElem? (i := 1) rfl) ?_
      refine cw_iload_n (pc := 24) C dX6_way_24 rfl 1 rfl ?_
      refine cw_calli (pc := 25) C dX6_way_25 (c_X1_isFitN l D Z A σ j1 (by omega)) (cwV 1 C.1.2.2.2.2 gX6_way_X1_isFit rfl rfl rfl (by decide +kernel) ⟨Nat.le_of_ble_eq_true rfl, Nat.le_of_ble_eq_true rfl⟩) 3 rfl rfl rfl rfl (Nat.le_of_ble_eq_true rfl) (cw_purez (b := fitN (σ 1) j1) (fun _ _ h => h) ?_)
      refine cw_if_eq (pc := 28) (tgt := 42) C dX6_way_28 (by decide) (fun h28 => ?_) (fun h28 => ?_)
      · -- 28 t
        have h28 := bI_z h28
        refine cw_aload_n (pc := 42) C dX6_way_42 rfl 0 rfl ?_
        refine cw_bipush (pc := 43) C dX6_way_43 (-3) (by decide) ?_
        refine cw_calli (pc := 45) C dX6_way_45 (c_X6_refusal1 l D Z A σ ) (cwV 1 C.1.2.2.2.2 gX6_way_X6_refusal rfl rfl rfl (by decide +kernel) ⟨Nat.le_of_ble_eq_true rfl, Nat.le_of_ble_eq_true rfl⟩) 0 rfl rfl rfl rfl (Nat.le_of_ble_eq_true rfl) (cw_eff (v := (-3)) (fun _ _ h => h) (up2 σ 2 (cntF (σ 2) 1)) rfl ?_)
        refine hret (-3) (up2 σ 2 (cntF (σ 2) 1)) _ _ dX6_way_48 ?_
        clear hret
        have hq : wyA (σ 1) (nI j1) (nI j2) i = .inr 1 := by first | (rw [wyA, if_pos ⟨h5, h10⟩, hj1, hj2, if_neg (fun q => absurd q.1 (by rw [h28]; decide))]; done) | (rw [wyA, if_pos ⟨h5, h10⟩, hj1, hj2, if_neg (fun q => absurd q.1 (by rw [h28]; decide))]; rfl)
        rw [hq]
        exact ⟨rfl, ⟨rfl, rfl, rfl, rfl, rfl, ⟨o9, p9, hT⟩, dd, hdd, hd, hn, fun i hi => (up2_ne _ _ (by omega)).trans (hK i hi)⟩⟩
      · -- 28 f
        have h28 := bI_nz h28
        refine cw_aload_n (pc := 31) C dX6_way_31 rfl 0 rfl ?_
        refine cw_get (pc := 32) C dX6_way_32 0 (v := .ref (A 3)) rfl rfl 2 rfl (fun _ h => List.mem_cons_of_mem _ (List.mem_append_left _ (List.mem_append_right _ h))) (by decide) (List.mem_of_getElem? (i := 1) rfl) ?_
        refine cw_iload_n (pc := 35) C dX6_way_35 rfl 2 rfl ?_
        refine cw_calli (pc := 36) C dX6_way_36 (c_X1_isFitN l D Z A σ j2 (by omega)) (cwV 1 C.1.2.2.2.2 gX6_way_X1_isFit rfl rfl rfl (by decide +kernel) ⟨Nat.le_of_ble_eq_true rfl, Nat.le_of_ble_eq_true rfl⟩) 3 rfl rfl rfl rfl (Nat.le_of_ble_eq_true rfl) (cw_purez (b := fitN (σ 1) j2) (fun _ _ h => h) ?_)
        refine cw_if_ne (pc := 39) (tgt := 49) C dX6_way_39 (by decide) (fun h39 => ?_) (fun h39 => ?_)
        · -- 39 t
          have h39 := bI_nz h39
          refine cw_aload_n (pc := 49) C dX6_way_49 rfl 0 rfl ?_
          refine cw_get (pc := 50) C dX6_way_50 0 (v := .ref (A 3)) rfl rfl 2 rfl (fun _ h => List.mem_cons_of_mem _ (List.mem_append_left _ (List.mem_append_right _ h))) (by decide) (List.mem_of_getElem? (i := 1) rfl) ?_
          refine cw_iload_n (pc := 53) C dX6_way_53 rfl 1 rfl ?_
          refine cw_iload_n (pc := 54) C dX6_way_54 rfl 2 rfl ?_
          refine cw_calli (pc := 55) C dX6_way_55 (c_X1_findWay l D Z A σ j1 j2 (by omega) (by omega) (by omega)) (cwV 2 C.1.2.2.2.2 gX6_way_X1_findWay rfl rfl rfl (by decide +kernel) ⟨Nat.le_of_ble_eq_true rfl, Nat.le_of_ble_eq_true rfl⟩) 3 rfl rfl rfl rfl (Nat.le_of_ble_eq_true rfl) (fun r σ1 hr => ?_)
          obtain ⟨rfl, aw, pa, rfl, hpa⟩ := hr
          have hs : wyN (σ 1) j1 j2 ≤ 6 := wayN_le _ _ _ _
          generalize hN : wyN (σ 1) j1 j2 = N at hpa hs ⊢
          refine cw_istore (pc := 58) C dX6_way_58 (by decide) (lv' := [(4, .int (nI N)), (0, .ref (A 0)), (1, .int (nI j1)), (2, .int (nI j2)), (3, .int (i))]) rfl ?_
          refine cw_iload (pc := 60) C dX6_way_60 0 rfl ?_
          refine cw_if_eq (pc := 62) (tgt := 71) C dX6_way_62 (by decide) (fun h62 => ?_) (fun h62 => ?_)
          · -- 62 t
            have h62 : N = 0 := (nc_eq (a := N) (b := 0) (by omega) (by omega)).mp h62
            refine cw_bipush (pc := 71) C dX6_way_71 (-5) (by decide) ?_
            refine hret (-5) (up2 (up2 σ 4 aw) 5 pa) _ _ dX6_way_73 ?_
            clear hret
            have hq : wyA (σ 1) (nI j1) (nI j2) i = .inl ((-5)) := by first | (rw [wyA, if_pos ⟨h5, h10⟩, hj1, hj2, if_pos ⟨h28, h39⟩, hN, if_pos (Or.inl h62)]; done) | (rw [wyA, if_pos ⟨h5, h10⟩, hj1, hj2, if_pos ⟨h28, h39⟩, hN, if_pos (Or.inl h62)]; rfl)
            rw [hq]
            exact ⟨rfl, ⟨rfl, rfl, rfl, rfl, rfl, ⟨o9, p9, hT⟩, dd, hdd, hd, hn, fun i hi => (up2_ne _ _ (by omega)).trans ((up2_ne _ _ (by omega)).trans (hK i hi))⟩⟩
          · -- 62 f
            have h62 : ¬ (N = 0) := fun qq => h62 ((nc_eq (a := N) (b := 0) (by omega) (by omega)).mpr qq)
            refine cw_iload_n (pc := 65) C dX6_way_65 rfl 4 rfl ?_
            refine cw_iload (pc := 66) C dX6_way_66 0 rfl ?_
            refine cw_icmp_lt (pc := 68) (tgt := 74) C dX6_way_68 (by decide) (fun h68 => ?_) (fun h68 => ?_)
            · -- 68 t
              refine cw_iload_n (pc := 74) C dX6_way_74 rfl 4 rfl ?_
              refine cw_iconst (pc := 75) C dX6_way_75 (-1) (by decide) ?_
              refine cw_icmp_ne (pc := 76) (tgt := 84) C dX6_way_76 (by decide) (fun h76 => ?_) (fun h76 => ?_)
              · -- 76 t
                obtain ⟨m1, hm1, rfl⟩ := way_ix (by omega) h10 h76 h68
                refine cw_aload_n (pc := 84) C dX6_way_84 rfl 1 rfl ?_
                refine cw_get (pc := 85) C dX6_way_85 0 (v := .ref (A 3)) rfl rfl 2 rfl (fun _ h => List.mem_cons_of_mem _ (List.mem_append_left _ (List.mem_append_right _ h))) (by decide) (List.mem_of_getElem? (i := 1) rfl) ?_
                refine cw_iload_n (pc := 88) C dX6_way_88 rfl 4 rfl ?_
                have hf5 : (up2 (up2 σ 4 aw) 5 pa) 5 = pa := (up2_eq _ _ _)
                have ev0 := congrArg (fun qz => qz m1) hf5
                refine cw_calli (pc := 89) C dX6_way_89 (c_X1_onWay l D Z A (up2 (up2 σ 4 aw) 5 pa) m1 (by omega)) (cwV 1 C.1.2.2.2.2 gX6_way_X1_onWay rfl rfl rfl (by decide +kernel) ⟨Nat.le_of_ble_eq_true rfl, Nat.le_of_ble_eq_true rfl⟩) 3 rfl rfl rfl rfl (Nat.le_of_ble_eq_true rfl) (cw_pure (v := pa m1) (fun _ _ h => ⟨h.1.trans (ev0), h.2⟩) ?_)
                refine hret (pa m1) (up2 (up2 σ 4 aw) 5 pa) _ _ dX6_way_92 ?_
                clear hret
                have hq : wyA (σ 1) (nI j1) (nI j2) (nI m1) = .inl (pa m1) := by first | (rw [wyA, if_pos ⟨h5, h10⟩, hj1, hj2, if_pos ⟨h28, h39⟩, hN, if_neg (by rintro (z | z); exact h62 z; exact absurd h68 (Int32.not_lt.mpr z)), if_neg h76, tN_N (by omega), ← hpa m1 hm1]; done) | (rw [wyA, if_pos ⟨h5, h10⟩, hj1, hj2, if_pos ⟨h28, h39⟩, hN, if_neg (by rintro (z | z); exact h62 z; exact absurd h68 (Int32.not_lt.mpr z)), if_neg h76, tN_N (by omega), ← hpa m1 hm1]; rfl)
                rw [hq]
                exact ⟨rfl, ⟨rfl, rfl, rfl, rfl, rfl, ⟨o9, p9, hT⟩, dd, hdd, hd, hn, fun i hi => (up2_ne _ _ (by omega)).trans ((up2_ne _ _ (by omega)).trans (hK i hi))⟩⟩
              · -- 76 f
                refine cw_iload (pc := 79) C dX6_way_79 0 rfl ?_
                refine cw_goto (pc := 81) (tgt := 92) C dX6_way_81 (by decide) ?_
                refine hret (nI N) (up2 (up2 σ 4 aw) 5 pa) _ _ dX6_way_92 ?_
                clear hret
                have hq : wyA (σ 1) (nI j1) (nI j2) i = .inl (nI N) := by first | (rw [wyA, if_pos ⟨h5, h10⟩, hj1, hj2, if_pos ⟨h28, h39⟩, hN, if_neg (by rintro (z | z); exact h62 z; exact absurd h68 (Int32.not_lt.mpr z)), if_pos h76]; done) | (rw [wyA, if_pos ⟨h5, h10⟩, hj1, hj2, if_pos ⟨h28, h39⟩, hN, if_neg (by rintro (z | z); exact h62 z; exact absurd h68 (Int32.not_lt.mpr z)), if_pos h76]; rfl)
                rw [hq]
                exact ⟨rfl, ⟨rfl, rfl, rfl, rfl, rfl, ⟨o9, p9, hT⟩, dd, hdd, hd, hn, fun i hi => (up2_ne _ _ (by omega)).trans ((up2_ne _ _ (by omega)).trans (hK i hi))⟩⟩
            · -- 68 f
              refine cw_bipush (pc := 71) C dX6_way_71 (-5) (by decide) ?_
              refine hret (-5) (up2 (up2 σ 4 aw) 5 pa) _ _ dX6_way_73 ?_
              clear hret
              have hq : wyA (σ 1) (nI j1) (nI j2) i = .inl ((-5)) := by first | (rw [wyA, if_pos ⟨h5, h10⟩, hj1, hj2, if_pos ⟨h28, h39⟩, hN, if_pos (Or.inr (Int32.not_lt.mp h68))]; done) | (rw [wyA, if_pos ⟨h5, h10⟩, hj1, hj2, if_pos ⟨h28, h39⟩, hN, if_pos (Or.inr (Int32.not_lt.mp h68))]; rfl)
              rw [hq]
              exact ⟨rfl, ⟨rfl, rfl, rfl, rfl, rfl, ⟨o9, p9, hT⟩, dd, hdd, hd, hn, fun i hi => (up2_ne _ _ (by omega)).trans ((up2_ne _ _ (by omega)).trans (hK i hi))⟩⟩
        · -- 39 f
          have h39 := bI_z h39
          refine cw_aload_n (pc := 42) C dX6_way_42 rfl 0 rfl ?_
          refine cw_bipush (pc := 43) C dX6_way_43 (-3) (by decide) ?_
          refine cw_calli (pc := 45) C dX6_way_45 (c_X6_refusal1 l D Z A σ ) (cwV 1 C.1.2.2.2.2 gX6_way_X6_refusal rfl rfl rfl (by decide +kernel) ⟨Nat.le_of_ble_eq_true rfl, Nat.le_of_ble_eq_true rfl⟩) 0 rfl rfl rfl rfl (Nat.le_of_ble_eq_true rfl) (cw_eff (v := (-3)) (fun _ _ h => h) (up2 σ 2 (cntF (σ 2) 1)) rfl ?_)
          refine hret (-3) (up2 σ 2 (cntF (σ 2) 1)) _ _ dX6_way_48 ?_
          clear hret
          have hq : wyA (σ 1) (nI j1) (nI j2) i = .inr 1 := by first | (rw [wyA, if_pos ⟨h5, h10⟩, hj1, hj2, if_neg (fun q => absurd q.2 (by rw [h39]; decide))]; done) | (rw [wyA, if_pos ⟨h5, h10⟩, hj1, hj2, if_neg (fun q => absurd q.2 (by rw [h39]; decide))]; rfl)
          rw [hq]
          exact ⟨rfl, ⟨rfl, rfl, rfl, rfl, rfl, ⟨o9, p9, hT⟩, dd, hdd, hd, hn, fun i hi => (up2_ne _ _ (by omega)).trans (hK i hi)⟩⟩
    · -- 10 f
      refine cw_aload_n (pc := 13) C dX6_way_13 rfl 0 rfl ?_
      refine cw_bipush (pc := 14) C dX6_way_14 (-2) (by decide) ?_
      refine cw_calli (pc := 16) C dX6_way_16 (c_X6_refusal0 l D Z A σ ) (cwV 1 C.1.2.2.2.2 gX6_way_X6_refusal rfl rfl rfl (by decide +kernel) ⟨Nat.le_of_ble_eq_true rfl, Nat.le_of_ble_eq_true rfl⟩) 0 rfl rfl rfl rfl (Nat.le_of_ble_eq_true rfl) (cw_eff (v := (-2)) (fun _ _ h => h) (up2 σ 2 (cntF (σ 2) 0)) rfl ?_)
      refine hret (-2) (up2 σ 2 (cntF (σ 2) 0)) _ _ dX6_way_19 ?_
      clear hret
      have hq : wyA (σ 1) (nI j1) (nI j2) i = .inr 0 := by first | (rw [wyA, if_neg (fun q => h10 q.2)]; done) | (rw [wyA, if_neg (fun q => h10 q.2)]; rfl)
      rw [hq]
      exact ⟨rfl, ⟨rfl, rfl, rfl, rfl, rfl, ⟨o9, p9, hT⟩, dd, hdd, hd, hn, fun i hi => (up2_ne _ _ (by omega)).trans (hK i hi)⟩⟩
set_option maxHeartbeats 4000000 in
set_option maxRecDepth 100000 in
theorem c_X6_over (l : Launch) (D : va_G) (Z : CZ) (A : Nat → Nat) (σ : St) (X F : Nat → Int32) (ck co : Int32) (K : Nat → Nat → Int32) (nn : Nat) (B : Nat → Int32) (L : Nat)  (g : Int32) (k : Int32) (t : Int32) (ha : absC σ X F ck co K nn B L) (hi : absI X K nn B L) : CTi l yX6_over wsX6_over 4 85 D Z (wC Z A) σ [.ref (A 0), .int (g), .int (k), .int (t)] (fun r σ' => r = ansV (ovA X g k t) ∧ absC σ' X (ansF F (ovA X g k t)) ck co K nn B L) := by
  refine CTi.mk (cc := cX6_over) (nL := 5) (own := RX6) rfl (by decide) rfl (Nat.le_of_ble_eq_true rfl) ?_
  intro p0 e0 s0 m0 g0 b0 t0 c0 A0 Q C hret
  obtain ⟨rfl, rfl, rfl, rfl, rfl, ⟨o9, p9, hT⟩, dd, hdd, hd, hn, hK⟩ := ha
  obtain ⟨hOK, hOKK, hnn, hL, hB⟩ := hi
  refine cw_lv (lv' := [(0, .ref (A 0)), (1, .int (g)), (2, .int (k)), (3, .int (t))]) [0, 1, 2, 3] rfl ?_
  refine cw_iload_n (pc := 0) C dX6_over_0 rfl 1 rfl ?_
  refine cw_iload_n (pc := 1) C dX6_over_1 rfl 2 rfl ?_
  refine cw_calls (pc := 2) C dX6_over_2 (c_X6_arePair l D Z A σ g k) (va_cwS 2 C.1.2.2.2.2 gX6_over_X6_arePair rfl rfl rfl (by decide +kernel) ⟨Nat.le_of_ble_eq_true rfl, Nat.le_of_ble_eq_true rfl⟩) rfl rfl (Nat.le_of_ble_eq_true rfl) (cw_purez (b := pairB g k) (fun _ _ h => h) ?_)
  refine cw_if_eq (pc := 5) (tgt := 18) C dX6_over_5 (by decide) (fun h5 => ?_) (fun h5 => ?_)
  · -- 5 t
    have h5 := bI_z h5
    refine cw_aload_n (pc := 18) C dX6_over_18 rfl 0 rfl ?_
    refine cw_bipush (pc := 19) C dX6_over_19 (-2) (by decide) ?_
    refine cw_calli (pc := 21) C dX6_over_21 (c_X6_refusal0 l D Z A σ ) (cwV 1 C.1.2.2.2.2 gX6_over_X6_refusal rfl rfl rfl (by decide +kernel) ⟨Nat.le_of_ble_eq_true rfl, Nat.le_of_ble_eq_true rfl⟩) 0 rfl rfl rfl rfl (Nat.le_of_ble_eq_true rfl) (cw_eff (v := (-2)) (fun _ _ h => h) (up2 σ 2 (cntF (σ 2) 0)) rfl ?_)
    refine hret (-2) (up2 σ 2 (cntF (σ 2) 0)) _ _ dX6_over_24 ?_
    clear hret
    have hq : ovA (σ 1) g k t = .inr 0 := by first | (rw [ovA, if_neg (fun q => absurd q.1 (by rw [h5]; decide))]; done) | (rw [ovA, if_neg (fun q => absurd q.1 (by rw [h5]; decide))]; rfl)
    rw [hq]
    exact ⟨rfl, ⟨rfl, rfl, rfl, rfl, rfl, ⟨o9, p9, hT⟩, dd, hdd, hd, hn, fun i hi => (up2_ne _ _ (by omega)).trans (hK i hi)⟩⟩
  · -- 5 f
    have h5 := bI_nz h5
    obtain ⟨j1, j2, ha1, ha2, hb1, hb2, hne, rfl, rfl⟩ := pairB_t h5
    have hj1 : tN (nI j1) = j1 := tN_N (by omega)
    have hj2 : tN (nI j2) = j2 := tN_N (by omega)
    refine cw_iload_n (pc := 8) C dX6_over_8 rfl 3 rfl ?_
    refine cw_iconst (pc := 9) C dX6_over_9 (nI 0) (by decide) ?_
    refine cw_bipush (pc := 10) C dX6_over_10 (nI 40) (by decide) ?_
    refine cw_calls (pc := 12) C dX6_over_12 (c_X6_isWithin l D Z A σ t (nI 0) (nI 40)) (va_cwS 3 C.1.2.2.2.2 gX6_over_X6_isWithin rfl rfl rfl (by decide +kernel) ⟨Nat.le_of_ble_eq_true rfl, Nat.le_of_ble_eq_true rfl⟩) rfl rfl (Nat.le_of_ble_eq_true rfl) (cw_purez (b := withinB t (nI 0) (nI 40)) (fun _ _ h => h) ?_)
    refine cw_if_ne (pc := 15) (tgt := 25) C dX6_over_15 (by decide) (fun h15 => ?_) (fun h15 => ?_)
    · -- 15 t
      have h15 := bI_nz h15
      obtain ⟨t1, -, ht1, rfl⟩ := withinB_t (by decide) (by decide) h15
      have htn : tN (nI t1) = t1 := tN_N (by omega)
      refine cw_aload_n (pc := 25) C dX6_over_25 rfl 0 rfl ?_
      refine cw_get (pc := 26) C dX6_over_26 0 (v := .ref (A 3)) rfl rfl 2 rfl (fun _ h => List.mem_cons_of_mem _ (List.mem_append_left _ (List.mem_append_left _ (List.mem_append_right _ h)))) (by decide) (List.mem_of_getElem? (i := 1) rfl) ?_
      refine cw_iload_n (pc := 29) C dX6_over_29 rfl 1 rfl ?_
      refine cw_iload_n (pc := 30) C dX6_over_30 rfl 2 rfl ?_
      refine cw_calli (pc := 31) C dX6_over_31 (c_X1_coming l D Z A σ j1 j2 hOK.1 (by omega) (by omega)) (cwV 2 C.1.2.2.2.2 gX6_over_X1_coming rfl rfl rfl (by decide +kernel) ⟨Nat.le_of_ble_eq_true rfl, Nat.le_of_ble_eq_true rfl⟩) 3 rfl rfl rfl rfl (Nat.le_of_ble_eq_true rfl) (cw_pure (v := comN (σ 1) j1 j2) (fun _ _ h => h) ?_)
      refine cw_istore (pc := 34) C dX6_over_34 (by decide) (lv' := [(4, .int (comN (σ 1) j1 j2)), (0, .ref (A 0)), (1, .int (nI j1)), (2, .int (nI j2)), (3, .int (nI t1))]) rfl ?_
      refine cw_iload (pc := 36) C dX6_over_36 0 rfl ?_
      refine cw_calls (pc := 38) C dX6_over_38 (c_X6_isClutch l D Z A σ (comN (σ 1) j1 j2)) (va_cwS 1 C.1.2.2.2.2 gX6_over_X6_isClutch rfl rfl rfl (by decide +kernel) ⟨Nat.le_of_ble_eq_true rfl, Nat.le_of_ble_eq_true rfl⟩) rfl rfl (Nat.le_of_ble_eq_true rfl) (cw_purez (b := clB (comN (σ 1) j1 j2)) (fun _ _ h => h) ?_)
      refine cw_if_eq (pc := 41) (tgt := 61) C dX6_over_41 (by decide) (fun h41 => ?_) (fun h41 => ?_)
      · -- 41 t
        have h41 := bI_z h41
        have hsm := com_cl_f h41
        refine cw_aload_n (pc := 61) C dX6_over_61 rfl 1 rfl ?_
        refine cw_bipush (pc := 62) C dX6_over_62 (-3) (by decide) ?_
        refine cw_calli (pc := 64) C dX6_over_64 (c_X6_refusal1 l D Z A σ ) (cwV 1 C.1.2.2.2.2 gX6_over_X6_refusal rfl rfl rfl (by decide +kernel) ⟨Nat.le_of_ble_eq_true rfl, Nat.le_of_ble_eq_true rfl⟩) 0 rfl rfl rfl rfl (Nat.le_of_ble_eq_true rfl) (cw_eff (v := (-3)) (fun _ _ h => h) (up2 σ 2 (cntF (σ 2) 1)) rfl ?_)
        refine hret (-3) (up2 σ 2 (cntF (σ 2) 1)) _ _ dX6_over_67 ?_
        clear hret
        have hq : ovA (σ 1) (nI j1) (nI j2) (nI t1) = .inr 1 := by first | (rw [ovA, if_pos ⟨h5, h15⟩, hj1, hj2, hsm, if_neg (by decide)]; done) | (rw [ovA, if_pos ⟨h5, h15⟩, hj1, hj2, hsm, if_neg (by decide)]; rfl)
        rw [hq]
        exact ⟨rfl, ⟨rfl, rfl, rfl, rfl, rfl, ⟨o9, p9, hT⟩, dd, hdd, hd, hn, fun i hi => (up2_ne _ _ (by omega)).trans (hK i hi)⟩⟩
      · -- 41 f
        have h41 := bI_nz h41
        have hsm := com_cl_t h41
        rw [show comN (σ 1) j1 j2 = nI (comS ((σ 1) j1) ((σ 1) j2)) from if_pos hsm]
        have hR := rowOK_P hOK
        have hcm := comS_lt ((σ 1) j1) ((σ 1) j2)
        refine cw_aload_n (pc := 44) C dX6_over_44 rfl 1 rfl ?_
        refine cw_get (pc := 45) C dX6_over_45 0 (v := .ref (A 6)) rfl rfl 3 rfl (fun _ h => List.mem_cons_of_mem _ (List.mem_append_left _ (List.mem_append_left _ (List.mem_append_right _ h)))) (by decide) (List.mem_of_getElem? (i := 2) rfl) ?_
        refine cw_iload (pc := 48) C dX6_over_48 0 rfl ?_
        refine cw_iload_n (pc := 50) C dX6_over_50 rfl 4 rfl ?_
        refine cw_calli (pc := 51) C dX6_over_51 (c_X3_overAt l D Z A σ (comS ((σ 1) j1) ((σ 1) j2)) t1 hR hcm) (cwV 2 C.1.2.2.2.2 gX6_over_X3_overAt rfl rfl rfl (by decide +kernel) ⟨Nat.le_of_ble_eq_true rfl, Nat.le_of_ble_eq_true rfl⟩) 6 rfl rfl rfl rfl (Nat.le_of_ble_eq_true rfl) (cw_pure (v := ovN (σ 1) (comS ((σ 1) j1) ((σ 1) j2)) t1) (fun _ _ h => h) ?_)
        refine cw_sipush (pc := 54) C dX6_over_54 (nI 1000) (by decide) ?_
        refine cw_iadd (pc := 57) C dX6_over_57 (z := (ovN (σ 1) (comS ((σ 1) j1) ((σ 1) j2)) t1) + (nI 1000)) rfl ?_
        refine cw_goto (pc := 58) (tgt := 67) C dX6_over_58 (by decide) ?_
        refine hret ((ovN (σ 1) (comS ((σ 1) j1) ((σ 1) j2)) t1) + (nI 1000)) σ _ _ dX6_over_67 ?_
        clear hret
        have hq : ovA (σ 1) (nI j1) (nI j2) (nI t1) = .inl ((ovN (σ 1) (comS ((σ 1) j1) ((σ 1) j2)) t1) + (nI 1000)) := by first | (rw [ovA, if_pos ⟨h5, h15⟩, hj1, hj2, if_pos hsm, htn]; done) | (rw [ovA, if_pos ⟨h5, h15⟩, hj1, hj2, if_pos hsm, htn]; rfl)
        rw [hq]
        exact ⟨rfl, ⟨rfl, rfl, rfl, rfl, rfl, ⟨o9, p9, hT⟩, dd, hdd, hd, hn, hK⟩⟩
    · -- 15 f
      have h15 := bI_z h15
      refine cw_aload_n (pc := 18) C dX6_over_18 rfl 0 rfl ?_
      refine cw_bipush (pc := 19) C dX6_over_19 (-2) (by decide) ?_
      refine cw_calli (pc := 21) C dX6_over_21 (c_X6_refusal0 l D Z A σ ) (cwV 1 C.1.2.2.2.2 gX6_over_X6_refusal rfl rfl rfl (by decide +kernel) ⟨Nat.le_of_ble_eq_true rfl, Nat.le_of_ble_eq_true rfl⟩) 0 rfl rfl rfl rfl (Nat.le_of_ble_eq_true rfl) (cw_eff (v := (-2)) (fun _ _ h => h) (up2 σ 2 (cntF (σ 2) 0)) rfl ?_)
      refine hret (-2) (up2 σ 2 (cntF (σ 2) 0)) _ _ dX6_over_24 ?_
      clear hret
      have hq : ovA (σ 1) (nI j1) (nI j2) t = .inr 0 := by first | (rw [ovA, if_neg (fun q => absurd q.2 (by rw [h15]; decide))]; done) | (rw [ovA, if_neg (fun q => absurd q.2 (by rw [h15]; decide))]; rfl)
      rw [hq]
      exact ⟨rfl, ⟨rfl, rfl, rfl, rfl, rfl, ⟨o9, p9, hT⟩, dd, hdd, hd, hn, fun i hi => (up2_ne _ _ (by omega)).trans (hK i hi)⟩⟩
set_option maxHeartbeats 4000000 in
set_option maxRecDepth 100000 in
theorem c_X6_worst (l : Launch) (D : va_G) (Z : CZ) (A : Nat → Nat) (σ : St) (X F : Nat → Int32) (ck co : Int32) (K : Nat → Nat → Int32) (nn : Nat) (B : Nat → Int32) (L : Nat)  (g : Int32) (k : Int32) (w : Int32) (ha : absC σ X F ck co K nn B L) (hi : absI X K nn B L) : CTi l yX6_worst wsX6_worst 4 85 D Z (wC Z A) σ [.ref (A 0), .int (g), .int (k), .int (w)] (fun r σ' => r = ansV (wsA X g k w) ∧ absC σ' X (ansF F (wsA X g k w)) ck co K nn B L) := by
  refine CTi.mk (cc := cX6_worst) (nL := 5) (own := RX6) rfl (by decide) rfl (Nat.le_of_ble_eq_true rfl) ?_
  intro p0 e0 s0 m0 g0 b0 t0 c0 A0 Q C hret
  obtain ⟨rfl, rfl, rfl, rfl, rfl, ⟨o9, p9, hT⟩, dd, hdd, hd, hn, hK⟩ := ha
  obtain ⟨hOK, hOKK, hnn, hL, hB⟩ := hi
  refine cw_lv (lv' := [(0, .ref (A 0)), (1, .int (g)), (2, .int (k)), (3, .int (w))]) [0, 1, 2, 3] rfl ?_
  refine cw_iload_n (pc := 0) C dX6_worst_0 rfl 1 rfl ?_
  refine cw_iload_n (pc := 1) C dX6_worst_1 rfl 2 rfl ?_
  refine cw_calls (pc := 2) C dX6_worst_2 (c_X6_arePair l D Z A σ g k) (va_cwS 2 C.1.2.2.2.2 gX6_worst_X6_arePair rfl rfl rfl (by decide +kernel) ⟨Nat.le_of_ble_eq_true rfl, Nat.le_of_ble_eq_true rfl⟩) rfl rfl (Nat.le_of_ble_eq_true rfl) (cw_purez (b := pairB g k) (fun _ _ h => h) ?_)
  refine cw_if_eq (pc := 5) (tgt := 17) C dX6_worst_5 (by decide) (fun h5 => ?_) (fun h5 => ?_)
  · -- 5 t
    have h5 := bI_z h5
    refine cw_aload_n (pc := 17) C dX6_worst_17 rfl 0 rfl ?_
    refine cw_bipush (pc := 18) C dX6_worst_18 (-2) (by decide) ?_
    refine cw_calli (pc := 20) C dX6_worst_20 (c_X6_refusal0 l D Z A σ ) (cwV 1 C.1.2.2.2.2 gX6_worst_X6_refusal rfl rfl rfl (by decide +kernel) ⟨Nat.le_of_ble_eq_true rfl, Nat.le_of_ble_eq_true rfl⟩) 0 rfl rfl rfl rfl (Nat.le_of_ble_eq_true rfl) (cw_eff (v := (-2)) (fun _ _ h => h) (up2 σ 2 (cntF (σ 2) 0)) rfl ?_)
    refine hret (-2) (up2 σ 2 (cntF (σ 2) 0)) _ _ dX6_worst_23 ?_
    clear hret
    have hq : wsA (σ 1) g k w = .inr 0 := by first | (rw [wsA, if_neg (fun q => absurd q.1 (by rw [h5]; decide))]; done) | (rw [wsA, if_neg (fun q => absurd q.1 (by rw [h5]; decide))]; rfl)
    rw [hq]
    exact ⟨rfl, ⟨rfl, rfl, rfl, rfl, rfl, ⟨o9, p9, hT⟩, dd, hdd, hd, hn, fun i hi => (up2_ne _ _ (by omega)).trans (hK i hi)⟩⟩
  · -- 5 f
    have h5 := bI_nz h5
    obtain ⟨j1, j2, ha1, ha2, hb1, hb2, hne, rfl, rfl⟩ := pairB_t h5
    have hj1 : tN (nI j1) = j1 := tN_N (by omega)
    have hj2 : tN (nI j2) = j2 := tN_N (by omega)
    refine cw_iload_n (pc := 8) C dX6_worst_8 rfl 3 rfl ?_
    refine cw_iconst (pc := 9) C dX6_worst_9 (nI 0) (by decide) ?_
    refine cw_iconst (pc := 10) C dX6_worst_10 (nI 1) (by decide) ?_
    refine cw_calls (pc := 11) C dX6_worst_11 (c_X6_isWithin l D Z A σ w (nI 0) (nI 1)) (va_cwS 3 C.1.2.2.2.2 gX6_worst_X6_isWithin rfl rfl rfl (by decide +kernel) ⟨Nat.le_of_ble_eq_true rfl, Nat.le_of_ble_eq_true rfl⟩) rfl rfl (Nat.le_of_ble_eq_true rfl) (cw_purez (b := withinB w (nI 0) (nI 1)) (fun _ _ h => h) ?_)
    refine cw_if_ne (pc := 14) (tgt := 24) C dX6_worst_14 (by decide) (fun h14 => ?_) (fun h14 => ?_)
    · -- 14 t
      have h14 := bI_nz h14
      refine cw_aload_n (pc := 24) C dX6_worst_24 rfl 0 rfl ?_
      refine cw_get (pc := 25) C dX6_worst_25 0 (v := .ref (A 3)) rfl rfl 2 rfl (fun _ h => List.mem_cons_of_mem _ (List.mem_append_left _ (List.mem_append_left _ (List.mem_append_right _ h)))) (by decide) (List.mem_of_getElem? (i := 1) rfl) ?_
      refine cw_iload_n (pc := 28) C dX6_worst_28 rfl 1 rfl ?_
      refine cw_iload_n (pc := 29) C dX6_worst_29 rfl 2 rfl ?_
      refine cw_calli (pc := 30) C dX6_worst_30 (c_X1_coming l D Z A σ j1 j2 hOK.1 (by omega) (by omega)) (cwV 2 C.1.2.2.2.2 gX6_worst_X1_coming rfl rfl rfl (by decide +kernel) ⟨Nat.le_of_ble_eq_true rfl, Nat.le_of_ble_eq_true rfl⟩) 3 rfl rfl rfl rfl (Nat.le_of_ble_eq_true rfl) (cw_pure (v := comN (σ 1) j1 j2) (fun _ _ h => h) ?_)
      refine cw_istore (pc := 33) C dX6_worst_33 (by decide) (lv' := [(4, .int (comN (σ 1) j1 j2)), (0, .ref (A 0)), (1, .int (nI j1)), (2, .int (nI j2)), (3, .int (w))]) rfl ?_
      refine cw_iload (pc := 35) C dX6_worst_35 0 rfl ?_
      refine cw_calls (pc := 37) C dX6_worst_37 (c_X6_isClutch l D Z A σ (comN (σ 1) j1 j2)) (va_cwS 1 C.1.2.2.2.2 gX6_worst_X6_isClutch rfl rfl rfl (by decide +kernel) ⟨Nat.le_of_ble_eq_true rfl, Nat.le_of_ble_eq_true rfl⟩) rfl rfl (Nat.le_of_ble_eq_true rfl) (cw_purez (b := clB (comN (σ 1) j1 j2)) (fun _ _ h => h) ?_)
      refine cw_if_ne (pc := 40) (tgt := 50) C dX6_worst_40 (by decide) (fun h40 => ?_) (fun h40 => ?_)
      · -- 40 t
        have h40 := bI_nz h40
        have hsm := com_cl_t h40
        rw [show comN (σ 1) j1 j2 = nI (comS ((σ 1) j1) ((σ 1) j2)) from if_pos hsm]
        have hR := rowOK_P hOK
        have hcm := comS_lt ((σ 1) j1) ((σ 1) j2)
        refine cw_iload_n (pc := 50) C dX6_worst_50 rfl 4 rfl ?_
        refine cw_if_ne (pc := 51) (tgt := 66) C dX6_worst_51 (by decide) (fun h51 => ?_) (fun h51 => ?_)
        · -- 51 t
          refine cw_aload_n (pc := 66) C dX6_worst_66 rfl 1 rfl ?_
          refine cw_get (pc := 67) C dX6_worst_67 0 (v := .ref (A 6)) rfl rfl 3 rfl (fun _ h => List.mem_cons_of_mem _ (List.mem_append_left _ (List.mem_append_left _ (List.mem_append_right _ h)))) (by decide) (List.mem_of_getElem? (i := 2) rfl) ?_
          refine cw_iload (pc := 70) C dX6_worst_70 0 rfl ?_
          refine cw_calli (pc := 72) C dX6_worst_72 (c_X3_bind l D Z A σ (comS ((σ 1) j1) ((σ 1) j2)) hR hcm) (cwV 1 C.1.2.2.2.2 gX6_worst_X3_bind rfl rfl rfl (by decide +kernel) ⟨Nat.le_of_ble_eq_true rfl, Nat.le_of_ble_eq_true rfl⟩) 6 rfl rfl rfl rfl (Nat.le_of_ble_eq_true rfl) (cw_pure (v := bdS (σ 1) (comS ((σ 1) j1) ((σ 1) j2))) (fun _ _ h => h) ?_)
          refine hret (bdS (σ 1) (comS ((σ 1) j1) ((σ 1) j2))) σ _ _ dX6_worst_75 ?_
          clear hret
          have hq : wsA (σ 1) (nI j1) (nI j2) w = .inl (bdS (σ 1) (comS ((σ 1) j1) ((σ 1) j2))) := by first | (rw [wsA, if_pos ⟨h5, h14⟩, hj1, hj2, if_pos hsm, if_neg h51]; done) | (rw [wsA, if_pos ⟨h5, h14⟩, hj1, hj2, if_pos hsm, if_neg h51]; rfl)
          rw [hq]
          exact ⟨rfl, ⟨rfl, rfl, rfl, rfl, rfl, ⟨o9, p9, hT⟩, dd, hdd, hd, hn, hK⟩⟩
        · -- 51 f
          refine cw_aload_n (pc := 54) C dX6_worst_54 rfl 1 rfl ?_
          refine cw_get (pc := 55) C dX6_worst_55 0 (v := .ref (A 6)) rfl rfl 3 rfl (fun _ h => List.mem_cons_of_mem _ (List.mem_append_left _ (List.mem_append_left _ (List.mem_append_right _ h)))) (by decide) (List.mem_of_getElem? (i := 2) rfl) ?_
          refine cw_iload (pc := 58) C dX6_worst_58 0 rfl ?_
          refine cw_calli (pc := 60) C dX6_worst_60 (c_X3_flare l D Z A σ (comS ((σ 1) j1) ((σ 1) j2)) hR hcm) (cwV 1 C.1.2.2.2.2 gX6_worst_X3_flare rfl rfl rfl (by decide +kernel) ⟨Nat.le_of_ble_eq_true rfl, Nat.le_of_ble_eq_true rfl⟩) 6 rfl rfl rfl rfl (Nat.le_of_ble_eq_true rfl) (cw_pure (v := flS (σ 1) (comS ((σ 1) j1) ((σ 1) j2))) (fun _ _ h => h) ?_)
          refine cw_goto (pc := 63) (tgt := 75) C dX6_worst_63 (by decide) ?_
          refine hret (flS (σ 1) (comS ((σ 1) j1) ((σ 1) j2))) σ _ _ dX6_worst_75 ?_
          clear hret
          have hq : wsA (σ 1) (nI j1) (nI j2) w = .inl (flS (σ 1) (comS ((σ 1) j1) ((σ 1) j2))) := by first | (rw [wsA, if_pos ⟨h5, h14⟩, hj1, hj2, if_pos hsm, if_pos h51]; done) | (rw [wsA, if_pos ⟨h5, h14⟩, hj1, hj2, if_pos hsm, if_pos h51]; rfl)
          rw [hq]
          exact ⟨rfl, ⟨rfl, rfl, rfl, rfl, rfl, ⟨o9, p9, hT⟩, dd, hdd, hd, hn, hK⟩⟩
      · -- 40 f
        have h40 := bI_z h40
        have hsm := com_cl_f h40
        refine cw_aload_n (pc := 43) C dX6_worst_43 rfl 1 rfl ?_
        refine cw_bipush (pc := 44) C dX6_worst_44 (-3) (by decide) ?_
        refine cw_calli (pc := 46) C dX6_worst_46 (c_X6_refusal1 l D Z A σ ) (cwV 1 C.1.2.2.2.2 gX6_worst_X6_refusal rfl rfl rfl (by decide +kernel) ⟨Nat.le_of_ble_eq_true rfl, Nat.le_of_ble_eq_true rfl⟩) 0 rfl rfl rfl rfl (Nat.le_of_ble_eq_true rfl) (cw_eff (v := (-3)) (fun _ _ h => h) (up2 σ 2 (cntF (σ 2) 1)) rfl ?_)
        refine hret (-3) (up2 σ 2 (cntF (σ 2) 1)) _ _ dX6_worst_49 ?_
        clear hret
        have hq : wsA (σ 1) (nI j1) (nI j2) w = .inr 1 := by first | (rw [wsA, if_pos ⟨h5, h14⟩, hj1, hj2, hsm, if_neg (by decide)]; done) | (rw [wsA, if_pos ⟨h5, h14⟩, hj1, hj2, hsm, if_neg (by decide)]; rfl)
        rw [hq]
        exact ⟨rfl, ⟨rfl, rfl, rfl, rfl, rfl, ⟨o9, p9, hT⟩, dd, hdd, hd, hn, fun i hi => (up2_ne _ _ (by omega)).trans (hK i hi)⟩⟩
    · -- 14 f
      have h14 := bI_z h14
      refine cw_aload_n (pc := 17) C dX6_worst_17 rfl 0 rfl ?_
      refine cw_bipush (pc := 18) C dX6_worst_18 (-2) (by decide) ?_
      refine cw_calli (pc := 20) C dX6_worst_20 (c_X6_refusal0 l D Z A σ ) (cwV 1 C.1.2.2.2.2 gX6_worst_X6_refusal rfl rfl rfl (by decide +kernel) ⟨Nat.le_of_ble_eq_true rfl, Nat.le_of_ble_eq_true rfl⟩) 0 rfl rfl rfl rfl (Nat.le_of_ble_eq_true rfl) (cw_eff (v := (-2)) (fun _ _ h => h) (up2 σ 2 (cntF (σ 2) 0)) rfl ?_)
      refine hret (-2) (up2 σ 2 (cntF (σ 2) 0)) _ _ dX6_worst_23 ?_
      clear hret
      have hq : wsA (σ 1) (nI j1) (nI j2) w = .inr 0 := by first | (rw [wsA, if_neg (fun q => absurd q.2 (by rw [h14]; decide))]; done) | (rw [wsA, if_neg (fun q => absurd q.2 (by rw [h14]; decide))]; rfl)
      rw [hq]
      exact ⟨rfl, ⟨rfl, rfl, rfl, rfl, rfl, ⟨o9, p9, hT⟩, dd, hdd, hd, hn, fun i hi => (up2_ne _ _ (by omega)).trans (hK i hi)⟩⟩
set_option maxHeartbeats 4000000 in
set_option maxRecDepth 100000 in
theorem c_X6_want (l : Launch) (D : va_G) (Z : CZ) (A : Nat → Nat) (σ : St) (X F : Nat → Int32) (ck co : Int32) (K : Nat → Nat → Int32) (nn : Nat) (B : Nat → Int32) (L : Nat)  (v : Int32) (ha : absC σ X F ck co K nn B L) (hi : absI X K nn B L) : CTi l yX6_want wsX6_want 3 72 D Z (wC Z A) σ [.ref (A 0), .int (v)] (fun r σ' => r = ansV (wnA X v) ∧ absC σ' X (ansF F (wnA X v)) ck co K nn B L) := by
  refine CTi.mk (cc := cX6_want) (nL := 2) (own := RX6) rfl (by decide) rfl (Nat.le_of_ble_eq_true rfl) ?_
  intro p0 e0 s0 m0 g0 b0 t0 c0 A0 Q C hret
  obtain ⟨rfl, rfl, rfl, rfl, rfl, ⟨o9, p9, hT⟩, dd, hdd, hd, hn, hK⟩ := ha
  obtain ⟨hOK, hOKK, hnn, hL, hB⟩ := hi
  refine cw_lv (lv' := [(0, .ref (A 0)), (1, .int (v))]) [0, 1] rfl ?_
  refine cw_iload_n (pc := 0) C dX6_want_0 rfl 1 rfl ?_
  refine cw_iconst (pc := 1) C dX6_want_1 (nI 0) (by decide) ?_
  refine cw_sipush (pc := 2) C dX6_want_2 (nI 300) (by decide) ?_
  refine cw_calls (pc := 5) C dX6_want_5 (c_X6_isWithin l D Z A σ v (nI 0) (nI 300)) (va_cwS 3 C.1.2.2.2.2 gX6_want_X6_isWithin rfl rfl rfl (by decide +kernel) ⟨Nat.le_of_ble_eq_true rfl, Nat.le_of_ble_eq_true rfl⟩) rfl rfl (Nat.le_of_ble_eq_true rfl) (cw_purez (b := withinB v (nI 0) (nI 300)) (fun _ _ h => h) ?_)
  refine cw_if_eq (pc := 8) (tgt := 22) C dX6_want_8 (by decide) (fun h8 => ?_) (fun h8 => ?_)
  · -- 8 t
    have h8 := bI_z h8
    refine cw_aload_n (pc := 22) C dX6_want_22 rfl 0 rfl ?_
    refine cw_bipush (pc := 23) C dX6_want_23 (-2) (by decide) ?_
    refine cw_calli (pc := 25) C dX6_want_25 (c_X6_refusal0 l D Z A σ ) (cwV 1 C.1.2.2.2.2 gX6_want_X6_refusal rfl rfl rfl (by decide +kernel) ⟨Nat.le_of_ble_eq_true rfl, Nat.le_of_ble_eq_true rfl⟩) 0 rfl rfl rfl rfl (Nat.le_of_ble_eq_true rfl) (cw_eff (v := (-2)) (fun _ _ h => h) (up2 σ 2 (cntF (σ 2) 0)) rfl ?_)
    refine hret (-2) (up2 σ 2 (cntF (σ 2) 0)) _ _ dX6_want_28 ?_
    clear hret
    have hq : wnA (σ 1) v = .inr 0 := by first | (rw [wnA, h8, if_neg (by decide)]; done) | (rw [wnA, h8, if_neg (by decide)]; rfl)
    rw [hq]
    exact ⟨rfl, ⟨rfl, rfl, rfl, rfl, rfl, ⟨o9, p9, hT⟩, dd, hdd, hd, hn, fun i hi => (up2_ne _ _ (by omega)).trans (hK i hi)⟩⟩
  · -- 8 f
    have h8 := bI_nz h8
    refine cw_aload_n (pc := 11) C dX6_want_11 rfl 0 rfl ?_
    refine cw_get (pc := 12) C dX6_want_12 0 (v := .ref (A 7)) rfl rfl 4 rfl (fun _ h => List.mem_cons_of_mem _ (List.mem_append_left _ (List.mem_append_left _ (List.mem_append_right _ h)))) (by decide) (List.mem_of_getElem? (i := 1) rfl) ?_
    refine cw_iload_n (pc := 15) C dX6_want_15 rfl 1 rfl ?_
    refine cw_calli (pc := 16) C dX6_want_16 (c_X0_wanted l D Z A σ (inN (σ 1)) v (rowOK_in hOK).1 (rowOK_in hOK).2.1) (cwV 1 C.1.2.2.2.2 gX6_want_X0_wanted rfl rfl rfl (by decide +kernel) ⟨Nat.le_of_ble_eq_true rfl, Nat.le_of_ble_eq_true rfl⟩) 7 rfl rfl rfl rfl (Nat.le_of_ble_eq_true rfl) (cw_pure (v := nI (wntS (σ 1) (inN (σ 1)) v)) (fun _ _ h => h) ?_)
    refine cw_goto (pc := 19) (tgt := 28) C dX6_want_19 (by decide) ?_
    refine hret (nI (wntS (σ 1) (inN (σ 1)) v)) σ _ _ dX6_want_28 ?_
    clear hret
    have hq : wnA (σ 1) v = .inl (nI (wntS (σ 1) (inN (σ 1)) v)) := by first | (rw [wnA, if_pos h8]; done) | (rw [wnA, if_pos h8]; rfl)
    rw [hq]
    exact ⟨rfl, ⟨rfl, rfl, rfl, rfl, rfl, ⟨o9, p9, hT⟩, dd, hdd, hd, hn, hK⟩⟩
set_option maxHeartbeats 4000000 in
set_option maxRecDepth 100000 in
theorem c_X6_state (l : Launch) (D : va_G) (Z : CZ) (A : Nat → Nat) (σ : St) (X F : Nat → Int32) (ck co : Int32) (K : Nat → Nat → Int32) (nn : Nat) (B : Nat → Int32) (L : Nat)  (w : Int32) (ha : absC σ X F ck co K nn B L) (hi : absI X K nn B L) : CTi l yX6_state wsX6_state 2 45 D Z (wC Z A) σ [.ref (A 0), .int (w)] (fun r σ' => r = ansV (saA X w) ∧ absC σ' X (ansF F (saA X w)) ck co K nn B L) := by
  refine CTi.mk (cc := cX6_state) (nL := 2) (own := RX6) rfl (by decide) rfl (Nat.le_of_ble_eq_true rfl) ?_
  intro p0 e0 s0 m0 g0 b0 t0 c0 A0 Q C hret
  obtain ⟨rfl, rfl, rfl, rfl, rfl, ⟨o9, p9, hT⟩, dd, hdd, hd, hn, hK⟩ := ha
  obtain ⟨hOK, hOKK, hnn, hL, hB⟩ := hi
  refine cw_lv (lv' := [(0, .ref (A 0)), (1, .int (w))]) [0, 1] rfl ?_
  refine cw_iload_n (pc := 0) C dX6_state_0 rfl 1 rfl ?_
  refine cw_bipush (pc := 1) C dX6_state_1 (nI 12) (by decide) ?_
  refine cw_icmp_ne (pc := 3) (tgt := 14) C dX6_state_3 (by decide) (fun h3 => ?_) (fun h3 => ?_)
  · -- 3 t
    refine cw_iload_n (pc := 14) C dX6_state_14 rfl 1 rfl ?_
    refine cw_iconst (pc := 15) C dX6_state_15 (nI 0) (by decide) ?_
    refine cw_bipush (pc := 16) C dX6_state_16 (nI 11) (by decide) ?_
    refine cw_calls (pc := 18) C dX6_state_18 (c_X6_isWithin l D Z A σ w (nI 0) (nI 11)) (va_cwS 3 C.1.2.2.2.2 gX6_state_X6_isWithin rfl rfl rfl (by decide +kernel) ⟨Nat.le_of_ble_eq_true rfl, Nat.le_of_ble_eq_true rfl⟩) rfl rfl (Nat.le_of_ble_eq_true rfl) (cw_purez (b := withinB w (nI 0) (nI 11)) (fun _ _ h => h) ?_)
    refine cw_if_eq (pc := 21) (tgt := 36) C dX6_state_21 (by decide) (fun h21 => ?_) (fun h21 => ?_)
    · -- 21 t
      have h21 := bI_z h21
      refine cw_aload_n (pc := 36) C dX6_state_36 rfl 0 rfl ?_
      refine cw_bipush (pc := 37) C dX6_state_37 (-2) (by decide) ?_
      refine cw_calli (pc := 39) C dX6_state_39 (c_X6_refusal0 l D Z A σ ) (cwV 1 C.1.2.2.2.2 gX6_state_X6_refusal rfl rfl rfl (by decide +kernel) ⟨Nat.le_of_ble_eq_true rfl, Nat.le_of_ble_eq_true rfl⟩) 0 rfl rfl rfl rfl (Nat.le_of_ble_eq_true rfl) (cw_eff (v := (-2)) (fun _ _ h => h) (up2 σ 2 (cntF (σ 2) 0)) rfl ?_)
      refine hret (-2) (up2 σ 2 (cntF (σ 2) 0)) _ _ dX6_state_42 ?_
      clear hret
      have hq : saA (σ 1) w = .inr 0 := by first | (rw [saA, if_neg h3, h21, if_neg (by decide)]; done) | (rw [saA, if_neg h3, h21, if_neg (by decide)]; rfl)
      rw [hq]
      exact ⟨rfl, ⟨rfl, rfl, rfl, rfl, rfl, ⟨o9, p9, hT⟩, dd, hdd, hd, hn, fun i hi => (up2_ne _ _ (by omega)).trans (hK i hi)⟩⟩
    · -- 21 f
      have h21 := bI_nz h21
      obtain ⟨w1, -, hw1, rfl⟩ := withinB_t (by decide) (by decide) h21
      have hwn : tN (nI w1) = w1 := tN_N (by omega)
      refine cw_aload_n (pc := 24) C dX6_state_24 rfl 0 rfl ?_
      refine cw_get (pc := 25) C dX6_state_25 0 (v := .ref (A 1)) rfl rfl 0 rfl (fun _ h => List.mem_cons_of_mem _ (List.mem_append_left _ (List.mem_append_right _ h))) (by decide) (List.mem_of_getElem? (i := 2) rfl) ?_
      refine cw_bipush (pc := 28) C dX6_state_28 (nI 39) (by decide) ?_
      refine cw_iload_n (pc := 30) C dX6_state_30 rfl 1 rfl ?_
      refine cw_iadd (pc := 31) C dX6_state_31 (z := nI (39 + w1)) (nI_add _ _) ?_
      refine cw_iald2 (pc := 32) C dX6_state_32 1 1 (wC_g1 Z A) (f := σ 1) rfl (39 + w1) rfl (by omega) (by decide) ?_
      refine cw_goto (pc := 33) (tgt := 42) C dX6_state_33 (by decide) ?_
      refine hret (σ 1 (39 + w1)) σ _ _ dX6_state_42 ?_
      clear hret
      have hq : saA (σ 1) (nI w1) = .inl (σ 1 (39 + w1)) := by first | (rw [saA, if_neg h3, if_pos h21, hwn]; done) | (rw [saA, if_neg h3, if_pos h21, hwn]; rfl)
      rw [hq]
      exact ⟨rfl, ⟨rfl, rfl, rfl, rfl, rfl, ⟨o9, p9, hT⟩, dd, hdd, hd, hn, hK⟩⟩
  · -- 3 f
    refine cw_aload_n (pc := 6) C dX6_state_6 rfl 0 rfl ?_
    refine cw_get (pc := 7) C dX6_state_7 0 (v := .ref (A 3)) rfl rfl 2 rfl (fun _ h => List.mem_cons_of_mem _ (List.mem_append_left _ (List.mem_append_right _ h))) (by decide) (List.mem_of_getElem? (i := 1) rfl) ?_
    refine cw_calli (pc := 10) C dX6_state_10 (c_X1_fitBits l D Z A σ ) (cwV 0 C.1.2.2.2.2 gX6_state_X1_fitBits rfl rfl rfl (by decide +kernel) ⟨Nat.le_of_ble_eq_true rfl, Nat.le_of_ble_eq_true rfl⟩) 3 rfl rfl rfl rfl (Nat.le_of_ble_eq_true rfl) (cw_pure (v := fbits (fitN (σ 1)) 7) (fun _ _ h => h) ?_)
    refine hret (fbits (fitN (σ 1)) 7) σ _ _ dX6_state_13 ?_
    clear hret
    have hq : saA (σ 1) w = .inl (fbits (fitN (σ 1)) 7) := by first | (rw [saA, if_pos h3]; done) | (rw [saA, if_pos h3]; rfl)
    rw [hq]
    exact ⟨rfl, ⟨rfl, rfl, rfl, rfl, rfl, ⟨o9, p9, hT⟩, dd, hdd, hd, hn, hK⟩⟩
set_option maxHeartbeats 4000000 in
set_option maxRecDepth 100000 in
theorem c_X6_why (l : Launch) (D : va_G) (Z : CZ) (A : Nat → Nat) (σ : St) (X F : Nat → Int32) (ck co : Int32) (K : Nat → Nat → Int32) (nn : Nat) (B : Nat → Int32) (L : Nat)  (w : Int32) (ha : absC σ X F ck co K nn B L) (hi : absI X K nn B L) : CTi l yX6_why wsX6_why 2 43 D Z (wC Z A) σ [.ref (A 0), .int (w)] (fun r σ' => r = ansV (whA ck co w) ∧ absC σ' X (ansF F (whA ck co w)) ck co K nn B L) := by
  refine CTi.mk (cc := cX6_why) (nL := 2) (own := RX6) rfl (by decide) rfl (Nat.le_of_ble_eq_true rfl) ?_
  intro p0 e0 s0 m0 g0 b0 t0 c0 A0 Q C hret
  obtain ⟨rfl, rfl, rfl, rfl, rfl, ⟨o9, p9, hT⟩, dd, hdd, hd, hn, hK⟩ := ha
  obtain ⟨hOK, hOKK, hnn, hL, hB⟩ := hi
  refine cw_lv (lv' := [(0, .ref (A 0)), (1, .int (w))]) [0, 1] rfl ?_
  refine cw_iload_n (pc := 0) C dX6_why_0 rfl 1 rfl ?_
  refine cw_iconst (pc := 1) C dX6_why_1 (nI 0) (by decide) ?_
  refine cw_iconst (pc := 2) C dX6_why_2 (nI 1) (by decide) ?_
  refine cw_calls (pc := 3) C dX6_why_3 (c_X6_isWithin l D Z A σ w (nI 0) (nI 1)) (va_cwS 3 C.1.2.2.2.2 gX6_why_X6_isWithin rfl rfl rfl (by decide +kernel) ⟨Nat.le_of_ble_eq_true rfl, Nat.le_of_ble_eq_true rfl⟩) rfl rfl (Nat.le_of_ble_eq_true rfl) (cw_purez (b := withinB w (nI 0) (nI 1)) (fun _ _ h => h) ?_)
  refine cw_if_ne (pc := 6) (tgt := 16) C dX6_why_6 (by decide) (fun h6 => ?_) (fun h6 => ?_)
  · -- 6 t
    have h6 := bI_nz h6
    refine cw_iload_n (pc := 16) C dX6_why_16 rfl 1 rfl ?_
    refine cw_if_ne (pc := 17) (tgt := 27) C dX6_why_17 (by decide) (fun h17 => ?_) (fun h17 => ?_)
    · -- 17 t
      refine cw_aload_n (pc := 27) C dX6_why_27 rfl 0 rfl ?_
      refine cw_get (pc := 28) C dX6_why_28 0 (v := .int (σ 0 9)) rfl rfl 9 rfl (fun _ h => List.mem_cons_of_mem _ (List.mem_append_right _ h)) (by decide) (List.mem_of_getElem? (i := 2) rfl) ?_
      refine hret (σ 0 9) σ _ _ dX6_why_31 ?_
      clear hret
      have hq : whA (σ 0 8) (σ 0 9) w = .inl (σ 0 9) := by first | (rw [whA, if_pos h6, if_neg h17]; done) | (rw [whA, if_pos h6, if_neg h17]; rfl)
      rw [hq]
      exact ⟨rfl, ⟨rfl, rfl, rfl, rfl, rfl, ⟨o9, p9, hT⟩, dd, hdd, hd, hn, hK⟩⟩
    · -- 17 f
      refine cw_aload_n (pc := 20) C dX6_why_20 rfl 0 rfl ?_
      refine cw_get (pc := 21) C dX6_why_21 0 (v := .int (σ 0 8)) rfl rfl 8 rfl (fun _ h => List.mem_cons_of_mem _ (List.mem_append_right _ h)) (by decide) (List.mem_of_getElem? (i := 1) rfl) ?_
      refine cw_goto (pc := 24) (tgt := 31) C dX6_why_24 (by decide) ?_
      refine hret (σ 0 8) σ _ _ dX6_why_31 ?_
      clear hret
      have hq : whA (σ 0 8) (σ 0 9) w = .inl (σ 0 8) := by first | (rw [whA, if_pos h6, if_pos h17]; done) | (rw [whA, if_pos h6, if_pos h17]; rfl)
      rw [hq]
      exact ⟨rfl, ⟨rfl, rfl, rfl, rfl, rfl, ⟨o9, p9, hT⟩, dd, hdd, hd, hn, hK⟩⟩
  · -- 6 f
    have h6 := bI_z h6
    refine cw_aload_n (pc := 9) C dX6_why_9 rfl 0 rfl ?_
    refine cw_bipush (pc := 10) C dX6_why_10 (-2) (by decide) ?_
    refine cw_calli (pc := 12) C dX6_why_12 (c_X6_refusal0 l D Z A σ ) (cwV 1 C.1.2.2.2.2 gX6_why_X6_refusal rfl rfl rfl (by decide +kernel) ⟨Nat.le_of_ble_eq_true rfl, Nat.le_of_ble_eq_true rfl⟩) 0 rfl rfl rfl rfl (Nat.le_of_ble_eq_true rfl) (cw_eff (v := (-2)) (fun _ _ h => h) (up2 σ 2 (cntF (σ 2) 0)) rfl ?_)
    refine hret (-2) (up2 σ 2 (cntF (σ 2) 0)) _ _ dX6_why_15 ?_
    clear hret
    have hq : whA (σ 0 8) (σ 0 9) w = .inr 0 := by first | (rw [whA, h6, if_neg (by decide)]; done) | (rw [whA, h6, if_neg (by decide)]; rfl)
    rw [hq]
    exact ⟨rfl, ⟨rfl, rfl, rfl, rfl, rfl, ⟨o9, p9, hT⟩, dd, hdd, hd, hn, fun i hi => (up2_ne _ _ (by omega)).trans (hK i hi)⟩⟩
set_option maxHeartbeats 4000000 in
set_option maxRecDepth 100000 in
theorem c_X6_told (l : Launch) (D : va_G) (Z : CZ) (A : Nat → Nat) (σ : St) (X F : Nat → Int32) (ck co : Int32) (K : Nat → Nat → Int32) (nn : Nat) (B : Nat → Int32) (L : Nat)  (w : Int32) (ha : absC σ X F ck co K nn B L) (hi : absI X K nn B L) : CTi l yX6_told wsX6_told 2 43 D Z (wC Z A) σ [.ref (A 0), .int (w)] (fun r σ' => r = ansV (toA F nn L w) ∧ absC σ' X (ansF F (toA F nn L w)) ck co K nn B L) := by
  refine CTi.mk (cc := cX6_told) (nL := 2) (own := RX6) rfl (by decide) rfl (Nat.le_of_ble_eq_true rfl) ?_
  intro p0 e0 s0 m0 g0 b0 t0 c0 A0 Q C hret
  obtain ⟨rfl, rfl, rfl, rfl, rfl, ⟨o9, p9, hT⟩, dd, hdd, hd, hn, hK⟩ := ha
  obtain ⟨hOK, hOKK, hnn, hL, hB⟩ := hi
  refine cw_eq (σ' := up2 σ 17 (txR L o9 p9)) (by rw [← hT, up2_self]) ?_
  refine cw_lv (lv' := [(0, .ref (A 0)), (1, .int (w))]) [0, 1] rfl ?_
  refine cw_iload_n (pc := 0) C dX6_told_0 rfl 1 rfl ?_
  by_cases q1_0 : w = nI 0
  · -- case 0
    subst q1_0
    refine cw_tableIn (pc := 1) (off := 35) (tgt := 36) C dX6_told_1 (by decide) (by decide) (by decide +kernel) (by decide) ?_
    refine cw_aload_n (pc := 36) C dX6_told_36 rfl 0 rfl ?_
    refine cw_get (pc := 37) C dX6_told_37 0 (v := .ref (A 2)) rfl rfl 1 rfl (fun _ h => List.mem_cons_of_mem _ (List.mem_append_left _ (List.mem_append_left _ (List.mem_append_right _ h)))) (by decide) (List.mem_of_getElem? (i := 1) rfl) ?_
    refine cw_iload_n (pc := 40) C dX6_told_40 rfl 1 rfl ?_
    refine cw_iald2 (pc := 41) C dX6_told_41 2 2 (wC_g2 Z A) (f := σ 2) (up2_ne _ _ (by decide)) 0 rfl (by decide) (by decide) ?_
    refine hret (σ 2 0) (up2 σ 17 (txR L o9 p9)) _ _ dX6_told_42 ?_
    clear hret
    have hq : toA (σ 2) nn L (nI 0) = .inl (σ 2 0) := by first | (rw [toA, if_pos rfl]; done) | (rw [toA, if_pos rfl]; rfl)
    rw [hq]
    exact ⟨rfl, ⟨rfl, rfl, rfl, rfl, rfl, ⟨o9, p9, rfl⟩, dd, hdd, hd, hn, fun i hi => (up2_ne _ _ (by omega)).trans (hK i hi)⟩⟩
  by_cases q1_1 : w = nI 1
  · -- case 1
    subst q1_1
    refine cw_tableIn (pc := 1) (off := 35) (tgt := 36) C dX6_told_1 (by decide) (by decide) (by decide +kernel) (by decide) ?_
    refine cw_aload_n (pc := 36) C dX6_told_36 rfl 0 rfl ?_
    refine cw_get (pc := 37) C dX6_told_37 0 (v := .ref (A 2)) rfl rfl 1 rfl (fun _ h => List.mem_cons_of_mem _ (List.mem_append_left _ (List.mem_append_left _ (List.mem_append_right _ h)))) (by decide) (List.mem_of_getElem? (i := 1) rfl) ?_
    refine cw_iload_n (pc := 40) C dX6_told_40 rfl 1 rfl ?_
    refine cw_iald2 (pc := 41) C dX6_told_41 2 2 (wC_g2 Z A) (f := σ 2) (up2_ne _ _ (by decide)) 1 rfl (by decide) (by decide) ?_
    refine hret (σ 2 1) (up2 σ 17 (txR L o9 p9)) _ _ dX6_told_42 ?_
    clear hret
    have hq : toA (σ 2) nn L (nI 1) = .inl (σ 2 1) := by first | (rw [toA, if_neg q1_0, if_pos rfl]; done) | (rw [toA, if_neg q1_0, if_pos rfl]; rfl)
    rw [hq]
    exact ⟨rfl, ⟨rfl, rfl, rfl, rfl, rfl, ⟨o9, p9, rfl⟩, dd, hdd, hd, hn, fun i hi => (up2_ne _ _ (by omega)).trans (hK i hi)⟩⟩
  by_cases q1_2 : w = nI 2
  · -- case 2
    subst q1_2
    refine cw_tableIn (pc := 1) (off := 35) (tgt := 36) C dX6_told_1 (by decide) (by decide) (by decide +kernel) (by decide) ?_
    refine cw_aload_n (pc := 36) C dX6_told_36 rfl 0 rfl ?_
    refine cw_get (pc := 37) C dX6_told_37 0 (v := .ref (A 2)) rfl rfl 1 rfl (fun _ h => List.mem_cons_of_mem _ (List.mem_append_left _ (List.mem_append_left _ (List.mem_append_right _ h)))) (by decide) (List.mem_of_getElem? (i := 1) rfl) ?_
    refine cw_iload_n (pc := 40) C dX6_told_40 rfl 1 rfl ?_
    refine cw_iald2 (pc := 41) C dX6_told_41 2 2 (wC_g2 Z A) (f := σ 2) (up2_ne _ _ (by decide)) 2 rfl (by decide) (by decide) ?_
    refine hret (σ 2 2) (up2 σ 17 (txR L o9 p9)) _ _ dX6_told_42 ?_
    clear hret
    have hq : toA (σ 2) nn L (nI 2) = .inl (σ 2 2) := by first | (rw [toA, if_neg q1_0, if_neg q1_1, if_pos rfl]; done) | (rw [toA, if_neg q1_0, if_neg q1_1, if_pos rfl]; rfl)
    rw [hq]
    exact ⟨rfl, ⟨rfl, rfl, rfl, rfl, rfl, ⟨o9, p9, rfl⟩, dd, hdd, hd, hn, fun i hi => (up2_ne _ _ (by omega)).trans (hK i hi)⟩⟩
  by_cases q1_3 : w = nI 3
  · -- case 3
    subst q1_3
    refine cw_tableIn (pc := 1) (off := 42) (tgt := 43) C dX6_told_1 (by decide) (by decide) (by decide +kernel) (by decide) ?_
    refine cw_aload_n (pc := 43) C dX6_told_43 rfl 0 rfl ?_
    refine cw_get (pc := 44) C dX6_told_44 0 (v := .ref (A 17)) rfl rfl 7 rfl (fun _ h => List.mem_cons_of_mem _ (List.mem_append_left _ (List.mem_append_left _ (List.mem_append_right _ h)))) (by decide) (List.mem_of_getElem? (i := 2) rfl) ?_
    refine cw_calli (pc := 47) C dX6_told_47 (c_X5_length l D Z A σ L o9 p9) (cwV 0 C.1.2.2.2.2 gX6_told_X5_length rfl rfl rfl (by decide +kernel) ⟨Nat.le_of_ble_eq_true rfl, Nat.le_of_ble_eq_true rfl⟩) 17 rfl rfl rfl rfl (Nat.le_of_ble_eq_true rfl) (cw_pure (v := nI L) (fun _ _ h => h) ?_)
    refine hret (nI L) (up2 σ 17 (txR L o9 p9)) _ _ dX6_told_50 ?_
    clear hret
    have hq : toA (σ 2) nn L (nI 3) = .inl (nI L) := by first | (rw [toA, if_neg q1_0, if_neg q1_1, if_neg q1_2, if_pos rfl]; done) | (rw [toA, if_neg q1_0, if_neg q1_1, if_neg q1_2, if_pos rfl]; rfl)
    rw [hq]
    exact ⟨rfl, ⟨rfl, rfl, rfl, rfl, rfl, ⟨o9, p9, rfl⟩, dd, hdd, hd, hn, fun i hi => (up2_ne _ _ (by omega)).trans (hK i hi)⟩⟩
  by_cases q1_4 : w = nI 4
  · -- case 4
    subst q1_4
    refine cw_tableIn (pc := 1) (off := 50) (tgt := 51) C dX6_told_1 (by decide) (by decide) (by decide +kernel) (by decide) ?_
    refine cw_aload_n (pc := 51) C dX6_told_51 rfl 0 rfl ?_
    refine cw_get (pc := 52) C dX6_told_52 0 (v := .ref (A 9)) rfl rfl 6 rfl (fun _ h => List.mem_cons_of_mem _ (List.mem_append_left _ (List.mem_append_left _ (List.mem_append_right _ h)))) (by decide) (List.mem_of_getElem? (i := 3) rfl) ?_
    have hf9 : (up2 σ 17 (txR L o9 p9)) 9 = σ 9 := (up2_ne _ _ (by decide))
    have ev0 := congrArg (fun qz => qz 3) hf9
    refine cw_calli (pc := 55) C dX6_told_55 (c_X4_count l D Z A (up2 σ 17 (txR L o9 p9)) ) (cwV 0 C.1.2.2.2.2 gX6_told_X4_count rfl rfl rfl (by decide +kernel) ⟨Nat.le_of_ble_eq_true rfl, Nat.le_of_ble_eq_true rfl⟩) 9 rfl rfl rfl rfl (Nat.le_of_ble_eq_true rfl) (cw_pure (v := (σ 9) 3) (fun _ _ h => ⟨h.1.trans (ev0), h.2⟩) ?_)
    refine hret ((σ 9) 3) (up2 σ 17 (txR L o9 p9)) _ _ dX6_told_58 ?_
    clear hret
    have hq : toA (σ 2) nn L (nI 4) = .inl ((σ 9) 3) := by first | (rw [toA, if_neg q1_0, if_neg q1_1, if_neg q1_2, if_neg q1_3, if_pos rfl, ← hn]; done) | (rw [toA, if_neg q1_0, if_neg q1_1, if_neg q1_2, if_neg q1_3, if_pos rfl, ← hn]; rfl)
    rw [hq]
    exact ⟨rfl, ⟨rfl, rfl, rfl, rfl, rfl, ⟨o9, p9, rfl⟩, dd, hdd, hd, hn, fun i hi => (up2_ne _ _ (by omega)).trans (hK i hi)⟩⟩
  refine cw_tableOut (pc := 1) (tgt := 59) C dX6_told_1 (tsw_out (lo := 0) (n := 5) (fun k hk => by rcases (show k = 0 ∨ k = 1 ∨ k = 2 ∨ k = 3 ∨ k = 4 by omega) with rfl | rfl | rfl | rfl | rfl <;> assumption)) (by decide) ?_
  refine cw_aload_n (pc := 59) C dX6_told_59 rfl 0 rfl ?_
  refine cw_bipush (pc := 60) C dX6_told_60 (-2) (by decide) ?_
  have hf2 : (up2 σ 17 (txR L o9 p9)) 2 = σ 2 := (up2_ne _ _ (by decide))
  have ee0 := congrArg (fun qz => cntF qz 0) hf2
  have e3 := congrArg (fun qz => up2 (up2 σ 2 qz) 17 (txR L o9 p9)) ee0
  refine cw_calli (pc := 62) C dX6_told_62 (c_X6_refusal0 l D Z A (up2 σ 17 (txR L o9 p9)) ) (cwV 1 C.1.2.2.2.2 gX6_told_X6_refusal rfl rfl rfl (by decide +kernel) ⟨Nat.le_of_ble_eq_true rfl, Nat.le_of_ble_eq_true rfl⟩) 0 rfl rfl rfl rfl (Nat.le_of_ble_eq_true rfl) (cw_eff (v := (-2)) (fun _ _ h => h) (up2 (up2 σ 2 (cntF (σ 2) 0)) 17 (txR L o9 p9)) (congrArg (wC Z A) (((up2_comm _ _ _ (by decide)).trans (congrArg (fun qz => up2 qz 17 (txR L o9 p9)) rfl)).trans e3)) ?_)
  refine hret (-2) (up2 (up2 σ 2 (cntF (σ 2) 0)) 17 (txR L o9 p9)) _ _ dX6_told_65 ?_
  clear hret
  have hq : toA (σ 2) nn L w = .inr 0 := by first | (rw [toA, if_neg q1_0, if_neg q1_1, if_neg q1_2, if_neg q1_3, if_neg q1_4]; done) | (rw [toA, if_neg q1_0, if_neg q1_1, if_neg q1_2, if_neg q1_3, if_neg q1_4]; rfl)
  rw [hq]
  exact ⟨rfl, ⟨rfl, rfl, rfl, rfl, rfl, ⟨o9, p9, rfl⟩, dd, hdd, hd, hn, fun i hi => (up2_ne _ _ (by omega)).trans ((up2_ne _ _ (by omega)).trans (hK i hi))⟩⟩
set_option maxHeartbeats 4000000 in
set_option maxRecDepth 100000 in
theorem c_X6_changed (l : Launch) (D : va_G) (Z : CZ) (A : Nat → Nat) (σ : St) (X F : Nat → Int32) (ck co : Int32) (K : Nat → Nat → Int32) (nn : Nat) (B : Nat → Int32) (L : Nat)  (o : Nat) (a : Int32) (b : Int32) (ha : absC σ X F ck co K nn B L) (hi : absI X K nn B L) (ho : o < 10) : CTi l yX6_changed wsX6_changed 6 142 D Z (wC Z A) σ [.ref (A 0), .int (nI o), .int (a), .int (b)] (fun r σ' => (0 ≤ oR X o a b ∧ r = oR X o a b ∧ absC σ' (oX X o a b) F ck co (psh K nn X) (min (nn + 1) 5) B L) ∨ (∃ kk, kk < 2 ∧ oR X o a b = refV kk ∧ r = refV kk ∧ absC σ' X (cntF F kk) ck co K nn B L)) := by
  refine CTi.mk (cc := cX6_changed) (nL := 5) (own := RX6) rfl (by decide) rfl (Nat.le_of_ble_eq_true rfl) ?_
  intro p0 e0 s0 m0 g0 b0 t0 c0 A0 Q C hret
  obtain ⟨rfl, rfl, rfl, rfl, rfl, ⟨o9, p9, hT⟩, dd, hdd, hd, hn, hK⟩ := ha
  obtain ⟨hOK, hOKK, hnn, hL, hB⟩ := hi
  refine cw_lv (lv' := [(0, .ref (A 0)), (1, .int (nI o)), (2, .int (a)), (3, .int (b))]) [0, 1, 2, 3] rfl ?_
  refine cw_aload_n (pc := 0) C dX6_changed_0 rfl 0 rfl ?_
  refine cw_get (pc := 1) C dX6_changed_1 0 (v := .ref (A 9)) rfl rfl 6 rfl (fun _ h => List.mem_cons_of_mem _ (List.mem_append_left _ (List.mem_append_left _ (List.mem_append_left _ (List.mem_append_left _ (List.mem_append_left _ (List.mem_append_right _ h))))))) (by decide) (List.mem_of_getElem? (i := 1) rfl) ?_
  refine cw_callv (pc := 4) C dX6_changed_4 (c_X4_draft l D Z A σ dd hdd hd) (cwV 0 C.1.2.2.2.2 gX6_changed_X4_draft rfl rfl rfl (by decide +kernel) ⟨Nat.le_of_ble_eq_true rfl, Nat.le_of_ble_eq_true rfl⟩) 9 rfl rfl rfl rfl (Nat.le_of_ble_eq_true rfl) (fun σ1 hr => ?_)
  subst hr
  obtain ⟨σ2, hσ2⟩ : ∃ z, z = up2 σ (11 + dd) (σ 1) := ⟨_, rfl⟩
  rw [← hσ2]
  have e1 : σ2 1 = σ 1 := by rw [hσ2]; exact up2_ne _ _ (by omega)
  have e2 : σ2 2 = σ 2 := by rw [hσ2]; exact up2_ne _ _ (by omega)
  have ez0 : σ2 0 = σ 0 := by rw [hσ2]; exact up2_ne _ _ (by omega)
  have e9 : σ2 9 = σ 9 := by rw [hσ2]; exact up2_ne _ _ (by omega)
  have e17 : σ2 17 = σ 17 := by rw [hσ2]; exact up2_ne _ _ (by omega)
  have e18 : σ2 18 = σ 18 := by rw [hσ2]; exact up2_ne _ _ (by omega)
  have eK : ∀ k, k < 6 → k ≠ dd → σ2 (11 + k) = σ (11 + k) := fun k h1 h2 => by rw [hσ2]; exact up2_ne _ _ (by omega)
  have eD : σ2 (11 + dd) = σ 1 := by rw [hσ2]; exact up2_eq _ _ _
  have hX2 : rowOK (σ2 1) := by rw [e1]; exact hOK
  have hd2 : σ2 9 2 = nI dd := by rw [e9]; exact hd
  have hn2 : σ2 9 3 = nI nn := by rw [e9]; exact hn
  refine cw_aload_n (pc := 7) C dX6_changed_7 rfl 0 rfl ?_
  refine cw_get (pc := 8) C dX6_changed_8 0 (v := .ref (A 8)) rfl rfl 5 rfl (fun _ h => List.mem_cons_of_mem _ (List.mem_append_left _ (List.mem_append_left _ (List.mem_append_left _ (List.mem_append_left _ (List.mem_append_left _ (List.mem_append_right _ h))))))) (by decide) (List.mem_of_getElem? (i := 2) rfl) ?_
  refine cw_iload_n (pc := 11) C dX6_changed_11 rfl 1 rfl ?_
  refine cw_iload_n (pc := 12) C dX6_changed_12 rfl 2 rfl ?_
  refine cw_iload_n (pc := 13) C dX6_changed_13 rfl 3 rfl ?_
  refine cw_calli (pc := 14) C dX6_changed_14 (c_X2_obey l D Z A σ2 o a b hX2 ho) (cwV 3 C.1.2.2.2.2 gX6_changed_X2_obey rfl rfl rfl (by decide +kernel) ⟨Nat.le_of_ble_eq_true rfl, Nat.le_of_ble_eq_true rfl⟩) 8 rfl rfl rfl rfl (Nat.le_of_ble_eq_true rfl) (fun r σ1 hr => ?_)
  obtain ⟨rfl, aw, pa, rfl⟩ := hr
  refine cw_istore (pc := 17) C dX6_changed_17 (by decide) (lv' := [(4, .int (oR (σ2 1) o a b)), (0, .ref (A 0)), (1, .int (nI o)), (2, .int (a)), (3, .int (b))]) rfl ?_
  refine cw_iload (pc := 19) C dX6_changed_19 0 rfl ?_
  refine cw_if_ge (pc := 21) (tgt := 31) C dX6_changed_21 (by decide) (fun h21 => ?_) (fun h21 => ?_)
  · -- 21 t
    refine cw_aload_n (pc := 31) C dX6_changed_31 rfl 1 rfl ?_
    refine cw_get (pc := 32) C dX6_changed_32 0 (v := .ref (A 9)) rfl rfl 6 rfl (fun _ h => List.mem_cons_of_mem _ (List.mem_append_left _ (List.mem_append_left _ (List.mem_append_left _ (List.mem_append_left _ (List.mem_append_left _ (List.mem_append_right _ h))))))) (by decide) (List.mem_of_getElem? (i := 1) rfl) ?_
    have hf9 : (up2 (up2 (up2 σ2 1 (oX (σ2 1) o a b)) 4 aw) 5 pa) 9 = σ2 9 := ((up2_ne _ _ (by decide)).trans ((up2_ne _ _ (by decide)).trans (up2_ne _ _ (by decide))))
    have ee0 := congrArg (fun qz => upd (upd qz 2 (nI ((dd + 1) % 6))) 3 (nI (min (nn + 1) 5))) hf9
    have e3 := congrArg (fun qz => up2 (up2 (up2 (up2 σ2 1 (oX (σ2 1) o a b)) 4 aw) 5 pa) 9 qz) ee0
    refine cw_callv (pc := 35) C dX6_changed_35 (c_X4_keepDraft l D Z A (up2 (up2 (up2 σ2 1 (oX (σ2 1) o a b)) 4 aw) 5 pa) dd nn hdd hd2 hnn hn2) (cwV 0 C.1.2.2.2.2 gX6_changed_X4_keepDraft rfl rfl rfl (by decide +kernel) ⟨Nat.le_of_ble_eq_true rfl, Nat.le_of_ble_eq_true rfl⟩) 9 rfl rfl rfl rfl (Nat.le_of_ble_eq_true rfl) (cw_effv (fun _ h => h) (up2 (up2 (up2 (up2 σ2 1 (oX (σ2 1) o a b)) 4 aw) 5 pa) 9 (upd (upd (σ2 9) 2 (nI ((dd + 1) % 6))) 3 (nI (min (nn + 1) 5)))) (congrArg (wC Z A) e3) ?_)
    refine cw_iload (pc := 38) C dX6_changed_38 0 rfl ?_
    refine hret (oR (σ2 1) o a b) (up2 (up2 (up2 (up2 σ2 1 (oX (σ2 1) o a b)) 4 aw) 5 pa) 9 (upd (upd (σ2 9) 2 (nI ((dd + 1) % 6))) 3 (nI (min (nn + 1) 5)))) _ _ dX6_changed_40 ?_
    clear hret
    refine Or.inl ⟨by rw [← e1]; exact h21, by rw [e1], ?_⟩
    exact ⟨congrArg (fun z => oX z o a b) e1, e2, congrFun ez0 8, congrFun ez0 9, e18, ⟨o9, p9, e17.trans hT⟩, (dd + 1) % 6, by omega, rfl, rfl, absC_psh hdd hnn hK _ (fun k h1 h2 => (up2_ne _ _ (by omega)).trans ((up2_ne _ _ (by omega)).trans ((up2_ne _ _ (by omega)).trans ((up2_ne _ _ (by omega)).trans (eK k h1 h2))))) ((up2_ne _ _ (by omega)).trans ((up2_ne _ _ (by omega)).trans ((up2_ne _ _ (by omega)).trans ((up2_ne _ _ (by omega)).trans (eD)))))⟩
  · -- 21 f
    rcases ord_all hX2 ho a b with hg | ⟨hbad, hsame⟩
    · exact absurd hg.1 h21
    rcases hbad with e | e
    · -- refused as 0
      rw [e, hsame]
      refine cw_aload_n (pc := 24) C dX6_changed_24 rfl 1 rfl ?_
      refine cw_iload (pc := 25) C dX6_changed_25 0 rfl ?_
      have hf2 : (up2 (up2 (up2 σ2 1 (σ2 1)) 4 aw) 5 pa) 2 = σ2 2 := ((up2_ne _ _ (by decide)).trans ((up2_ne _ _ (by decide)).trans (up2_ne _ _ (by decide))))
      have ee0 := congrArg (fun qz => cntF qz 0) hf2
      have e3 := congrArg (fun qz => up2 (up2 (up2 (up2 σ2 1 (σ2 1)) 2 qz) 4 aw) 5 pa) ee0
      refine cw_calli (pc := 27) C dX6_changed_27 (c_X6_refusal0 l D Z A (up2 (up2 (up2 σ2 1 (σ2 1)) 4 aw) 5 pa) ) (cwV 1 C.1.2.2.2.2 gX6_changed_X6_refusal rfl rfl rfl (by decide +kernel) ⟨Nat.le_of_ble_eq_true rfl, Nat.le_of_ble_eq_true rfl⟩) 0 rfl rfl rfl rfl (Nat.le_of_ble_eq_true rfl) (cw_eff (v := (-2)) (fun _ _ h => h) (up2 (up2 (up2 (up2 σ2 1 (σ2 1)) 2 (cntF (σ2 2) 0)) 4 aw) 5 pa) (congrArg (wC Z A) (((up2_comm _ _ _ (by decide)).trans (congrArg (fun qz => up2 qz 5 pa) ((up2_comm _ _ _ (by decide)).trans (congrArg (fun qz => up2 qz 4 aw) rfl)))).trans e3)) ?_)
      refine hret (-2) (up2 (up2 (up2 (up2 σ2 1 (σ2 1)) 2 (cntF (σ2 2) 0)) 4 aw) 5 pa) _ _ dX6_changed_30 ?_
      clear hret
      refine Or.inr ⟨0, by omega, by rw [← e1]; exact e, rfl, ?_⟩
      exact ⟨e1, congrArg (fun z => cntF z 0) e2, congrFun ez0 8, congrFun ez0 9, e18, ⟨o9, p9, e17.trans hT⟩, dd, hdd, hd2, hn2, fun i hi => (up2_ne _ _ (by omega)).trans ((up2_ne _ _ (by omega)).trans ((up2_ne _ _ (by omega)).trans ((up2_ne _ _ (by omega)).trans ((eK _ (by omega) (by omega)).trans (hK i hi)))))⟩
    · -- refused as 1
      rw [e, hsame]
      refine cw_aload_n (pc := 24) C dX6_changed_24 rfl 1 rfl ?_
      refine cw_iload (pc := 25) C dX6_changed_25 0 rfl ?_
      have hf2 : (up2 (up2 (up2 σ2 1 (σ2 1)) 4 aw) 5 pa) 2 = σ2 2 := ((up2_ne _ _ (by decide)).trans ((up2_ne _ _ (by decide)).trans (up2_ne _ _ (by decide))))
      have ee0 := congrArg (fun qz => cntF qz 1) hf2
      have e3 := congrArg (fun qz => up2 (up2 (up2 (up2 σ2 1 (σ2 1)) 2 qz) 4 aw) 5 pa) ee0
      refine cw_calli (pc := 27) C dX6_changed_27 (c_X6_refusal1 l D Z A (up2 (up2 (up2 σ2 1 (σ2 1)) 4 aw) 5 pa) ) (cwV 1 C.1.2.2.2.2 gX6_changed_X6_refusal rfl rfl rfl (by decide +kernel) ⟨Nat.le_of_ble_eq_true rfl, Nat.le_of_ble_eq_true rfl⟩) 0 rfl rfl rfl rfl (Nat.le_of_ble_eq_true rfl) (cw_eff (v := (-3)) (fun _ _ h => h) (up2 (up2 (up2 (up2 σ2 1 (σ2 1)) 2 (cntF (σ2 2) 1)) 4 aw) 5 pa) (congrArg (wC Z A) (((up2_comm _ _ _ (by decide)).trans (congrArg (fun qz => up2 qz 5 pa) ((up2_comm _ _ _ (by decide)).trans (congrArg (fun qz => up2 qz 4 aw) rfl)))).trans e3)) ?_)
      refine hret (-3) (up2 (up2 (up2 (up2 σ2 1 (σ2 1)) 2 (cntF (σ2 2) 1)) 4 aw) 5 pa) _ _ dX6_changed_30 ?_
      clear hret
      refine Or.inr ⟨1, by omega, by rw [← e1]; exact e, rfl, ?_⟩
      exact ⟨e1, congrArg (fun z => cntF z 1) e2, congrFun ez0 8, congrFun ez0 9, e18, ⟨o9, p9, e17.trans hT⟩, dd, hdd, hd2, hn2, fun i hi => (up2_ne _ _ (by omega)).trans ((up2_ne _ _ (by omega)).trans ((up2_ne _ _ (by omega)).trans ((up2_ne _ _ (by omega)).trans ((eK _ (by omega) (by omega)).trans (hK i hi)))))⟩
set_option maxHeartbeats 4000000 in
set_option maxRecDepth 100000 in
theorem c_X6_gear (l : Launch) (D : va_G) (Z : CZ) (A : Nat → Nat) (σ : St) (X F : Nat → Int32) (ck co : Int32) (K : Nat → Nat → Int32) (nn : Nat) (B : Nat → Int32) (L : Nat)  (g : Int32) (v : Int32) (ha : absC σ X F ck co K nn B L) (hi : absI X K nn B L) : CTi l yX6_gear wsX6_gear 7 166 D Z (wC Z A) σ [.ref (A 0), .int (g), .int (v)] (fun r σ' => (0 ≤ oR X 0 g v ∧ r = oR X 0 g v ∧ absC σ' (oX X 0 g v) F ck co (psh K nn X) (min (nn + 1) 5) B L) ∨ (∃ kk, kk < 2 ∧ oR X 0 g v = refV kk ∧ r = refV kk ∧ absC σ' X (cntF F kk) ck co K nn B L)) := by
  refine CTi.mk (cc := cX6_gear) (nL := 3) (own := RX6) rfl (by decide) rfl (Nat.le_of_ble_eq_true rfl) ?_
  intro p0 e0 s0 m0 g0 b0 t0 c0 A0 Q C hret
  refine cw_lv (lv' := [(0, .ref (A 0)), (1, .int (g)), (2, .int (v))]) [0, 1, 2] rfl ?_
  refine cw_aload_n (pc := 0) C dX6_gear_0 rfl 0 rfl ?_
  refine cw_iconst (pc := 1) C dX6_gear_1 (nI 0) (by decide) ?_
  refine cw_iload_n (pc := 2) C dX6_gear_2 rfl 1 rfl ?_
  refine cw_iload_n (pc := 3) C dX6_gear_3 rfl 2 rfl ?_
  refine cw_calli (pc := 4) C dX6_gear_4 (c_X6_changed l D Z A σ X F ck co K nn B L 0 g v ha hi (by omega)) (cwV 3 C.1.2.2.2.2 gX6_gear_X6_changed rfl rfl rfl (by decide +kernel) ⟨Nat.le_of_ble_eq_true rfl, Nat.le_of_ble_eq_true rfl⟩) 0 rfl rfl rfl rfl (Nat.le_of_ble_eq_true rfl) (fun r σ1 hr => ?_)
  refine hret r σ1 _ _ dX6_gear_7 ?_
  clear hret
  exact hr
set_option maxHeartbeats 4000000 in
set_option maxRecDepth 100000 in
theorem c_X6_fails (l : Launch) (D : va_G) (Z : CZ) (A : Nat → Nat) (σ : St) (X F : Nat → Int32) (ck co : Int32) (K : Nat → Nat → Int32) (nn : Nat) (B : Nat → Int32) (L : Nat)  (k : Int32) (v : Int32) (ha : absC σ X F ck co K nn B L) (hi : absI X K nn B L) : CTi l yX6_fails wsX6_fails 7 166 D Z (wC Z A) σ [.ref (A 0), .int (k), .int (v)] (fun r σ' => (0 ≤ oR X 1 k v ∧ r = oR X 1 k v ∧ absC σ' (oX X 1 k v) F ck co (psh K nn X) (min (nn + 1) 5) B L) ∨ (∃ kk, kk < 2 ∧ oR X 1 k v = refV kk ∧ r = refV kk ∧ absC σ' X (cntF F kk) ck co K nn B L)) := by
  refine CTi.mk (cc := cX6_fails) (nL := 3) (own := RX6) rfl (by decide) rfl (Nat.le_of_ble_eq_true rfl) ?_
  intro p0 e0 s0 m0 g0 b0 t0 c0 A0 Q C hret
  refine cw_lv (lv' := [(0, .ref (A 0)), (1, .int (k)), (2, .int (v))]) [0, 1, 2] rfl ?_
  refine cw_aload_n (pc := 0) C dX6_fails_0 rfl 0 rfl ?_
  refine cw_iconst (pc := 1) C dX6_fails_1 (nI 1) (by decide) ?_
  refine cw_iload_n (pc := 2) C dX6_fails_2 rfl 1 rfl ?_
  refine cw_iload_n (pc := 3) C dX6_fails_3 rfl 2 rfl ?_
  refine cw_calli (pc := 4) C dX6_fails_4 (c_X6_changed l D Z A σ X F ck co K nn B L 1 k v ha hi (by omega)) (cwV 3 C.1.2.2.2.2 gX6_fails_X6_changed rfl rfl rfl (by decide +kernel) ⟨Nat.le_of_ble_eq_true rfl, Nat.le_of_ble_eq_true rfl⟩) 0 rfl rfl rfl rfl (Nat.le_of_ble_eq_true rfl) (fun r σ1 hr => ?_)
  refine hret r σ1 _ _ dX6_fails_7 ?_
  clear hret
  exact hr
set_option maxHeartbeats 4000000 in
set_option maxRecDepth 100000 in
theorem c_X6_trues (l : Launch) (D : va_G) (Z : CZ) (A : Nat → Nat) (σ : St) (X F : Nat → Int32) (ck co : Int32) (K : Nat → Nat → Int32) (nn : Nat) (B : Nat → Int32) (L : Nat)  (k : Int32) (v : Int32) (ha : absC σ X F ck co K nn B L) (hi : absI X K nn B L) : CTi l yX6_trues wsX6_trues 7 166 D Z (wC Z A) σ [.ref (A 0), .int (k), .int (v)] (fun r σ' => (0 ≤ oR X 2 k v ∧ r = oR X 2 k v ∧ absC σ' (oX X 2 k v) F ck co (psh K nn X) (min (nn + 1) 5) B L) ∨ (∃ kk, kk < 2 ∧ oR X 2 k v = refV kk ∧ r = refV kk ∧ absC σ' X (cntF F kk) ck co K nn B L)) := by
  refine CTi.mk (cc := cX6_trues) (nL := 3) (own := RX6) rfl (by decide) rfl (Nat.le_of_ble_eq_true rfl) ?_
  intro p0 e0 s0 m0 g0 b0 t0 c0 A0 Q C hret
  refine cw_lv (lv' := [(0, .ref (A 0)), (1, .int (k)), (2, .int (v))]) [0, 1, 2] rfl ?_
  refine cw_aload_n (pc := 0) C dX6_trues_0 rfl 0 rfl ?_
  refine cw_iconst (pc := 1) C dX6_trues_1 (nI 2) (by decide) ?_
  refine cw_iload_n (pc := 2) C dX6_trues_2 rfl 1 rfl ?_
  refine cw_iload_n (pc := 3) C dX6_trues_3 rfl 2 rfl ?_
  refine cw_calli (pc := 4) C dX6_trues_4 (c_X6_changed l D Z A σ X F ck co K nn B L 2 k v ha hi (by omega)) (cwV 3 C.1.2.2.2.2 gX6_trues_X6_changed rfl rfl rfl (by decide +kernel) ⟨Nat.le_of_ble_eq_true rfl, Nat.le_of_ble_eq_true rfl⟩) 0 rfl rfl rfl rfl (Nat.le_of_ble_eq_true rfl) (fun r σ1 hr => ?_)
  refine hret r σ1 _ _ dX6_trues_7 ?_
  clear hret
  exact hr
set_option maxHeartbeats 4000000 in
set_option maxRecDepth 100000 in
theorem c_X6_up (l : Launch) (D : va_G) (Z : CZ) (A : Nat → Nat) (σ : St) (X F : Nat → Int32) (ck co : Int32) (K : Nat → Nat → Int32) (nn : Nat) (B : Nat → Int32) (L : Nat)  (g : Int32) (v : Int32) (ha : absC σ X F ck co K nn B L) (hi : absI X K nn B L) : CTi l yX6_up wsX6_up 7 166 D Z (wC Z A) σ [.ref (A 0), .int (g), .int (v)] (fun r σ' => (0 ≤ oR X 3 g v ∧ r = oR X 3 g v ∧ absC σ' (oX X 3 g v) F ck co (psh K nn X) (min (nn + 1) 5) B L) ∨ (∃ kk, kk < 2 ∧ oR X 3 g v = refV kk ∧ r = refV kk ∧ absC σ' X (cntF F kk) ck co K nn B L)) := by
  refine CTi.mk (cc := cX6_up) (nL := 3) (own := RX6) rfl (by decide) rfl (Nat.le_of_ble_eq_true rfl) ?_
  intro p0 e0 s0 m0 g0 b0 t0 c0 A0 Q C hret
  refine cw_lv (lv' := [(0, .ref (A 0)), (1, .int (g)), (2, .int (v))]) [0, 1, 2] rfl ?_
  refine cw_aload_n (pc := 0) C dX6_up_0 rfl 0 rfl ?_
  refine cw_iconst (pc := 1) C dX6_up_1 (nI 3) (by decide) ?_
  refine cw_iload_n (pc := 2) C dX6_up_2 rfl 1 rfl ?_
  refine cw_iload_n (pc := 3) C dX6_up_3 rfl 2 rfl ?_
  refine cw_calli (pc := 4) C dX6_up_4 (c_X6_changed l D Z A σ X F ck co K nn B L 3 g v ha hi (by omega)) (cwV 3 C.1.2.2.2.2 gX6_up_X6_changed rfl rfl rfl (by decide +kernel) ⟨Nat.le_of_ble_eq_true rfl, Nat.le_of_ble_eq_true rfl⟩) 0 rfl rfl rfl rfl (Nat.le_of_ble_eq_true rfl) (fun r σ1 hr => ?_)
  refine hret r σ1 _ _ dX6_up_7 ?_
  clear hret
  exact hr
set_option maxHeartbeats 4000000 in
set_option maxRecDepth 100000 in
theorem c_X6_down (l : Launch) (D : va_G) (Z : CZ) (A : Nat → Nat) (σ : St) (X F : Nat → Int32) (ck co : Int32) (K : Nat → Nat → Int32) (nn : Nat) (B : Nat → Int32) (L : Nat)  (g : Int32) (v : Int32) (ha : absC σ X F ck co K nn B L) (hi : absI X K nn B L) : CTi l yX6_down wsX6_down 7 166 D Z (wC Z A) σ [.ref (A 0), .int (g), .int (v)] (fun r σ' => (0 ≤ oR X 4 g v ∧ r = oR X 4 g v ∧ absC σ' (oX X 4 g v) F ck co (psh K nn X) (min (nn + 1) 5) B L) ∨ (∃ kk, kk < 2 ∧ oR X 4 g v = refV kk ∧ r = refV kk ∧ absC σ' X (cntF F kk) ck co K nn B L)) := by
  refine CTi.mk (cc := cX6_down) (nL := 3) (own := RX6) rfl (by decide) rfl (Nat.le_of_ble_eq_true rfl) ?_
  intro p0 e0 s0 m0 g0 b0 t0 c0 A0 Q C hret
  refine cw_lv (lv' := [(0, .ref (A 0)), (1, .int (g)), (2, .int (v))]) [0, 1, 2] rfl ?_
  refine cw_aload_n (pc := 0) C dX6_down_0 rfl 0 rfl ?_
  refine cw_iconst (pc := 1) C dX6_down_1 (nI 4) (by decide) ?_
  refine cw_iload_n (pc := 2) C dX6_down_2 rfl 1 rfl ?_
  refine cw_iload_n (pc := 3) C dX6_down_3 rfl 2 rfl ?_
  refine cw_calli (pc := 4) C dX6_down_4 (c_X6_changed l D Z A σ X F ck co K nn B L 4 g v ha hi (by omega)) (cwV 3 C.1.2.2.2.2 gX6_down_X6_changed rfl rfl rfl (by decide +kernel) ⟨Nat.le_of_ble_eq_true rfl, Nat.le_of_ble_eq_true rfl⟩) 0 rfl rfl rfl rfl (Nat.le_of_ble_eq_true rfl) (fun r σ1 hr => ?_)
  refine hret r σ1 _ _ dX6_down_7 ?_
  clear hret
  exact hr
set_option maxHeartbeats 4000000 in
set_option maxRecDepth 100000 in
theorem c_X6_slope (l : Launch) (D : va_G) (Z : CZ) (A : Nat → Nat) (σ : St) (X F : Nat → Int32) (ck co : Int32) (K : Nat → Nat → Int32) (nn : Nat) (B : Nat → Int32) (L : Nat)  (v : Int32) (ha : absC σ X F ck co K nn B L) (hi : absI X K nn B L) : CTi l yX6_slope wsX6_slope 7 166 D Z (wC Z A) σ [.ref (A 0), .int (v)] (fun r σ' => (0 ≤ oR X 5 v (nI 0) ∧ r = oR X 5 v (nI 0) ∧ absC σ' (oX X 5 v (nI 0)) F ck co (psh K nn X) (min (nn + 1) 5) B L) ∨ (∃ kk, kk < 2 ∧ oR X 5 v (nI 0) = refV kk ∧ r = refV kk ∧ absC σ' X (cntF F kk) ck co K nn B L)) := by
  refine CTi.mk (cc := cX6_slope) (nL := 2) (own := RX6) rfl (by decide) rfl (Nat.le_of_ble_eq_true rfl) ?_
  intro p0 e0 s0 m0 g0 b0 t0 c0 A0 Q C hret
  refine cw_lv (lv' := [(0, .ref (A 0)), (1, .int (v))]) [0, 1] rfl ?_
  refine cw_aload_n (pc := 0) C dX6_slope_0 rfl 0 rfl ?_
  refine cw_iconst (pc := 1) C dX6_slope_1 (nI 5) (by decide) ?_
  refine cw_iload_n (pc := 2) C dX6_slope_2 rfl 1 rfl ?_
  refine cw_iconst (pc := 3) C dX6_slope_3 (nI 0) (by decide) ?_
  refine cw_calli (pc := 4) C dX6_slope_4 (c_X6_changed l D Z A σ X F ck co K nn B L 5 v (nI 0) ha hi (by omega)) (cwV 3 C.1.2.2.2.2 gX6_slope_X6_changed rfl rfl rfl (by decide +kernel) ⟨Nat.le_of_ble_eq_true rfl, Nat.le_of_ble_eq_true rfl⟩) 0 rfl rfl rfl rfl (Nat.le_of_ble_eq_true rfl) (fun r σ1 hr => ?_)
  refine hret r σ1 _ _ dX6_slope_7 ?_
  clear hret
  exact hr
set_option maxHeartbeats 4000000 in
set_option maxRecDepth 100000 in
theorem c_X6_driver (l : Launch) (D : va_G) (Z : CZ) (A : Nat → Nat) (σ : St) (X F : Nat → Int32) (ck co : Int32) (K : Nat → Nat → Int32) (nn : Nat) (B : Nat → Int32) (L : Nat)  (v : Int32) (ha : absC σ X F ck co K nn B L) (hi : absI X K nn B L) : CTi l yX6_driver wsX6_driver 7 166 D Z (wC Z A) σ [.ref (A 0), .int (v)] (fun r σ' => (0 ≤ oR X 6 v (nI 0) ∧ r = oR X 6 v (nI 0) ∧ absC σ' (oX X 6 v (nI 0)) F ck co (psh K nn X) (min (nn + 1) 5) B L) ∨ (∃ kk, kk < 2 ∧ oR X 6 v (nI 0) = refV kk ∧ r = refV kk ∧ absC σ' X (cntF F kk) ck co K nn B L)) := by
  refine CTi.mk (cc := cX6_driver) (nL := 2) (own := RX6) rfl (by decide) rfl (Nat.le_of_ble_eq_true rfl) ?_
  intro p0 e0 s0 m0 g0 b0 t0 c0 A0 Q C hret
  refine cw_lv (lv' := [(0, .ref (A 0)), (1, .int (v))]) [0, 1] rfl ?_
  refine cw_aload_n (pc := 0) C dX6_driver_0 rfl 0 rfl ?_
  refine cw_bipush (pc := 1) C dX6_driver_1 (nI 6) (by decide) ?_
  refine cw_iload_n (pc := 3) C dX6_driver_3 rfl 1 rfl ?_
  refine cw_iconst (pc := 4) C dX6_driver_4 (nI 0) (by decide) ?_
  refine cw_calli (pc := 5) C dX6_driver_5 (c_X6_changed l D Z A σ X F ck co K nn B L 6 v (nI 0) ha hi (by omega)) (cwV 3 C.1.2.2.2.2 gX6_driver_X6_changed rfl rfl rfl (by decide +kernel) ⟨Nat.le_of_ble_eq_true rfl, Nat.le_of_ble_eq_true rfl⟩) 0 rfl rfl rfl rfl (Nat.le_of_ble_eq_true rfl) (fun r σ1 hr => ?_)
  refine hret r σ1 _ _ dX6_driver_8 ?_
  clear hret
  exact hr
set_option maxHeartbeats 4000000 in
set_option maxRecDepth 100000 in
theorem c_X6_drives (l : Launch) (D : va_G) (Z : CZ) (A : Nat → Nat) (σ : St) (X F : Nat → Int32) (ck co : Int32) (K : Nat → Nat → Int32) (nn : Nat) (B : Nat → Int32) (L : Nat)  (v : Int32) (n : Int32) (ha : absC σ X F ck co K nn B L) (hi : absI X K nn B L) : CTi l yX6_drives wsX6_drives 7 166 D Z (wC Z A) σ [.ref (A 0), .int (v), .int (n)] (fun r σ' => (0 ≤ oR X 7 v n ∧ r = oR X 7 v n ∧ absC σ' (oX X 7 v n) F ck co (psh K nn X) (min (nn + 1) 5) B L) ∨ (∃ kk, kk < 2 ∧ oR X 7 v n = refV kk ∧ r = refV kk ∧ absC σ' X (cntF F kk) ck co K nn B L)) := by
  refine CTi.mk (cc := cX6_drives) (nL := 3) (own := RX6) rfl (by decide) rfl (Nat.le_of_ble_eq_true rfl) ?_
  intro p0 e0 s0 m0 g0 b0 t0 c0 A0 Q C hret
  refine cw_lv (lv' := [(0, .ref (A 0)), (1, .int (v)), (2, .int (n))]) [0, 1, 2] rfl ?_
  refine cw_aload_n (pc := 0) C dX6_drives_0 rfl 0 rfl ?_
  refine cw_bipush (pc := 1) C dX6_drives_1 (nI 7) (by decide) ?_
  refine cw_iload_n (pc := 3) C dX6_drives_3 rfl 1 rfl ?_
  refine cw_iload_n (pc := 4) C dX6_drives_4 rfl 2 rfl ?_
  refine cw_calli (pc := 5) C dX6_drives_5 (c_X6_changed l D Z A σ X F ck co K nn B L 7 v n ha hi (by omega)) (cwV 3 C.1.2.2.2.2 gX6_drives_X6_changed rfl rfl rfl (by decide +kernel) ⟨Nat.le_of_ble_eq_true rfl, Nat.le_of_ble_eq_true rfl⟩) 0 rfl rfl rfl rfl (Nat.le_of_ble_eq_true rfl) (fun r σ1 hr => ?_)
  refine hret r σ1 _ _ dX6_drives_8 ?_
  clear hret
  exact hr
set_option maxHeartbeats 4000000 in
set_option maxRecDepth 100000 in
theorem c_X6_sets (l : Launch) (D : va_G) (Z : CZ) (A : Nat → Nat) (σ : St) (X F : Nat → Int32) (ck co : Int32) (K : Nat → Nat → Int32) (nn : Nat) (B : Nat → Int32) (L : Nat)  (w : Int32) (v : Int32) (ha : absC σ X F ck co K nn B L) (hi : absI X K nn B L) : CTi l yX6_sets wsX6_sets 7 166 D Z (wC Z A) σ [.ref (A 0), .int (w), .int (v)] (fun r σ' => (0 ≤ oR X 8 w v ∧ r = oR X 8 w v ∧ absC σ' (oX X 8 w v) F ck co (psh K nn X) (min (nn + 1) 5) B L) ∨ (∃ kk, kk < 2 ∧ oR X 8 w v = refV kk ∧ r = refV kk ∧ absC σ' X (cntF F kk) ck co K nn B L)) := by
  refine CTi.mk (cc := cX6_sets) (nL := 3) (own := RX6) rfl (by decide) rfl (Nat.le_of_ble_eq_true rfl) ?_
  intro p0 e0 s0 m0 g0 b0 t0 c0 A0 Q C hret
  refine cw_lv (lv' := [(0, .ref (A 0)), (1, .int (w)), (2, .int (v))]) [0, 1, 2] rfl ?_
  refine cw_aload_n (pc := 0) C dX6_sets_0 rfl 0 rfl ?_
  refine cw_bipush (pc := 1) C dX6_sets_1 (nI 8) (by decide) ?_
  refine cw_iload_n (pc := 3) C dX6_sets_3 rfl 1 rfl ?_
  refine cw_iload_n (pc := 4) C dX6_sets_4 rfl 2 rfl ?_
  refine cw_calli (pc := 5) C dX6_sets_5 (c_X6_changed l D Z A σ X F ck co K nn B L 8 w v ha hi (by omega)) (cwV 3 C.1.2.2.2.2 gX6_sets_X6_changed rfl rfl rfl (by decide +kernel) ⟨Nat.le_of_ble_eq_true rfl, Nat.le_of_ble_eq_true rfl⟩) 0 rfl rfl rfl rfl (Nat.le_of_ble_eq_true rfl) (fun r σ1 hr => ?_)
  refine hret r σ1 _ _ dX6_sets_8 ?_
  clear hret
  exact hr
set_option maxHeartbeats 4000000 in
set_option maxRecDepth 100000 in
theorem c_X6_puts (l : Launch) (D : va_G) (Z : CZ) (A : Nat → Nat) (σ : St) (X F : Nat → Int32) (ck co : Int32) (K : Nat → Nat → Int32) (nn : Nat) (B : Nat → Int32) (L : Nat)  (g : Int32) (ha : absC σ X F ck co K nn B L) (hi : absI X K nn B L) : CTi l yX6_puts wsX6_puts 7 166 D Z (wC Z A) σ [.ref (A 0), .int (g)] (fun r σ' => (0 ≤ oR X 9 g (nI 0) ∧ r = oR X 9 g (nI 0) ∧ absC σ' (oX X 9 g (nI 0)) F ck co (psh K nn X) (min (nn + 1) 5) B L) ∨ (∃ kk, kk < 2 ∧ oR X 9 g (nI 0) = refV kk ∧ r = refV kk ∧ absC σ' X (cntF F kk) ck co K nn B L)) := by
  refine CTi.mk (cc := cX6_puts) (nL := 2) (own := RX6) rfl (by decide) rfl (Nat.le_of_ble_eq_true rfl) ?_
  intro p0 e0 s0 m0 g0 b0 t0 c0 A0 Q C hret
  refine cw_lv (lv' := [(0, .ref (A 0)), (1, .int (g))]) [0, 1] rfl ?_
  refine cw_aload_n (pc := 0) C dX6_puts_0 rfl 0 rfl ?_
  refine cw_bipush (pc := 1) C dX6_puts_1 (nI 9) (by decide) ?_
  refine cw_iload_n (pc := 3) C dX6_puts_3 rfl 1 rfl ?_
  refine cw_iconst (pc := 4) C dX6_puts_4 (nI 0) (by decide) ?_
  refine cw_calli (pc := 5) C dX6_puts_5 (c_X6_changed l D Z A σ X F ck co K nn B L 9 g (nI 0) ha hi (by omega)) (cwV 3 C.1.2.2.2.2 gX6_puts_X6_changed rfl rfl rfl (by decide +kernel) ⟨Nat.le_of_ble_eq_true rfl, Nat.le_of_ble_eq_true rfl⟩) 0 rfl rfl rfl rfl (Nat.le_of_ble_eq_true rfl) (fun r σ1 hr => ?_)
  refine hret r σ1 _ _ dX6_puts_8 ?_
  clear hret
  exact hr
set_option maxHeartbeats 4000000 in
set_option maxRecDepth 100000 in
theorem c_X6_type (l : Launch) (D : va_G) (Z : CZ) (A : Nat → Nat) (σ : St) (X F : Nat → Int32) (ck co : Int32) (K : Nat → Nat → Int32) (nn : Nat) (B : Nat → Int32) (L : Nat)  (v : Int32) (ha : absC σ X F ck co K nn B L) (hi : absI X K nn B L) : CTi l yX6_type wsX6_type 2 43 D Z (wC Z A) σ [.ref (A 0), .int (v)] (fun r σ' => r = ansV (tyA L v) ∧ absC σ' X (ansF F (tyA L v)) ck co K nn (tyT B L v) (tyL L v)) := by
  refine CTi.mk (cc := cX6_type) (nL := 2) (own := RX6) rfl (by decide) rfl (Nat.le_of_ble_eq_true rfl) ?_
  intro p0 e0 s0 m0 g0 b0 t0 c0 A0 Q C hret
  obtain ⟨rfl, rfl, rfl, rfl, rfl, ⟨o9, p9, hT⟩, dd, hdd, hd, hn, hK⟩ := ha
  obtain ⟨hOK, hOKK, hnn, hL, hB⟩ := hi
  refine cw_eq (σ' := up2 σ 17 (txR L o9 p9)) (by rw [← hT, up2_self]) ?_
  refine cw_lv (lv' := [(0, .ref (A 0)), (1, .int (v))]) [0, 1] rfl ?_
  refine cw_iload_n (pc := 0) C dX6_type_0 rfl 1 rfl ?_
  refine cw_iconst (pc := 1) C dX6_type_1 (nI 0) (by decide) ?_
  refine cw_bipush (pc := 2) C dX6_type_2 (nI 127) (by decide) ?_
  refine cw_calls (pc := 4) C dX6_type_4 (c_X6_isWithin l D Z A (up2 σ 17 (txR L o9 p9)) v (nI 0) (nI 127)) (va_cwS 3 C.1.2.2.2.2 gX6_type_X6_isWithin rfl rfl rfl (by decide +kernel) ⟨Nat.le_of_ble_eq_true rfl, Nat.le_of_ble_eq_true rfl⟩) rfl rfl (Nat.le_of_ble_eq_true rfl) (cw_purez (b := withinB v (nI 0) (nI 127)) (fun _ _ h => h) ?_)
  refine cw_if_ne (pc := 7) (tgt := 17) C dX6_type_7 (by decide) (fun h7 => ?_) (fun h7 => ?_)
  · -- 7 t
    have h7 := bI_nz h7
    refine cw_aload_n (pc := 17) C dX6_type_17 rfl 0 rfl ?_
    refine cw_get (pc := 18) C dX6_type_18 0 (v := .ref (A 17)) rfl rfl 7 rfl (fun _ h => List.mem_cons_of_mem _ (List.mem_append_left _ (List.mem_append_right _ h))) (by decide) (List.mem_of_getElem? (i := 1) rfl) ?_
    refine cw_iload_n (pc := 21) C dX6_type_21 rfl 1 rfl ?_
    refine cw_calli (pc := 22) C dX6_type_22 (c_X5_append l D Z A σ L o9 p9 v hL) (cwV 1 C.1.2.2.2.2 gX6_type_X5_append rfl rfl rfl (by decide +kernel) ⟨Nat.le_of_ble_eq_true rfl, Nat.le_of_ble_eq_true rfl⟩) 17 rfl rfl rfl rfl (Nat.le_of_ble_eq_true rfl) (fun r σ1 hr => ?_)
    obtain ⟨z, rfl, hr⟩ := hr
    rcases hr with ⟨hlt, rfl, rfl⟩ | ⟨hlt, rfl, rfl⟩
    · -- it has room
      refine cw_if_eq (pc := 25) (tgt := 38) C dX6_type_25 (by decide) (fun h => False.elim (by revert h; decide)) (fun _ => ?_)
      refine cw_aload_n (pc := 28) C dX6_type_28 rfl 0 rfl ?_
      refine cw_get (pc := 29) C dX6_type_29 0 (v := .ref (A 17)) rfl rfl 7 rfl (fun _ h => List.mem_cons_of_mem _ (List.mem_append_left _ (List.mem_append_right _ h))) (by decide) (List.mem_of_getElem? (i := 1) rfl) ?_
      refine cw_eq (σ' := up2 (up2 σ 18 (upd (σ 18) L v)) 17 (txR (L + 1) o9 p9)) ((up2_comm _ _ _ (by decide)).trans (congrArg (fun qz => up2 qz 18 (upd (σ 18) L v)) rfl)).symm ?_
      refine cw_calli (pc := 32) C dX6_type_32 (c_X5_length l D Z A (up2 σ 18 (upd (σ 18) L v)) (L + 1) o9 p9) (cwV 0 C.1.2.2.2.2 gX6_type_X5_length rfl rfl rfl (by decide +kernel) ⟨Nat.le_of_ble_eq_true rfl, Nat.le_of_ble_eq_true rfl⟩) 17 rfl rfl rfl rfl (Nat.le_of_ble_eq_true rfl) (cw_eff (v := nI (L + 1)) (fun _ _ h => h) (up2 (up2 σ 17 (txR (L + 1) o9 p9)) 18 (upd (σ 18) L v)) (congrArg (wC Z A) ((up2_comm _ _ _ (by decide)).trans (congrArg (fun qz => up2 qz 18 (upd (σ 18) L v)) rfl))) ?_)
      refine cw_goto (pc := 35) (tgt := 44) C dX6_type_35 (by decide) ?_
      refine hret (nI (L + 1)) (up2 (up2 σ 17 (txR (L + 1) o9 p9)) 18 (upd (σ 18) L v)) _ _ dX6_type_44 ?_
      clear hret
      have hb : tyB L v = true := by rw [tyB, h7, decide_eq_true hlt]; rfl
      rw [tyT, tyL, if_pos hb, if_pos hb]
      have hq : tyA L v = .inl (nI (L + 1)) := by first | (rw [tyA, if_pos h7, if_pos hlt]; done) | (rw [tyA, if_pos h7, if_pos hlt]; rfl)
      rw [hq]
      exact ⟨rfl, ⟨rfl, rfl, rfl, rfl, rfl, ⟨o9, p9, rfl⟩, dd, hdd, hd, hn, fun i hi => (up2_ne _ _ (by omega)).trans ((up2_ne _ _ (by omega)).trans (hK i hi))⟩⟩
    · -- full
      refine cw_if_eq (pc := 25) (tgt := 38) C dX6_type_25 (by decide) (fun _ => ?_) (fun h => False.elim (by revert h; decide))
      refine cw_aload_n (pc := 38) C dX6_type_38 rfl 0 rfl ?_
      refine cw_bipush (pc := 39) C dX6_type_39 (-4) (by decide) ?_
      have hf2 : (up2 σ 17 (txR L o9 p9)) 2 = σ 2 := (up2_ne _ _ (by decide))
      have ee0 := congrArg (fun qz => cntF qz 2) hf2
      have e3 := congrArg (fun qz => up2 (up2 σ 2 qz) 17 (txR L o9 p9)) ee0
      refine cw_calli (pc := 41) C dX6_type_41 (c_X6_refusal2 l D Z A (up2 σ 17 (txR L o9 p9)) ) (cwV 1 C.1.2.2.2.2 gX6_type_X6_refusal rfl rfl rfl (by decide +kernel) ⟨Nat.le_of_ble_eq_true rfl, Nat.le_of_ble_eq_true rfl⟩) 0 rfl rfl rfl rfl (Nat.le_of_ble_eq_true rfl) (cw_eff (v := (-4)) (fun _ _ h => h) (up2 (up2 σ 2 (cntF (σ 2) 2)) 17 (txR L o9 p9)) (congrArg (wC Z A) (((up2_comm _ _ _ (by decide)).trans (congrArg (fun qz => up2 qz 17 (txR L o9 p9)) rfl)).trans e3)) ?_)
      refine hret (-4) (up2 (up2 σ 2 (cntF (σ 2) 2)) 17 (txR L o9 p9)) _ _ dX6_type_44 ?_
      clear hret
      have hb : tyB L v = false := by rw [tyB, h7, decide_eq_false (by omega)]; rfl
      rw [tyT, tyL, if_neg (by rw [hb]; decide), if_neg (by rw [hb]; decide)]
      have hq : tyA L v = .inr 2 := by first | (rw [tyA, if_pos h7, if_neg (by omega)]; done) | (rw [tyA, if_pos h7, if_neg (by omega)]; rfl)
      rw [hq]
      exact ⟨rfl, ⟨rfl, rfl, rfl, rfl, rfl, ⟨o9, p9, rfl⟩, dd, hdd, hd, hn, fun i hi => (up2_ne _ _ (by omega)).trans ((up2_ne _ _ (by omega)).trans (hK i hi))⟩⟩
  · -- 7 f
    have h7 := bI_z h7
    refine cw_aload_n (pc := 10) C dX6_type_10 rfl 0 rfl ?_
    refine cw_bipush (pc := 11) C dX6_type_11 (-2) (by decide) ?_
    have hf2 : (up2 σ 17 (txR L o9 p9)) 2 = σ 2 := (up2_ne _ _ (by decide))
    have ee0 := congrArg (fun qz => cntF qz 0) hf2
    have e3 := congrArg (fun qz => up2 (up2 σ 2 qz) 17 (txR L o9 p9)) ee0
    refine cw_calli (pc := 13) C dX6_type_13 (c_X6_refusal0 l D Z A (up2 σ 17 (txR L o9 p9)) ) (cwV 1 C.1.2.2.2.2 gX6_type_X6_refusal rfl rfl rfl (by decide +kernel) ⟨Nat.le_of_ble_eq_true rfl, Nat.le_of_ble_eq_true rfl⟩) 0 rfl rfl rfl rfl (Nat.le_of_ble_eq_true rfl) (cw_eff (v := (-2)) (fun _ _ h => h) (up2 (up2 σ 2 (cntF (σ 2) 0)) 17 (txR L o9 p9)) (congrArg (wC Z A) (((up2_comm _ _ _ (by decide)).trans (congrArg (fun qz => up2 qz 17 (txR L o9 p9)) rfl)).trans e3)) ?_)
    refine hret (-2) (up2 (up2 σ 2 (cntF (σ 2) 0)) 17 (txR L o9 p9)) _ _ dX6_type_16 ?_
    clear hret
    have hb : tyB L v = false := by rw [tyB, h7]; rfl
    rw [tyT, tyL, if_neg (by rw [hb]; decide), if_neg (by rw [hb]; decide)]
    have hq : tyA L v = .inr 0 := by first | (rw [tyA, h7, if_neg (by decide)]; done) | (rw [tyA, h7, if_neg (by decide)]; rfl)
    rw [hq]
    exact ⟨rfl, ⟨rfl, rfl, rfl, rfl, rfl, ⟨o9, p9, rfl⟩, dd, hdd, hd, hn, fun i hi => (up2_ne _ _ (by omega)).trans ((up2_ne _ _ (by omega)).trans (hK i hi))⟩⟩
set_option maxHeartbeats 4000000 in
set_option maxRecDepth 100000 in
theorem c_X6_back (l : Launch) (D : va_G) (Z : CZ) (A : Nat → Nat) (σ : St) (X F : Nat → Int32) (ck co : Int32) (K : Nat → Nat → Int32) (nn : Nat) (B : Nat → Int32) (L : Nat)   (ha : absC σ X F ck co K nn B L) (hi : absI X K nn B L) : CTi l yX6_back wsX6_back 3 80 D Z (wC Z A) σ [.ref (A 0)] (fun r σ' => (nn = 0 ∧ r = -3 ∧ absC σ' X (cntF F 1) ck co K nn B L) ∨ (nn ≠ 0 ∧ r = nI (nn - 1) ∧ absC σ' (K (nn - 1)) F ck co K (nn - 1) B L)) := by
  refine CTi.mk (cc := cX6_back) (nL := 1) (own := RX6) rfl (by decide) rfl (Nat.le_of_ble_eq_true rfl) ?_
  intro p0 e0 s0 m0 g0 b0 t0 c0 A0 Q C hret
  obtain ⟨rfl, rfl, rfl, rfl, rfl, ⟨o9, p9, hT⟩, dd, hdd, hd, hn, hK⟩ := ha
  obtain ⟨hOK, hOKK, hnn, hL, hB⟩ := hi
  refine cw_lv (lv' := [(0, .ref (A 0))]) [0] rfl ?_
  refine cw_aload_n (pc := 0) C dX6_back_0 rfl 0 rfl ?_
  refine cw_get (pc := 1) C dX6_back_1 0 (v := .ref (A 9)) rfl rfl 6 rfl (fun _ h => List.mem_cons_of_mem _ (List.mem_append_left _ (List.mem_append_right _ h))) (by decide) (List.mem_of_getElem? (i := 1) rfl) ?_
  refine cw_calli (pc := 4) C dX6_back_4 (c_X4_goBack l D Z A σ dd nn hdd hd hnn hn) (cwV 0 C.1.2.2.2.2 gX6_back_X4_goBack rfl rfl rfl (by decide +kernel) ⟨Nat.le_of_ble_eq_true rfl, Nat.le_of_ble_eq_true rfl⟩) 9 rfl rfl rfl rfl (Nat.le_of_ble_eq_true rfl) (fun r σ1 hr => ?_)
  obtain ⟨z, rfl, rfl, hr⟩ := hr
  rcases hr with ⟨hz, hq⟩ | ⟨hz, rfl⟩
  · -- none
    rw [hq, show (!(decide (nn = 0))) = false by simp [hz]]
    refine cw_if_eq (pc := 7) (tgt := 20) C dX6_back_7 (by decide) (fun _ => ?_) (fun h => False.elim (by revert h; decide))
    refine cw_aload_n (pc := 20) C dX6_back_20 rfl 0 rfl ?_
    refine cw_bipush (pc := 21) C dX6_back_21 (-3) (by decide) ?_
    refine cw_calli (pc := 23) C dX6_back_23 (c_X6_refusal1 l D Z A σ ) (cwV 1 C.1.2.2.2.2 gX6_back_X6_refusal rfl rfl rfl (by decide +kernel) ⟨Nat.le_of_ble_eq_true rfl, Nat.le_of_ble_eq_true rfl⟩) 0 rfl rfl rfl rfl (Nat.le_of_ble_eq_true rfl) (cw_eff (v := (-3)) (fun _ _ h => h) (up2 σ 2 (cntF (σ 2) 1)) rfl ?_)
    refine hret (-3) (up2 σ 2 (cntF (σ 2) 1)) _ _ dX6_back_26 ?_
    clear hret
    refine Or.inl ⟨hz, rfl, ?_⟩
    exact ⟨rfl, rfl, rfl, rfl, rfl, ⟨o9, p9, hT⟩, dd, hdd, hd, hn, fun i hi => (up2_ne _ _ (by omega)).trans (hK i hi)⟩
  · -- one back
    rw [show (!(decide (nn = 0))) = true by simp [hz]]
    refine cw_if_eq (pc := 7) (tgt := 20) C dX6_back_7 (by decide) (fun h => False.elim (by revert h; decide)) (fun _ => ?_)
    refine cw_aload_n (pc := 10) C dX6_back_10 rfl 0 rfl ?_
    refine cw_get (pc := 11) C dX6_back_11 0 (v := .ref (A 9)) rfl rfl 6 rfl (fun _ h => List.mem_cons_of_mem _ (List.mem_append_left _ (List.mem_append_right _ h))) (by decide) (List.mem_of_getElem? (i := 1) rfl) ?_
    have hf9 : (up2 (up2 σ 1 (σ (11 + (dd + 5) % 6))) 9 (upd (upd (σ 9) 3 (nI (nn - 1))) 2 (nI ((dd + 5) % 6)))) 9 = upd (upd (σ 9) 3 (nI (nn - 1))) 2 (nI ((dd + 5) % 6)) := (up2_eq _ _ _)
    have ev0 := congrArg (fun qz => qz 3) hf9
    refine cw_calli (pc := 14) C dX6_back_14 (c_X4_count l D Z A (up2 (up2 σ 1 (σ (11 + (dd + 5) % 6))) 9 (upd (upd (σ 9) 3 (nI (nn - 1))) 2 (nI ((dd + 5) % 6)))) ) (cwV 0 C.1.2.2.2.2 gX6_back_X4_count rfl rfl rfl (by decide +kernel) ⟨Nat.le_of_ble_eq_true rfl, Nat.le_of_ble_eq_true rfl⟩) 9 rfl rfl rfl rfl (Nat.le_of_ble_eq_true rfl) (cw_pure (v := (upd (upd (σ 9) 3 (nI (nn - 1))) 2 (nI ((dd + 5) % 6))) 3) (fun _ _ h => ⟨h.1.trans (ev0), h.2⟩) ?_)
    refine cw_top (nI (nn - 1)) rfl ?_
    refine cw_goto (pc := 17) (tgt := 26) C dX6_back_17 (by decide) ?_
    refine hret (nI (nn - 1)) (up2 (up2 σ 1 (σ (11 + (dd + 5) % 6))) 9 (upd (upd (σ 9) 3 (nI (nn - 1))) 2 (nI ((dd + 5) % 6)))) _ _ dX6_back_26 ?_
    clear hret
    refine Or.inr ⟨hz, rfl, ?_⟩
    refine ⟨?_, rfl, rfl, rfl, rfl, ⟨o9, p9, hT⟩, (dd + 5) % 6, by omega, rfl, rfl, fun i hi => ?_⟩
    · rw [← hK (nn - 1) (by omega), show (dd + 6 - nn + (nn - 1)) % 6 = (dd + 5) % 6 by omega]
      rfl
    · refine (up2_ne _ _ (by omega)).trans ((up2_ne _ _ (by omega)).trans ?_)
      rw [← hK i (by omega)]
      congr 2
      omega
