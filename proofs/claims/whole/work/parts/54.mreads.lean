set_option maxHeartbeats 4000000 in
set_option maxRecDepth 100000 in
theorem c_X7_doOrder (l : Launch) (D : va_G) (Z : CZ) (A : Nat → Nat) (σ : St) (X B : Nat → Int32) (L n : Nat) (i : Nat) (hT : σ 1 = mrow X) (hO : rowOK X) (hM : ordsM B L n (σ 6) (σ 7) (σ 8)) (hin : i < n) (hn : n ≤ 50) (hB : byOK B L) : CTi l yX7_doOrder wsX7_doOrder 6 142 D Z (wM Z A) σ [.ref (A 0), .int (nI i)] (fun r σ' => r = oR X (oL B L (oP B L i)) (oAs B L (oP B L i)) (oB B L (oP B L i)) ∧ σ' 1 = mrow (oX X (oL B L (oP B L i)) (oAs B L (oP B L i)) (oB B L (oP B L i))) ∧ (∀ k, k ≠ 0 → k ≠ 1 → k ≠ 9 → k ≠ 10 → σ' k = σ k) ∧ (∀ z, z < 15 → σ' 0 z = σ 0 z)) := by
  refine CTi.mk (cc := cX7_doOrder) (nL := 4) (own := RX7) rfl (by decide) rfl (Nat.le_of_ble_eq_true rfl) ?_
  intro p0 e0 s0 m0 g0 b0 t0 c0 A0 Q C hret
  obtain ⟨hf9, hl9, ha9, hb9⟩ := hM.1 i hin
  have hF9 := oF_none hf9
  have hp9 : oP B L i < L := by omega
  obtain ⟨x, hx, hx9⟩ := hB _ hp9
  have hol0 : oL B L (oP B L i) = lixN x := by rw [oL, if_pos hp9, hx9, tN_N (by omega)]
  have hlx : lixN x < 8 := by rw [← hol0]; exact hF9.2.2.1
  have q0 := hM.2 i (by omega)
  have q1 := hM.2 (i + 1) (by omega)
  have hqi : qF B L i ≤ 100 := Nat.le_trans (qF_le i) (by omega)
  have hqi1 : qF B L (i + 1) ≤ 102 := Nat.le_trans (qF_le (i + 1)) (by omega)
  refine cw_lv (lv' := [(0, .ref (A 0)), (1, .int (nI i))]) [0, 1] rfl ?_
  refine cw_aload_n (pc := 0) C dX7_doOrder_0 rfl 0 rfl ?_
  refine cw_get (pc := 1) C dX7_doOrder_1 0 (v := .ref (A 8)) rfl rfl 11 rfl (fun _ h => List.mem_cons_of_mem _ (List.mem_append_right _ h)) (by decide) (List.mem_of_getElem? (i := 1) rfl) ?_
  refine cw_aload_n (pc := 4) C dX7_doOrder_4 rfl 0 rfl ?_
  refine cw_get (pc := 5) C dX7_doOrder_5 0 (v := .ref (A 7)) rfl rfl 10 rfl (fun _ h => List.mem_cons_of_mem _ (List.mem_append_right _ h)) (by decide) (List.mem_of_getElem? (i := 2) rfl) ?_
  refine cw_iload_n (pc := 8) C dX7_doOrder_8 rfl 1 rfl ?_
  refine cw_iald2 (pc := 9) C dX7_doOrder_9 7 7 (wM_g7 Z A) (f := σ 7) rfl i rfl (by omega) (by decide) ?_
  refine cw_top (nI (qF B L i)) q0 ?_
  refine cw_iald2 (pc := 10) C dX7_doOrder_10 8 8 (wM_g8 Z A) (f := σ 8) rfl (qF B L i) rfl (by omega) (by decide) ?_
  refine cw_top (oAs B L (oP B L i)) ha9 ?_
  refine cw_istore_n (pc := 11) C dX7_doOrder_11 rfl (by decide) (lv' := [(2, .int (oAs B L (oP B L i))), (0, .ref (A 0)), (1, .int (nI i))]) rfl ?_
  refine cw_aload_n (pc := 12) C dX7_doOrder_12 rfl 1 rfl ?_
  refine cw_get (pc := 13) C dX7_doOrder_13 0 (v := .ref (A 7)) rfl rfl 10 rfl (fun _ h => List.mem_cons_of_mem _ (List.mem_append_right _ h)) (by decide) (List.mem_of_getElem? (i := 2) rfl) ?_
  refine cw_iload_n (pc := 16) C dX7_doOrder_16 rfl 2 rfl ?_
  refine cw_iald2 (pc := 17) C dX7_doOrder_17 7 7 (wM_g7 Z A) (f := σ 7) rfl i rfl (by omega) (by decide) ?_
  refine cw_top (nI (qF B L i)) q0 ?_
  refine cw_iconst (pc := 18) C dX7_doOrder_18 (nI 1) (by decide) ?_
  refine cw_iadd (pc := 19) C dX7_doOrder_19 (z := nI (qF B L i + 1)) (nI_add _ _) ?_
  refine cw_aload_n (pc := 20) C dX7_doOrder_20 rfl 1 rfl ?_
  refine cw_get (pc := 21) C dX7_doOrder_21 0 (v := .ref (A 7)) rfl rfl 10 rfl (fun _ h => List.mem_cons_of_mem _ (List.mem_append_right _ h)) (by decide) (List.mem_of_getElem? (i := 2) rfl) ?_
  refine cw_iload_n (pc := 24) C dX7_doOrder_24 rfl 2 rfl ?_
  refine cw_iconst (pc := 25) C dX7_doOrder_25 (nI 1) (by decide) ?_
  refine cw_iadd (pc := 26) C dX7_doOrder_26 (z := nI (i + 1)) (nI_add _ _) ?_
  refine cw_iald2 (pc := 27) C dX7_doOrder_27 7 7 (wM_g7 Z A) (f := σ 7) rfl (i + 1) rfl (by omega) (by decide) ?_
  refine cw_top (nI (qF B L (i + 1))) q1 ?_
  refine cw_icmp_ge (pc := 28) (tgt := 47) C dX7_doOrder_28 (by decide) (fun h28 => ?_) (fun h28 => ?_)
  · -- 28 t
    have h28 : (qF B L (i + 1)) ≤ (qF B L i + 1) := (nc_ge (a := qF B L i + 1) (b := qF B L (i + 1)) (by omega) (by omega)).mp h28
    refine cw_iconst (pc := 47) C dX7_doOrder_47 (nI 0) (by decide) ?_
    refine cw_istore_n (pc := 48) C dX7_doOrder_48 rfl (by decide) (lv' := [(3, .int (nI 0)), (2, .int (oAs B L (oP B L i))), (0, .ref (A 0)), (1, .int (nI i))]) rfl ?_
    refine cw_aload_n (pc := 49) C dX7_doOrder_49 rfl 2 rfl ?_
    refine cw_get (pc := 50) C dX7_doOrder_50 0 (v := .ref (A 6)) rfl rfl 9 rfl (fun _ h => List.mem_cons_of_mem _ (List.mem_append_right _ h)) (by decide) (List.mem_of_getElem? (i := 3) rfl) ?_
    refine cw_iload_n (pc := 53) C dX7_doOrder_53 rfl 3 rfl ?_
    refine cw_iald2 (pc := 54) C dX7_doOrder_54 6 6 (wM_g6 Z A) (f := σ 6) rfl i rfl (by omega) (by decide) ?_
    refine cw_top (nI x) (hl9.trans hx9) ?_
    by_cases q55_100 : nI x = nI 100
    · -- case 100
      refine cw_top (nI 100) q55_100 ?_
      refine cw_tableIn (pc := 55) (off := 113) (tgt := 168) C dX7_doOrder_55 (by decide) (by decide) (by decide +kernel) (by decide) ?_
      refine cw_aload_n (pc := 168) C dX7_doOrder_168 rfl 2 rfl ?_
      refine cw_iload_n (pc := 169) C dX7_doOrder_169 rfl 1 rfl ?_
      refine cw_iload_n (pc := 170) C dX7_doOrder_170 rfl 0 rfl ?_
      refine cw_calli (pc := 171) C dX7_doOrder_171 (c_X7_putDown l D Z A σ X (oAs B L (oP B L i)) (nI 0) hT) (cwV 2 C.1.2.2.2.2 gX7_doOrder_X7_putDown rfl rfl rfl (by decide +kernel) ⟨Nat.le_of_ble_eq_true rfl, Nat.le_of_ble_eq_true rfl⟩) 0 rfl rfl rfl rfl (Nat.le_of_ble_eq_true rfl) (fun r σ1 hr => ?_)
      refine hret r σ1 _ _ dX7_doOrder_174 ?_
      clear hret
      have hxe : x = 100 := (nI_eq (by omega) (by omega)).mp q55_100
      have hol : oL B L (oP B L i) = 4 := by rw [hol0, hxe]; rfl
      have hb0 : oB B L (oP B L i) = nI 0 := by rw [oB, qF_t h28]; rfl
      rw [hb0]
      rw [hol]
      obtain ⟨hr1, hr2⟩ := hr
      exact ⟨hr1, by rw [hr2, up2_eq]; rfl, fun k k0 k1 k9 k10 => by rw [hr2, up2_ne _ _ k1], fun z hz => by rw [hr2, up2_ne _ _ (by decide)]⟩
    by_cases q55_101 : nI x = nI 101
    · -- case 101
      refine cw_top (nI 101) q55_101 ?_
      refine cw_tableIn (pc := 55) (off := 132) (tgt := 187) C dX7_doOrder_55 (by decide) (by decide) (by decide +kernel) (by decide) ?_
      refine cw_aload_n (pc := 187) C dX7_doOrder_187 rfl 2 rfl ?_
      refine cw_iload_n (pc := 188) C dX7_doOrder_188 rfl 1 rfl ?_
      refine cw_iload_n (pc := 189) C dX7_doOrder_189 rfl 0 rfl ?_
      refine cw_calli (pc := 190) C dX7_doOrder_190 (c_X7_drive l D Z A σ X (oAs B L (oP B L i)) (nI 0) hT hO) (cwV 2 C.1.2.2.2.2 gX7_doOrder_X7_drive rfl rfl rfl (by decide +kernel) ⟨Nat.le_of_ble_eq_true rfl, Nat.le_of_ble_eq_true rfl⟩) 0 rfl rfl rfl rfl (Nat.le_of_ble_eq_true rfl) (fun r σ1 hr => ?_)
      refine hret r σ1 _ _ dX7_doOrder_193 ?_
      clear hret
      have hxe : x = 101 := (nI_eq (by omega) (by omega)).mp q55_101
      exact absurd hlx (by rw [hxe]; decide)
    by_cases q55_102 : nI x = nI 102
    · -- case 102
      refine cw_top (nI 102) q55_102 ?_
      refine cw_tableIn (pc := 55) (off := 92) (tgt := 147) C dX7_doOrder_55 (by decide) (by decide) (by decide +kernel) (by decide) ?_
      refine cw_aload_n (pc := 147) C dX7_doOrder_147 rfl 2 rfl ?_
      refine cw_iload_n (pc := 148) C dX7_doOrder_148 rfl 1 rfl ?_
      refine cw_iload_n (pc := 149) C dX7_doOrder_149 rfl 0 rfl ?_
      refine cw_calli (pc := 150) C dX7_doOrder_150 (c_X7_putState l D Z A σ X (oAs B L (oP B L i)) (nI 0) hT hO) (cwV 2 C.1.2.2.2.2 gX7_doOrder_X7_putState rfl rfl rfl (by decide +kernel) ⟨Nat.le_of_ble_eq_true rfl, Nat.le_of_ble_eq_true rfl⟩) 0 rfl rfl rfl rfl (Nat.le_of_ble_eq_true rfl) (fun r σ1 hr => ?_)
      refine hret r σ1 _ _ dX7_doOrder_153 ?_
      clear hret
      have hxe : x = 102 := (nI_eq (by omega) (by omega)).mp q55_102
      have hol : oL B L (oP B L i) = 1 := by rw [hol0, hxe]; rfl
      have hb0 : oB B L (oP B L i) = nI 0 := by rw [oB, qF_t h28]; rfl
      rw [hb0]
      rw [hol]
      obtain ⟨hr1, hr2⟩ := hr
      exact ⟨hr1, by rw [hr2, up2_eq]; rfl, fun k k0 k1 k9 k10 => by rw [hr2, up2_ne _ _ k1], fun z hz => by rw [hr2, up2_ne _ _ (by decide)]⟩
    by_cases q55_103 : nI x = nI 103
    · -- case 103
      refine cw_top (nI 103) q55_103 ?_
      refine cw_tableIn (pc := 55) (off := 85) (tgt := 140) C dX7_doOrder_55 (by decide) (by decide) (by decide +kernel) (by decide) ?_
      refine cw_aload_n (pc := 140) C dX7_doOrder_140 rfl 2 rfl ?_
      refine cw_iload_n (pc := 141) C dX7_doOrder_141 rfl 1 rfl ?_
      refine cw_iload_n (pc := 142) C dX7_doOrder_142 rfl 0 rfl ?_
      refine cw_calli (pc := 143) C dX7_doOrder_143 (c_X7_putSet l D Z A σ X (oAs B L (oP B L i)) (nI 0) hT hO) (cwV 2 C.1.2.2.2.2 gX7_doOrder_X7_putSet rfl rfl rfl (by decide +kernel) ⟨Nat.le_of_ble_eq_true rfl, Nat.le_of_ble_eq_true rfl⟩) 0 rfl rfl rfl rfl (Nat.le_of_ble_eq_true rfl) (fun r σ1 hr => ?_)
      refine hret r σ1 _ _ dX7_doOrder_146 ?_
      clear hret
      have hxe : x = 103 := (nI_eq (by omega) (by omega)).mp q55_103
      have hol : oL B L (oP B L i) = 0 := by rw [hol0, hxe]; rfl
      have hb0 : oB B L (oP B L i) = nI 0 := by rw [oB, qF_t h28]; rfl
      rw [hb0]
      rw [hol]
      obtain ⟨hr1, hr2⟩ := hr
      exact ⟨hr1, by rw [hr2, up2_eq]; rfl, fun k k0 k1 k9 k10 => by rw [hr2, up2_ne _ _ k1], fun z hz => by rw [hr2, up2_ne _ _ (by decide)]⟩
    by_cases q55_104 : nI x = nI 104
    · -- case 104
      refine cw_top (nI 104) q55_104 ?_
      refine cw_tableIn (pc := 55) (off := 132) (tgt := 187) C dX7_doOrder_55 (by decide) (by decide) (by decide +kernel) (by decide) ?_
      refine cw_aload_n (pc := 187) C dX7_doOrder_187 rfl 2 rfl ?_
      refine cw_iload_n (pc := 188) C dX7_doOrder_188 rfl 1 rfl ?_
      refine cw_iload_n (pc := 189) C dX7_doOrder_189 rfl 0 rfl ?_
      refine cw_calli (pc := 190) C dX7_doOrder_190 (c_X7_drive l D Z A σ X (oAs B L (oP B L i)) (nI 0) hT hO) (cwV 2 C.1.2.2.2.2 gX7_doOrder_X7_drive rfl rfl rfl (by decide +kernel) ⟨Nat.le_of_ble_eq_true rfl, Nat.le_of_ble_eq_true rfl⟩) 0 rfl rfl rfl rfl (Nat.le_of_ble_eq_true rfl) (fun r σ1 hr => ?_)
      refine hret r σ1 _ _ dX7_doOrder_193 ?_
      clear hret
      have hxe : x = 104 := (nI_eq (by omega) (by omega)).mp q55_104
      exact absurd hlx (by rw [hxe]; decide)
    by_cases q55_105 : nI x = nI 105
    · -- case 105
      refine cw_top (nI 105) q55_105 ?_
      refine cw_tableIn (pc := 55) (off := 132) (tgt := 187) C dX7_doOrder_55 (by decide) (by decide) (by decide +kernel) (by decide) ?_
      refine cw_aload_n (pc := 187) C dX7_doOrder_187 rfl 2 rfl ?_
      refine cw_iload_n (pc := 188) C dX7_doOrder_188 rfl 1 rfl ?_
      refine cw_iload_n (pc := 189) C dX7_doOrder_189 rfl 0 rfl ?_
      refine cw_calli (pc := 190) C dX7_doOrder_190 (c_X7_drive l D Z A σ X (oAs B L (oP B L i)) (nI 0) hT hO) (cwV 2 C.1.2.2.2.2 gX7_doOrder_X7_drive rfl rfl rfl (by decide +kernel) ⟨Nat.le_of_ble_eq_true rfl, Nat.le_of_ble_eq_true rfl⟩) 0 rfl rfl rfl rfl (Nat.le_of_ble_eq_true rfl) (fun r σ1 hr => ?_)
      refine hret r σ1 _ _ dX7_doOrder_193 ?_
      clear hret
      have hxe : x = 105 := (nI_eq (by omega) (by omega)).mp q55_105
      exact absurd hlx (by rw [hxe]; decide)
    by_cases q55_106 : nI x = nI 106
    · -- case 106
      refine cw_top (nI 106) q55_106 ?_
      refine cw_tableIn (pc := 55) (off := 132) (tgt := 187) C dX7_doOrder_55 (by decide) (by decide) (by decide +kernel) (by decide) ?_
      refine cw_aload_n (pc := 187) C dX7_doOrder_187 rfl 2 rfl ?_
      refine cw_iload_n (pc := 188) C dX7_doOrder_188 rfl 1 rfl ?_
      refine cw_iload_n (pc := 189) C dX7_doOrder_189 rfl 0 rfl ?_
      refine cw_calli (pc := 190) C dX7_doOrder_190 (c_X7_drive l D Z A σ X (oAs B L (oP B L i)) (nI 0) hT hO) (cwV 2 C.1.2.2.2.2 gX7_doOrder_X7_drive rfl rfl rfl (by decide +kernel) ⟨Nat.le_of_ble_eq_true rfl, Nat.le_of_ble_eq_true rfl⟩) 0 rfl rfl rfl rfl (Nat.le_of_ble_eq_true rfl) (fun r σ1 hr => ?_)
      refine hret r σ1 _ _ dX7_doOrder_193 ?_
      clear hret
      have hxe : x = 106 := (nI_eq (by omega) (by omega)).mp q55_106
      exact absurd hlx (by rw [hxe]; decide)
    by_cases q55_107 : nI x = nI 107
    · -- case 107
      refine cw_top (nI 107) q55_107 ?_
      refine cw_tableIn (pc := 55) (off := 132) (tgt := 187) C dX7_doOrder_55 (by decide) (by decide) (by decide +kernel) (by decide) ?_
      refine cw_aload_n (pc := 187) C dX7_doOrder_187 rfl 2 rfl ?_
      refine cw_iload_n (pc := 188) C dX7_doOrder_188 rfl 1 rfl ?_
      refine cw_iload_n (pc := 189) C dX7_doOrder_189 rfl 0 rfl ?_
      refine cw_calli (pc := 190) C dX7_doOrder_190 (c_X7_drive l D Z A σ X (oAs B L (oP B L i)) (nI 0) hT hO) (cwV 2 C.1.2.2.2.2 gX7_doOrder_X7_drive rfl rfl rfl (by decide +kernel) ⟨Nat.le_of_ble_eq_true rfl, Nat.le_of_ble_eq_true rfl⟩) 0 rfl rfl rfl rfl (Nat.le_of_ble_eq_true rfl) (fun r σ1 hr => ?_)
      refine hret r σ1 _ _ dX7_doOrder_193 ?_
      clear hret
      have hxe : x = 107 := (nI_eq (by omega) (by omega)).mp q55_107
      exact absurd hlx (by rw [hxe]; decide)
    by_cases q55_108 : nI x = nI 108
    · -- case 108
      refine cw_top (nI 108) q55_108 ?_
      refine cw_tableIn (pc := 55) (off := 132) (tgt := 187) C dX7_doOrder_55 (by decide) (by decide) (by decide +kernel) (by decide) ?_
      refine cw_aload_n (pc := 187) C dX7_doOrder_187 rfl 2 rfl ?_
      refine cw_iload_n (pc := 188) C dX7_doOrder_188 rfl 1 rfl ?_
      refine cw_iload_n (pc := 189) C dX7_doOrder_189 rfl 0 rfl ?_
      refine cw_calli (pc := 190) C dX7_doOrder_190 (c_X7_drive l D Z A σ X (oAs B L (oP B L i)) (nI 0) hT hO) (cwV 2 C.1.2.2.2.2 gX7_doOrder_X7_drive rfl rfl rfl (by decide +kernel) ⟨Nat.le_of_ble_eq_true rfl, Nat.le_of_ble_eq_true rfl⟩) 0 rfl rfl rfl rfl (Nat.le_of_ble_eq_true rfl) (fun r σ1 hr => ?_)
      refine hret r σ1 _ _ dX7_doOrder_193 ?_
      clear hret
      have hxe : x = 108 := (nI_eq (by omega) (by omega)).mp q55_108
      exact absurd hlx (by rw [hxe]; decide)
    by_cases q55_109 : nI x = nI 109
    · -- case 109
      refine cw_top (nI 109) q55_109 ?_
      refine cw_tableIn (pc := 55) (off := 132) (tgt := 187) C dX7_doOrder_55 (by decide) (by decide) (by decide +kernel) (by decide) ?_
      refine cw_aload_n (pc := 187) C dX7_doOrder_187 rfl 2 rfl ?_
      refine cw_iload_n (pc := 188) C dX7_doOrder_188 rfl 1 rfl ?_
      refine cw_iload_n (pc := 189) C dX7_doOrder_189 rfl 0 rfl ?_
      refine cw_calli (pc := 190) C dX7_doOrder_190 (c_X7_drive l D Z A σ X (oAs B L (oP B L i)) (nI 0) hT hO) (cwV 2 C.1.2.2.2.2 gX7_doOrder_X7_drive rfl rfl rfl (by decide +kernel) ⟨Nat.le_of_ble_eq_true rfl, Nat.le_of_ble_eq_true rfl⟩) 0 rfl rfl rfl rfl (Nat.le_of_ble_eq_true rfl) (fun r σ1 hr => ?_)
      refine hret r σ1 _ _ dX7_doOrder_193 ?_
      clear hret
      have hxe : x = 109 := (nI_eq (by omega) (by omega)).mp q55_109
      exact absurd hlx (by rw [hxe]; decide)
    by_cases q55_110 : nI x = nI 110
    · -- case 110
      refine cw_top (nI 110) q55_110 ?_
      refine cw_tableIn (pc := 55) (off := 132) (tgt := 187) C dX7_doOrder_55 (by decide) (by decide) (by decide +kernel) (by decide) ?_
      refine cw_aload_n (pc := 187) C dX7_doOrder_187 rfl 2 rfl ?_
      refine cw_iload_n (pc := 188) C dX7_doOrder_188 rfl 1 rfl ?_
      refine cw_iload_n (pc := 189) C dX7_doOrder_189 rfl 0 rfl ?_
      refine cw_calli (pc := 190) C dX7_doOrder_190 (c_X7_drive l D Z A σ X (oAs B L (oP B L i)) (nI 0) hT hO) (cwV 2 C.1.2.2.2.2 gX7_doOrder_X7_drive rfl rfl rfl (by decide +kernel) ⟨Nat.le_of_ble_eq_true rfl, Nat.le_of_ble_eq_true rfl⟩) 0 rfl rfl rfl rfl (Nat.le_of_ble_eq_true rfl) (fun r σ1 hr => ?_)
      refine hret r σ1 _ _ dX7_doOrder_193 ?_
      clear hret
      have hxe : x = 110 := (nI_eq (by omega) (by omega)).mp q55_110
      exact absurd hlx (by rw [hxe]; decide)
    by_cases q55_111 : nI x = nI 111
    · -- case 111
      refine cw_top (nI 111) q55_111 ?_
      refine cw_tableIn (pc := 55) (off := 132) (tgt := 187) C dX7_doOrder_55 (by decide) (by decide) (by decide +kernel) (by decide) ?_
      refine cw_aload_n (pc := 187) C dX7_doOrder_187 rfl 2 rfl ?_
      refine cw_iload_n (pc := 188) C dX7_doOrder_188 rfl 1 rfl ?_
      refine cw_iload_n (pc := 189) C dX7_doOrder_189 rfl 0 rfl ?_
      refine cw_calli (pc := 190) C dX7_doOrder_190 (c_X7_drive l D Z A σ X (oAs B L (oP B L i)) (nI 0) hT hO) (cwV 2 C.1.2.2.2.2 gX7_doOrder_X7_drive rfl rfl rfl (by decide +kernel) ⟨Nat.le_of_ble_eq_true rfl, Nat.le_of_ble_eq_true rfl⟩) 0 rfl rfl rfl rfl (Nat.le_of_ble_eq_true rfl) (fun r σ1 hr => ?_)
      refine hret r σ1 _ _ dX7_doOrder_193 ?_
      clear hret
      have hxe : x = 111 := (nI_eq (by omega) (by omega)).mp q55_111
      exact absurd hlx (by rw [hxe]; decide)
    by_cases q55_112 : nI x = nI 112
    · -- case 112
      refine cw_top (nI 112) q55_112 ?_
      refine cw_tableIn (pc := 55) (off := 132) (tgt := 187) C dX7_doOrder_55 (by decide) (by decide) (by decide +kernel) (by decide) ?_
      refine cw_aload_n (pc := 187) C dX7_doOrder_187 rfl 2 rfl ?_
      refine cw_iload_n (pc := 188) C dX7_doOrder_188 rfl 1 rfl ?_
      refine cw_iload_n (pc := 189) C dX7_doOrder_189 rfl 0 rfl ?_
      refine cw_calli (pc := 190) C dX7_doOrder_190 (c_X7_drive l D Z A σ X (oAs B L (oP B L i)) (nI 0) hT hO) (cwV 2 C.1.2.2.2.2 gX7_doOrder_X7_drive rfl rfl rfl (by decide +kernel) ⟨Nat.le_of_ble_eq_true rfl, Nat.le_of_ble_eq_true rfl⟩) 0 rfl rfl rfl rfl (Nat.le_of_ble_eq_true rfl) (fun r σ1 hr => ?_)
      refine hret r σ1 _ _ dX7_doOrder_193 ?_
      clear hret
      have hxe : x = 112 := (nI_eq (by omega) (by omega)).mp q55_112
      exact absurd hlx (by rw [hxe]; decide)
    by_cases q55_113 : nI x = nI 113
    · -- case 113
      refine cw_top (nI 113) q55_113 ?_
      refine cw_tableIn (pc := 55) (off := 132) (tgt := 187) C dX7_doOrder_55 (by decide) (by decide) (by decide +kernel) (by decide) ?_
      refine cw_aload_n (pc := 187) C dX7_doOrder_187 rfl 2 rfl ?_
      refine cw_iload_n (pc := 188) C dX7_doOrder_188 rfl 1 rfl ?_
      refine cw_iload_n (pc := 189) C dX7_doOrder_189 rfl 0 rfl ?_
      refine cw_calli (pc := 190) C dX7_doOrder_190 (c_X7_drive l D Z A σ X (oAs B L (oP B L i)) (nI 0) hT hO) (cwV 2 C.1.2.2.2.2 gX7_doOrder_X7_drive rfl rfl rfl (by decide +kernel) ⟨Nat.le_of_ble_eq_true rfl, Nat.le_of_ble_eq_true rfl⟩) 0 rfl rfl rfl rfl (Nat.le_of_ble_eq_true rfl) (fun r σ1 hr => ?_)
      refine hret r σ1 _ _ dX7_doOrder_193 ?_
      clear hret
      have hxe : x = 113 := (nI_eq (by omega) (by omega)).mp q55_113
      exact absurd hlx (by rw [hxe]; decide)
    by_cases q55_114 : nI x = nI 114
    · -- case 114
      refine cw_top (nI 114) q55_114 ?_
      refine cw_tableIn (pc := 55) (off := 126) (tgt := 181) C dX7_doOrder_55 (by decide) (by decide) (by decide +kernel) (by decide) ?_
      refine cw_aload_n (pc := 181) C dX7_doOrder_181 rfl 2 rfl ?_
      refine cw_iload_n (pc := 182) C dX7_doOrder_182 rfl 1 rfl ?_
      refine cw_calli (pc := 183) C dX7_doOrder_183 (c_X7_putDriver l D Z A σ X (oAs B L (oP B L i)) hT) (cwV 1 C.1.2.2.2.2 gX7_doOrder_X7_putDriver rfl rfl rfl (by decide +kernel) ⟨Nat.le_of_ble_eq_true rfl, Nat.le_of_ble_eq_true rfl⟩) 0 rfl rfl rfl rfl (Nat.le_of_ble_eq_true rfl) (fun r σ1 hr => ?_)
      refine hret r σ1 _ _ dX7_doOrder_186 ?_
      clear hret
      have hxe : x = 114 := (nI_eq (by omega) (by omega)).mp q55_114
      have hol : oL B L (oP B L i) = 6 := by rw [hol0, hxe]; rfl
      have hb0 : oB B L (oP B L i) = nI 0 := by rw [oB, qF_t h28]; rfl
      rw [hb0]
      rw [hol]
      obtain ⟨hr1, hr2⟩ := hr
      exact ⟨hr1, by rw [hr2, up2_eq]; rfl, fun k k0 k1 k9 k10 => by rw [hr2, up2_ne _ _ k1], fun z hz => by rw [hr2, up2_ne _ _ (by decide)]⟩
    by_cases q55_115 : nI x = nI 115
    · -- case 115
      refine cw_top (nI 115) q55_115 ?_
      refine cw_tableIn (pc := 55) (off := 120) (tgt := 175) C dX7_doOrder_55 (by decide) (by decide) (by decide +kernel) (by decide) ?_
      refine cw_aload_n (pc := 175) C dX7_doOrder_175 rfl 2 rfl ?_
      refine cw_iload_n (pc := 176) C dX7_doOrder_176 rfl 1 rfl ?_
      refine cw_calli (pc := 177) C dX7_doOrder_177 (c_X7_putSlope l D Z A σ X (oAs B L (oP B L i)) hT) (cwV 1 C.1.2.2.2.2 gX7_doOrder_X7_putSlope rfl rfl rfl (by decide +kernel) ⟨Nat.le_of_ble_eq_true rfl, Nat.le_of_ble_eq_true rfl⟩) 0 rfl rfl rfl rfl (Nat.le_of_ble_eq_true rfl) (fun r σ1 hr => ?_)
      refine hret r σ1 _ _ dX7_doOrder_180 ?_
      clear hret
      have hxe : x = 115 := (nI_eq (by omega) (by omega)).mp q55_115
      have hol : oL B L (oP B L i) = 5 := by rw [hol0, hxe]; rfl
      have hb0 : oB B L (oP B L i) = nI 0 := by rw [oB, qF_t h28]; rfl
      rw [hb0]
      rw [hol]
      obtain ⟨hr1, hr2⟩ := hr
      exact ⟨hr1, by rw [hr2, up2_eq]; rfl, fun k k0 k1 k9 k10 => by rw [hr2, up2_ne _ _ k1], fun z hz => by rw [hr2, up2_ne _ _ (by decide)]⟩
    by_cases q55_116 : nI x = nI 116
    · -- case 116
      refine cw_top (nI 116) q55_116 ?_
      refine cw_tableIn (pc := 55) (off := 99) (tgt := 154) C dX7_doOrder_55 (by decide) (by decide) (by decide +kernel) (by decide) ?_
      refine cw_aload_n (pc := 154) C dX7_doOrder_154 rfl 2 rfl ?_
      refine cw_iload_n (pc := 155) C dX7_doOrder_155 rfl 1 rfl ?_
      refine cw_iload_n (pc := 156) C dX7_doOrder_156 rfl 0 rfl ?_
      refine cw_calli (pc := 157) C dX7_doOrder_157 (c_X7_putTrue l D Z A σ X (oAs B L (oP B L i)) (nI 0) hT) (cwV 2 C.1.2.2.2.2 gX7_doOrder_X7_putTrue rfl rfl rfl (by decide +kernel) ⟨Nat.le_of_ble_eq_true rfl, Nat.le_of_ble_eq_true rfl⟩) 0 rfl rfl rfl rfl (Nat.le_of_ble_eq_true rfl) (fun r σ1 hr => ?_)
      refine hret r σ1 _ _ dX7_doOrder_160 ?_
      clear hret
      have hxe : x = 116 := (nI_eq (by omega) (by omega)).mp q55_116
      have hol : oL B L (oP B L i) = 2 := by rw [hol0, hxe]; rfl
      have hb0 : oB B L (oP B L i) = nI 0 := by rw [oB, qF_t h28]; rfl
      rw [hb0]
      rw [hol]
      obtain ⟨hr1, hr2⟩ := hr
      exact ⟨hr1, by rw [hr2, up2_eq]; rfl, fun k k0 k1 k9 k10 => by rw [hr2, up2_ne _ _ k1], fun z hz => by rw [hr2, up2_ne _ _ (by decide)]⟩
    by_cases q55_117 : nI x = nI 117
    · -- case 117
      refine cw_top (nI 117) q55_117 ?_
      refine cw_tableIn (pc := 55) (off := 106) (tgt := 161) C dX7_doOrder_55 (by decide) (by decide) (by decide +kernel) (by decide) ?_
      refine cw_aload_n (pc := 161) C dX7_doOrder_161 rfl 2 rfl ?_
      refine cw_iload_n (pc := 162) C dX7_doOrder_162 rfl 1 rfl ?_
      refine cw_iload_n (pc := 163) C dX7_doOrder_163 rfl 0 rfl ?_
      refine cw_calli (pc := 164) C dX7_doOrder_164 (c_X7_putUp l D Z A σ X (oAs B L (oP B L i)) (nI 0) hT) (cwV 2 C.1.2.2.2.2 gX7_doOrder_X7_putUp rfl rfl rfl (by decide +kernel) ⟨Nat.le_of_ble_eq_true rfl, Nat.le_of_ble_eq_true rfl⟩) 0 rfl rfl rfl rfl (Nat.le_of_ble_eq_true rfl) (fun r σ1 hr => ?_)
      refine hret r σ1 _ _ dX7_doOrder_167 ?_
      clear hret
      have hxe : x = 117 := (nI_eq (by omega) (by omega)).mp q55_117
      have hol : oL B L (oP B L i) = 3 := by rw [hol0, hxe]; rfl
      have hb0 : oB B L (oP B L i) = nI 0 := by rw [oB, qF_t h28]; rfl
      rw [hb0]
      rw [hol]
      obtain ⟨hr1, hr2⟩ := hr
      exact ⟨hr1, by rw [hr2, up2_eq]; rfl, fun k k0 k1 k9 k10 => by rw [hr2, up2_ne _ _ k1], fun z hz => by rw [hr2, up2_ne _ _ (by decide)]⟩
    refine cw_tableOut (pc := 55) (tgt := 187) C dX7_doOrder_55 (tsw_out (lo := 100) (n := 18) (fun k hk => by rcases (show k = 100 ∨ k = 101 ∨ k = 102 ∨ k = 103 ∨ k = 104 ∨ k = 105 ∨ k = 106 ∨ k = 107 ∨ k = 108 ∨ k = 109 ∨ k = 110 ∨ k = 111 ∨ k = 112 ∨ k = 113 ∨ k = 114 ∨ k = 115 ∨ k = 116 ∨ k = 117 by omega) with rfl | rfl | rfl | rfl | rfl | rfl | rfl | rfl | rfl | rfl | rfl | rfl | rfl | rfl | rfl | rfl | rfl | rfl <;> assumption)) (by decide) ?_
    refine cw_aload_n (pc := 187) C dX7_doOrder_187 rfl 2 rfl ?_
    refine cw_iload_n (pc := 188) C dX7_doOrder_188 rfl 1 rfl ?_
    refine cw_iload_n (pc := 189) C dX7_doOrder_189 rfl 0 rfl ?_
    refine cw_calli (pc := 190) C dX7_doOrder_190 (c_X7_drive l D Z A σ X (oAs B L (oP B L i)) (nI 0) hT hO) (cwV 2 C.1.2.2.2.2 gX7_doOrder_X7_drive rfl rfl rfl (by decide +kernel) ⟨Nat.le_of_ble_eq_true rfl, Nat.le_of_ble_eq_true rfl⟩) 0 rfl rfl rfl rfl (Nat.le_of_ble_eq_true rfl) (fun r σ1 hr => ?_)
    refine hret r σ1 _ _ dX7_doOrder_193 ?_
    clear hret
    have hz : x < 100 ∨ 117 < x := by
      rcases Nat.lt_or_ge x 100 with z | z
      · exact Or.inl z
      · rcases Nat.lt_or_ge 117 x with y | y
        · exact Or.inr y
        · exfalso
          rcases (show x = 100 ∨ x = 101 ∨ x = 102 ∨ x = 103 ∨ x = 104 ∨ x = 105 ∨ x = 106 ∨ x = 107 ∨ x = 108 ∨ x = 109 ∨ x = 110 ∨ x = 111 ∨ x = 112 ∨ x = 113 ∨ x = 114 ∨ x = 115 ∨ x = 116 ∨ x = 117 by omega) with e | e | e | e | e | e | e | e | e | e | e | e | e | e | e | e | e | e
          · exact q55_100 (by rw [e])
          · exact q55_101 (by rw [e])
          · exact q55_102 (by rw [e])
          · exact q55_103 (by rw [e])
          · exact q55_104 (by rw [e])
          · exact q55_105 (by rw [e])
          · exact q55_106 (by rw [e])
          · exact q55_107 (by rw [e])
          · exact q55_108 (by rw [e])
          · exact q55_109 (by rw [e])
          · exact q55_110 (by rw [e])
          · exact q55_111 (by rw [e])
          · exact q55_112 (by rw [e])
          · exact q55_113 (by rw [e])
          · exact q55_114 (by rw [e])
          · exact q55_115 (by rw [e])
          · exact q55_116 (by rw [e])
          · exact q55_117 (by rw [e])
    have hol : oL B L (oP B L i) = 7 := by rw [hol0]; exact lix_out hlx hz
    have hb0 : oB B L (oP B L i) = nI 0 := by rw [oB, qF_t h28]; rfl
    rw [hb0]
    rw [hol]
    obtain ⟨hr1, nr, fa, ra, hr2⟩ := hr
    exact ⟨hr1, by rw [hr2, up2_ne _ _ (by decide), up2_ne _ _ (by decide), up2_eq]; rfl, fun k k0 k1 k9 k10 => by rw [hr2, up2_ne _ _ k10, up2_ne _ _ k9, up2_ne _ _ k1, up2_ne _ _ k0], fun z hz => by rw [hr2, up2_ne _ _ (by decide), up2_ne _ _ (by decide), up2_ne _ _ (by decide), up2_eq, upd_ne (by omega)]⟩
  · -- 28 f
    have h28 : ¬ ((qF B L (i + 1)) ≤ (qF B L i + 1)) := fun qq => h28 ((nc_ge (a := qF B L i + 1) (b := qF B L (i + 1)) (by omega) (by omega)).mpr qq)
    refine cw_aload_n (pc := 31) C dX7_doOrder_31 rfl 1 rfl ?_
    refine cw_get (pc := 32) C dX7_doOrder_32 0 (v := .ref (A 8)) rfl rfl 11 rfl (fun _ h => List.mem_cons_of_mem _ (List.mem_append_right _ h)) (by decide) (List.mem_of_getElem? (i := 1) rfl) ?_
    refine cw_aload_n (pc := 35) C dX7_doOrder_35 rfl 1 rfl ?_
    refine cw_get (pc := 36) C dX7_doOrder_36 0 (v := .ref (A 7)) rfl rfl 10 rfl (fun _ h => List.mem_cons_of_mem _ (List.mem_append_right _ h)) (by decide) (List.mem_of_getElem? (i := 2) rfl) ?_
    refine cw_iload_n (pc := 39) C dX7_doOrder_39 rfl 2 rfl ?_
    refine cw_iald2 (pc := 40) C dX7_doOrder_40 7 7 (wM_g7 Z A) (f := σ 7) rfl i rfl (by omega) (by decide) ?_
    refine cw_top (nI (qF B L i)) q0 ?_
    refine cw_iconst (pc := 41) C dX7_doOrder_41 (nI 1) (by decide) ?_
    refine cw_iadd (pc := 42) C dX7_doOrder_42 (z := nI (qF B L i + 1)) (nI_add _ _) ?_
    refine cw_iald2 (pc := 43) C dX7_doOrder_43 8 8 (wM_g8 Z A) (f := σ 8) rfl (qF B L i + 1) rfl (by omega) (by decide) ?_
    refine cw_top (oB B L (oP B L i)) (hb9 (qF_f h28)) ?_
    refine cw_goto (pc := 44) (tgt := 48) C dX7_doOrder_44 (by decide) ?_
    refine cw_istore_n (pc := 48) C dX7_doOrder_48 rfl (by decide) (lv' := [(3, .int (oB B L (oP B L i))), (2, .int (oAs B L (oP B L i))), (0, .ref (A 0)), (1, .int (nI i))]) rfl ?_
    refine cw_aload_n (pc := 49) C dX7_doOrder_49 rfl 2 rfl ?_
    refine cw_get (pc := 50) C dX7_doOrder_50 0 (v := .ref (A 6)) rfl rfl 9 rfl (fun _ h => List.mem_cons_of_mem _ (List.mem_append_right _ h)) (by decide) (List.mem_of_getElem? (i := 3) rfl) ?_
    refine cw_iload_n (pc := 53) C dX7_doOrder_53 rfl 3 rfl ?_
    refine cw_iald2 (pc := 54) C dX7_doOrder_54 6 6 (wM_g6 Z A) (f := σ 6) rfl i rfl (by omega) (by decide) ?_
    refine cw_top (nI x) (hl9.trans hx9) ?_
    by_cases q55_100 : nI x = nI 100
    · -- case 100
      refine cw_top (nI 100) q55_100 ?_
      refine cw_tableIn (pc := 55) (off := 113) (tgt := 168) C dX7_doOrder_55 (by decide) (by decide) (by decide +kernel) (by decide) ?_
      refine cw_aload_n (pc := 168) C dX7_doOrder_168 rfl 2 rfl ?_
      refine cw_iload_n (pc := 169) C dX7_doOrder_169 rfl 1 rfl ?_
      refine cw_iload_n (pc := 170) C dX7_doOrder_170 rfl 0 rfl ?_
      refine cw_calli (pc := 171) C dX7_doOrder_171 (c_X7_putDown l D Z A σ X (oAs B L (oP B L i)) (oB B L (oP B L i)) hT) (cwV 2 C.1.2.2.2.2 gX7_doOrder_X7_putDown rfl rfl rfl (by decide +kernel) ⟨Nat.le_of_ble_eq_true rfl, Nat.le_of_ble_eq_true rfl⟩) 0 rfl rfl rfl rfl (Nat.le_of_ble_eq_true rfl) (fun r σ1 hr => ?_)
      refine hret r σ1 _ _ dX7_doOrder_174 ?_
      clear hret
      have hxe : x = 100 := (nI_eq (by omega) (by omega)).mp q55_100
      have hol : oL B L (oP B L i) = 4 := by rw [hol0, hxe]; rfl
      rw [hol]
      obtain ⟨hr1, hr2⟩ := hr
      exact ⟨hr1, by rw [hr2, up2_eq]; rfl, fun k k0 k1 k9 k10 => by rw [hr2, up2_ne _ _ k1], fun z hz => by rw [hr2, up2_ne _ _ (by decide)]⟩
    by_cases q55_101 : nI x = nI 101
    · -- case 101
      refine cw_top (nI 101) q55_101 ?_
      refine cw_tableIn (pc := 55) (off := 132) (tgt := 187) C dX7_doOrder_55 (by decide) (by decide) (by decide +kernel) (by decide) ?_
      refine cw_aload_n (pc := 187) C dX7_doOrder_187 rfl 2 rfl ?_
      refine cw_iload_n (pc := 188) C dX7_doOrder_188 rfl 1 rfl ?_
      refine cw_iload_n (pc := 189) C dX7_doOrder_189 rfl 0 rfl ?_
      refine cw_calli (pc := 190) C dX7_doOrder_190 (c_X7_drive l D Z A σ X (oAs B L (oP B L i)) (oB B L (oP B L i)) hT hO) (cwV 2 C.1.2.2.2.2 gX7_doOrder_X7_drive rfl rfl rfl (by decide +kernel) ⟨Nat.le_of_ble_eq_true rfl, Nat.le_of_ble_eq_true rfl⟩) 0 rfl rfl rfl rfl (Nat.le_of_ble_eq_true rfl) (fun r σ1 hr => ?_)
      refine hret r σ1 _ _ dX7_doOrder_193 ?_
      clear hret
      have hxe : x = 101 := (nI_eq (by omega) (by omega)).mp q55_101
      exact absurd hlx (by rw [hxe]; decide)
    by_cases q55_102 : nI x = nI 102
    · -- case 102
      refine cw_top (nI 102) q55_102 ?_
      refine cw_tableIn (pc := 55) (off := 92) (tgt := 147) C dX7_doOrder_55 (by decide) (by decide) (by decide +kernel) (by decide) ?_
      refine cw_aload_n (pc := 147) C dX7_doOrder_147 rfl 2 rfl ?_
      refine cw_iload_n (pc := 148) C dX7_doOrder_148 rfl 1 rfl ?_
      refine cw_iload_n (pc := 149) C dX7_doOrder_149 rfl 0 rfl ?_
      refine cw_calli (pc := 150) C dX7_doOrder_150 (c_X7_putState l D Z A σ X (oAs B L (oP B L i)) (oB B L (oP B L i)) hT hO) (cwV 2 C.1.2.2.2.2 gX7_doOrder_X7_putState rfl rfl rfl (by decide +kernel) ⟨Nat.le_of_ble_eq_true rfl, Nat.le_of_ble_eq_true rfl⟩) 0 rfl rfl rfl rfl (Nat.le_of_ble_eq_true rfl) (fun r σ1 hr => ?_)
      refine hret r σ1 _ _ dX7_doOrder_153 ?_
      clear hret
      have hxe : x = 102 := (nI_eq (by omega) (by omega)).mp q55_102
      have hol : oL B L (oP B L i) = 1 := by rw [hol0, hxe]; rfl
      rw [hol]
      obtain ⟨hr1, hr2⟩ := hr
      exact ⟨hr1, by rw [hr2, up2_eq]; rfl, fun k k0 k1 k9 k10 => by rw [hr2, up2_ne _ _ k1], fun z hz => by rw [hr2, up2_ne _ _ (by decide)]⟩
    by_cases q55_103 : nI x = nI 103
    · -- case 103
      refine cw_top (nI 103) q55_103 ?_
      refine cw_tableIn (pc := 55) (off := 85) (tgt := 140) C dX7_doOrder_55 (by decide) (by decide) (by decide +kernel) (by decide) ?_
      refine cw_aload_n (pc := 140) C dX7_doOrder_140 rfl 2 rfl ?_
      refine cw_iload_n (pc := 141) C dX7_doOrder_141 rfl 1 rfl ?_
      refine cw_iload_n (pc := 142) C dX7_doOrder_142 rfl 0 rfl ?_
      refine cw_calli (pc := 143) C dX7_doOrder_143 (c_X7_putSet l D Z A σ X (oAs B L (oP B L i)) (oB B L (oP B L i)) hT hO) (cwV 2 C.1.2.2.2.2 gX7_doOrder_X7_putSet rfl rfl rfl (by decide +kernel) ⟨Nat.le_of_ble_eq_true rfl, Nat.le_of_ble_eq_true rfl⟩) 0 rfl rfl rfl rfl (Nat.le_of_ble_eq_true rfl) (fun r σ1 hr => ?_)
      refine hret r σ1 _ _ dX7_doOrder_146 ?_
      clear hret
      have hxe : x = 103 := (nI_eq (by omega) (by omega)).mp q55_103
      have hol : oL B L (oP B L i) = 0 := by rw [hol0, hxe]; rfl
      rw [hol]
      obtain ⟨hr1, hr2⟩ := hr
      exact ⟨hr1, by rw [hr2, up2_eq]; rfl, fun k k0 k1 k9 k10 => by rw [hr2, up2_ne _ _ k1], fun z hz => by rw [hr2, up2_ne _ _ (by decide)]⟩
    by_cases q55_104 : nI x = nI 104
    · -- case 104
      refine cw_top (nI 104) q55_104 ?_
      refine cw_tableIn (pc := 55) (off := 132) (tgt := 187) C dX7_doOrder_55 (by decide) (by decide) (by decide +kernel) (by decide) ?_
      refine cw_aload_n (pc := 187) C dX7_doOrder_187 rfl 2 rfl ?_
      refine cw_iload_n (pc := 188) C dX7_doOrder_188 rfl 1 rfl ?_
      refine cw_iload_n (pc := 189) C dX7_doOrder_189 rfl 0 rfl ?_
      refine cw_calli (pc := 190) C dX7_doOrder_190 (c_X7_drive l D Z A σ X (oAs B L (oP B L i)) (oB B L (oP B L i)) hT hO) (cwV 2 C.1.2.2.2.2 gX7_doOrder_X7_drive rfl rfl rfl (by decide +kernel) ⟨Nat.le_of_ble_eq_true rfl, Nat.le_of_ble_eq_true rfl⟩) 0 rfl rfl rfl rfl (Nat.le_of_ble_eq_true rfl) (fun r σ1 hr => ?_)
      refine hret r σ1 _ _ dX7_doOrder_193 ?_
      clear hret
      have hxe : x = 104 := (nI_eq (by omega) (by omega)).mp q55_104
      exact absurd hlx (by rw [hxe]; decide)
    by_cases q55_105 : nI x = nI 105
    · -- case 105
      refine cw_top (nI 105) q55_105 ?_
      refine cw_tableIn (pc := 55) (off := 132) (tgt := 187) C dX7_doOrder_55 (by decide) (by decide) (by decide +kernel) (by decide) ?_
      refine cw_aload_n (pc := 187) C dX7_doOrder_187 rfl 2 rfl ?_
      refine cw_iload_n (pc := 188) C dX7_doOrder_188 rfl 1 rfl ?_
      refine cw_iload_n (pc := 189) C dX7_doOrder_189 rfl 0 rfl ?_
      refine cw_calli (pc := 190) C dX7_doOrder_190 (c_X7_drive l D Z A σ X (oAs B L (oP B L i)) (oB B L (oP B L i)) hT hO) (cwV 2 C.1.2.2.2.2 gX7_doOrder_X7_drive rfl rfl rfl (by decide +kernel) ⟨Nat.le_of_ble_eq_true rfl, Nat.le_of_ble_eq_true rfl⟩) 0 rfl rfl rfl rfl (Nat.le_of_ble_eq_true rfl) (fun r σ1 hr => ?_)
      refine hret r σ1 _ _ dX7_doOrder_193 ?_
      clear hret
      have hxe : x = 105 := (nI_eq (by omega) (by omega)).mp q55_105
      exact absurd hlx (by rw [hxe]; decide)
    by_cases q55_106 : nI x = nI 106
    · -- case 106
      refine cw_top (nI 106) q55_106 ?_
      refine cw_tableIn (pc := 55) (off := 132) (tgt := 187) C dX7_doOrder_55 (by decide) (by decide) (by decide +kernel) (by decide) ?_
      refine cw_aload_n (pc := 187) C dX7_doOrder_187 rfl 2 rfl ?_
      refine cw_iload_n (pc := 188) C dX7_doOrder_188 rfl 1 rfl ?_
      refine cw_iload_n (pc := 189) C dX7_doOrder_189 rfl 0 rfl ?_
      refine cw_calli (pc := 190) C dX7_doOrder_190 (c_X7_drive l D Z A σ X (oAs B L (oP B L i)) (oB B L (oP B L i)) hT hO) (cwV 2 C.1.2.2.2.2 gX7_doOrder_X7_drive rfl rfl rfl (by decide +kernel) ⟨Nat.le_of_ble_eq_true rfl, Nat.le_of_ble_eq_true rfl⟩) 0 rfl rfl rfl rfl (Nat.le_of_ble_eq_true rfl) (fun r σ1 hr => ?_)
      refine hret r σ1 _ _ dX7_doOrder_193 ?_
      clear hret
      have hxe : x = 106 := (nI_eq (by omega) (by omega)).mp q55_106
      exact absurd hlx (by rw [hxe]; decide)
    by_cases q55_107 : nI x = nI 107
    · -- case 107
      refine cw_top (nI 107) q55_107 ?_
      refine cw_tableIn (pc := 55) (off := 132) (tgt := 187) C dX7_doOrder_55 (by decide) (by decide) (by decide +kernel) (by decide) ?_
      refine cw_aload_n (pc := 187) C dX7_doOrder_187 rfl 2 rfl ?_
      refine cw_iload_n (pc := 188) C dX7_doOrder_188 rfl 1 rfl ?_
      refine cw_iload_n (pc := 189) C dX7_doOrder_189 rfl 0 rfl ?_
      refine cw_calli (pc := 190) C dX7_doOrder_190 (c_X7_drive l D Z A σ X (oAs B L (oP B L i)) (oB B L (oP B L i)) hT hO) (cwV 2 C.1.2.2.2.2 gX7_doOrder_X7_drive rfl rfl rfl (by decide +kernel) ⟨Nat.le_of_ble_eq_true rfl, Nat.le_of_ble_eq_true rfl⟩) 0 rfl rfl rfl rfl (Nat.le_of_ble_eq_true rfl) (fun r σ1 hr => ?_)
      refine hret r σ1 _ _ dX7_doOrder_193 ?_
      clear hret
      have hxe : x = 107 := (nI_eq (by omega) (by omega)).mp q55_107
      exact absurd hlx (by rw [hxe]; decide)
    by_cases q55_108 : nI x = nI 108
    · -- case 108
      refine cw_top (nI 108) q55_108 ?_
      refine cw_tableIn (pc := 55) (off := 132) (tgt := 187) C dX7_doOrder_55 (by decide) (by decide) (by decide +kernel) (by decide) ?_
      refine cw_aload_n (pc := 187) C dX7_doOrder_187 rfl 2 rfl ?_
      refine cw_iload_n (pc := 188) C dX7_doOrder_188 rfl 1 rfl ?_
      refine cw_iload_n (pc := 189) C dX7_doOrder_189 rfl 0 rfl ?_
      refine cw_calli (pc := 190) C dX7_doOrder_190 (c_X7_drive l D Z A σ X (oAs B L (oP B L i)) (oB B L (oP B L i)) hT hO) (cwV 2 C.1.2.2.2.2 gX7_doOrder_X7_drive rfl rfl rfl (by decide +kernel) ⟨Nat.le_of_ble_eq_true rfl, Nat.le_of_ble_eq_true rfl⟩) 0 rfl rfl rfl rfl (Nat.le_of_ble_eq_true rfl) (fun r σ1 hr => ?_)
      refine hret r σ1 _ _ dX7_doOrder_193 ?_
      clear hret
      have hxe : x = 108 := (nI_eq (by omega) (by omega)).mp q55_108
      exact absurd hlx (by rw [hxe]; decide)
    by_cases q55_109 : nI x = nI 109
    · -- case 109
      refine cw_top (nI 109) q55_109 ?_
      refine cw_tableIn (pc := 55) (off := 132) (tgt := 187) C dX7_doOrder_55 (by decide) (by decide) (by decide +kernel) (by decide) ?_
      refine cw_aload_n (pc := 187) C dX7_doOrder_187 rfl 2 rfl ?_
      refine cw_iload_n (pc := 188) C dX7_doOrder_188 rfl 1 rfl ?_
      refine cw_iload_n (pc := 189) C dX7_doOrder_189 rfl 0 rfl ?_
      refine cw_calli (pc := 190) C dX7_doOrder_190 (c_X7_drive l D Z A σ X (oAs B L (oP B L i)) (oB B L (oP B L i)) hT hO) (cwV 2 C.1.2.2.2.2 gX7_doOrder_X7_drive rfl rfl rfl (by decide +kernel) ⟨Nat.le_of_ble_eq_true rfl, Nat.le_of_ble_eq_true rfl⟩) 0 rfl rfl rfl rfl (Nat.le_of_ble_eq_true rfl) (fun r σ1 hr => ?_)
      refine hret r σ1 _ _ dX7_doOrder_193 ?_
      clear hret
      have hxe : x = 109 := (nI_eq (by omega) (by omega)).mp q55_109
      exact absurd hlx (by rw [hxe]; decide)
    by_cases q55_110 : nI x = nI 110
    · -- case 110
      refine cw_top (nI 110) q55_110 ?_
      refine cw_tableIn (pc := 55) (off := 132) (tgt := 187) C dX7_doOrder_55 (by decide) (by decide) (by decide +kernel) (by decide) ?_
      refine cw_aload_n (pc := 187) C dX7_doOrder_187 rfl 2 rfl ?_
      refine cw_iload_n (pc := 188) C dX7_doOrder_188 rfl 1 rfl ?_
      refine cw_iload_n (pc := 189) C dX7_doOrder_189 rfl 0 rfl ?_
      refine cw_calli (pc := 190) C dX7_doOrder_190 (c_X7_drive l D Z A σ X (oAs B L (oP B L i)) (oB B L (oP B L i)) hT hO) (cwV 2 C.1.2.2.2.2 gX7_doOrder_X7_drive rfl rfl rfl (by decide +kernel) ⟨Nat.le_of_ble_eq_true rfl, Nat.le_of_ble_eq_true rfl⟩) 0 rfl rfl rfl rfl (Nat.le_of_ble_eq_true rfl) (fun r σ1 hr => ?_)
      refine hret r σ1 _ _ dX7_doOrder_193 ?_
      clear hret
      have hxe : x = 110 := (nI_eq (by omega) (by omega)).mp q55_110
      exact absurd hlx (by rw [hxe]; decide)
    by_cases q55_111 : nI x = nI 111
    · -- case 111
      refine cw_top (nI 111) q55_111 ?_
      refine cw_tableIn (pc := 55) (off := 132) (tgt := 187) C dX7_doOrder_55 (by decide) (by decide) (by decide +kernel) (by decide) ?_
      refine cw_aload_n (pc := 187) C dX7_doOrder_187 rfl 2 rfl ?_
      refine cw_iload_n (pc := 188) C dX7_doOrder_188 rfl 1 rfl ?_
      refine cw_iload_n (pc := 189) C dX7_doOrder_189 rfl 0 rfl ?_
      refine cw_calli (pc := 190) C dX7_doOrder_190 (c_X7_drive l D Z A σ X (oAs B L (oP B L i)) (oB B L (oP B L i)) hT hO) (cwV 2 C.1.2.2.2.2 gX7_doOrder_X7_drive rfl rfl rfl (by decide +kernel) ⟨Nat.le_of_ble_eq_true rfl, Nat.le_of_ble_eq_true rfl⟩) 0 rfl rfl rfl rfl (Nat.le_of_ble_eq_true rfl) (fun r σ1 hr => ?_)
      refine hret r σ1 _ _ dX7_doOrder_193 ?_
      clear hret
      have hxe : x = 111 := (nI_eq (by omega) (by omega)).mp q55_111
      exact absurd hlx (by rw [hxe]; decide)
    by_cases q55_112 : nI x = nI 112
    · -- case 112
      refine cw_top (nI 112) q55_112 ?_
      refine cw_tableIn (pc := 55) (off := 132) (tgt := 187) C dX7_doOrder_55 (by decide) (by decide) (by decide +kernel) (by decide) ?_
      refine cw_aload_n (pc := 187) C dX7_doOrder_187 rfl 2 rfl ?_
      refine cw_iload_n (pc := 188) C dX7_doOrder_188 rfl 1 rfl ?_
      refine cw_iload_n (pc := 189) C dX7_doOrder_189 rfl 0 rfl ?_
      refine cw_calli (pc := 190) C dX7_doOrder_190 (c_X7_drive l D Z A σ X (oAs B L (oP B L i)) (oB B L (oP B L i)) hT hO) (cwV 2 C.1.2.2.2.2 gX7_doOrder_X7_drive rfl rfl rfl (by decide +kernel) ⟨Nat.le_of_ble_eq_true rfl, Nat.le_of_ble_eq_true rfl⟩) 0 rfl rfl rfl rfl (Nat.le_of_ble_eq_true rfl) (fun r σ1 hr => ?_)
      refine hret r σ1 _ _ dX7_doOrder_193 ?_
      clear hret
      have hxe : x = 112 := (nI_eq (by omega) (by omega)).mp q55_112
      exact absurd hlx (by rw [hxe]; decide)
    by_cases q55_113 : nI x = nI 113
    · -- case 113
      refine cw_top (nI 113) q55_113 ?_
      refine cw_tableIn (pc := 55) (off := 132) (tgt := 187) C dX7_doOrder_55 (by decide) (by decide) (by decide +kernel) (by decide) ?_
      refine cw_aload_n (pc := 187) C dX7_doOrder_187 rfl 2 rfl ?_
      refine cw_iload_n (pc := 188) C dX7_doOrder_188 rfl 1 rfl ?_
      refine cw_iload_n (pc := 189) C dX7_doOrder_189 rfl 0 rfl ?_
      refine cw_calli (pc := 190) C dX7_doOrder_190 (c_X7_drive l D Z A σ X (oAs B L (oP B L i)) (oB B L (oP B L i)) hT hO) (cwV 2 C.1.2.2.2.2 gX7_doOrder_X7_drive rfl rfl rfl (by decide +kernel) ⟨Nat.le_of_ble_eq_true rfl, Nat.le_of_ble_eq_true rfl⟩) 0 rfl rfl rfl rfl (Nat.le_of_ble_eq_true rfl) (fun r σ1 hr => ?_)
      refine hret r σ1 _ _ dX7_doOrder_193 ?_
      clear hret
      have hxe : x = 113 := (nI_eq (by omega) (by omega)).mp q55_113
      exact absurd hlx (by rw [hxe]; decide)
    by_cases q55_114 : nI x = nI 114
    · -- case 114
      refine cw_top (nI 114) q55_114 ?_
      refine cw_tableIn (pc := 55) (off := 126) (tgt := 181) C dX7_doOrder_55 (by decide) (by decide) (by decide +kernel) (by decide) ?_
      refine cw_aload_n (pc := 181) C dX7_doOrder_181 rfl 2 rfl ?_
      refine cw_iload_n (pc := 182) C dX7_doOrder_182 rfl 1 rfl ?_
      refine cw_calli (pc := 183) C dX7_doOrder_183 (c_X7_putDriver l D Z A σ X (oAs B L (oP B L i)) hT) (cwV 1 C.1.2.2.2.2 gX7_doOrder_X7_putDriver rfl rfl rfl (by decide +kernel) ⟨Nat.le_of_ble_eq_true rfl, Nat.le_of_ble_eq_true rfl⟩) 0 rfl rfl rfl rfl (Nat.le_of_ble_eq_true rfl) (fun r σ1 hr => ?_)
      refine hret r σ1 _ _ dX7_doOrder_186 ?_
      clear hret
      have hxe : x = 114 := (nI_eq (by omega) (by omega)).mp q55_114
      have hol : oL B L (oP B L i) = 6 := by rw [hol0, hxe]; rfl
      rw [hol]
      obtain ⟨hr1, hr2⟩ := hr
      exact ⟨hr1, by rw [hr2, up2_eq]; rfl, fun k k0 k1 k9 k10 => by rw [hr2, up2_ne _ _ k1], fun z hz => by rw [hr2, up2_ne _ _ (by decide)]⟩
    by_cases q55_115 : nI x = nI 115
    · -- case 115
      refine cw_top (nI 115) q55_115 ?_
      refine cw_tableIn (pc := 55) (off := 120) (tgt := 175) C dX7_doOrder_55 (by decide) (by decide) (by decide +kernel) (by decide) ?_
      refine cw_aload_n (pc := 175) C dX7_doOrder_175 rfl 2 rfl ?_
      refine cw_iload_n (pc := 176) C dX7_doOrder_176 rfl 1 rfl ?_
      refine cw_calli (pc := 177) C dX7_doOrder_177 (c_X7_putSlope l D Z A σ X (oAs B L (oP B L i)) hT) (cwV 1 C.1.2.2.2.2 gX7_doOrder_X7_putSlope rfl rfl rfl (by decide +kernel) ⟨Nat.le_of_ble_eq_true rfl, Nat.le_of_ble_eq_true rfl⟩) 0 rfl rfl rfl rfl (Nat.le_of_ble_eq_true rfl) (fun r σ1 hr => ?_)
      refine hret r σ1 _ _ dX7_doOrder_180 ?_
      clear hret
      have hxe : x = 115 := (nI_eq (by omega) (by omega)).mp q55_115
      have hol : oL B L (oP B L i) = 5 := by rw [hol0, hxe]; rfl
      rw [hol]
      obtain ⟨hr1, hr2⟩ := hr
      exact ⟨hr1, by rw [hr2, up2_eq]; rfl, fun k k0 k1 k9 k10 => by rw [hr2, up2_ne _ _ k1], fun z hz => by rw [hr2, up2_ne _ _ (by decide)]⟩
    by_cases q55_116 : nI x = nI 116
    · -- case 116
      refine cw_top (nI 116) q55_116 ?_
      refine cw_tableIn (pc := 55) (off := 99) (tgt := 154) C dX7_doOrder_55 (by decide) (by decide) (by decide +kernel) (by decide) ?_
      refine cw_aload_n (pc := 154) C dX7_doOrder_154 rfl 2 rfl ?_
      refine cw_iload_n (pc := 155) C dX7_doOrder_155 rfl 1 rfl ?_
      refine cw_iload_n (pc := 156) C dX7_doOrder_156 rfl 0 rfl ?_
      refine cw_calli (pc := 157) C dX7_doOrder_157 (c_X7_putTrue l D Z A σ X (oAs B L (oP B L i)) (oB B L (oP B L i)) hT) (cwV 2 C.1.2.2.2.2 gX7_doOrder_X7_putTrue rfl rfl rfl (by decide +kernel) ⟨Nat.le_of_ble_eq_true rfl, Nat.le_of_ble_eq_true rfl⟩) 0 rfl rfl rfl rfl (Nat.le_of_ble_eq_true rfl) (fun r σ1 hr => ?_)
      refine hret r σ1 _ _ dX7_doOrder_160 ?_
      clear hret
      have hxe : x = 116 := (nI_eq (by omega) (by omega)).mp q55_116
      have hol : oL B L (oP B L i) = 2 := by rw [hol0, hxe]; rfl
      rw [hol]
      obtain ⟨hr1, hr2⟩ := hr
      exact ⟨hr1, by rw [hr2, up2_eq]; rfl, fun k k0 k1 k9 k10 => by rw [hr2, up2_ne _ _ k1], fun z hz => by rw [hr2, up2_ne _ _ (by decide)]⟩
    by_cases q55_117 : nI x = nI 117
    · -- case 117
      refine cw_top (nI 117) q55_117 ?_
      refine cw_tableIn (pc := 55) (off := 106) (tgt := 161) C dX7_doOrder_55 (by decide) (by decide) (by decide +kernel) (by decide) ?_
      refine cw_aload_n (pc := 161) C dX7_doOrder_161 rfl 2 rfl ?_
      refine cw_iload_n (pc := 162) C dX7_doOrder_162 rfl 1 rfl ?_
      refine cw_iload_n (pc := 163) C dX7_doOrder_163 rfl 0 rfl ?_
      refine cw_calli (pc := 164) C dX7_doOrder_164 (c_X7_putUp l D Z A σ X (oAs B L (oP B L i)) (oB B L (oP B L i)) hT) (cwV 2 C.1.2.2.2.2 gX7_doOrder_X7_putUp rfl rfl rfl (by decide +kernel) ⟨Nat.le_of_ble_eq_true rfl, Nat.le_of_ble_eq_true rfl⟩) 0 rfl rfl rfl rfl (Nat.le_of_ble_eq_true rfl) (fun r σ1 hr => ?_)
      refine hret r σ1 _ _ dX7_doOrder_167 ?_
      clear hret
      have hxe : x = 117 := (nI_eq (by omega) (by omega)).mp q55_117
      have hol : oL B L (oP B L i) = 3 := by rw [hol0, hxe]; rfl
      rw [hol]
      obtain ⟨hr1, hr2⟩ := hr
      exact ⟨hr1, by rw [hr2, up2_eq]; rfl, fun k k0 k1 k9 k10 => by rw [hr2, up2_ne _ _ k1], fun z hz => by rw [hr2, up2_ne _ _ (by decide)]⟩
    refine cw_tableOut (pc := 55) (tgt := 187) C dX7_doOrder_55 (tsw_out (lo := 100) (n := 18) (fun k hk => by rcases (show k = 100 ∨ k = 101 ∨ k = 102 ∨ k = 103 ∨ k = 104 ∨ k = 105 ∨ k = 106 ∨ k = 107 ∨ k = 108 ∨ k = 109 ∨ k = 110 ∨ k = 111 ∨ k = 112 ∨ k = 113 ∨ k = 114 ∨ k = 115 ∨ k = 116 ∨ k = 117 by omega) with rfl | rfl | rfl | rfl | rfl | rfl | rfl | rfl | rfl | rfl | rfl | rfl | rfl | rfl | rfl | rfl | rfl | rfl <;> assumption)) (by decide) ?_
    refine cw_aload_n (pc := 187) C dX7_doOrder_187 rfl 2 rfl ?_
    refine cw_iload_n (pc := 188) C dX7_doOrder_188 rfl 1 rfl ?_
    refine cw_iload_n (pc := 189) C dX7_doOrder_189 rfl 0 rfl ?_
    refine cw_calli (pc := 190) C dX7_doOrder_190 (c_X7_drive l D Z A σ X (oAs B L (oP B L i)) (oB B L (oP B L i)) hT hO) (cwV 2 C.1.2.2.2.2 gX7_doOrder_X7_drive rfl rfl rfl (by decide +kernel) ⟨Nat.le_of_ble_eq_true rfl, Nat.le_of_ble_eq_true rfl⟩) 0 rfl rfl rfl rfl (Nat.le_of_ble_eq_true rfl) (fun r σ1 hr => ?_)
    refine hret r σ1 _ _ dX7_doOrder_193 ?_
    clear hret
    have hz : x < 100 ∨ 117 < x := by
      rcases Nat.lt_or_ge x 100 with z | z
      · exact Or.inl z
      · rcases Nat.lt_or_ge 117 x with y | y
        · exact Or.inr y
        · exfalso
          rcases (show x = 100 ∨ x = 101 ∨ x = 102 ∨ x = 103 ∨ x = 104 ∨ x = 105 ∨ x = 106 ∨ x = 107 ∨ x = 108 ∨ x = 109 ∨ x = 110 ∨ x = 111 ∨ x = 112 ∨ x = 113 ∨ x = 114 ∨ x = 115 ∨ x = 116 ∨ x = 117 by omega) with e | e | e | e | e | e | e | e | e | e | e | e | e | e | e | e | e | e
          · exact q55_100 (by rw [e])
          · exact q55_101 (by rw [e])
          · exact q55_102 (by rw [e])
          · exact q55_103 (by rw [e])
          · exact q55_104 (by rw [e])
          · exact q55_105 (by rw [e])
          · exact q55_106 (by rw [e])
          · exact q55_107 (by rw [e])
          · exact q55_108 (by rw [e])
          · exact q55_109 (by rw [e])
          · exact q55_110 (by rw [e])
          · exact q55_111 (by rw [e])
          · exact q55_112 (by rw [e])
          · exact q55_113 (by rw [e])
          · exact q55_114 (by rw [e])
          · exact q55_115 (by rw [e])
          · exact q55_116 (by rw [e])
          · exact q55_117 (by rw [e])
    have hol : oL B L (oP B L i) = 7 := by rw [hol0]; exact lix_out hlx hz
    rw [hol]
    obtain ⟨hr1, nr, fa, ra, hr2⟩ := hr
    exact ⟨hr1, by rw [hr2, up2_ne _ _ (by decide), up2_ne _ _ (by decide), up2_eq]; rfl, fun k k0 k1 k9 k10 => by rw [hr2, up2_ne _ _ k10, up2_ne _ _ k9, up2_ne _ _ k1, up2_ne _ _ k0], fun z hz => by rw [hr2, up2_ne _ _ (by decide), up2_ne _ _ (by decide), up2_ne _ _ (by decide), up2_eq, upd_ne (by omega)]⟩
set_option maxHeartbeats 4000000 in
set_option maxRecDepth 100000 in
theorem c_X7_reads (l : Launch) (D : va_G) (Z : CZ) (A : Nat → Nat) (σ : St) (X F : Nat → Int32) (ck co : Int32) (K : Nat → Nat → Int32) (nn : Nat) (B : Nat → Int32) (L : Nat)  (ha : absM σ X F ck co K nn B L) (hO : rowOK X) (hnn : nn ≤ 5) (hL : L ≤ 150) (hB : byOK B L) : CTi l yX7_reads wsX7_reads 7 165 D Z (wM Z A) σ [.ref (A 0)] (fun r σ' => ∃ (n : Nat) (r0 : Int32), prsC B L n r0 ∧ ((¬ r0 = -1 ∧ r = (-10) - r0 ∧ absM σ' X F ck co K nn B L) ∨ (r0 = -1 ∧ (∀ j, j < n → 0 ≤ rdR B L X j) ∧ r = nI n ∧ absM σ' (rdX B L X n) F ck co (psh K nn X) (min (nn + 1) 5) B L) ∨ (r0 = -1 ∧ ∃ i, i < n ∧ (∀ j, j < i → 0 ≤ rdR B L X j) ∧ rdR B L X i < 0 ∧ r = (-1000) - nI i ∧ absM σ' X F (-(rdR B L X i)) (nI i) K nn B L))) := by
  refine CTi.mk (cc := cX7_reads) (nL := 4) (own := RX7) rfl (by decide) rfl (Nat.le_of_ble_eq_true rfl) ?_
  intro p0 e0 s0 m0 g0 b0 t0 c0 A0 Q C hret
  have hT := ha.1
  refine cw_lv (lv' := [(0, .ref (A 0))]) [0] rfl ?_
  refine cw_aload_n (pc := 0) C dX7_reads_0 rfl 0 rfl ?_
  refine cw_calli (pc := 1) C dX7_reads_1 (c_X7_readText l D Z A σ L ha.2.2.2.2.2.2.2 hL (by rw [ha.2.2.2.2.2.2.1]; exact hB)) (cwV 0 C.1.2.2.2.2 gX7_reads_X7_readText rfl rfl rfl (by decide +kernel) ⟨Nat.le_of_ble_eq_true rfl, Nat.le_of_ble_eq_true rfl⟩) 0 rfl rfl rfl rfl (Nat.le_of_ble_eq_true rfl) (fun r σ1 hr => ?_)
  obtain ⟨hkp, n, hprs, hord⟩ := hr
  rw [ha.2.2.2.2.2.2.1] at hprs hord
  have hM0 : absM σ1 X F ck co K nn B L := absM_mkp ha hkp
  have hn50 := hprs.1
  refine cw_istore_n (pc := 4) C dX7_reads_4 rfl (by decide) (lv' := [(1, .int (r)), (0, .ref (A 0))]) rfl ?_
  refine cw_iload_n (pc := 5) C dX7_reads_5 rfl 0 rfl ?_
  refine cw_iconst (pc := 6) C dX7_reads_6 (-1) (by decide) ?_
  refine cw_icmp_eq (pc := 7) (tgt := 15) C dX7_reads_7 (by decide) (fun h7 => ?_) (fun h7 => ?_)
  · -- 7 t
    obtain ⟨e12, hM0r⟩ := hord h7
    refine cw_aload_n (pc := 15) C dX7_reads_15 rfl 1 rfl ?_
    refine cw_callv (pc := 16) C dX7_reads_16 (c_X7_save l D Z A σ1 ) (cwV 0 C.1.2.2.2.2 gX7_reads_X7_save rfl rfl rfl (by decide +kernel) ⟨Nat.le_of_ble_eq_true rfl, Nat.le_of_ble_eq_true rfl⟩) 0 rfl rfl rfl rfl (Nat.le_of_ble_eq_true rfl) (cw_effv (fun _ h => h) (up2 σ1 2 (va_cpy (σ1 1) (σ1 2) 0 0 51)) rfl ?_)
    refine cw_iconst (pc := 19) C dX7_reads_19 (nI 0) (by decide) ?_
    refine cw_istore_n (pc := 20) C dX7_reads_20 rfl (by decide) (lv' := [(2, .int (nI 0)), (1, .int (r)), (0, .ref (A 0))]) rfl ?_
    have L21 : ∀ (n21 : Nat) (i : Nat) (s21 : St) (hin0 : i ≤ n) (hm : n < i + n21) (hok : ∀ j, j < i → 0 ≤ rdR B L X j) (hYok : rowOK (rdX B L X i)) (hab : absM s21 (rdX B L X i) F ck co K nn B L) (hs2 : ∀ k, k < 51 → s21 2 k = mrow X k) (e12 : s21 0 12 = nI n) (hM : ordsM B L n (s21 6) (s21 7) (s21 8)), CW p0 l e0 (rmC 7 165) s0 m0 g0 b0 t0 c0 D A0 4 (wM Z A) Q s21 21 [(0, .ref (A 0)), (1, .int (r)), (2, .int (nI i))] [] := by
      intro n21
      induction n21 with
      | zero => intro i s21 hin0 hm hok hYok hab hs2 e12 hM; exact absurd hm (by omega)
      | succ n21 ih21 =>
        intro i s21 hin0 hm hok hYok hab hs2 e12 hM
        refine cw_iload_n (pc := 21) C dX7_reads_21 rfl 2 rfl ?_
        refine cw_aload_n (pc := 22) C dX7_reads_22 rfl 0 rfl ?_
        refine cw_get (pc := 23) C dX7_reads_23 0 (v := .int (s21 0 12)) rfl rfl 12 rfl (fun _ h => List.mem_cons_of_mem _ (List.mem_append_right _ h)) (by decide) (List.mem_of_getElem? (i := 1) rfl) ?_
        refine cw_top (nI n) e12 ?_
        refine cw_icmp_ge (pc := 26) (tgt := 83) C dX7_reads_26 (by decide) (fun h26 => ?_) (fun h26 => ?_)
        · -- 26 t
          have h26 : n ≤ i := (nc_ge (a := i) (b := n) (by omega) (by omega)).mp h26
          have hie : i = n := by omega
          refine cw_aload_n (pc := 83) C dX7_reads_83 rfl 0 rfl ?_
          refine cw_aload_n (pc := 84) C dX7_reads_84 rfl 0 rfl ?_
          refine cw_get (pc := 85) C dX7_reads_85 0 (v := .int (s21 0 12)) rfl rfl 12 rfl (fun _ h => List.mem_cons_of_mem _ (List.mem_append_right _ h)) (by decide) (List.mem_of_getElem? (i := 1) rfl) ?_
          refine cw_top (nI n) e12 ?_
          refine cw_calli (pc := 88) C dX7_reads_88 (c_X7_finish l D Z A s21 X K nn (nI n) hs2 hab.2.2.2.2.2.1 hab.2.2.2.2.1 hnn) (cwV 1 C.1.2.2.2.2 gX7_reads_X7_finish rfl rfl rfl (by decide +kernel) ⟨Nat.le_of_ble_eq_true rfl, Nat.le_of_ble_eq_true rfl⟩) 0 rfl rfl rfl rfl (Nat.le_of_ble_eq_true rfl) (fun r2 σ2 hr => ?_)
          refine hret r2 σ2 _ _ dX7_reads_91 ?_
          clear hret
          have hch := chM_of (R := nI n) (Y := rdX B L X i) (Or.inl ⟨nI_pos' (by omega), hYok⟩) hab hr
          rcases hch with ⟨-, hr9, h9⟩ | ⟨kk, hkk, h9, -⟩
          · refine ⟨n, r, hprs, Or.inr (Or.inl ⟨h7, by rw [← hie]; exact hok, hr9, by rw [hie] at h9; exact h9⟩)⟩
          · rcases (show kk = 0 ∨ kk = 1 by omega) with rfl | rfl
            · exact absurd h9 (fun q => by have := nI_pos' (n := n) (by omega); rw [q] at this; exact absurd this (by decide))
            · exact absurd h9 (fun q => by have := nI_pos' (n := n) (by omega); rw [q] at this; exact absurd this (by decide))
        · -- 26 f
          have h26 : ¬ (n ≤ i) := fun qq => h26 ((nc_ge (a := i) (b := n) (by omega) (by omega)).mpr qq)
          refine cw_aload_n (pc := 29) C dX7_reads_29 rfl 0 rfl ?_
          refine cw_iload_n (pc := 30) C dX7_reads_30 rfl 2 rfl ?_
          refine cw_calli (pc := 31) C dX7_reads_31 (c_X7_doOrder l D Z A s21 (rdX B L X i) B L n i hab.1 hYok hM (by omega) hn50 hB) (cwV 1 C.1.2.2.2.2 gX7_reads_X7_doOrder rfl rfl rfl (by decide +kernel) ⟨Nat.le_of_ble_eq_true rfl, Nat.le_of_ble_eq_true rfl⟩) 0 rfl rfl rfl rfl (Nat.le_of_ble_eq_true rfl) (fun r σ2 hr => ?_)
          obtain ⟨hr1, hr2, hr3, hr4⟩ := hr
          have hr1 : r = rdR B L X i := hr1
          have hr2 : σ2 1 = mrow (rdX B L X (i + 1)) := hr2
          have e3 : σ2 3 = s21 3 := hr3 3 (by decide) (by decide) (by decide) (by decide)
          have e4 : σ2 4 = s21 4 := hr3 4 (by decide) (by decide) (by decide) (by decide)
          have e5 : σ2 5 = s21 5 := hr3 5 (by decide) (by decide) (by decide) (by decide)
          have e2 : σ2 2 = s21 2 := hr3 2 (by decide) (by decide) (by decide) (by decide)
          have e6 : σ2 6 = s21 6 := hr3 6 (by decide) (by decide) (by decide) (by decide)
          have e7 : σ2 7 = s21 7 := hr3 7 (by decide) (by decide) (by decide) (by decide)
          have e8 : σ2 8 = s21 8 := hr3 8 (by decide) (by decide) (by decide) (by decide)
          have hab2 : absM σ2 (rdX B L X (i + 1)) F ck co K nn B L := absM_rows hab hr2 e3 e4 e5 hr4
          subst hr1
          refine cw_istore_n (pc := 34) C dX7_reads_34 rfl (by decide) (lv' := [(3, .int (rdR B L X i)), (0, .ref (A 0)), (1, .int (r)), (2, .int (nI i))]) rfl ?_
          refine cw_iload_n (pc := 35) C dX7_reads_35 rfl 0 rfl ?_
          refine cw_bipush (pc := 36) C dX7_reads_36 (-2) (by decide) ?_
          refine cw_icmp_eq (pc := 38) (tgt := 47) C dX7_reads_38 (by decide) (fun h38 => ?_) (fun h38 => ?_)
          · -- 38 t
            refine cw_aload_n (pc := 47) C dX7_reads_47 rfl 1 rfl ?_
            refine cw_get (pc := 48) C dX7_reads_48 0 (v := .ref (A 2)) rfl rfl 1 rfl (fun _ h => List.mem_cons_of_mem _ (List.mem_append_right _ h)) (by decide) (List.mem_of_getElem? (i := 2) rfl) ?_
            refine cw_iconst (pc := 51) C dX7_reads_51 (nI 0) (by decide) ?_
            refine cw_aload_n (pc := 52) C dX7_reads_52 rfl 1 rfl ?_
            refine cw_get (pc := 53) C dX7_reads_53 0 (v := .ref (A 1)) rfl rfl 0 rfl (fun _ h => List.mem_cons_of_mem _ (List.mem_append_right _ h)) (by decide) (List.mem_of_getElem? (i := 3) rfl) ?_
            refine cw_iconst (pc := 56) C dX7_reads_56 (nI 0) (by decide) ?_
            refine cw_callsv (pc := 57) C dX7_reads_57 (c_X7_bring21 l D Z A σ2 ) (va_cwS 4 C.1.2.2.2.2 gX7_reads_X7_bring rfl rfl rfl (by decide +kernel) ⟨Nat.le_of_ble_eq_true rfl, Nat.le_of_ble_eq_true rfl⟩) rfl rfl (Nat.le_of_ble_eq_true rfl) (cw_effv (fun _ h => h) (up2 σ2 1 (va_cpy (σ2 2) (σ2 1) 0 0 51)) rfl ?_)
            refine cw_aload_n (pc := 60) C dX7_reads_60 rfl 1 rfl ?_
            refine cw_iload_n (pc := 61) C dX7_reads_61 rfl 0 rfl ?_
            refine cw_ineg (pc := 62) C dX7_reads_62 (z := -(rdR B L X i)) rfl ?_
            refine cw_put (pc := 63) C dX7_reads_63 0 (ty := .int) rfl rfl 5 (fun _ h => List.mem_cons_of_mem _ (List.mem_append_right _ h)) tyX7_ok nmX7 (by decide) (List.mem_of_getElem? (i := 4) rfl) rfl (by decide +kernel) rfl rfl (Nat.le_of_ble_eq_true rfl) (up2 (up2 σ2 0 (upd (σ2 0) 5 (-(rdR B L X i)))) 1 (va_cpy (σ2 2) (σ2 1) 0 0 51)) ((wM_p0_5 Z A _ _).trans (congrArg (wM Z A) ((up2_comm _ _ _ (by decide)).trans (congrArg (fun qz => up2 qz 1 (va_cpy (σ2 2) (σ2 1) 0 0 51)) rfl)))) ?_
            refine cw_aload_n (pc := 66) C dX7_reads_66 rfl 1 rfl ?_
            refine cw_iload_n (pc := 67) C dX7_reads_67 rfl 3 rfl ?_
            refine cw_put (pc := 68) C dX7_reads_68 0 (ty := .int) rfl rfl 6 (fun _ h => List.mem_cons_of_mem _ (List.mem_append_right _ h)) tyX7_ok nmX7 (by decide) (List.mem_of_getElem? (i := 5) rfl) rfl (by decide +kernel) rfl rfl (Nat.le_of_ble_eq_true rfl) (up2 (up2 σ2 0 (upd (upd (σ2 0) 5 (-(rdR B L X i))) 6 (nI i))) 1 (va_cpy (σ2 2) (σ2 1) 0 0 51)) ((wM_p0_6 Z A _ _).trans (congrArg (wM Z A) ((up2_comm _ _ _ (by decide)).trans (congrArg (fun qz => up2 qz 1 (va_cpy (σ2 2) (σ2 1) 0 0 51)) (up2_up2 _ 0 _ _))))) ?_
            refine cw_sipush (pc := 71) C dX7_reads_71 (-1000) (by decide) ?_
            refine cw_iload_n (pc := 74) C dX7_reads_74 rfl 3 rfl ?_
            refine cw_isub (pc := 75) C dX7_reads_75 (z := (-1000) - (nI i)) rfl ?_
            refine hret ((-1000) - (nI i)) (up2 (up2 σ2 0 (upd (upd (σ2 0) 5 (-(rdR B L X i))) 6 (nI i))) 1 (va_cpy (σ2 2) (σ2 1) 0 0 51)) _ _ dX7_reads_76 ?_
            clear hret
            refine ⟨n, r, hprs, Or.inr (Or.inr ⟨h7, i, by omega, hok, by rw [h38]; decide, rfl, ?_⟩)⟩
            exact ⟨by rw [up2_eq, hab2.1]; exact cpy_now (fun k hk => by rw [Nat.zero_add, e2]; exact hs2 k hk), by rw [up2_ne _ _ (by decide), up2_ne _ _ (by decide)]; exact hab2.2.1, by rw [up2_ne _ _ (by decide), up2_eq]; rfl, by rw [up2_ne _ _ (by decide), up2_eq]; rfl, by rw [up2_ne _ _ (by decide), up2_eq, upd_ne (by decide), upd_ne (by decide)]; exact hab2.2.2.2.2.1, by rw [up2_ne _ _ (by decide), up2_ne _ _ (by decide)]; exact hab2.2.2.2.2.2.1, by rw [up2_ne _ _ (by decide), up2_ne _ _ (by decide)]; exact hab2.2.2.2.2.2.2.1, by rw [up2_ne _ _ (by decide), up2_eq, upd_ne (by decide), upd_ne (by decide)]; exact hab2.2.2.2.2.2.2.2⟩
          · -- 38 f
            refine cw_iload_n (pc := 41) C dX7_reads_41 rfl 0 rfl ?_
            refine cw_bipush (pc := 42) C dX7_reads_42 (-3) (by decide) ?_
            refine cw_icmp_ne (pc := 44) (tgt := 77) C dX7_reads_44 (by decide) (fun h44 => ?_) (fun h44 => ?_)
            · -- 44 t
              have hgo : 0 ≤ rdR B L X i ∧ rowOK (rdX B L X (i + 1)) := by
                rcases ord_all hYok (show oL B L (oP B L i) < 10 by have := (oF_none (hM.1 i (by omega)).1); omega) (oAs B L (oP B L i)) (oB B L (oP B L i)) with z | z
                · exact z
                · exact absurd z.1 (fun q => q.elim h38 h44)
              refine cw_iinc (pc := 77) C dX7_reads_77 3 rfl (nI (i + 1)) (nI_inc _ 1) (by decide) (lv' := [(2, .int (nI (i + 1))), (3, .int (rdR B L X i)), (0, .ref (A 0)), (1, .int (r))]) rfl ?_
              refine cw_goto (pc := 80) (tgt := 21) C dX7_reads_80 (by decide) ?_
              refine cw_lv [2, 3, 0] rfl ?_
              exact ih21 (i + 1) σ2 (by omega) (by omega) (fun j hj => by rcases Nat.lt_or_ge j i with z | z; exact hok j z; rw [show j = i by omega]; exact hgo.1) hgo.2 hab2 (fun k hk => by rw [e2]; exact hs2 k hk) ((hr4 12 (by decide)).trans e12) (by rw [e6, e7, e8]; exact hM)
            · -- 44 f
              refine cw_aload_n (pc := 47) C dX7_reads_47 rfl 1 rfl ?_
              refine cw_get (pc := 48) C dX7_reads_48 0 (v := .ref (A 2)) rfl rfl 1 rfl (fun _ h => List.mem_cons_of_mem _ (List.mem_append_right _ h)) (by decide) (List.mem_of_getElem? (i := 2) rfl) ?_
              refine cw_iconst (pc := 51) C dX7_reads_51 (nI 0) (by decide) ?_
              refine cw_aload_n (pc := 52) C dX7_reads_52 rfl 1 rfl ?_
              refine cw_get (pc := 53) C dX7_reads_53 0 (v := .ref (A 1)) rfl rfl 0 rfl (fun _ h => List.mem_cons_of_mem _ (List.mem_append_right _ h)) (by decide) (List.mem_of_getElem? (i := 3) rfl) ?_
              refine cw_iconst (pc := 56) C dX7_reads_56 (nI 0) (by decide) ?_
              refine cw_callsv (pc := 57) C dX7_reads_57 (c_X7_bring21 l D Z A σ2 ) (va_cwS 4 C.1.2.2.2.2 gX7_reads_X7_bring rfl rfl rfl (by decide +kernel) ⟨Nat.le_of_ble_eq_true rfl, Nat.le_of_ble_eq_true rfl⟩) rfl rfl (Nat.le_of_ble_eq_true rfl) (cw_effv (fun _ h => h) (up2 σ2 1 (va_cpy (σ2 2) (σ2 1) 0 0 51)) rfl ?_)
              refine cw_aload_n (pc := 60) C dX7_reads_60 rfl 1 rfl ?_
              refine cw_iload_n (pc := 61) C dX7_reads_61 rfl 0 rfl ?_
              refine cw_ineg (pc := 62) C dX7_reads_62 (z := -(rdR B L X i)) rfl ?_
              refine cw_put (pc := 63) C dX7_reads_63 0 (ty := .int) rfl rfl 5 (fun _ h => List.mem_cons_of_mem _ (List.mem_append_right _ h)) tyX7_ok nmX7 (by decide) (List.mem_of_getElem? (i := 4) rfl) rfl (by decide +kernel) rfl rfl (Nat.le_of_ble_eq_true rfl) (up2 (up2 σ2 0 (upd (σ2 0) 5 (-(rdR B L X i)))) 1 (va_cpy (σ2 2) (σ2 1) 0 0 51)) ((wM_p0_5 Z A _ _).trans (congrArg (wM Z A) ((up2_comm _ _ _ (by decide)).trans (congrArg (fun qz => up2 qz 1 (va_cpy (σ2 2) (σ2 1) 0 0 51)) rfl)))) ?_
              refine cw_aload_n (pc := 66) C dX7_reads_66 rfl 1 rfl ?_
              refine cw_iload_n (pc := 67) C dX7_reads_67 rfl 3 rfl ?_
              refine cw_put (pc := 68) C dX7_reads_68 0 (ty := .int) rfl rfl 6 (fun _ h => List.mem_cons_of_mem _ (List.mem_append_right _ h)) tyX7_ok nmX7 (by decide) (List.mem_of_getElem? (i := 5) rfl) rfl (by decide +kernel) rfl rfl (Nat.le_of_ble_eq_true rfl) (up2 (up2 σ2 0 (upd (upd (σ2 0) 5 (-(rdR B L X i))) 6 (nI i))) 1 (va_cpy (σ2 2) (σ2 1) 0 0 51)) ((wM_p0_6 Z A _ _).trans (congrArg (wM Z A) ((up2_comm _ _ _ (by decide)).trans (congrArg (fun qz => up2 qz 1 (va_cpy (σ2 2) (σ2 1) 0 0 51)) (up2_up2 _ 0 _ _))))) ?_
              refine cw_sipush (pc := 71) C dX7_reads_71 (-1000) (by decide) ?_
              refine cw_iload_n (pc := 74) C dX7_reads_74 rfl 3 rfl ?_
              refine cw_isub (pc := 75) C dX7_reads_75 (z := (-1000) - (nI i)) rfl ?_
              refine hret ((-1000) - (nI i)) (up2 (up2 σ2 0 (upd (upd (σ2 0) 5 (-(rdR B L X i))) 6 (nI i))) 1 (va_cpy (σ2 2) (σ2 1) 0 0 51)) _ _ dX7_reads_76 ?_
              clear hret
              refine ⟨n, r, hprs, Or.inr (Or.inr ⟨h7, i, by omega, hok, by rw [h44]; decide, rfl, ?_⟩)⟩
              exact ⟨by rw [up2_eq, hab2.1]; exact cpy_now (fun k hk => by rw [Nat.zero_add, e2]; exact hs2 k hk), by rw [up2_ne _ _ (by decide), up2_ne _ _ (by decide)]; exact hab2.2.1, by rw [up2_ne _ _ (by decide), up2_eq]; rfl, by rw [up2_ne _ _ (by decide), up2_eq]; rfl, by rw [up2_ne _ _ (by decide), up2_eq, upd_ne (by decide), upd_ne (by decide)]; exact hab2.2.2.2.2.1, by rw [up2_ne _ _ (by decide), up2_ne _ _ (by decide)]; exact hab2.2.2.2.2.2.1, by rw [up2_ne _ _ (by decide), up2_ne _ _ (by decide)]; exact hab2.2.2.2.2.2.2.1, by rw [up2_ne _ _ (by decide), up2_eq, upd_ne (by decide), upd_ne (by decide)]; exact hab2.2.2.2.2.2.2.2⟩
    refine cw_lv [2, 1, 0] rfl ?_
    exact L21 (n + 1) 0 (up2 σ1 2 (va_cpy (σ1 1) (σ1 2) 0 0 51)) (by omega) (by omega) (fun j hj => absurd hj (by omega)) hO (absM_rows hM0 (by rw [up2_ne _ _ (by decide)]; exact hM0.1) rfl rfl rfl (fun _ _ => rfl)) (fun k hk => by rw [up2_eq, hM0.1]; exact absM_aside k hk) e12 hM0r
  · -- 7 f
    refine cw_bipush (pc := 10) C dX7_reads_10 (-10) (by decide) ?_
    refine cw_iload_n (pc := 12) C dX7_reads_12 rfl 0 rfl ?_
    refine cw_isub (pc := 13) C dX7_reads_13 (z := (-10) - r) rfl ?_
    refine hret ((-10) - r) σ1 _ _ dX7_reads_14 ?_
    clear hret
    exact ⟨n, r, hprs, Or.inl ⟨h7, rfl, hM0⟩⟩
set_option maxHeartbeats 4000000 in
set_option maxRecDepth 100000 in
theorem c_X7_digest (l : Launch) (D : va_G) (Z : CZ) (A : Nat → Nat) (σ : St) (X F : Nat → Int32) (ck co : Int32) (K : Nat → Nat → Int32) (nn : Nat) (B : Nat → Int32) (L : Nat)  (ha : absM σ X F ck co K nn B L) (hO : rowOK X) (hnn : nn ≤ 5) (hL : L ≤ 150) : CTl l yX7_digest wsX7_digest 4 94 D Z (wM Z A) σ [.ref (A 0)] (fun r σ' => r = dgC X F ck co nn L ∧ absM σ' X F ck co K nn B L) := by
  refine CTl.mk (cc := cX7_digest) (nL := 5) (own := RX7) rfl (by decide) rfl (Nat.le_of_ble_eq_true rfl) ?_
  intro p0 e0 s0 m0 g0 b0 t0 c0 A0 Q C hret
  obtain ⟨hT, m2, m3, m4, m5, m6, m7, m8⟩ := id ha
  have hS9 := hO.1
  refine cw_lv (lv' := [(0, .ref (A 0))]) [0] rfl ?_
  refine cw_ldc2 (pc := 0) C dX7_digest_0 (v := 2411) (List.mem_of_getElem? (i := 1) rfl) ?_
  refine cw_lstore_n (pc := 3) C dX7_digest_3 rfl (by decide) (lv' := [(1, .long (2411)), (0, .ref (A 0))]) rfl ?_
  refine cw_iconst (pc := 4) C dX7_digest_4 (nI 0) (by decide) ?_
  refine cw_istore_n (pc := 5) C dX7_digest_5 rfl (by decide) (lv' := [(3, .int (nI 0)), (1, .long (2411)), (0, .ref (A 0))]) rfl ?_
  have L6 : ∀ (n6 : Nat) (k : Nat) (h : Int64) (hk : k ≤ 5) (hm : 5 < k + n6) (hh : h = dgF (fun w => ansV (toA F nn L (nI w))) k 2411), CW p0 l e0 (rmC 4 94) s0 m0 g0 b0 t0 c0 D A0 5 (wM Z A) Q σ 6 [(0, .ref (A 0)), (1, .long (h)), (3, .int (nI k))] [] := by
    intro n6
    induction n6 with
    | zero => intro k h hk hm hh; exact absurd hm (by omega)
    | succ n6 ih6 =>
      intro k h hk hm hh
      refine cw_iload_n (pc := 6) C dX7_digest_6 rfl 2 rfl ?_
      refine cw_iconst (pc := 7) C dX7_digest_7 (nI 5) (by decide) ?_
      refine cw_icmp_ge (pc := 8) (tgt := 30) C dX7_digest_8 (by decide) (fun h8 => ?_) (fun h8 => ?_)
      · -- 8 t
        have h8 : 5 ≤ k := (nc_ge (a := k) (b := 5) (by omega) (by omega)).mp h8
        have hke : k = 5 := by omega
        refine cw_ldc2 (pc := 30) C dX7_digest_30 (v := 31) (List.mem_of_getElem? (i := 2) rfl) ?_
        refine cw_ldc2 (pc := 33) C dX7_digest_33 (v := 31) (List.mem_of_getElem? (i := 2) rfl) ?_
        refine cw_lload_n (pc := 36) C dX7_digest_36 rfl 1 rfl ?_
        refine cw_lmul (pc := 37) C dX7_digest_37 ?_
        refine cw_aload_n (pc := 38) C dX7_digest_38 rfl 0 rfl ?_
        refine cw_iconst (pc := 39) C dX7_digest_39 (nI 0) (by decide) ?_
        refine cw_calli (pc := 40) C dX7_digest_40 (c_X7_causeOf l D Z A σ (nI 0)) (cwV 1 C.1.2.2.2.2 gX7_digest_X7_causeOf rfl rfl rfl (by decide +kernel) ⟨Nat.le_of_ble_eq_true rfl, Nat.le_of_ble_eq_true rfl⟩) 0 rfl rfl rfl rfl (Nat.le_of_ble_eq_true rfl) (cw_pure (v := if (nI 0) = 0 then σ 0 5 else σ 0 6) (fun _ _ h => h) ?_)
        refine cw_top (ansV (whA ck co (nI 0))) m3 ?_
        refine cw_i2l (pc := 43) C dX7_digest_43 ?_
        refine cw_ladd (pc := 44) C dX7_digest_44 ?_
        refine cw_lmul (pc := 45) C dX7_digest_45 ?_
        refine cw_aload_n (pc := 46) C dX7_digest_46 rfl 0 rfl ?_
        refine cw_iconst (pc := 47) C dX7_digest_47 (nI 1) (by decide) ?_
        refine cw_calli (pc := 48) C dX7_digest_48 (c_X7_causeOf l D Z A σ (nI 1)) (cwV 1 C.1.2.2.2.2 gX7_digest_X7_causeOf rfl rfl rfl (by decide +kernel) ⟨Nat.le_of_ble_eq_true rfl, Nat.le_of_ble_eq_true rfl⟩) 0 rfl rfl rfl rfl (Nat.le_of_ble_eq_true rfl) (cw_pure (v := if (nI 1) = 0 then (σ 0) 5 else (σ 0) 6) (fun _ _ h => h) ?_)
        refine cw_top (ansV (whA ck co (nI 1))) m4 ?_
        refine cw_i2l (pc := 51) C dX7_digest_51 ?_
        refine cw_ladd (pc := 52) C dX7_digest_52 ?_
        refine cw_lstore_n (pc := 53) C dX7_digest_53 rfl (by decide) (lv' := [(1, .long ((31 * ((31 * h) + ((ansV (whA ck co (nI 0))).toInt64))) + ((ansV (whA ck co (nI 1))).toInt64))), (0, .ref (A 0)), (3, .int (nI k))]) rfl ?_
        refine cw_iconst (pc := 54) C dX7_digest_54 (nI 1) (by decide) ?_
        refine cw_istore_n (pc := 55) C dX7_digest_55 rfl (by decide) (lv' := [(3, .int (nI 1)), (1, .long ((31 * ((31 * h) + ((ansV (whA ck co (nI 0))).toInt64))) + ((ansV (whA ck co (nI 1))).toInt64))), (0, .ref (A 0))]) rfl ?_
        have L56 : ∀ (n56 : Nat) (i : Nat) (h : Int64) (hk : i ≤ 7) (hm : 7 < i + n56) (hh : h = dgG (fun g w => ansV (ofA X (nI (g + 1)) (nI w))) 5 i (dgF (fun w => ansV (whA ck co (nI w))) 2 (dgF (fun w => ansV (toA F nn L (nI w))) 5 2411))), CW p0 l e0 (rmC 4 94) s0 m0 g0 b0 t0 c0 D A0 5 (wM Z A) Q σ 56 [(0, .ref (A 0)), (1, .long (h)), (3, .int (nI (i + 1)))] [] := by
          intro n56
          induction n56 with
          | zero => intro i h hk hm hh; exact absurd hm (by omega)
          | succ n56 ih56 =>
            intro i h hk hm hh
            refine cw_iload_n (pc := 56) C dX7_digest_56 rfl 2 rfl ?_
            refine cw_bipush (pc := 57) C dX7_digest_57 (nI 7) (by decide) ?_
            refine cw_icmp_gt (pc := 59) (tgt := 98) C dX7_digest_59 (by decide) (fun h59 => ?_) (fun h59 => ?_)
            · -- 59 t
              have h59 : 7 < (i + 1) := (nc_gt (a := i + 1) (b := 7) (by omega) (by omega)).mp h59
              have hke : i = 7 := by omega
              refine cw_iconst (pc := 98) C dX7_digest_98 (nI 0) (by decide) ?_
              refine cw_istore_n (pc := 99) C dX7_digest_99 rfl (by decide) (lv' := [(3, .int (nI 0)), (0, .ref (A 0)), (1, .long (h))]) rfl ?_
              have L100 : ∀ (n100 : Nat) (i : Nat) (h : Int64) (hk : i ≤ 5) (hm : 5 < i + n100) (hh : h = dgG (fun c w => ansV (clA X (nI c) (nI w))) 4 i (dgG (fun g w => ansV (ofA X (nI (g + 1)) (nI w))) 5 7 (dgF (fun w => ansV (whA ck co (nI w))) 2 (dgF (fun w => ansV (toA F nn L (nI w))) 5 2411)))), CW p0 l e0 (rmC 4 94) s0 m0 g0 b0 t0 c0 D A0 5 (wM Z A) Q σ 100 [(0, .ref (A 0)), (1, .long (h)), (3, .int (nI i))] [] := by
                intro n100
                induction n100 with
                | zero => intro i h hk hm hh; exact absurd hm (by omega)
                | succ n100 ih100 =>
                  intro i h hk hm hh
                  refine cw_iload_n (pc := 100) C dX7_digest_100 rfl 2 rfl ?_
                  refine cw_iconst (pc := 101) C dX7_digest_101 (nI 5) (by decide) ?_
                  refine cw_icmp_ge (pc := 102) (tgt := 141) C dX7_digest_102 (by decide) (fun h102 => ?_) (fun h102 => ?_)
                  · -- 102 t
                    have h102 : 5 ≤ i := (nc_ge (a := i) (b := 5) (by omega) (by omega)).mp h102
                    have hke : i = 5 := by omega
                    refine cw_iconst (pc := 141) C dX7_digest_141 (nI 0) (by decide) ?_
                    refine cw_istore_n (pc := 142) C dX7_digest_142 rfl (by decide) (lv' := [(3, .int (nI 0)), (0, .ref (A 0)), (1, .long (h))]) rfl ?_
                    have L143 : ∀ (n143 : Nat) (k : Nat) (h : Int64) (hk : k ≤ 13) (hm : 13 < k + n143) (hh : h = dgF (fun w => ansV (saA X (nI w))) k (dgG (fun c w => ansV (clA X (nI c) (nI w))) 4 5 (dgG (fun g w => ansV (ofA X (nI (g + 1)) (nI w))) 5 7 (dgF (fun w => ansV (whA ck co (nI w))) 2 (dgF (fun w => ansV (toA F nn L (nI w))) 5 2411))))), CW p0 l e0 (rmC 4 94) s0 m0 g0 b0 t0 c0 D A0 5 (wM Z A) Q σ 143 [(0, .ref (A 0)), (1, .long (h)), (3, .int (nI k))] [] := by
                      intro n143
                      induction n143 with
                      | zero => intro k h hk hm hh; exact absurd hm (by omega)
                      | succ n143 ih143 =>
                        intro k h hk hm hh
                        refine cw_iload_n (pc := 143) C dX7_digest_143 rfl 2 rfl ?_
                        refine cw_bipush (pc := 144) C dX7_digest_144 (nI 13) (by decide) ?_
                        refine cw_icmp_ge (pc := 146) (tgt := 168) C dX7_digest_146 (by decide) (fun h146 => ?_) (fun h146 => ?_)
                        · -- 146 t
                          have h146 : 13 ≤ k := (nc_ge (a := k) (b := 13) (by omega) (by omega)).mp h146
                          have hke : k = 13 := by omega
                          refine cw_lload_n (pc := 168) C dX7_digest_168 rfl 1 rfl ?_
                          refine hret h σ _ _ dX7_digest_169 ?_
                          clear hret
                          exact ⟨by rw [dgC_is, hh, hke], ha⟩
                        · -- 146 f
                          have h146 : ¬ (13 ≤ k) := fun qq => h146 ((nc_ge (a := k) (b := 13) (by omega) (by omega)).mpr qq)
                          refine cw_ldc2 (pc := 149) C dX7_digest_149 (v := 31) (List.mem_of_getElem? (i := 2) rfl) ?_
                          refine cw_lload_n (pc := 152) C dX7_digest_152 rfl 1 rfl ?_
                          refine cw_lmul (pc := 153) C dX7_digest_153 ?_
                          refine cw_aload_n (pc := 154) C dX7_digest_154 rfl 0 rfl ?_
                          refine cw_iload_n (pc := 155) C dX7_digest_155 rfl 2 rfl ?_
                          refine cw_calli (pc := 156) C dX7_digest_156 (c_X7_stateOf l D Z A σ X k hT (by omega)) (cwV 1 C.1.2.2.2.2 gX7_digest_X7_stateOf rfl rfl rfl (by decide +kernel) ⟨Nat.le_of_ble_eq_true rfl, Nat.le_of_ble_eq_true rfl⟩) 0 rfl rfl rfl rfl (Nat.le_of_ble_eq_true rfl) (cw_pure (v := ansV (saA X (nI k))) (fun _ _ h => h) ?_)
                          refine cw_i2l (pc := 159) C dX7_digest_159 ?_
                          refine cw_ladd (pc := 160) C dX7_digest_160 ?_
                          refine cw_lstore_n (pc := 161) C dX7_digest_161 rfl (by decide) (lv' := [(1, .long ((31 * h) + ((ansV (saA X (nI k))).toInt64))), (0, .ref (A 0)), (3, .int (nI k))]) rfl ?_
                          refine cw_iinc (pc := 162) C dX7_digest_162 2 rfl (nI (k + 1)) (nI_inc _ 1) (by decide) (lv' := [(3, .int (nI (k + 1))), (1, .long ((31 * h) + ((ansV (saA X (nI k))).toInt64))), (0, .ref (A 0))]) rfl ?_
                          refine cw_goto (pc := 165) (tgt := 143) C dX7_digest_165 (by decide) ?_
                          refine cw_lv [2, 1, 0] rfl ?_
                          exact ih143 (k + 1) ((31 * h) + ((ansV (saA X (nI k))).toInt64)) (by omega) (by omega) (by rw [hh]; exact (dgF_s _ _ _).symm)
                    refine cw_lv [1, 2, 0] rfl ?_
                    exact L143 14 0 h (by omega) (by omega) (by rw [hh, hke]; exact (dgF_z _ _).symm)
                  · -- 102 f
                    have h102 : ¬ (5 ≤ i) := fun qq => h102 ((nc_ge (a := i) (b := 5) (by omega) (by omega)).mpr qq)
                    refine cw_iconst (pc := 105) C dX7_digest_105 (nI 0) (by decide) ?_
                    refine cw_istore (pc := 106) C dX7_digest_106 (by decide) (lv' := [(4, .int (nI 0)), (0, .ref (A 0)), (1, .long (h)), (3, .int (nI i))]) rfl ?_
                    have L108 : ∀ (n108 : Nat) (w : Nat) (h : Int64) (hw : w ≤ 4) (hm2 : 4 < w + n108) (hh2 : h = dgF ((fun c w => ansV (clA X (nI c) (nI w))) i) w (dgG (fun c w => ansV (clA X (nI c) (nI w))) 4 i (dgG (fun g w => ansV (ofA X (nI (g + 1)) (nI w))) 5 7 (dgF (fun w => ansV (whA ck co (nI w))) 2 (dgF (fun w => ansV (toA F nn L (nI w))) 5 2411))))), CW p0 l e0 (rmC 4 94) s0 m0 g0 b0 t0 c0 D A0 5 (wM Z A) Q σ 108 [(0, .ref (A 0)), (1, .long (h)), (3, .int (nI i)), (4, .int (nI w))] [] := by
                      intro n108
                      induction n108 with
                      | zero => intro w h hw hm2 hh2; exact absurd hm2 (by omega)
                      | succ n108 ih108 =>
                        intro w h hw hm2 hh2
                        refine cw_iload (pc := 108) C dX7_digest_108 3 rfl ?_
                        refine cw_iconst (pc := 110) C dX7_digest_110 (nI 4) (by decide) ?_
                        refine cw_icmp_ge (pc := 111) (tgt := 135) C dX7_digest_111 (by decide) (fun h111 => ?_) (fun h111 => ?_)
                        · -- 111 t
                          have h111 : 4 ≤ w := (nc_ge (a := w) (b := 4) (by omega) (by omega)).mp h111
                          have hwe : w = 4 := by omega
                          refine cw_iinc (pc := 135) C dX7_digest_135 2 rfl (nI (i + 1)) (nI_inc _ 1) (by decide) (lv' := [(3, .int (nI (i + 1))), (0, .ref (A 0)), (1, .long (h)), (4, .int (nI w))]) rfl ?_
                          refine cw_goto (pc := 138) (tgt := 100) C dX7_digest_138 (by decide) ?_
                          refine cw_lv [1, 2, 0] rfl ?_
                          exact ih100 (i + 1) h (by omega) (by omega) (by rw [hh2, hwe]; exact (dgG_s (fun c w => ansV (clA X (nI c) (nI w))) 4 i _).symm)
                        · -- 111 f
                          have h111 : ¬ (4 ≤ w) := fun qq => h111 ((nc_ge (a := w) (b := 4) (by omega) (by omega)).mpr qq)
                          refine cw_ldc2 (pc := 114) C dX7_digest_114 (v := 31) (List.mem_of_getElem? (i := 2) rfl) ?_
                          refine cw_lload_n (pc := 117) C dX7_digest_117 rfl 1 rfl ?_
                          refine cw_lmul (pc := 118) C dX7_digest_118 ?_
                          refine cw_aload_n (pc := 119) C dX7_digest_119 rfl 0 rfl ?_
                          refine cw_iload_n (pc := 120) C dX7_digest_120 rfl 2 rfl ?_
                          refine cw_iload (pc := 121) C dX7_digest_121 3 rfl ?_
                          refine cw_calli (pc := 123) C dX7_digest_123 (c_X7_ofClutch l D Z A σ X i w hT (by omega) (by omega)) (cwV 2 C.1.2.2.2.2 gX7_digest_X7_ofClutch rfl rfl rfl (by decide +kernel) ⟨Nat.le_of_ble_eq_true rfl, Nat.le_of_ble_eq_true rfl⟩) 0 rfl rfl rfl rfl (Nat.le_of_ble_eq_true rfl) (cw_pure (v := ansV (clA X (nI i) (nI w))) (fun _ _ h => h) ?_)
                          refine cw_i2l (pc := 126) C dX7_digest_126 ?_
                          refine cw_ladd (pc := 127) C dX7_digest_127 ?_
                          refine cw_lstore_n (pc := 128) C dX7_digest_128 rfl (by decide) (lv' := [(1, .long ((31 * h) + ((ansV (clA X (nI i) (nI w))).toInt64))), (0, .ref (A 0)), (3, .int (nI i)), (4, .int (nI w))]) rfl ?_
                          refine cw_iinc (pc := 129) C dX7_digest_129 3 rfl (nI (w + 1)) (nI_inc _ 1) (by decide) (lv' := [(4, .int (nI (w + 1))), (1, .long ((31 * h) + ((ansV (clA X (nI i) (nI w))).toInt64))), (0, .ref (A 0)), (3, .int (nI i))]) rfl ?_
                          refine cw_goto (pc := 132) (tgt := 108) C dX7_digest_132 (by decide) ?_
                          refine cw_lv [2, 1, 3, 0] rfl ?_
                          exact ih108 (w + 1) ((31 * h) + ((ansV (clA X (nI i) (nI w))).toInt64)) (by omega) (by omega) (by rw [hh2]; exact (dgF_s _ _ _).symm)
                    refine cw_lv [1, 2, 3, 0] rfl ?_
                    exact L108 5 0 h (by omega) (by omega) (by rw [hh]; exact (dgF_z _ _).symm)
              refine cw_lv [1, 2, 0] rfl ?_
              exact L100 6 0 h (by omega) (by omega) (by rw [hh, hke]; exact (dgG_z _ _ _).symm)
            · -- 59 f
              have h59 : ¬ (7 < (i + 1)) := fun qq => h59 ((nc_gt (a := i + 1) (b := 7) (by omega) (by omega)).mpr qq)
              refine cw_iconst (pc := 62) C dX7_digest_62 (nI 0) (by decide) ?_
              refine cw_istore (pc := 63) C dX7_digest_63 (by decide) (lv' := [(4, .int (nI 0)), (0, .ref (A 0)), (1, .long (h)), (3, .int (nI (i + 1)))]) rfl ?_
              have L65 : ∀ (n65 : Nat) (w : Nat) (h : Int64) (hw : w ≤ 5) (hm2 : 5 < w + n65) (hh2 : h = dgF ((fun g w => ansV (ofA X (nI (g + 1)) (nI w))) i) w (dgG (fun g w => ansV (ofA X (nI (g + 1)) (nI w))) 5 i (dgF (fun w => ansV (whA ck co (nI w))) 2 (dgF (fun w => ansV (toA F nn L (nI w))) 5 2411)))), CW p0 l e0 (rmC 4 94) s0 m0 g0 b0 t0 c0 D A0 5 (wM Z A) Q σ 65 [(0, .ref (A 0)), (1, .long (h)), (3, .int (nI (i + 1))), (4, .int (nI w))] [] := by
                intro n65
                induction n65 with
                | zero => intro w h hw hm2 hh2; exact absurd hm2 (by omega)
                | succ n65 ih65 =>
                  intro w h hw hm2 hh2
                  refine cw_iload (pc := 65) C dX7_digest_65 3 rfl ?_
                  refine cw_iconst (pc := 67) C dX7_digest_67 (nI 5) (by decide) ?_
                  refine cw_icmp_ge (pc := 68) (tgt := 92) C dX7_digest_68 (by decide) (fun h68 => ?_) (fun h68 => ?_)
                  · -- 68 t
                    have h68 : 5 ≤ w := (nc_ge (a := w) (b := 5) (by omega) (by omega)).mp h68
                    have hwe : w = 5 := by omega
                    refine cw_iinc (pc := 92) C dX7_digest_92 2 rfl (nI (i + 1 + 1)) (nI_inc _ 1) (by decide) (lv' := [(3, .int (nI (i + 1 + 1))), (0, .ref (A 0)), (1, .long (h)), (4, .int (nI w))]) rfl ?_
                    refine cw_goto (pc := 95) (tgt := 56) C dX7_digest_95 (by decide) ?_
                    refine cw_lv [1, 2, 0] rfl ?_
                    exact ih56 (i + 1) h (by omega) (by omega) (by rw [hh2, hwe]; exact (dgG_s (fun g w => ansV (ofA X (nI (g + 1)) (nI w))) 5 i _).symm)
                  · -- 68 f
                    have h68 : ¬ (5 ≤ w) := fun qq => h68 ((nc_ge (a := w) (b := 5) (by omega) (by omega)).mpr qq)
                    refine cw_ldc2 (pc := 71) C dX7_digest_71 (v := 31) (List.mem_of_getElem? (i := 2) rfl) ?_
                    refine cw_lload_n (pc := 74) C dX7_digest_74 rfl 1 rfl ?_
                    refine cw_lmul (pc := 75) C dX7_digest_75 ?_
                    refine cw_aload_n (pc := 76) C dX7_digest_76 rfl 0 rfl ?_
                    refine cw_iload_n (pc := 77) C dX7_digest_77 rfl 2 rfl ?_
                    refine cw_iload (pc := 78) C dX7_digest_78 3 rfl ?_
                    refine cw_calli (pc := 80) C dX7_digest_80 (c_X7_ofGear l D Z A σ X (i + 1) w hT hS9 (by omega) (by omega) (by omega)) (cwV 2 C.1.2.2.2.2 gX7_digest_X7_ofGear rfl rfl rfl (by decide +kernel) ⟨Nat.le_of_ble_eq_true rfl, Nat.le_of_ble_eq_true rfl⟩) 0 rfl rfl rfl rfl (Nat.le_of_ble_eq_true rfl) (cw_pure (v := ansV (ofA X (nI (i + 1)) (nI w))) (fun _ _ h => h) ?_)
                    refine cw_i2l (pc := 83) C dX7_digest_83 ?_
                    refine cw_ladd (pc := 84) C dX7_digest_84 ?_
                    refine cw_lstore_n (pc := 85) C dX7_digest_85 rfl (by decide) (lv' := [(1, .long ((31 * h) + ((ansV (ofA X (nI (i + 1)) (nI w))).toInt64))), (0, .ref (A 0)), (3, .int (nI (i + 1))), (4, .int (nI w))]) rfl ?_
                    refine cw_iinc (pc := 86) C dX7_digest_86 3 rfl (nI (w + 1)) (nI_inc _ 1) (by decide) (lv' := [(4, .int (nI (w + 1))), (1, .long ((31 * h) + ((ansV (ofA X (nI (i + 1)) (nI w))).toInt64))), (0, .ref (A 0)), (3, .int (nI (i + 1)))]) rfl ?_
                    refine cw_goto (pc := 89) (tgt := 65) C dX7_digest_89 (by decide) ?_
                    refine cw_lv [2, 1, 3, 0] rfl ?_
                    exact ih65 (w + 1) ((31 * h) + ((ansV (ofA X (nI (i + 1)) (nI w))).toInt64)) (by omega) (by omega) (by rw [hh2]; exact (dgF_s _ _ _).symm)
              refine cw_lv [1, 2, 3, 0] rfl ?_
              exact L65 6 0 h (by omega) (by omega) (by rw [hh]; exact (dgF_z _ _).symm)
        refine cw_lv [2, 1, 0] rfl ?_
        exact L56 8 0 ((31 * ((31 * h) + ((ansV (whA ck co (nI 0))).toInt64))) + ((ansV (whA ck co (nI 1))).toInt64)) (by omega) (by omega) (by rw [hh, hke]; rfl)
      · -- 8 f
        have h8 : ¬ (5 ≤ k) := fun qq => h8 ((nc_ge (a := k) (b := 5) (by omega) (by omega)).mpr qq)
        refine cw_ldc2 (pc := 11) C dX7_digest_11 (v := 31) (List.mem_of_getElem? (i := 2) rfl) ?_
        refine cw_lload_n (pc := 14) C dX7_digest_14 rfl 1 rfl ?_
        refine cw_lmul (pc := 15) C dX7_digest_15 ?_
        refine cw_aload_n (pc := 16) C dX7_digest_16 rfl 0 rfl ?_
        refine cw_iload_n (pc := 17) C dX7_digest_17 rfl 2 rfl ?_
        refine cw_calli (pc := 18) C dX7_digest_18 (c_X7_toldOf l D Z A σ k (by omega)) (cwV 1 C.1.2.2.2.2 gX7_digest_X7_toldOf rfl rfl rfl (by decide +kernel) ⟨Nat.le_of_ble_eq_true rfl, Nat.le_of_ble_eq_true rfl⟩) 0 rfl rfl rfl rfl (Nat.le_of_ble_eq_true rfl) (cw_pure (v := if k < 3 then σ 4 k else if k = 3 then σ 0 8 else σ 0 3) (fun _ _ h => h) ?_)
        refine cw_top (ansV (toA F nn L (nI k))) (by rw [toA_at (by omega), m2, m5, m8]; rfl) ?_
        refine cw_i2l (pc := 21) C dX7_digest_21 ?_
        refine cw_ladd (pc := 22) C dX7_digest_22 ?_
        refine cw_lstore_n (pc := 23) C dX7_digest_23 rfl (by decide) (lv' := [(1, .long ((31 * h) + ((ansV (toA F nn L (nI k))).toInt64))), (0, .ref (A 0)), (3, .int (nI k))]) rfl ?_
        refine cw_iinc (pc := 24) C dX7_digest_24 2 rfl (nI (k + 1)) (nI_inc _ 1) (by decide) (lv' := [(3, .int (nI (k + 1))), (1, .long ((31 * h) + ((ansV (toA F nn L (nI k))).toInt64))), (0, .ref (A 0))]) rfl ?_
        refine cw_goto (pc := 27) (tgt := 6) C dX7_digest_27 (by decide) ?_
        refine cw_lv [2, 1, 0] rfl ?_
        exact ih6 (k + 1) ((31 * h) + ((ansV (toA F nn L (nI k))).toInt64)) (by omega) (by omega) (by rw [hh]; exact (dgF_s _ _ _).symm)
  refine cw_lv [2, 1, 0] rfl ?_
  exact L6 6 0 2411 (by omega) (by omega) (dgF_z _ _).symm
