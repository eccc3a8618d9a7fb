set_option maxHeartbeats 4000000 in
set_option maxRecDepth 100000 in
theorem c_X7_wantsOf (l : Launch) (D : va_G) (Z : CZ) (A : Nat → Nat) (σ : St)  (x : Nat) (hx : x < 128) : CTi l yX7_wantsOf wsX7_wantsOf 0 0 D Z (wM Z A) σ [.int (nI x)] (fun r σ' => r = wantI x ∧ σ' = σ) := by
  refine CTi.mk (cc := cX7_wantsOf) (nL := 1) (own := RX7) rfl (by decide) rfl (Nat.le_of_ble_eq_true rfl) ?_
  intro p0 e0 s0 m0 g0 b0 t0 c0 A0 Q C hret
  refine cw_lv (lv' := [(0, .int (nI x))]) [0] rfl ?_
  refine cw_iload_n (pc := 0) C dX7_wantsOf_0 rfl 0 rfl ?_
  by_cases q1_100 : nI x = nI 100
  · -- case 100
    refine cw_top (nI 100) q1_100 ?_
    refine cw_tableIn (pc := 1) (off := 93) (tgt := 94) C dX7_wantsOf_1 (by decide) (by decide) (by decide +kernel) (by decide) ?_
    refine cw_iconst (pc := 94) C dX7_wantsOf_94 (nI 2) (by decide) ?_
    refine hret (nI 2) σ _ _ dX7_wantsOf_95 ?_
    clear hret
    exact ⟨by rw [show x = 100 from (nI_eq (by omega) (by omega)).mp q1_100]; rfl, rfl⟩
  by_cases q1_101 : nI x = nI 101
  · -- case 101
    refine cw_top (nI 101) q1_101 ?_
    refine cw_tableIn (pc := 1) (off := 95) (tgt := 96) C dX7_wantsOf_1 (by decide) (by decide) (by decide +kernel) (by decide) ?_
    refine cw_iconst (pc := 96) C dX7_wantsOf_96 (-1) (by decide) ?_
    refine hret (-1) σ _ _ dX7_wantsOf_97 ?_
    clear hret
    exact ⟨by rw [show x = 101 from (nI_eq (by omega) (by omega)).mp q1_101]; rfl, rfl⟩
  by_cases q1_102 : nI x = nI 102
  · -- case 102
    refine cw_top (nI 102) q1_102 ?_
    refine cw_tableIn (pc := 1) (off := 93) (tgt := 94) C dX7_wantsOf_1 (by decide) (by decide) (by decide +kernel) (by decide) ?_
    refine cw_iconst (pc := 94) C dX7_wantsOf_94 (nI 2) (by decide) ?_
    refine hret (nI 2) σ _ _ dX7_wantsOf_95 ?_
    clear hret
    exact ⟨by rw [show x = 102 from (nI_eq (by omega) (by omega)).mp q1_102]; rfl, rfl⟩
  by_cases q1_103 : nI x = nI 103
  · -- case 103
    refine cw_top (nI 103) q1_103 ?_
    refine cw_tableIn (pc := 1) (off := 93) (tgt := 94) C dX7_wantsOf_1 (by decide) (by decide) (by decide +kernel) (by decide) ?_
    refine cw_iconst (pc := 94) C dX7_wantsOf_94 (nI 2) (by decide) ?_
    refine hret (nI 2) σ _ _ dX7_wantsOf_95 ?_
    clear hret
    exact ⟨by rw [show x = 103 from (nI_eq (by omega) (by omega)).mp q1_103]; rfl, rfl⟩
  by_cases q1_104 : nI x = nI 104
  · -- case 104
    refine cw_top (nI 104) q1_104 ?_
    refine cw_tableIn (pc := 1) (off := 95) (tgt := 96) C dX7_wantsOf_1 (by decide) (by decide) (by decide +kernel) (by decide) ?_
    refine cw_iconst (pc := 96) C dX7_wantsOf_96 (-1) (by decide) ?_
    refine hret (-1) σ _ _ dX7_wantsOf_97 ?_
    clear hret
    exact ⟨by rw [show x = 104 from (nI_eq (by omega) (by omega)).mp q1_104]; rfl, rfl⟩
  by_cases q1_105 : nI x = nI 105
  · -- case 105
    refine cw_top (nI 105) q1_105 ?_
    refine cw_tableIn (pc := 1) (off := 95) (tgt := 96) C dX7_wantsOf_1 (by decide) (by decide) (by decide +kernel) (by decide) ?_
    refine cw_iconst (pc := 96) C dX7_wantsOf_96 (-1) (by decide) ?_
    refine hret (-1) σ _ _ dX7_wantsOf_97 ?_
    clear hret
    exact ⟨by rw [show x = 105 from (nI_eq (by omega) (by omega)).mp q1_105]; rfl, rfl⟩
  by_cases q1_106 : nI x = nI 106
  · -- case 106
    refine cw_top (nI 106) q1_106 ?_
    refine cw_tableIn (pc := 1) (off := 95) (tgt := 96) C dX7_wantsOf_1 (by decide) (by decide) (by decide +kernel) (by decide) ?_
    refine cw_iconst (pc := 96) C dX7_wantsOf_96 (-1) (by decide) ?_
    refine hret (-1) σ _ _ dX7_wantsOf_97 ?_
    clear hret
    exact ⟨by rw [show x = 106 from (nI_eq (by omega) (by omega)).mp q1_106]; rfl, rfl⟩
  by_cases q1_107 : nI x = nI 107
  · -- case 107
    refine cw_top (nI 107) q1_107 ?_
    refine cw_tableIn (pc := 1) (off := 95) (tgt := 96) C dX7_wantsOf_1 (by decide) (by decide) (by decide +kernel) (by decide) ?_
    refine cw_iconst (pc := 96) C dX7_wantsOf_96 (-1) (by decide) ?_
    refine hret (-1) σ _ _ dX7_wantsOf_97 ?_
    clear hret
    exact ⟨by rw [show x = 107 from (nI_eq (by omega) (by omega)).mp q1_107]; rfl, rfl⟩
  by_cases q1_108 : nI x = nI 108
  · -- case 108
    refine cw_top (nI 108) q1_108 ?_
    refine cw_tableIn (pc := 1) (off := 95) (tgt := 96) C dX7_wantsOf_1 (by decide) (by decide) (by decide +kernel) (by decide) ?_
    refine cw_iconst (pc := 96) C dX7_wantsOf_96 (-1) (by decide) ?_
    refine hret (-1) σ _ _ dX7_wantsOf_97 ?_
    clear hret
    exact ⟨by rw [show x = 108 from (nI_eq (by omega) (by omega)).mp q1_108]; rfl, rfl⟩
  by_cases q1_109 : nI x = nI 109
  · -- case 109
    refine cw_top (nI 109) q1_109 ?_
    refine cw_tableIn (pc := 1) (off := 95) (tgt := 96) C dX7_wantsOf_1 (by decide) (by decide) (by decide +kernel) (by decide) ?_
    refine cw_iconst (pc := 96) C dX7_wantsOf_96 (-1) (by decide) ?_
    refine hret (-1) σ _ _ dX7_wantsOf_97 ?_
    clear hret
    exact ⟨by rw [show x = 109 from (nI_eq (by omega) (by omega)).mp q1_109]; rfl, rfl⟩
  by_cases q1_110 : nI x = nI 110
  · -- case 110
    refine cw_top (nI 110) q1_110 ?_
    refine cw_tableIn (pc := 1) (off := 95) (tgt := 96) C dX7_wantsOf_1 (by decide) (by decide) (by decide +kernel) (by decide) ?_
    refine cw_iconst (pc := 96) C dX7_wantsOf_96 (-1) (by decide) ?_
    refine hret (-1) σ _ _ dX7_wantsOf_97 ?_
    clear hret
    exact ⟨by rw [show x = 110 from (nI_eq (by omega) (by omega)).mp q1_110]; rfl, rfl⟩
  by_cases q1_111 : nI x = nI 111
  · -- case 111
    refine cw_top (nI 111) q1_111 ?_
    refine cw_tableIn (pc := 1) (off := 95) (tgt := 96) C dX7_wantsOf_1 (by decide) (by decide) (by decide +kernel) (by decide) ?_
    refine cw_iconst (pc := 96) C dX7_wantsOf_96 (-1) (by decide) ?_
    refine hret (-1) σ _ _ dX7_wantsOf_97 ?_
    clear hret
    exact ⟨by rw [show x = 111 from (nI_eq (by omega) (by omega)).mp q1_111]; rfl, rfl⟩
  by_cases q1_112 : nI x = nI 112
  · -- case 112
    refine cw_top (nI 112) q1_112 ?_
    refine cw_tableIn (pc := 1) (off := 95) (tgt := 96) C dX7_wantsOf_1 (by decide) (by decide) (by decide +kernel) (by decide) ?_
    refine cw_iconst (pc := 96) C dX7_wantsOf_96 (-1) (by decide) ?_
    refine hret (-1) σ _ _ dX7_wantsOf_97 ?_
    clear hret
    exact ⟨by rw [show x = 112 from (nI_eq (by omega) (by omega)).mp q1_112]; rfl, rfl⟩
  by_cases q1_113 : nI x = nI 113
  · -- case 113
    refine cw_top (nI 113) q1_113 ?_
    refine cw_tableIn (pc := 1) (off := 95) (tgt := 96) C dX7_wantsOf_1 (by decide) (by decide) (by decide +kernel) (by decide) ?_
    refine cw_iconst (pc := 96) C dX7_wantsOf_96 (-1) (by decide) ?_
    refine hret (-1) σ _ _ dX7_wantsOf_97 ?_
    clear hret
    exact ⟨by rw [show x = 113 from (nI_eq (by omega) (by omega)).mp q1_113]; rfl, rfl⟩
  by_cases q1_114 : nI x = nI 114
  · -- case 114
    refine cw_top (nI 114) q1_114 ?_
    refine cw_tableIn (pc := 1) (off := 91) (tgt := 92) C dX7_wantsOf_1 (by decide) (by decide) (by decide +kernel) (by decide) ?_
    refine cw_iconst (pc := 92) C dX7_wantsOf_92 (nI 1) (by decide) ?_
    refine hret (nI 1) σ _ _ dX7_wantsOf_93 ?_
    clear hret
    exact ⟨by rw [show x = 114 from (nI_eq (by omega) (by omega)).mp q1_114]; rfl, rfl⟩
  by_cases q1_115 : nI x = nI 115
  · -- case 115
    refine cw_top (nI 115) q1_115 ?_
    refine cw_tableIn (pc := 1) (off := 91) (tgt := 92) C dX7_wantsOf_1 (by decide) (by decide) (by decide +kernel) (by decide) ?_
    refine cw_iconst (pc := 92) C dX7_wantsOf_92 (nI 1) (by decide) ?_
    refine hret (nI 1) σ _ _ dX7_wantsOf_93 ?_
    clear hret
    exact ⟨by rw [show x = 115 from (nI_eq (by omega) (by omega)).mp q1_115]; rfl, rfl⟩
  by_cases q1_116 : nI x = nI 116
  · -- case 116
    refine cw_top (nI 116) q1_116 ?_
    refine cw_tableIn (pc := 1) (off := 93) (tgt := 94) C dX7_wantsOf_1 (by decide) (by decide) (by decide +kernel) (by decide) ?_
    refine cw_iconst (pc := 94) C dX7_wantsOf_94 (nI 2) (by decide) ?_
    refine hret (nI 2) σ _ _ dX7_wantsOf_95 ?_
    clear hret
    exact ⟨by rw [show x = 116 from (nI_eq (by omega) (by omega)).mp q1_116]; rfl, rfl⟩
  by_cases q1_117 : nI x = nI 117
  · -- case 117
    refine cw_top (nI 117) q1_117 ?_
    refine cw_tableIn (pc := 1) (off := 93) (tgt := 94) C dX7_wantsOf_1 (by decide) (by decide) (by decide +kernel) (by decide) ?_
    refine cw_iconst (pc := 94) C dX7_wantsOf_94 (nI 2) (by decide) ?_
    refine hret (nI 2) σ _ _ dX7_wantsOf_95 ?_
    clear hret
    exact ⟨by rw [show x = 117 from (nI_eq (by omega) (by omega)).mp q1_117]; rfl, rfl⟩
  by_cases q1_118 : nI x = nI 118
  · -- case 118
    refine cw_top (nI 118) q1_118 ?_
    refine cw_tableIn (pc := 1) (off := 93) (tgt := 94) C dX7_wantsOf_1 (by decide) (by decide) (by decide +kernel) (by decide) ?_
    refine cw_iconst (pc := 94) C dX7_wantsOf_94 (nI 2) (by decide) ?_
    refine hret (nI 2) σ _ _ dX7_wantsOf_95 ?_
    clear hret
    exact ⟨by rw [show x = 118 from (nI_eq (by omega) (by omega)).mp q1_118]; rfl, rfl⟩
  refine cw_tableOut (pc := 1) (tgt := 96) C dX7_wantsOf_1 (tsw_out (lo := 100) (n := 19) (fun k hk => by rcases (show k = 100 ∨ k = 101 ∨ k = 102 ∨ k = 103 ∨ k = 104 ∨ k = 105 ∨ k = 106 ∨ k = 107 ∨ k = 108 ∨ k = 109 ∨ k = 110 ∨ k = 111 ∨ k = 112 ∨ k = 113 ∨ k = 114 ∨ k = 115 ∨ k = 116 ∨ k = 117 ∨ k = 118 by omega) with rfl | rfl | rfl | rfl | rfl | rfl | rfl | rfl | rfl | rfl | rfl | rfl | rfl | rfl | rfl | rfl | rfl | rfl | rfl <;> assumption)) (by decide) ?_
  refine cw_iconst (pc := 96) C dX7_wantsOf_96 (-1) (by decide) ?_
  refine hret (-1) σ _ _ dX7_wantsOf_97 ?_
  clear hret
  have hz : x < 100 ∨ 118 < x := by
    rcases Nat.lt_or_ge x 100 with z | z
    · exact Or.inl z
    · rcases Nat.lt_or_ge 118 x with y | y
      · exact Or.inr y
      · exfalso
        rcases (show x = 100 ∨ x = 101 ∨ x = 102 ∨ x = 103 ∨ x = 104 ∨ x = 105 ∨ x = 106 ∨ x = 107 ∨ x = 108 ∨ x = 109 ∨ x = 110 ∨ x = 111 ∨ x = 112 ∨ x = 113 ∨ x = 114 ∨ x = 115 ∨ x = 116 ∨ x = 117 ∨ x = 118 by omega) with e | e | e | e | e | e | e | e | e | e | e | e | e | e | e | e | e | e | e
        · exact q1_100 (by rw [e])
        · exact q1_101 (by rw [e])
        · exact q1_102 (by rw [e])
        · exact q1_103 (by rw [e])
        · exact q1_104 (by rw [e])
        · exact q1_105 (by rw [e])
        · exact q1_106 (by rw [e])
        · exact q1_107 (by rw [e])
        · exact q1_108 (by rw [e])
        · exact q1_109 (by rw [e])
        · exact q1_110 (by rw [e])
        · exact q1_111 (by rw [e])
        · exact q1_112 (by rw [e])
        · exact q1_113 (by rw [e])
        · exact q1_114 (by rw [e])
        · exact q1_115 (by rw [e])
        · exact q1_116 (by rw [e])
        · exact q1_117 (by rw [e])
        · exact q1_118 (by rw [e])
  exact ⟨by rw [wantI, if_pos (lix_gap hz)], rfl⟩
set_option maxHeartbeats 4000000 in
set_option maxRecDepth 100000 in
theorem c_X7_beginNumber (l : Launch) (D : va_G) (Z : CZ) (A : Nat → Nat) (σ : St) (o ly b q : Nat) (w : Bool) (e12 : σ 0 12 = nI o) (e16 : σ 0 16 = nI ly) (e17 : σ 0 17 = nI b) (eq7 : σ 7 o = nI q) (ho : o ≤ 50) (hl : ly < 128) (hlx : lixN ly < 8) (hb : b ≤ 2) (hq1 : q ≤ 100) : CTz l yX7_beginNumber wsX7_beginNumber 1 20 D Z (wM Z A) σ [.ref (A 0), .int (bI w)] (fun z σ' => (z = false ∧ bgB ly b w = false ∧ σ' = σ) ∨ (z = true ∧ bgB ly b w = true ∧ σ' = up2 (up2 σ 0 (upd (upd (upd (σ 0) 17 (nI (b + 1))) 18 (nI 0)) 20 (bI w))) 8 (upd (σ 8) (q + b) (nI 0)))) := by
  refine CTz.mk (cc := cX7_beginNumber) (nL := 2) (own := RX7) rfl (by decide) rfl (Nat.le_of_ble_eq_true rfl) ?_
  intro p0 e0 s0 m0 g0 b0 t0 c0 A0 Q C hret
  refine cw_lv (lv' := [(0, .ref (A 0)), (1, .int (bI w))]) [0, 1] rfl ?_
  refine cw_aload_n (pc := 0) C dX7_beginNumber_0 rfl 0 rfl ?_
  refine cw_get (pc := 1) C dX7_beginNumber_1 0 (v := .int (σ 0 17)) rfl rfl 17 rfl (fun _ h => List.mem_cons_of_mem _ (List.mem_append_right _ h)) (by decide) (List.mem_of_getElem? (i := 1) rfl) ?_
  refine cw_top (nI b) e17 ?_
  refine cw_aload_n (pc := 4) C dX7_beginNumber_4 rfl 0 rfl ?_
  refine cw_get (pc := 5) C dX7_beginNumber_5 0 (v := .int (σ 0 16)) rfl rfl 16 rfl (fun _ h => List.mem_cons_of_mem _ (List.mem_append_right _ h)) (by decide) (List.mem_of_getElem? (i := 2) rfl) ?_
  refine cw_top (nI ly) e16 ?_
  refine cw_calls (pc := 8) C dX7_beginNumber_8 (c_X7_wantsOf l D Z A σ ly hl) (va_cwS 1 C.1.2.2.2.2 gX7_beginNumber_X7_wantsOf rfl rfl rfl (by decide +kernel) ⟨Nat.le_of_ble_eq_true rfl, Nat.le_of_ble_eq_true rfl⟩) rfl rfl (Nat.le_of_ble_eq_true rfl) (cw_pure (v := wantI ly) (fun _ _ h => h) ?_)
  have hwn := wantN_12 ly
  refine cw_top (nI (wantN ly)) (wantI_N hlx) ?_
  refine cw_icmp_eq (pc := 11) (tgt := 27) C dX7_beginNumber_11 (by decide) (fun h11 => ?_) (fun h11 => ?_)
  · -- 11 t
    have h11 : b = (wantN ly) := (nc_eq (a := b) (b := wantN ly) (by omega) (by omega)).mp h11
    refine cw_iconst (pc := 27) C dX7_beginNumber_27 (nI 0) (by decide) ?_
    refine hret false σ _ _ dX7_beginNumber_28 ?_
    clear hret
    exact Or.inl ⟨rfl, by simp [bgB, h11], rfl⟩
  · -- 11 f
    have h11 : ¬ (b = (wantN ly)) := fun qq => h11 ((nc_eq (a := b) (b := wantN ly) (by omega) (by omega)).mpr qq)
    refine cw_iload_n (pc := 14) C dX7_beginNumber_14 rfl 1 rfl ?_
    refine cw_if_eq (pc := 15) (tgt := 29) C dX7_beginNumber_15 (by decide) (fun h15 => ?_) (fun h15 => ?_)
    · -- 15 t
      have h15 := bI_z h15
      refine cw_aload_n (pc := 29) C dX7_beginNumber_29 rfl 0 rfl ?_
      refine cw_get (pc := 30) C dX7_beginNumber_30 0 (v := .ref (A 8)) rfl rfl 11 rfl (fun _ h => List.mem_cons_of_mem _ (List.mem_append_right _ h)) (by decide) (List.mem_of_getElem? (i := 3) rfl) ?_
      refine cw_aload_n (pc := 33) C dX7_beginNumber_33 rfl 0 rfl ?_
      refine cw_get (pc := 34) C dX7_beginNumber_34 0 (v := .ref (A 7)) rfl rfl 10 rfl (fun _ h => List.mem_cons_of_mem _ (List.mem_append_right _ h)) (by decide) (List.mem_of_getElem? (i := 4) rfl) ?_
      refine cw_aload_n (pc := 37) C dX7_beginNumber_37 rfl 0 rfl ?_
      refine cw_get (pc := 38) C dX7_beginNumber_38 0 (v := .int (σ 0 12)) rfl rfl 12 rfl (fun _ h => List.mem_cons_of_mem _ (List.mem_append_right _ h)) (by decide) (List.mem_of_getElem? (i := 5) rfl) ?_
      refine cw_top (nI o) e12 ?_
      refine cw_iald2 (pc := 41) C dX7_beginNumber_41 7 7 (wM_g7 Z A) (f := σ 7) rfl o rfl (by omega) (by decide) ?_
      refine cw_top (nI q) eq7 ?_
      refine cw_aload_n (pc := 42) C dX7_beginNumber_42 rfl 0 rfl ?_
      refine cw_get (pc := 43) C dX7_beginNumber_43 0 (v := .int (σ 0 17)) rfl rfl 17 rfl (fun _ h => List.mem_cons_of_mem _ (List.mem_append_right _ h)) (by decide) (List.mem_of_getElem? (i := 1) rfl) ?_
      refine cw_top (nI b) e17 ?_
      refine cw_iadd (pc := 46) C dX7_beginNumber_46 (z := nI (q + b)) (nI_add _ _) ?_
      refine cw_iconst (pc := 47) C dX7_beginNumber_47 (nI 0) (by decide) ?_
      refine cw_iast2 (pc := 48) C dX7_beginNumber_48 8 8 (wM_g8 Z A) (wM_s8 Z A) (f := σ 8) rfl (q + b) rfl (by omega) (by decide) (up2 σ 8 (upd (σ 8) (q + b) (nI 0))) rfl ?_
      refine cw_aload_n (pc := 49) C dX7_beginNumber_49 rfl 0 rfl ?_
      refine cw_dup (pc := 50) C dX7_beginNumber_50 rfl ?_
      refine cw_get (pc := 51) C dX7_beginNumber_51 0 (v := .int (σ 0 17)) rfl rfl 17 rfl (fun _ h => List.mem_cons_of_mem _ (List.mem_append_right _ h)) (by decide) (List.mem_of_getElem? (i := 1) rfl) ?_
      refine cw_top (nI b) e17 ?_
      refine cw_iconst (pc := 54) C dX7_beginNumber_54 (nI 1) (by decide) ?_
      refine cw_iadd (pc := 55) C dX7_beginNumber_55 (z := nI (b + 1)) (nI_add _ _) ?_
      refine cw_put (pc := 56) C dX7_beginNumber_56 0 (ty := .int) rfl rfl 17 (fun _ h => List.mem_cons_of_mem _ (List.mem_append_right _ h)) tyX7_ok nmX7 (by decide) (List.mem_of_getElem? (i := 1) rfl) rfl (by decide +kernel) rfl rfl (Nat.le_of_ble_eq_true rfl) (up2 (up2 σ 0 (upd (σ 0) 17 (nI (b + 1)))) 8 (upd (σ 8) (q + b) (nI 0))) ((wM_p0_17 Z A _ _).trans (congrArg (wM Z A) ((up2_comm _ _ _ (by decide)).trans (congrArg (fun qz => up2 qz 8 (upd (σ 8) (q + b) (nI 0))) rfl)))) ?_
      refine cw_aload_n (pc := 59) C dX7_beginNumber_59 rfl 0 rfl ?_
      refine cw_iconst (pc := 60) C dX7_beginNumber_60 (nI 0) (by decide) ?_
      refine cw_put (pc := 61) C dX7_beginNumber_61 0 (ty := .int) rfl rfl 18 (fun _ h => List.mem_cons_of_mem _ (List.mem_append_right _ h)) tyX7_ok nmX7 (by decide) (List.mem_of_getElem? (i := 6) rfl) rfl (by decide +kernel) rfl rfl (Nat.le_of_ble_eq_true rfl) (up2 (up2 σ 0 (upd (upd (σ 0) 17 (nI (b + 1))) 18 (nI 0))) 8 (upd (σ 8) (q + b) (nI 0))) ((wM_p0_18 Z A _ _).trans (congrArg (wM Z A) ((up2_comm _ _ _ (by decide)).trans (congrArg (fun qz => up2 qz 8 (upd (σ 8) (q + b) (nI 0))) (up2_up2 _ 0 _ _))))) ?_
      refine cw_aload_n (pc := 64) C dX7_beginNumber_64 rfl 0 rfl ?_
      refine cw_iload_n (pc := 65) C dX7_beginNumber_65 rfl 1 rfl ?_
      refine cw_put (pc := 66) C dX7_beginNumber_66 0 (ty := .boolean) rfl rfl 20 (fun _ h => List.mem_cons_of_mem _ (List.mem_append_right _ h)) tyX7_ok nmX7 (by decide) (List.mem_of_getElem? (i := 7) rfl) rfl (by decide +kernel) (narB _) (fitB _) (Nat.le_of_ble_eq_true rfl) (up2 (up2 σ 0 (upd (upd (upd (σ 0) 17 (nI (b + 1))) 18 (nI 0)) 20 (bI w))) 8 (upd (σ 8) (q + b) (nI 0))) ((wM_p0_20 Z A _ _).trans (congrArg (wM Z A) ((up2_comm _ _ _ (by decide)).trans (congrArg (fun qz => up2 qz 8 (upd (σ 8) (q + b) (nI 0))) (up2_up2 _ 0 _ _))))) ?_
      refine cw_iconst (pc := 69) C dX7_beginNumber_69 (nI 1) (by decide) ?_
      refine hret true (up2 (up2 σ 0 (upd (upd (upd (σ 0) 17 (nI (b + 1))) 18 (nI 0)) 20 (bI w))) 8 (upd (σ 8) (q + b) (nI 0))) _ _ dX7_beginNumber_70 ?_
      clear hret
      exact Or.inr ⟨rfl, by rw [bgB, decide_eq_false h11, h15]; rfl, rfl⟩
    · -- 15 f
      have h15 := bI_nz h15
      refine cw_aload_n (pc := 18) C dX7_beginNumber_18 rfl 0 rfl ?_
      refine cw_get (pc := 19) C dX7_beginNumber_19 0 (v := .int (σ 0 16)) rfl rfl 16 rfl (fun _ h => List.mem_cons_of_mem _ (List.mem_append_right _ h)) (by decide) (List.mem_of_getElem? (i := 2) rfl) ?_
      refine cw_top (nI ly) e16 ?_
      refine cw_bipush (pc := 22) C dX7_beginNumber_22 (nI 115) (by decide) ?_
      refine cw_icmp_eq (pc := 24) (tgt := 29) C dX7_beginNumber_24 (by decide) (fun h24 => ?_) (fun h24 => ?_)
      · -- 24 t
        have h24 : ly = 115 := (nc_eq (a := ly) (b := 115) (by omega) (by omega)).mp h24
        refine cw_aload_n (pc := 29) C dX7_beginNumber_29 rfl 0 rfl ?_
        refine cw_get (pc := 30) C dX7_beginNumber_30 0 (v := .ref (A 8)) rfl rfl 11 rfl (fun _ h => List.mem_cons_of_mem _ (List.mem_append_right _ h)) (by decide) (List.mem_of_getElem? (i := 3) rfl) ?_
        refine cw_aload_n (pc := 33) C dX7_beginNumber_33 rfl 0 rfl ?_
        refine cw_get (pc := 34) C dX7_beginNumber_34 0 (v := .ref (A 7)) rfl rfl 10 rfl (fun _ h => List.mem_cons_of_mem _ (List.mem_append_right _ h)) (by decide) (List.mem_of_getElem? (i := 4) rfl) ?_
        refine cw_aload_n (pc := 37) C dX7_beginNumber_37 rfl 0 rfl ?_
        refine cw_get (pc := 38) C dX7_beginNumber_38 0 (v := .int (σ 0 12)) rfl rfl 12 rfl (fun _ h => List.mem_cons_of_mem _ (List.mem_append_right _ h)) (by decide) (List.mem_of_getElem? (i := 5) rfl) ?_
        refine cw_top (nI o) e12 ?_
        refine cw_iald2 (pc := 41) C dX7_beginNumber_41 7 7 (wM_g7 Z A) (f := σ 7) rfl o rfl (by omega) (by decide) ?_
        refine cw_top (nI q) eq7 ?_
        refine cw_aload_n (pc := 42) C dX7_beginNumber_42 rfl 0 rfl ?_
        refine cw_get (pc := 43) C dX7_beginNumber_43 0 (v := .int (σ 0 17)) rfl rfl 17 rfl (fun _ h => List.mem_cons_of_mem _ (List.mem_append_right _ h)) (by decide) (List.mem_of_getElem? (i := 1) rfl) ?_
        refine cw_top (nI b) e17 ?_
        refine cw_iadd (pc := 46) C dX7_beginNumber_46 (z := nI (q + b)) (nI_add _ _) ?_
        refine cw_iconst (pc := 47) C dX7_beginNumber_47 (nI 0) (by decide) ?_
        refine cw_iast2 (pc := 48) C dX7_beginNumber_48 8 8 (wM_g8 Z A) (wM_s8 Z A) (f := σ 8) rfl (q + b) rfl (by omega) (by decide) (up2 σ 8 (upd (σ 8) (q + b) (nI 0))) rfl ?_
        refine cw_aload_n (pc := 49) C dX7_beginNumber_49 rfl 0 rfl ?_
        refine cw_dup (pc := 50) C dX7_beginNumber_50 rfl ?_
        refine cw_get (pc := 51) C dX7_beginNumber_51 0 (v := .int (σ 0 17)) rfl rfl 17 rfl (fun _ h => List.mem_cons_of_mem _ (List.mem_append_right _ h)) (by decide) (List.mem_of_getElem? (i := 1) rfl) ?_
        refine cw_top (nI b) e17 ?_
        refine cw_iconst (pc := 54) C dX7_beginNumber_54 (nI 1) (by decide) ?_
        refine cw_iadd (pc := 55) C dX7_beginNumber_55 (z := nI (b + 1)) (nI_add _ _) ?_
        refine cw_put (pc := 56) C dX7_beginNumber_56 0 (ty := .int) rfl rfl 17 (fun _ h => List.mem_cons_of_mem _ (List.mem_append_right _ h)) tyX7_ok nmX7 (by decide) (List.mem_of_getElem? (i := 1) rfl) rfl (by decide +kernel) rfl rfl (Nat.le_of_ble_eq_true rfl) (up2 (up2 σ 0 (upd (σ 0) 17 (nI (b + 1)))) 8 (upd (σ 8) (q + b) (nI 0))) ((wM_p0_17 Z A _ _).trans (congrArg (wM Z A) ((up2_comm _ _ _ (by decide)).trans (congrArg (fun qz => up2 qz 8 (upd (σ 8) (q + b) (nI 0))) rfl)))) ?_
        refine cw_aload_n (pc := 59) C dX7_beginNumber_59 rfl 0 rfl ?_
        refine cw_iconst (pc := 60) C dX7_beginNumber_60 (nI 0) (by decide) ?_
        refine cw_put (pc := 61) C dX7_beginNumber_61 0 (ty := .int) rfl rfl 18 (fun _ h => List.mem_cons_of_mem _ (List.mem_append_right _ h)) tyX7_ok nmX7 (by decide) (List.mem_of_getElem? (i := 6) rfl) rfl (by decide +kernel) rfl rfl (Nat.le_of_ble_eq_true rfl) (up2 (up2 σ 0 (upd (upd (σ 0) 17 (nI (b + 1))) 18 (nI 0))) 8 (upd (σ 8) (q + b) (nI 0))) ((wM_p0_18 Z A _ _).trans (congrArg (wM Z A) ((up2_comm _ _ _ (by decide)).trans (congrArg (fun qz => up2 qz 8 (upd (σ 8) (q + b) (nI 0))) (up2_up2 _ 0 _ _))))) ?_
        refine cw_aload_n (pc := 64) C dX7_beginNumber_64 rfl 0 rfl ?_
        refine cw_iload_n (pc := 65) C dX7_beginNumber_65 rfl 1 rfl ?_
        refine cw_put (pc := 66) C dX7_beginNumber_66 0 (ty := .boolean) rfl rfl 20 (fun _ h => List.mem_cons_of_mem _ (List.mem_append_right _ h)) tyX7_ok nmX7 (by decide) (List.mem_of_getElem? (i := 7) rfl) rfl (by decide +kernel) (narB _) (fitB _) (Nat.le_of_ble_eq_true rfl) (up2 (up2 σ 0 (upd (upd (upd (σ 0) 17 (nI (b + 1))) 18 (nI 0)) 20 (bI w))) 8 (upd (σ 8) (q + b) (nI 0))) ((wM_p0_20 Z A _ _).trans (congrArg (wM Z A) ((up2_comm _ _ _ (by decide)).trans (congrArg (fun qz => up2 qz 8 (upd (σ 8) (q + b) (nI 0))) (up2_up2 _ 0 _ _))))) ?_
        refine cw_iconst (pc := 69) C dX7_beginNumber_69 (nI 1) (by decide) ?_
        refine hret true (up2 (up2 σ 0 (upd (upd (upd (σ 0) 17 (nI (b + 1))) 18 (nI 0)) 20 (bI w))) 8 (upd (σ 8) (q + b) (nI 0))) _ _ dX7_beginNumber_70 ?_
        clear hret
        exact Or.inr ⟨rfl, by rw [bgB, decide_eq_false h11, decide_eq_true h24, Bool.not_true, Bool.and_false]; rfl, rfl⟩
      · -- 24 f
        have h24 : ¬ (ly = 115) := fun qq => h24 ((nc_eq (a := ly) (b := 115) (by omega) (by omega)).mpr qq)
        refine cw_iconst (pc := 27) C dX7_beginNumber_27 (nI 0) (by decide) ?_
        refine hret false σ _ _ dX7_beginNumber_28 ?_
        clear hret
        exact Or.inl ⟨rfl, by simp [bgB, h11, h15, h24], rfl⟩
set_option maxHeartbeats 4000000 in
set_option maxRecDepth 100000 in
theorem c_X7_readByte (l : Launch) (D : va_G) (Z : CZ) (A : Nat → Nat) (σ : St) (B : Nat → Int32) (L k o ly b f : Nat) (w n : Bool) (x : Nat) (hS : stP σ o ly b f w n) (hP : PH B L k o ly b f w n (σ 6) (σ 7) (σ 8)) (hk : k < L) (hL : L ≤ 150) (hx : x < 128) (he : B k = nI x) : CTz l yX7_readByte wsX7_readByte 2 41 D Z (wM Z A) σ [.ref (A 0), .int (nI x)] (fun z σ' => mkp σ σ' ∧ ((z = false ∧ ∃ m, prsC B L m (nI k)) ∨ (z = true ∧ ∃ (o ly b f : Nat) (w n : Bool), stP σ' o ly b f w n ∧ PH B L (k + 1) o ly b f w n (σ' 6) (σ' 7) (σ' 8)))) := by
  refine CTz.mk (cc := cX7_readByte) (nL := 4) (own := RX7) rfl (by decide) rfl (Nat.le_of_ble_eq_true rfl) ?_
  intro p0 e0 s0 m0 g0 b0 t0 c0 A0 Q C hret
  obtain ⟨hob, hqb, hOF⟩ := ph_bd hL hP
  obtain ⟨e12, e16, e19, eR⟩ := hS
  have hnx : nxt B L k = nI x := by rw [nxt, if_pos hk]; exact he
  have hl31 : ly < 2 ^ 31 := by
    by_cases q : ly = 0
    · omega
    · have := (ph_l hP q).1.1.2.2.2.1; omega
  refine cw_lv (lv' := [(0, .ref (A 0)), (1, .int (nI x))]) [0, 1] rfl ?_
  refine cw_aload_n (pc := 0) C dX7_readByte_0 rfl 0 rfl ?_
  refine cw_get (pc := 1) C dX7_readByte_1 0 (v := .int (σ 0 16)) rfl rfl 16 rfl (fun _ h => List.mem_cons_of_mem _ (List.mem_append_right _ h)) (by decide) (List.mem_of_getElem? (i := 1) rfl) ?_
  refine cw_top (nI ly) e16 ?_
  refine cw_if_ne (pc := 4) (tgt := 62) C dX7_readByte_4 (by decide) (fun h4 => ?_) (fun h4 => ?_)
  · -- 4 t
    have h4 : ¬ ly = 0 := (nc_ne (a := ly) (b := 0) (by omega) (by omega)).mp h4
    obtain ⟨hI, hOL⟩ := ph_l hP h4
    have hbw := ph_bw hI
    have hlt := hI.1.2.2.2
    obtain ⟨e17, e18, e20⟩ := eR h4
    refine cw_iload_n (pc := 62) C dX7_readByte_62 rfl 1 rfl ?_
    refine cw_bipush (pc := 63) C dX7_readByte_63 (nI 48) (by decide) ?_
    refine cw_bipush (pc := 65) C dX7_readByte_65 (nI 57) (by decide) ?_
    refine cw_calls (pc := 67) C dX7_readByte_67 (c_X7_in l D Z A σ (nI x) (nI 48) (nI 57)) (va_cwS 3 C.1.2.2.2.2 gX7_readByte_X7_in rfl rfl rfl (by decide +kernel) ⟨Nat.le_of_ble_eq_true rfl, Nat.le_of_ble_eq_true rfl⟩) rfl rfl (Nat.le_of_ble_eq_true rfl) (cw_purez (b := withinB (nI x) (nI 48) (nI 57)) (fun _ _ h => h) ?_)
    refine cw_if_eq (pc := 70) (tgt := 186) C dX7_readByte_70 (by decide) (fun h70 => ?_) (fun h70 => ?_)
    · -- 70 t
      have h70 := bI_z h70
      have hfig : figB B L k = false := by rw [figB, hnx]; exact h70
      refine cw_aload_n (pc := 186) C dX7_readByte_186 rfl 0 rfl ?_
      refine cw_get (pc := 187) C dX7_readByte_187 0 (v := .int (σ 0 19)) rfl rfl 19 rfl (fun _ h => List.mem_cons_of_mem _ (List.mem_append_right _ h)) (by decide) (List.mem_of_getElem? (i := 6) rfl) ?_
      refine cw_top (bI w) e19 ?_
      refine cw_if_eq (pc := 190) (tgt := 195) C dX7_readByte_190 (by decide) (fun h190 => ?_) (fun h190 => ?_)
      · -- 190 t
        have h190 := bI_z h190
        refine cw_iload_n (pc := 195) C dX7_readByte_195 rfl 1 rfl ?_
        refine cw_bipush (pc := 196) C dX7_readByte_196 (nI 32) (by decide) ?_
        refine cw_icmp_ne (pc := 198) (tgt := 208) C dX7_readByte_198 (by decide) (fun h198 => ?_) (fun h198 => ?_)
        · -- 198 t
          have h198 : ¬ x = 32 := (nc_ne (a := x) (b := 32) (by omega) (by omega)).mp h198
          refine cw_iload_n (pc := 208) C dX7_readByte_208 rfl 1 rfl ?_
          refine cw_bipush (pc := 209) C dX7_readByte_209 (nI 45) (by decide) ?_
          refine cw_icmp_ne (pc := 211) (tgt := 228) C dX7_readByte_211 (by decide) (fun h211 => ?_) (fun h211 => ?_)
          · -- 211 t
            have h211 : ¬ x = 45 := (nc_ne (a := x) (b := 45) (by omega) (by omega)).mp h211
            refine cw_iload_n (pc := 228) C dX7_readByte_228 rfl 1 rfl ?_
            refine cw_bipush (pc := 229) C dX7_readByte_229 (nI 59) (by decide) ?_
            refine cw_icmp_ne (pc := 231) (tgt := 248) C dX7_readByte_231 (by decide) (fun h231 => ?_) (fun h231 => ?_)
            · -- 231 t
              have h231 : ¬ x = 59 := (nc_ne (a := x) (b := 59) (by omega) (by omega)).mp h231
              refine cw_iconst (pc := 248) C dX7_readByte_248 (nI 0) (by decide) ?_
              refine hret false σ _ _ dX7_readByte_249 ?_
              clear hret
              exact ⟨⟨fun j j0 j6 j7 j8 => by simp [up2, j0, j6, j7, j8], fun z hz => by simp [up2, upd, show ¬ z = 12 by omega, show ¬ z = 16 by omega, show ¬ z = 17 by omega, show ¬ z = 18 by omega, show ¬ z = 19 by omega, show ¬ z = 20 by omega]⟩, Or.inl ⟨rfl, ph_bad hL (Nat.le_of_lt hk) hP.2.1 hI hfig (Or.inr (fun _ q => absurd ((nI_eq (by omega) (by omega)).mp (he.symm.trans q)) h198)) (fun _ q => absurd ((nI_eq (by omega) (by omega)).mp (hnx.symm.trans q.1)) h231) (fun _ q => absurd ((nI_eq (by omega) (by omega)).mp (hnx.symm.trans q.1)) h211)⟩⟩
            · -- 231 f
              have h231 : x = 59 := (nc_eq (a := x) (b := 59) (by omega) (by omega)).mp h231
              refine cw_aload_n (pc := 234) C dX7_readByte_234 rfl 0 rfl ?_
              refine cw_get (pc := 235) C dX7_readByte_235 0 (v := .int (σ 0 17)) rfl rfl 17 rfl (fun _ h => List.mem_cons_of_mem _ (List.mem_append_right _ h)) (by decide) (List.mem_of_getElem? (i := 2) rfl) ?_
              refine cw_top (nI b) e17 ?_
              refine cw_aload_n (pc := 238) C dX7_readByte_238 rfl 0 rfl ?_
              refine cw_get (pc := 239) C dX7_readByte_239 0 (v := .int (σ 0 16)) rfl rfl 16 rfl (fun _ h => List.mem_cons_of_mem _ (List.mem_append_right _ h)) (by decide) (List.mem_of_getElem? (i := 1) rfl) ?_
              refine cw_top (nI ly) e16 ?_
              refine cw_calls (pc := 242) C dX7_readByte_242 (c_X7_wantsOf l D Z A σ ly hlt.1) (va_cwS 1 C.1.2.2.2.2 gX7_readByte_X7_wantsOf rfl rfl rfl (by decide +kernel) ⟨Nat.le_of_ble_eq_true rfl, Nat.le_of_ble_eq_true rfl⟩) rfl rfl (Nat.le_of_ble_eq_true rfl) (cw_pure (v := wantI ly) (fun _ _ h => h) ?_)
              have hwn := wantN_12 ly
              refine cw_top (nI (wantN ly)) (wantI_N hlt.2) ?_
              refine cw_icmp_ge (pc := 245) (tgt := 250) C dX7_readByte_245 (by decide) (fun h245 => ?_) (fun h245 => ?_)
              · -- 245 t
                have h245 : (wantN ly) ≤ b := (nc_ge (a := b) (b := wantN ly) (by omega) (by omega)).mp h245
                refine cw_aload_n (pc := 250) C dX7_readByte_250 rfl 0 rfl ?_
                refine cw_iconst (pc := 251) C dX7_readByte_251 (nI 0) (by decide) ?_
                refine cw_put (pc := 252) C dX7_readByte_252 0 (ty := .int) rfl rfl 16 (fun _ h => List.mem_cons_of_mem _ (List.mem_append_right _ h)) tyX7_ok nmX7 (by decide) (List.mem_of_getElem? (i := 1) rfl) rfl (by decide +kernel) rfl rfl (Nat.le_of_ble_eq_true rfl) (up2 σ 0 (upd (σ 0) 16 (nI 0))) (wM_p0_16 Z A _ _) ?_
                refine cw_aload_n (pc := 255) C dX7_readByte_255 rfl 0 rfl ?_
                refine cw_get (pc := 256) C dX7_readByte_256 0 (v := .ref (A 7)) rfl rfl 10 rfl (fun _ h => List.mem_cons_of_mem _ (List.mem_append_right _ h)) (by decide) (List.mem_of_getElem? (i := 7) rfl) ?_
                refine cw_aload_n (pc := 259) C dX7_readByte_259 rfl 0 rfl ?_
                refine cw_get (pc := 260) C dX7_readByte_260 0 (v := .int ((σ 0) 12)) rfl rfl 12 rfl (fun _ h => List.mem_cons_of_mem _ (List.mem_append_right _ h)) (by decide) (List.mem_of_getElem? (i := 5) rfl) ?_
                refine cw_top (nI o) e12 ?_
                refine cw_iconst (pc := 263) C dX7_readByte_263 (nI 1) (by decide) ?_
                refine cw_iadd (pc := 264) C dX7_readByte_264 (z := nI (o + 1)) (nI_add _ _) ?_
                refine cw_aload_n (pc := 265) C dX7_readByte_265 rfl 0 rfl ?_
                refine cw_get (pc := 266) C dX7_readByte_266 0 (v := .ref (A 7)) rfl rfl 10 rfl (fun _ h => List.mem_cons_of_mem _ (List.mem_append_right _ h)) (by decide) (List.mem_of_getElem? (i := 7) rfl) ?_
                refine cw_aload_n (pc := 269) C dX7_readByte_269 rfl 0 rfl ?_
                refine cw_get (pc := 270) C dX7_readByte_270 0 (v := .int ((σ 0) 12)) rfl rfl 12 rfl (fun _ h => List.mem_cons_of_mem _ (List.mem_append_right _ h)) (by decide) (List.mem_of_getElem? (i := 5) rfl) ?_
                refine cw_top (nI o) e12 ?_
                refine cw_iald2 (pc := 273) C dX7_readByte_273 7 7 (wM_g7 Z A) (f := σ 7) (up2_ne _ _ (by decide)) o rfl (by omega) (by decide) ?_
                refine cw_top (nI (qF B L o)) hOF ?_
                refine cw_aload_n (pc := 274) C dX7_readByte_274 rfl 0 rfl ?_
                refine cw_get (pc := 275) C dX7_readByte_275 0 (v := .int ((σ 0) 17)) rfl rfl 17 rfl (fun _ h => List.mem_cons_of_mem _ (List.mem_append_right _ h)) (by decide) (List.mem_of_getElem? (i := 2) rfl) ?_
                refine cw_top (nI b) e17 ?_
                refine cw_iadd (pc := 278) C dX7_readByte_278 (z := nI (qF B L o + b)) (nI_add _ _) ?_
                refine cw_iast2 (pc := 279) C dX7_readByte_279 7 7 (wM_g7 Z A) (wM_s7 Z A) (f := σ 7) (up2_ne _ _ (by decide)) (o + 1) rfl (by omega) (by decide) (up2 (up2 σ 0 (upd (σ 0) 16 (nI 0))) 7 (upd (σ 7) (o + 1) (nI (qF B L o + b)))) rfl ?_
                refine cw_aload_n (pc := 280) C dX7_readByte_280 rfl 0 rfl ?_
                refine cw_dup (pc := 281) C dX7_readByte_281 rfl ?_
                refine cw_get (pc := 282) C dX7_readByte_282 0 (v := .int ((σ 0) 12)) rfl rfl 12 rfl (fun _ h => List.mem_cons_of_mem _ (List.mem_append_right _ h)) (by decide) (List.mem_of_getElem? (i := 5) rfl) ?_
                refine cw_top (nI o) e12 ?_
                refine cw_iconst (pc := 285) C dX7_readByte_285 (nI 1) (by decide) ?_
                refine cw_iadd (pc := 286) C dX7_readByte_286 (z := nI (o + 1)) (nI_add _ _) ?_
                refine cw_put (pc := 287) C dX7_readByte_287 0 (ty := .int) rfl rfl 12 (fun _ h => List.mem_cons_of_mem _ (List.mem_append_right _ h)) tyX7_ok nmX7 (by decide) (List.mem_of_getElem? (i := 5) rfl) rfl (by decide +kernel) rfl rfl (Nat.le_of_ble_eq_true rfl) (up2 (up2 σ 0 (upd (upd (σ 0) 16 (nI 0)) 12 (nI (o + 1)))) 7 (upd (σ 7) (o + 1) (nI (qF B L o + b)))) ((wM_p0_12 Z A _ _).trans (congrArg (wM Z A) ((up2_comm _ _ _ (by decide)).trans (congrArg (fun qz => up2 qz 7 (upd (σ 7) (o + 1) (nI (qF B L o + b)))) (up2_up2 _ 0 _ _))))) ?_
                refine cw_iconst (pc := 290) C dX7_readByte_290 (nI 1) (by decide) ?_
                refine hret true (up2 (up2 σ 0 (upd (upd (σ 0) 16 (nI 0)) 12 (nI (o + 1)))) 7 (upd (σ 7) (o + 1) (nI (qF B L o + b)))) _ _ dX7_readByte_291 ?_
                clear hret
                refine ⟨⟨fun j j0 j6 j7 j8 => by simp [up2, j0, j6, j7, j8], fun z hz => by simp [up2, upd, show ¬ z = 12 by omega, show ¬ z = 16 by omega, show ¬ z = 17 by omega, show ¬ z = 18 by omega, show ¬ z = 19 by omega, show ¬ z = 20 by omega]⟩, Or.inr ⟨rfl, o + 1, 0, b, f, w, n, ⟨by simp [up2, upd], by simp [up2, upd], by simp [up2, upd, e19], fun hq => absurd rfl hq⟩, (ph_semi hP.2.1 hI hOL hk (by rw [he, h231]) h190 (by omega)).2⟩⟩
              · -- 245 f
                have h245 : ¬ ((wantN ly) ≤ b) := fun qq => h245 ((nc_ge (a := b) (b := wantN ly) (by omega) (by omega)).mpr qq)
                refine cw_iconst (pc := 248) C dX7_readByte_248 (nI 0) (by decide) ?_
                refine hret false σ _ _ dX7_readByte_249 ?_
                clear hret
                exact ⟨⟨fun j j0 j6 j7 j8 => by simp [up2, j0, j6, j7, j8], fun z hz => by simp [up2, upd, show ¬ z = 12 by omega, show ¬ z = 16 by omega, show ¬ z = 17 by omega, show ¬ z = 18 by omega, show ¬ z = 19 by omega, show ¬ z = 20 by omega]⟩, Or.inl ⟨rfl, ph_bad hL (Nat.le_of_lt hk) hP.2.1 hI hfig (Or.inr (fun _ q => absurd ((nI_eq (by omega) (by omega)).mp (he.symm.trans q)) h198)) (fun _ q => by have := q.2; omega) (fun _ q => absurd ((nI_eq (by omega) (by omega)).mp (hnx.symm.trans q.1)) h211)⟩⟩
          · -- 211 f
            have h211 : x = 45 := (nc_eq (a := x) (b := 45) (by omega) (by omega)).mp h211
            refine cw_aload_n (pc := 214) C dX7_readByte_214 rfl 0 rfl ?_
            refine cw_aload_n (pc := 215) C dX7_readByte_215 rfl 0 rfl ?_
            refine cw_iconst (pc := 216) C dX7_readByte_216 (nI 1) (by decide) ?_
            refine cw_calli (pc := 217) C dX7_readByte_217 (c_X7_beginNumber l D Z A σ o ly b (qF B L o) true e12 e16 e17 hOF hob hlt.1 hlt.2 hbw.1 hqb) (cwV 1 C.1.2.2.2.2 gX7_readByte_X7_beginNumber rfl rfl rfl (by decide +kernel) ⟨Nat.le_of_ble_eq_true rfl, Nat.le_of_ble_eq_true rfl⟩) 0 rfl rfl rfl rfl (Nat.le_of_ble_eq_true rfl) (fun r σ1 hr => ?_)
            obtain ⟨z, rfl, hr⟩ := hr
            rcases hr with ⟨rfl, hbg, hq⟩ | ⟨rfl, hbg, rfl⟩
            · -- cannot begin
              rw [hq]
              refine cw_put (pc := 220) C dX7_readByte_220 0 (ty := .boolean) rfl rfl 19 (fun _ h => List.mem_cons_of_mem _ (List.mem_append_right _ h)) tyX7_ok nmX7 (by decide) (List.mem_of_getElem? (i := 6) rfl) rfl (by decide +kernel) (narB _) rfl (Nat.le_of_ble_eq_true rfl) (up2 σ 0 (upd (σ 0) 19 (bI false))) (wM_p0_19 Z A _ _) ?_
              refine cw_aload_n (pc := 223) C dX7_readByte_223 rfl 0 rfl ?_
              refine cw_get (pc := 224) C dX7_readByte_224 0 (v := .int (bI false)) rfl rfl 19 rfl (fun _ h => List.mem_cons_of_mem _ (List.mem_append_right _ h)) (by decide) (List.mem_of_getElem? (i := 6) rfl) ?_
              refine cw_top (bI false) rfl ?_
              refine hret false (up2 σ 0 (upd (σ 0) 19 (bI false))) _ _ dX7_readByte_227 ?_
              clear hret
              exact ⟨⟨fun j j0 j6 j7 j8 => by simp [up2, j0, j6, j7, j8], fun z hz => by simp [up2, upd, show ¬ z = 12 by omega, show ¬ z = 16 by omega, show ¬ z = 17 by omega, show ¬ z = 18 by omega, show ¬ z = 19 by omega, show ¬ z = 20 by omega]⟩, Or.inl ⟨rfl, ph_bad hL (Nat.le_of_lt hk) hP.2.1 hI hfig (Or.inr (fun _ q => absurd ((nI_eq (by omega) (by omega)).mp (he.symm.trans q)) (by omega))) (fun _ q => absurd ((nI_eq (by omega) (by omega)).mp (hnx.symm.trans q.1)) (by omega)) (fun _ q => bg_no hbg q.2)⟩⟩
            · -- begins
              obtain ⟨hbb, hPB⟩ := ph_neg hP.2.1 hI hOL hk (by rw [he, h211]) h190 hbg
              refine cw_put (pc := 220) C dX7_readByte_220 0 (ty := .boolean) rfl rfl 19 (fun _ h => List.mem_cons_of_mem _ (List.mem_append_right _ h)) tyX7_ok nmX7 (by decide) (List.mem_of_getElem? (i := 6) rfl) rfl (by decide +kernel) (narB _) rfl (Nat.le_of_ble_eq_true rfl) (up2 (up2 σ 0 (upd (upd (upd (upd (σ 0) 17 (nI (b + 1))) 18 (nI 0)) 20 (bI true)) 19 (bI true))) 8 (upd (σ 8) (qF B L o + b) (nI 0))) ((wM_p0_19 Z A _ _).trans (congrArg (wM Z A) ((up2_comm _ _ _ (by decide)).trans (congrArg (fun qz => up2 qz 8 (upd (σ 8) (qF B L o + b) (nI 0))) (up2_up2 _ 0 _ _))))) ?_
              refine cw_aload_n (pc := 223) C dX7_readByte_223 rfl 0 rfl ?_
              refine cw_get (pc := 224) C dX7_readByte_224 0 (v := .int (bI true)) rfl rfl 19 rfl (fun _ h => List.mem_cons_of_mem _ (List.mem_append_right _ h)) (by decide) (List.mem_of_getElem? (i := 6) rfl) ?_
              refine cw_top (bI true) rfl ?_
              refine hret true (up2 (up2 σ 0 (upd (upd (upd (upd (σ 0) 17 (nI (b + 1))) 18 (nI 0)) 20 (bI true)) 19 (bI true))) 8 (upd (σ 8) (qF B L o + b) (nI 0))) _ _ dX7_readByte_227 ?_
              clear hret
              refine ⟨⟨fun j j0 j6 j7 j8 => by simp [up2, j0, j6, j7, j8], fun z hz => by simp [up2, upd, show ¬ z = 12 by omega, show ¬ z = 16 by omega, show ¬ z = 17 by omega, show ¬ z = 18 by omega, show ¬ z = 19 by omega, show ¬ z = 20 by omega]⟩, Or.inr ⟨rfl, o, ly, b + 1, 0, true, true, ⟨by simp [up2, upd, e12], by simp [up2, upd, e16], by simp [up2, upd, bI], fun _ => ⟨by simp [up2, upd], by simp [up2, upd], fun hq => by simp [up2, upd, bI]⟩⟩, hPB⟩⟩
        · -- 198 f
          have h198 : x = 32 := (nc_eq (a := x) (b := 32) (by omega) (by omega)).mp h198
          refine cw_aload_n (pc := 201) C dX7_readByte_201 rfl 0 rfl ?_
          refine cw_iconst (pc := 202) C dX7_readByte_202 (nI 0) (by decide) ?_
          refine cw_put (pc := 203) C dX7_readByte_203 0 (ty := .int) rfl rfl 18 (fun _ h => List.mem_cons_of_mem _ (List.mem_append_right _ h)) tyX7_ok nmX7 (by decide) (List.mem_of_getElem? (i := 3) rfl) rfl (by decide +kernel) rfl rfl (Nat.le_of_ble_eq_true rfl) (up2 σ 0 (upd (σ 0) 18 (nI 0))) (wM_p0_18 Z A _ _) ?_
          refine cw_iconst (pc := 206) C dX7_readByte_206 (nI 1) (by decide) ?_
          refine hret true (up2 σ 0 (upd (σ 0) 18 (nI 0))) _ _ dX7_readByte_207 ?_
          clear hret
          refine ⟨⟨fun j j0 j6 j7 j8 => by simp [up2, j0, j6, j7, j8], fun z hz => by simp [up2, upd, show ¬ z = 12 by omega, show ¬ z = 16 by omega, show ¬ z = 17 by omega, show ¬ z = 18 by omega, show ¬ z = 19 by omega, show ¬ z = 20 by omega]⟩, Or.inr ⟨rfl, o, ly, b, 0, w, n, ⟨by simp [up2, upd, e12], by simp [up2, upd, e16], by simp [up2, upd, e19], fun _ => ⟨by simp [up2, upd, e17], by simp [up2, upd], fun hq => by simp [up2, upd, e20 hq]⟩⟩, ph_sp hP.2.1 hI hOL hk (by rw [he, h198]) h190⟩⟩
      · -- 190 f
        have h190 := bI_nz h190
        refine cw_iconst (pc := 193) C dX7_readByte_193 (nI 0) (by decide) ?_
        refine hret false σ _ _ dX7_readByte_194 ?_
        clear hret
        exact ⟨⟨fun j j0 j6 j7 j8 => by simp [up2, j0, j6, j7, j8], fun z hz => by simp [up2, upd, show ¬ z = 12 by omega, show ¬ z = 16 by omega, show ¬ z = 17 by omega, show ¬ z = 18 by omega, show ¬ z = 19 by omega, show ¬ z = 20 by omega]⟩, Or.inl ⟨rfl, ph_bad hL (Nat.le_of_lt hk) hP.2.1 hI hfig (Or.inl h190) (fun q _ => by rw [h190] at q; cases q) (fun q _ => by rw [h190] at q; cases q)⟩⟩
    · -- 70 f
      have h70 := bI_nz h70
      have hfig : figB B L k = true := by rw [figB, hnx]; exact h70
      refine cw_aload_n (pc := 73) C dX7_readByte_73 rfl 0 rfl ?_
      refine cw_get (pc := 74) C dX7_readByte_74 0 (v := .int (σ 0 19)) rfl rfl 19 rfl (fun _ h => List.mem_cons_of_mem _ (List.mem_append_right _ h)) (by decide) (List.mem_of_getElem? (i := 6) rfl) ?_
      refine cw_top (bI w) e19 ?_
      refine cw_if_ne (pc := 77) (tgt := 106) C dX7_readByte_77 (by decide) (fun h77 => ?_) (fun h77 => ?_)
      · -- 77 t
        have h77 := bI_nz h77
        obtain ⟨hb1, hf0, hPW⟩ := ph_figW hP.2.1 hI hOL hfig h77
        refine cw_iconst (pc := 106) C dX7_readByte_106 (nI 1) (by decide) ?_
        refine cw_goto (pc := 107) (tgt := 111) C dX7_readByte_107 (by decide) ?_
        refine cw_istore_n (pc := 111) C dX7_readByte_111 rfl (by decide) (lv' := [(2, .int (nI 1)), (0, .ref (A 0)), (1, .int (nI x))]) rfl ?_
        refine cw_iload_n (pc := 112) C dX7_readByte_112 rfl 0 rfl ?_
        refine cw_if_ne (pc := 113) (tgt := 118) C dX7_readByte_113 (by decide) (fun _ => ?_) (fun h => False.elim (by revert h; decide))
        refine cw_aload_n (pc := 118) C dX7_readByte_118 rfl 1 rfl ?_
        refine cw_iconst (pc := 119) C dX7_readByte_119 (nI 0) (by decide) ?_
        refine cw_put (pc := 120) C dX7_readByte_120 0 (ty := .boolean) rfl rfl 19 (fun _ h => List.mem_cons_of_mem _ (List.mem_append_right _ h)) tyX7_ok nmX7 (by decide) (List.mem_of_getElem? (i := 6) rfl) rfl (by decide +kernel) rfl rfl (Nat.le_of_ble_eq_true rfl) (up2 σ 0 (upd (σ 0) 19 (nI 0))) (wM_p0_19 Z A _ _) ?_
        refine cw_aload_n (pc := 123) C dX7_readByte_123 rfl 1 rfl ?_
        refine cw_get (pc := 124) C dX7_readByte_124 0 (v := .ref (A 7)) rfl rfl 10 rfl (fun _ h => List.mem_cons_of_mem _ (List.mem_append_right _ h)) (by decide) (List.mem_of_getElem? (i := 7) rfl) ?_
        refine cw_aload_n (pc := 127) C dX7_readByte_127 rfl 1 rfl ?_
        refine cw_get (pc := 128) C dX7_readByte_128 0 (v := .int ((σ 0) 12)) rfl rfl 12 rfl (fun _ h => List.mem_cons_of_mem _ (List.mem_append_right _ h)) (by decide) (List.mem_of_getElem? (i := 5) rfl) ?_
        refine cw_top (nI o) e12 ?_
        refine cw_iald2 (pc := 131) C dX7_readByte_131 7 7 (wM_g7 Z A) (f := σ 7) (up2_ne _ _ (by decide)) o rfl (by omega) (by decide) ?_
        refine cw_top (nI (qF B L o)) hOF ?_
        refine cw_aload_n (pc := 132) C dX7_readByte_132 rfl 1 rfl ?_
        refine cw_get (pc := 133) C dX7_readByte_133 0 (v := .int ((σ 0) 17)) rfl rfl 17 rfl (fun _ h => List.mem_cons_of_mem _ (List.mem_append_right _ h)) (by decide) (List.mem_of_getElem? (i := 2) rfl) ?_
        refine cw_top (nI b) e17 ?_
        refine cw_iadd (pc := 136) C dX7_readByte_136 (z := nI (qF B L o + b)) (nI_add _ _) ?_
        refine cw_iconst (pc := 137) C dX7_readByte_137 (nI 1) (by decide) ?_
        refine cw_isub (pc := 138) C dX7_readByte_138 (z := nI ((qF B L o + b) - 1)) (pk_sub (by omega)) ?_
        refine cw_istore_n (pc := 139) C dX7_readByte_139 rfl (by decide) (lv' := [(3, .int (nI ((qF B L o + b) - 1))), (2, .int (nI 1)), (0, .ref (A 0)), (1, .int (nI x))]) rfl ?_
        refine cw_aload_n (pc := 140) C dX7_readByte_140 rfl 2 rfl ?_
        refine cw_get (pc := 141) C dX7_readByte_141 0 (v := .ref (A 8)) rfl rfl 11 rfl (fun _ h => List.mem_cons_of_mem _ (List.mem_append_right _ h)) (by decide) (List.mem_of_getElem? (i := 8) rfl) ?_
        refine cw_iload_n (pc := 144) C dX7_readByte_144 rfl 0 rfl ?_
        refine cw_bipush (pc := 145) C dX7_readByte_145 (nI 10) (by decide) ?_
        refine cw_aload_n (pc := 147) C dX7_readByte_147 rfl 2 rfl ?_
        refine cw_get (pc := 148) C dX7_readByte_148 0 (v := .ref (A 8)) rfl rfl 11 rfl (fun _ h => List.mem_cons_of_mem _ (List.mem_append_right _ h)) (by decide) (List.mem_of_getElem? (i := 8) rfl) ?_
        refine cw_iload_n (pc := 151) C dX7_readByte_151 rfl 0 rfl ?_
        refine cw_iald2 (pc := 152) C dX7_readByte_152 8 8 (wM_g8 Z A) (f := σ 8) (up2_ne _ _ (by decide)) ((qF B L o + b) - 1) rfl (by omega) (by decide) ?_
        refine cw_imul (pc := 153) C dX7_readByte_153 (z := (nI 10) * (σ 8 ((qF B L o + b) - 1))) rfl ?_
        refine cw_aload_n (pc := 154) C dX7_readByte_154 rfl 2 rfl ?_
        refine cw_get (pc := 155) C dX7_readByte_155 0 (v := .int ((σ 0) 20)) rfl rfl 20 rfl (fun _ h => List.mem_cons_of_mem _ (List.mem_append_right _ h)) (by decide) (List.mem_of_getElem? (i := 9) rfl) ?_
        refine cw_top (bI n) (e20 (by omega)) ?_
        refine cw_if_eq (pc := 158) (tgt := 168) C dX7_readByte_158 (by decide) (fun h158 => ?_) (fun h158 => ?_)
        · -- 158 t
          have h158 := bI_z h158
          refine cw_iload_n (pc := 168) C dX7_readByte_168 rfl 3 rfl ?_
          refine cw_bipush (pc := 169) C dX7_readByte_169 (nI 48) (by decide) ?_
          refine cw_isub (pc := 171) C dX7_readByte_171 (z := (nI x) - (nI 48)) rfl ?_
          refine cw_iadd (pc := 172) C dX7_readByte_172 (z := ((nI 10) * (σ 8 ((qF B L o + b) - 1))) + ((nI x) - (nI 48))) rfl ?_
          refine cw_iast2 (pc := 173) C dX7_readByte_173 8 8 (wM_g8 Z A) (wM_s8 Z A) (f := σ 8) (up2_ne _ _ (by decide)) ((qF B L o + b) - 1) rfl (by omega) (by decide) (up2 (up2 σ 0 (upd (σ 0) 19 (nI 0))) 8 (upd (σ 8) ((qF B L o + b) - 1) (((nI 10) * (σ 8 ((qF B L o + b) - 1))) + ((nI x) - (nI 48))))) rfl ?_
          refine cw_aload_n (pc := 174) C dX7_readByte_174 rfl 2 rfl ?_
          refine cw_dup (pc := 175) C dX7_readByte_175 rfl ?_
          refine cw_get (pc := 176) C dX7_readByte_176 0 (v := .int ((σ 0) 18)) rfl rfl 18 rfl (fun _ h => List.mem_cons_of_mem _ (List.mem_append_right _ h)) (by decide) (List.mem_of_getElem? (i := 3) rfl) ?_
          refine cw_top (nI f) e18 ?_
          refine cw_iconst (pc := 179) C dX7_readByte_179 (nI 1) (by decide) ?_
          refine cw_iadd (pc := 180) C dX7_readByte_180 (z := nI (f + 1)) (nI_add _ _) ?_
          refine cw_put (pc := 181) C dX7_readByte_181 0 (ty := .int) rfl rfl 18 (fun _ h => List.mem_cons_of_mem _ (List.mem_append_right _ h)) tyX7_ok nmX7 (by decide) (List.mem_of_getElem? (i := 3) rfl) rfl (by decide +kernel) rfl rfl (Nat.le_of_ble_eq_true rfl) (up2 (up2 σ 0 (upd (upd (σ 0) 19 (nI 0)) 18 (nI (f + 1)))) 8 (upd (σ 8) ((qF B L o + b) - 1) (((nI 10) * (σ 8 ((qF B L o + b) - 1))) + ((nI x) - (nI 48))))) ((wM_p0_18 Z A _ _).trans (congrArg (wM Z A) ((up2_comm _ _ _ (by decide)).trans (congrArg (fun qz => up2 qz 8 (upd (σ 8) ((qF B L o + b) - 1) (((nI 10) * (σ 8 ((qF B L o + b) - 1))) + ((nI x) - (nI 48))))) (up2_up2 _ 0 _ _))))) ?_
          refine cw_iconst (pc := 184) C dX7_readByte_184 (nI 1) (by decide) ?_
          refine hret true (up2 (up2 σ 0 (upd (upd (σ 0) 19 (nI 0)) 18 (nI (f + 1)))) 8 (upd (σ 8) ((qF B L o + b) - 1) (((nI 10) * (σ 8 ((qF B L o + b) - 1))) + ((nI x) - (nI 48))))) _ _ dX7_readByte_185 ?_
          clear hret
          have hd : dgt n (B k) = nI x - nI 48 := by rw [he, h158]; rfl
          rw [hd] at hPW
          refine ⟨⟨fun j j0 j6 j7 j8 => by simp [up2, j0, j6, j7, j8], fun z hz => by simp [up2, upd, show ¬ z = 12 by omega, show ¬ z = 16 by omega, show ¬ z = 17 by omega, show ¬ z = 18 by omega, show ¬ z = 19 by omega, show ¬ z = 20 by omega]⟩, Or.inr ⟨rfl, o, ly, b, f + 1, false, n, ⟨by simp [up2, upd, e12], by simp [up2, upd, e16], by simp [up2, upd, bI], fun _ => ⟨by simp [up2, upd, e17], by simp [up2, upd], fun hq => by simp [up2, upd, e20 hq]⟩⟩, hPW⟩⟩
        · -- 158 f
          have h158 := bI_nz h158
          refine cw_bipush (pc := 161) C dX7_readByte_161 (nI 48) (by decide) ?_
          refine cw_iload_n (pc := 163) C dX7_readByte_163 rfl 3 rfl ?_
          refine cw_isub (pc := 164) C dX7_readByte_164 (z := (nI 48) - (nI x)) rfl ?_
          refine cw_goto (pc := 165) (tgt := 172) C dX7_readByte_165 (by decide) ?_
          refine cw_iadd (pc := 172) C dX7_readByte_172 (z := ((nI 10) * (σ 8 ((qF B L o + b) - 1))) + ((nI 48) - (nI x))) rfl ?_
          refine cw_iast2 (pc := 173) C dX7_readByte_173 8 8 (wM_g8 Z A) (wM_s8 Z A) (f := σ 8) (up2_ne _ _ (by decide)) ((qF B L o + b) - 1) rfl (by omega) (by decide) (up2 (up2 σ 0 (upd (σ 0) 19 (nI 0))) 8 (upd (σ 8) ((qF B L o + b) - 1) (((nI 10) * (σ 8 ((qF B L o + b) - 1))) + ((nI 48) - (nI x))))) rfl ?_
          refine cw_aload_n (pc := 174) C dX7_readByte_174 rfl 2 rfl ?_
          refine cw_dup (pc := 175) C dX7_readByte_175 rfl ?_
          refine cw_get (pc := 176) C dX7_readByte_176 0 (v := .int ((σ 0) 18)) rfl rfl 18 rfl (fun _ h => List.mem_cons_of_mem _ (List.mem_append_right _ h)) (by decide) (List.mem_of_getElem? (i := 3) rfl) ?_
          refine cw_top (nI f) e18 ?_
          refine cw_iconst (pc := 179) C dX7_readByte_179 (nI 1) (by decide) ?_
          refine cw_iadd (pc := 180) C dX7_readByte_180 (z := nI (f + 1)) (nI_add _ _) ?_
          refine cw_put (pc := 181) C dX7_readByte_181 0 (ty := .int) rfl rfl 18 (fun _ h => List.mem_cons_of_mem _ (List.mem_append_right _ h)) tyX7_ok nmX7 (by decide) (List.mem_of_getElem? (i := 3) rfl) rfl (by decide +kernel) rfl rfl (Nat.le_of_ble_eq_true rfl) (up2 (up2 σ 0 (upd (upd (σ 0) 19 (nI 0)) 18 (nI (f + 1)))) 8 (upd (σ 8) ((qF B L o + b) - 1) (((nI 10) * (σ 8 ((qF B L o + b) - 1))) + ((nI 48) - (nI x))))) ((wM_p0_18 Z A _ _).trans (congrArg (wM Z A) ((up2_comm _ _ _ (by decide)).trans (congrArg (fun qz => up2 qz 8 (upd (σ 8) ((qF B L o + b) - 1) (((nI 10) * (σ 8 ((qF B L o + b) - 1))) + ((nI 48) - (nI x))))) (up2_up2 _ 0 _ _))))) ?_
          refine cw_iconst (pc := 184) C dX7_readByte_184 (nI 1) (by decide) ?_
          refine hret true (up2 (up2 σ 0 (upd (upd (σ 0) 19 (nI 0)) 18 (nI (f + 1)))) 8 (upd (σ 8) ((qF B L o + b) - 1) (((nI 10) * (σ 8 ((qF B L o + b) - 1))) + ((nI 48) - (nI x))))) _ _ dX7_readByte_185 ?_
          clear hret
          have hd : dgt n (B k) = nI 48 - nI x := by rw [he, h158]; rfl
          rw [hd] at hPW
          refine ⟨⟨fun j j0 j6 j7 j8 => by simp [up2, j0, j6, j7, j8], fun z hz => by simp [up2, upd, show ¬ z = 12 by omega, show ¬ z = 16 by omega, show ¬ z = 17 by omega, show ¬ z = 18 by omega, show ¬ z = 19 by omega, show ¬ z = 20 by omega]⟩, Or.inr ⟨rfl, o, ly, b, f + 1, false, n, ⟨by simp [up2, upd, e12], by simp [up2, upd, e16], by simp [up2, upd, bI], fun _ => ⟨by simp [up2, upd, e17], by simp [up2, upd], fun hq => by simp [up2, upd, e20 hq]⟩⟩, hPW⟩⟩
      · -- 77 f
        have h77 := bI_z h77
        refine cw_aload_n (pc := 80) C dX7_readByte_80 rfl 0 rfl ?_
        refine cw_get (pc := 81) C dX7_readByte_81 0 (v := .int (σ 0 18)) rfl rfl 18 rfl (fun _ h => List.mem_cons_of_mem _ (List.mem_append_right _ h)) (by decide) (List.mem_of_getElem? (i := 3) rfl) ?_
        refine cw_top (nI f) e18 ?_
        refine cw_if_le (pc := 84) (tgt := 98) C dX7_readByte_84 (by decide) (fun h84 => ?_) (fun h84 => ?_)
        · -- 84 t
          have h84 : f ≤ 0 := (nc_le (a := f) (b := 0) (by omega) (by omega)).mp h84
          refine cw_aload_n (pc := 98) C dX7_readByte_98 rfl 0 rfl ?_
          refine cw_iconst (pc := 99) C dX7_readByte_99 (nI 0) (by decide) ?_
          refine cw_calli (pc := 100) C dX7_readByte_100 (c_X7_beginNumber l D Z A σ o ly b (qF B L o) false e12 e16 e17 hOF hob hlt.1 hlt.2 hbw.1 hqb) (cwV 1 C.1.2.2.2.2 gX7_readByte_X7_beginNumber rfl rfl rfl (by decide +kernel) ⟨Nat.le_of_ble_eq_true rfl, Nat.le_of_ble_eq_true rfl⟩) 0 rfl rfl rfl rfl (Nat.le_of_ble_eq_true rfl) (fun r σ1 hr => ?_)
          obtain ⟨z, rfl, hr⟩ := hr
          rcases hr with ⟨rfl, hbg, hq⟩ | ⟨rfl, hbg, rfl⟩
          · -- cannot begin
            rw [hq]
            refine cw_if_eq (pc := 103) (tgt := 110) C dX7_readByte_103 (by decide) (fun _ => ?_) (fun h => False.elim (by revert h; decide))
            refine cw_iconst (pc := 110) C dX7_readByte_110 (nI 0) (by decide) ?_
            refine cw_istore_n (pc := 111) C dX7_readByte_111 rfl (by decide) (lv' := [(2, .int (nI 0)), (0, .ref (A 0)), (1, .int (nI x))]) rfl ?_
            refine cw_iload_n (pc := 112) C dX7_readByte_112 rfl 0 rfl ?_
            refine cw_if_ne (pc := 113) (tgt := 118) C dX7_readByte_113 (by decide) (fun h => False.elim (by revert h; decide)) (fun _ => ?_)
            refine cw_iconst (pc := 116) C dX7_readByte_116 (nI 0) (by decide) ?_
            refine hret false σ _ _ dX7_readByte_117 ?_
            clear hret
            exact ⟨⟨fun j j0 j6 j7 j8 => by simp [up2, j0, j6, j7, j8], fun z hz => by simp [up2, upd, show ¬ z = 12 by omega, show ¬ z = 16 by omega, show ¬ z = 17 by omega, show ¬ z = 18 by omega, show ¬ z = 19 by omega, show ¬ z = 20 by omega]⟩, Or.inl ⟨rfl, ph_fig0 hL hP.2.1 hI hfig h77 (by omega) hbg⟩⟩
          · -- begins
            obtain ⟨hbb, hPB⟩ := ph_figB hP.2.1 hI hOL hfig h77 (by omega) hbg
            refine cw_if_eq (pc := 103) (tgt := 110) C dX7_readByte_103 (by decide) (fun h => False.elim (by revert h; decide)) (fun _ => ?_)
            refine cw_iconst (pc := 106) C dX7_readByte_106 (nI 1) (by decide) ?_
            refine cw_goto (pc := 107) (tgt := 111) C dX7_readByte_107 (by decide) ?_
            refine cw_istore_n (pc := 111) C dX7_readByte_111 rfl (by decide) (lv' := [(2, .int (nI 1)), (0, .ref (A 0)), (1, .int (nI x))]) rfl ?_
            refine cw_iload_n (pc := 112) C dX7_readByte_112 rfl 0 rfl ?_
            refine cw_if_ne (pc := 113) (tgt := 118) C dX7_readByte_113 (by decide) (fun _ => ?_) (fun h => False.elim (by revert h; decide))
            refine cw_aload_n (pc := 118) C dX7_readByte_118 rfl 1 rfl ?_
            refine cw_iconst (pc := 119) C dX7_readByte_119 (nI 0) (by decide) ?_
            refine cw_put (pc := 120) C dX7_readByte_120 0 (ty := .boolean) rfl rfl 19 (fun _ h => List.mem_cons_of_mem _ (List.mem_append_right _ h)) tyX7_ok nmX7 (by decide) (List.mem_of_getElem? (i := 6) rfl) rfl (by decide +kernel) rfl rfl (Nat.le_of_ble_eq_true rfl) (up2 (up2 σ 0 (upd (upd (upd (upd (σ 0) 17 (nI (b + 1))) 18 (nI 0)) 20 (bI false)) 19 (nI 0))) 8 (upd (σ 8) (qF B L o + b) (nI 0))) ((wM_p0_19 Z A _ _).trans (congrArg (wM Z A) ((up2_comm _ _ _ (by decide)).trans (congrArg (fun qz => up2 qz 8 (upd (σ 8) (qF B L o + b) (nI 0))) (up2_up2 _ 0 _ _))))) ?_
            refine cw_aload_n (pc := 123) C dX7_readByte_123 rfl 1 rfl ?_
            refine cw_get (pc := 124) C dX7_readByte_124 0 (v := .ref (A 7)) rfl rfl 10 rfl (fun _ h => List.mem_cons_of_mem _ (List.mem_append_right _ h)) (by decide) (List.mem_of_getElem? (i := 7) rfl) ?_
            refine cw_aload_n (pc := 127) C dX7_readByte_127 rfl 1 rfl ?_
            refine cw_get (pc := 128) C dX7_readByte_128 0 (v := .int ((upd (upd (upd (σ 0) 17 (nI (b + 1))) 18 (nI 0)) 20 (bI false)) 12)) rfl rfl 12 rfl (fun _ h => List.mem_cons_of_mem _ (List.mem_append_right _ h)) (by decide) (List.mem_of_getElem? (i := 5) rfl) ?_
            refine cw_top (nI o) e12 ?_
            refine cw_iald2 (pc := 131) C dX7_readByte_131 7 7 (wM_g7 Z A) (f := σ 7) ((up2_ne _ _ (by decide)).trans (up2_ne _ _ (by decide))) o rfl (by omega) (by decide) ?_
            refine cw_top (nI (qF B L o)) hOF ?_
            refine cw_aload_n (pc := 132) C dX7_readByte_132 rfl 1 rfl ?_
            refine cw_get (pc := 133) C dX7_readByte_133 0 (v := .int ((upd (upd (upd (σ 0) 17 (nI (b + 1))) 18 (nI 0)) 20 (bI false)) 17)) rfl rfl 17 rfl (fun _ h => List.mem_cons_of_mem _ (List.mem_append_right _ h)) (by decide) (List.mem_of_getElem? (i := 2) rfl) ?_
            refine cw_top (nI (b + 1)) rfl ?_
            refine cw_iadd (pc := 136) C dX7_readByte_136 (z := nI (qF B L o + (b + 1))) (nI_add _ _) ?_
            refine cw_iconst (pc := 137) C dX7_readByte_137 (nI 1) (by decide) ?_
            refine cw_isub (pc := 138) C dX7_readByte_138 (z := nI ((qF B L o + (b + 1)) - 1)) (pk_sub (by omega)) ?_
            refine cw_istore_n (pc := 139) C dX7_readByte_139 rfl (by decide) (lv' := [(3, .int (nI ((qF B L o + (b + 1)) - 1))), (2, .int (nI 1)), (0, .ref (A 0)), (1, .int (nI x))]) rfl ?_
            refine cw_aload_n (pc := 140) C dX7_readByte_140 rfl 2 rfl ?_
            refine cw_get (pc := 141) C dX7_readByte_141 0 (v := .ref (A 8)) rfl rfl 11 rfl (fun _ h => List.mem_cons_of_mem _ (List.mem_append_right _ h)) (by decide) (List.mem_of_getElem? (i := 8) rfl) ?_
            refine cw_iload_n (pc := 144) C dX7_readByte_144 rfl 0 rfl ?_
            refine cw_bipush (pc := 145) C dX7_readByte_145 (nI 10) (by decide) ?_
            refine cw_aload_n (pc := 147) C dX7_readByte_147 rfl 2 rfl ?_
            refine cw_get (pc := 148) C dX7_readByte_148 0 (v := .ref (A 8)) rfl rfl 11 rfl (fun _ h => List.mem_cons_of_mem _ (List.mem_append_right _ h)) (by decide) (List.mem_of_getElem? (i := 8) rfl) ?_
            refine cw_iload_n (pc := 151) C dX7_readByte_151 rfl 0 rfl ?_
            refine cw_iald2 (pc := 152) C dX7_readByte_152 8 8 (wM_g8 Z A) (f := upd (σ 8) (qF B L o + b) (nI 0)) (up2_eq _ _ _) ((qF B L o + (b + 1)) - 1) rfl (by omega) (by decide) ?_
            refine cw_imul (pc := 153) C dX7_readByte_153 (z := (nI 10) * ((upd (σ 8) (qF B L o + b) (nI 0)) ((qF B L o + (b + 1)) - 1))) rfl ?_
            refine cw_aload_n (pc := 154) C dX7_readByte_154 rfl 2 rfl ?_
            refine cw_get (pc := 155) C dX7_readByte_155 0 (v := .int ((upd (upd (upd (σ 0) 17 (nI (b + 1))) 18 (nI 0)) 20 (bI false)) 20)) rfl rfl 20 rfl (fun _ h => List.mem_cons_of_mem _ (List.mem_append_right _ h)) (by decide) (List.mem_of_getElem? (i := 9) rfl) ?_
            refine cw_top (bI false) rfl ?_
            refine cw_if_eq (pc := 158) (tgt := 168) C dX7_readByte_158 (by decide) (fun _ => ?_) (fun h => False.elim (by revert h; decide))
            refine cw_iload_n (pc := 168) C dX7_readByte_168 rfl 3 rfl ?_
            refine cw_bipush (pc := 169) C dX7_readByte_169 (nI 48) (by decide) ?_
            refine cw_isub (pc := 171) C dX7_readByte_171 (z := (nI x) - (nI 48)) rfl ?_
            refine cw_iadd (pc := 172) C dX7_readByte_172 (z := ((nI 10) * ((upd (σ 8) (qF B L o + b) (nI 0)) ((qF B L o + (b + 1)) - 1))) + ((nI x) - (nI 48))) rfl ?_
            refine cw_iast2 (pc := 173) C dX7_readByte_173 8 8 (wM_g8 Z A) (wM_s8 Z A) (f := upd (σ 8) (qF B L o + b) (nI 0)) (up2_eq _ _ _) ((qF B L o + (b + 1)) - 1) rfl (by omega) (by decide) (up2 (up2 σ 0 (upd (upd (upd (upd (σ 0) 17 (nI (b + 1))) 18 (nI 0)) 20 (bI false)) 19 (nI 0))) 8 (upd (upd (σ 8) (qF B L o + b) (nI 0)) ((qF B L o + (b + 1)) - 1) (((nI 10) * ((upd (σ 8) (qF B L o + b) (nI 0)) ((qF B L o + (b + 1)) - 1))) + ((nI x) - (nI 48))))) (up2_up2 _ 8 _ _) ?_
            refine cw_aload_n (pc := 174) C dX7_readByte_174 rfl 2 rfl ?_
            refine cw_dup (pc := 175) C dX7_readByte_175 rfl ?_
            refine cw_get (pc := 176) C dX7_readByte_176 0 (v := .int ((upd (upd (upd (σ 0) 17 (nI (b + 1))) 18 (nI 0)) 20 (bI false)) 18)) rfl rfl 18 rfl (fun _ h => List.mem_cons_of_mem _ (List.mem_append_right _ h)) (by decide) (List.mem_of_getElem? (i := 3) rfl) ?_
            refine cw_top (nI 0) rfl ?_
            refine cw_iconst (pc := 179) C dX7_readByte_179 (nI 1) (by decide) ?_
            refine cw_iadd (pc := 180) C dX7_readByte_180 (z := nI 1) (by decide) ?_
            refine cw_put (pc := 181) C dX7_readByte_181 0 (ty := .int) rfl rfl 18 (fun _ h => List.mem_cons_of_mem _ (List.mem_append_right _ h)) tyX7_ok nmX7 (by decide) (List.mem_of_getElem? (i := 3) rfl) rfl (by decide +kernel) rfl rfl (Nat.le_of_ble_eq_true rfl) (up2 (up2 σ 0 (upd (upd (upd (upd (upd (σ 0) 17 (nI (b + 1))) 18 (nI 0)) 20 (bI false)) 19 (nI 0)) 18 (nI 1))) 8 (upd (upd (σ 8) (qF B L o + b) (nI 0)) ((qF B L o + (b + 1)) - 1) (((nI 10) * ((upd (σ 8) (qF B L o + b) (nI 0)) ((qF B L o + (b + 1)) - 1))) + ((nI x) - (nI 48))))) ((wM_p0_18 Z A _ _).trans (congrArg (wM Z A) ((up2_comm _ _ _ (by decide)).trans (congrArg (fun qz => up2 qz 8 (upd (upd (σ 8) (qF B L o + b) (nI 0)) ((qF B L o + (b + 1)) - 1) (((nI 10) * ((upd (σ 8) (qF B L o + b) (nI 0)) ((qF B L o + (b + 1)) - 1))) + ((nI x) - (nI 48))))) (up2_up2 _ 0 _ _))))) ?_
            refine cw_iconst (pc := 184) C dX7_readByte_184 (nI 1) (by decide) ?_
            refine hret true (up2 (up2 σ 0 (upd (upd (upd (upd (upd (σ 0) 17 (nI (b + 1))) 18 (nI 0)) 20 (bI false)) 19 (nI 0)) 18 (nI 1))) 8 (upd (upd (σ 8) (qF B L o + b) (nI 0)) ((qF B L o + (b + 1)) - 1) (((nI 10) * ((upd (σ 8) (qF B L o + b) (nI 0)) ((qF B L o + (b + 1)) - 1))) + ((nI x) - (nI 48))))) _ _ dX7_readByte_185 ?_
            clear hret
            have hd : dgt false (B k) = nI x - nI 48 := by rw [he]; rfl
            rw [hd] at hPB
            refine ⟨⟨fun j j0 j6 j7 j8 => by simp [up2, j0, j6, j7, j8], fun z hz => by simp [up2, upd, show ¬ z = 12 by omega, show ¬ z = 16 by omega, show ¬ z = 17 by omega, show ¬ z = 18 by omega, show ¬ z = 19 by omega, show ¬ z = 20 by omega]⟩, Or.inr ⟨rfl, o, ly, b + 1, 1, false, false, ⟨by simp [up2, upd, e12], by simp [up2, upd, e16], by simp [up2, upd, bI], fun _ => ⟨by simp [up2, upd], by simp [up2, upd], fun hq => by simp [up2, upd, bI]⟩⟩, hPB⟩⟩
        · -- 84 f
          have h84 : ¬ (f ≤ 0) := fun qq => h84 ((nc_le (a := f) (b := 0) (by omega) (by omega)).mpr qq)
          refine cw_aload_n (pc := 87) C dX7_readByte_87 rfl 0 rfl ?_
          refine cw_get (pc := 88) C dX7_readByte_88 0 (v := .int (σ 0 18)) rfl rfl 18 rfl (fun _ h => List.mem_cons_of_mem _ (List.mem_append_right _ h)) (by decide) (List.mem_of_getElem? (i := 3) rfl) ?_
          refine cw_top (nI f) e18 ?_
          refine cw_iconst (pc := 91) C dX7_readByte_91 (nI 3) (by decide) ?_
          refine cw_icmp_ge (pc := 92) (tgt := 110) C dX7_readByte_92 (by decide) (fun h92 => ?_) (fun h92 => ?_)
          · -- 92 t
            have h92 : 3 ≤ f := (nc_ge (a := f) (b := 3) (by omega) (by omega)).mp h92
            refine cw_iconst (pc := 110) C dX7_readByte_110 (nI 0) (by decide) ?_
            refine cw_istore_n (pc := 111) C dX7_readByte_111 rfl (by decide) (lv' := [(2, .int (nI 0)), (0, .ref (A 0)), (1, .int (nI x))]) rfl ?_
            refine cw_iload_n (pc := 112) C dX7_readByte_112 rfl 0 rfl ?_
            refine cw_if_ne (pc := 113) (tgt := 118) C dX7_readByte_113 (by decide) (fun h => False.elim (by revert h; decide)) (fun _ => ?_)
            refine cw_iconst (pc := 116) C dX7_readByte_116 (nI 0) (by decide) ?_
            refine hret false σ _ _ dX7_readByte_117 ?_
            clear hret
            exact ⟨⟨fun j j0 j6 j7 j8 => by simp [up2, j0, j6, j7, j8], fun z hz => by simp [up2, upd, show ¬ z = 12 by omega, show ¬ z = 16 by omega, show ¬ z = 17 by omega, show ¬ z = 18 by omega, show ¬ z = 19 by omega, show ¬ z = 20 by omega]⟩, Or.inl ⟨rfl, ph_fig3 hL hP.2.1 hI hfig (by omega) (by omega)⟩⟩
          · -- 92 f
            have h92 : ¬ (3 ≤ f) := fun qq => h92 ((nc_ge (a := f) (b := 3) (by omega) (by omega)).mpr qq)
            obtain ⟨hb1, hb2, hPN⟩ := ph_figN hP.2.1 hI hOL hfig h77 (by omega) (by omega)
            refine cw_goto (pc := 95) (tgt := 106) C dX7_readByte_95 (by decide) ?_
            refine cw_iconst (pc := 106) C dX7_readByte_106 (nI 1) (by decide) ?_
            refine cw_goto (pc := 107) (tgt := 111) C dX7_readByte_107 (by decide) ?_
            refine cw_istore_n (pc := 111) C dX7_readByte_111 rfl (by decide) (lv' := [(2, .int (nI 1)), (0, .ref (A 0)), (1, .int (nI x))]) rfl ?_
            refine cw_iload_n (pc := 112) C dX7_readByte_112 rfl 0 rfl ?_
            refine cw_if_ne (pc := 113) (tgt := 118) C dX7_readByte_113 (by decide) (fun _ => ?_) (fun h => False.elim (by revert h; decide))
            refine cw_aload_n (pc := 118) C dX7_readByte_118 rfl 1 rfl ?_
            refine cw_iconst (pc := 119) C dX7_readByte_119 (nI 0) (by decide) ?_
            refine cw_put (pc := 120) C dX7_readByte_120 0 (ty := .boolean) rfl rfl 19 (fun _ h => List.mem_cons_of_mem _ (List.mem_append_right _ h)) tyX7_ok nmX7 (by decide) (List.mem_of_getElem? (i := 6) rfl) rfl (by decide +kernel) rfl rfl (Nat.le_of_ble_eq_true rfl) (up2 σ 0 (upd (σ 0) 19 (nI 0))) (wM_p0_19 Z A _ _) ?_
            refine cw_aload_n (pc := 123) C dX7_readByte_123 rfl 1 rfl ?_
            refine cw_get (pc := 124) C dX7_readByte_124 0 (v := .ref (A 7)) rfl rfl 10 rfl (fun _ h => List.mem_cons_of_mem _ (List.mem_append_right _ h)) (by decide) (List.mem_of_getElem? (i := 7) rfl) ?_
            refine cw_aload_n (pc := 127) C dX7_readByte_127 rfl 1 rfl ?_
            refine cw_get (pc := 128) C dX7_readByte_128 0 (v := .int ((σ 0) 12)) rfl rfl 12 rfl (fun _ h => List.mem_cons_of_mem _ (List.mem_append_right _ h)) (by decide) (List.mem_of_getElem? (i := 5) rfl) ?_
            refine cw_top (nI o) e12 ?_
            refine cw_iald2 (pc := 131) C dX7_readByte_131 7 7 (wM_g7 Z A) (f := σ 7) (up2_ne _ _ (by decide)) o rfl (by omega) (by decide) ?_
            refine cw_top (nI (qF B L o)) hOF ?_
            refine cw_aload_n (pc := 132) C dX7_readByte_132 rfl 1 rfl ?_
            refine cw_get (pc := 133) C dX7_readByte_133 0 (v := .int ((σ 0) 17)) rfl rfl 17 rfl (fun _ h => List.mem_cons_of_mem _ (List.mem_append_right _ h)) (by decide) (List.mem_of_getElem? (i := 2) rfl) ?_
            refine cw_top (nI b) e17 ?_
            refine cw_iadd (pc := 136) C dX7_readByte_136 (z := nI (qF B L o + b)) (nI_add _ _) ?_
            refine cw_iconst (pc := 137) C dX7_readByte_137 (nI 1) (by decide) ?_
            refine cw_isub (pc := 138) C dX7_readByte_138 (z := nI ((qF B L o + b) - 1)) (pk_sub (by omega)) ?_
            refine cw_istore_n (pc := 139) C dX7_readByte_139 rfl (by decide) (lv' := [(3, .int (nI ((qF B L o + b) - 1))), (2, .int (nI 1)), (0, .ref (A 0)), (1, .int (nI x))]) rfl ?_
            refine cw_aload_n (pc := 140) C dX7_readByte_140 rfl 2 rfl ?_
            refine cw_get (pc := 141) C dX7_readByte_141 0 (v := .ref (A 8)) rfl rfl 11 rfl (fun _ h => List.mem_cons_of_mem _ (List.mem_append_right _ h)) (by decide) (List.mem_of_getElem? (i := 8) rfl) ?_
            refine cw_iload_n (pc := 144) C dX7_readByte_144 rfl 0 rfl ?_
            refine cw_bipush (pc := 145) C dX7_readByte_145 (nI 10) (by decide) ?_
            refine cw_aload_n (pc := 147) C dX7_readByte_147 rfl 2 rfl ?_
            refine cw_get (pc := 148) C dX7_readByte_148 0 (v := .ref (A 8)) rfl rfl 11 rfl (fun _ h => List.mem_cons_of_mem _ (List.mem_append_right _ h)) (by decide) (List.mem_of_getElem? (i := 8) rfl) ?_
            refine cw_iload_n (pc := 151) C dX7_readByte_151 rfl 0 rfl ?_
            refine cw_iald2 (pc := 152) C dX7_readByte_152 8 8 (wM_g8 Z A) (f := σ 8) (up2_ne _ _ (by decide)) ((qF B L o + b) - 1) rfl (by omega) (by decide) ?_
            refine cw_imul (pc := 153) C dX7_readByte_153 (z := (nI 10) * (σ 8 ((qF B L o + b) - 1))) rfl ?_
            refine cw_aload_n (pc := 154) C dX7_readByte_154 rfl 2 rfl ?_
            refine cw_get (pc := 155) C dX7_readByte_155 0 (v := .int ((σ 0) 20)) rfl rfl 20 rfl (fun _ h => List.mem_cons_of_mem _ (List.mem_append_right _ h)) (by decide) (List.mem_of_getElem? (i := 9) rfl) ?_
            refine cw_top (bI n) (e20 (by omega)) ?_
            refine cw_if_eq (pc := 158) (tgt := 168) C dX7_readByte_158 (by decide) (fun h158 => ?_) (fun h158 => ?_)
            · -- 158 t
              have h158 := bI_z h158
              refine cw_iload_n (pc := 168) C dX7_readByte_168 rfl 3 rfl ?_
              refine cw_bipush (pc := 169) C dX7_readByte_169 (nI 48) (by decide) ?_
              refine cw_isub (pc := 171) C dX7_readByte_171 (z := (nI x) - (nI 48)) rfl ?_
              refine cw_iadd (pc := 172) C dX7_readByte_172 (z := ((nI 10) * (σ 8 ((qF B L o + b) - 1))) + ((nI x) - (nI 48))) rfl ?_
              refine cw_iast2 (pc := 173) C dX7_readByte_173 8 8 (wM_g8 Z A) (wM_s8 Z A) (f := σ 8) (up2_ne _ _ (by decide)) ((qF B L o + b) - 1) rfl (by omega) (by decide) (up2 (up2 σ 0 (upd (σ 0) 19 (nI 0))) 8 (upd (σ 8) ((qF B L o + b) - 1) (((nI 10) * (σ 8 ((qF B L o + b) - 1))) + ((nI x) - (nI 48))))) rfl ?_
              refine cw_aload_n (pc := 174) C dX7_readByte_174 rfl 2 rfl ?_
              refine cw_dup (pc := 175) C dX7_readByte_175 rfl ?_
              refine cw_get (pc := 176) C dX7_readByte_176 0 (v := .int ((σ 0) 18)) rfl rfl 18 rfl (fun _ h => List.mem_cons_of_mem _ (List.mem_append_right _ h)) (by decide) (List.mem_of_getElem? (i := 3) rfl) ?_
              refine cw_top (nI f) e18 ?_
              refine cw_iconst (pc := 179) C dX7_readByte_179 (nI 1) (by decide) ?_
              refine cw_iadd (pc := 180) C dX7_readByte_180 (z := nI (f + 1)) (nI_add _ _) ?_
              refine cw_put (pc := 181) C dX7_readByte_181 0 (ty := .int) rfl rfl 18 (fun _ h => List.mem_cons_of_mem _ (List.mem_append_right _ h)) tyX7_ok nmX7 (by decide) (List.mem_of_getElem? (i := 3) rfl) rfl (by decide +kernel) rfl rfl (Nat.le_of_ble_eq_true rfl) (up2 (up2 σ 0 (upd (upd (σ 0) 19 (nI 0)) 18 (nI (f + 1)))) 8 (upd (σ 8) ((qF B L o + b) - 1) (((nI 10) * (σ 8 ((qF B L o + b) - 1))) + ((nI x) - (nI 48))))) ((wM_p0_18 Z A _ _).trans (congrArg (wM Z A) ((up2_comm _ _ _ (by decide)).trans (congrArg (fun qz => up2 qz 8 (upd (σ 8) ((qF B L o + b) - 1) (((nI 10) * (σ 8 ((qF B L o + b) - 1))) + ((nI x) - (nI 48))))) (up2_up2 _ 0 _ _))))) ?_
              refine cw_iconst (pc := 184) C dX7_readByte_184 (nI 1) (by decide) ?_
              refine hret true (up2 (up2 σ 0 (upd (upd (σ 0) 19 (nI 0)) 18 (nI (f + 1)))) 8 (upd (σ 8) ((qF B L o + b) - 1) (((nI 10) * (σ 8 ((qF B L o + b) - 1))) + ((nI x) - (nI 48))))) _ _ dX7_readByte_185 ?_
              clear hret
              have hd : dgt n (B k) = nI x - nI 48 := by rw [he, h158]; rfl
              rw [hd] at hPN
              refine ⟨⟨fun j j0 j6 j7 j8 => by simp [up2, j0, j6, j7, j8], fun z hz => by simp [up2, upd, show ¬ z = 12 by omega, show ¬ z = 16 by omega, show ¬ z = 17 by omega, show ¬ z = 18 by omega, show ¬ z = 19 by omega, show ¬ z = 20 by omega]⟩, Or.inr ⟨rfl, o, ly, b, f + 1, false, n, ⟨by simp [up2, upd, e12], by simp [up2, upd, e16], by simp [up2, upd, bI], fun _ => ⟨by simp [up2, upd, e17], by simp [up2, upd], fun hq => by simp [up2, upd, e20 hq]⟩⟩, hPN⟩⟩
            · -- 158 f
              have h158 := bI_nz h158
              refine cw_bipush (pc := 161) C dX7_readByte_161 (nI 48) (by decide) ?_
              refine cw_iload_n (pc := 163) C dX7_readByte_163 rfl 3 rfl ?_
              refine cw_isub (pc := 164) C dX7_readByte_164 (z := (nI 48) - (nI x)) rfl ?_
              refine cw_goto (pc := 165) (tgt := 172) C dX7_readByte_165 (by decide) ?_
              refine cw_iadd (pc := 172) C dX7_readByte_172 (z := ((nI 10) * (σ 8 ((qF B L o + b) - 1))) + ((nI 48) - (nI x))) rfl ?_
              refine cw_iast2 (pc := 173) C dX7_readByte_173 8 8 (wM_g8 Z A) (wM_s8 Z A) (f := σ 8) (up2_ne _ _ (by decide)) ((qF B L o + b) - 1) rfl (by omega) (by decide) (up2 (up2 σ 0 (upd (σ 0) 19 (nI 0))) 8 (upd (σ 8) ((qF B L o + b) - 1) (((nI 10) * (σ 8 ((qF B L o + b) - 1))) + ((nI 48) - (nI x))))) rfl ?_
              refine cw_aload_n (pc := 174) C dX7_readByte_174 rfl 2 rfl ?_
              refine cw_dup (pc := 175) C dX7_readByte_175 rfl ?_
              refine cw_get (pc := 176) C dX7_readByte_176 0 (v := .int ((σ 0) 18)) rfl rfl 18 rfl (fun _ h => List.mem_cons_of_mem _ (List.mem_append_right _ h)) (by decide) (List.mem_of_getElem? (i := 3) rfl) ?_
              refine cw_top (nI f) e18 ?_
              refine cw_iconst (pc := 179) C dX7_readByte_179 (nI 1) (by decide) ?_
              refine cw_iadd (pc := 180) C dX7_readByte_180 (z := nI (f + 1)) (nI_add _ _) ?_
              refine cw_put (pc := 181) C dX7_readByte_181 0 (ty := .int) rfl rfl 18 (fun _ h => List.mem_cons_of_mem _ (List.mem_append_right _ h)) tyX7_ok nmX7 (by decide) (List.mem_of_getElem? (i := 3) rfl) rfl (by decide +kernel) rfl rfl (Nat.le_of_ble_eq_true rfl) (up2 (up2 σ 0 (upd (upd (σ 0) 19 (nI 0)) 18 (nI (f + 1)))) 8 (upd (σ 8) ((qF B L o + b) - 1) (((nI 10) * (σ 8 ((qF B L o + b) - 1))) + ((nI 48) - (nI x))))) ((wM_p0_18 Z A _ _).trans (congrArg (wM Z A) ((up2_comm _ _ _ (by decide)).trans (congrArg (fun qz => up2 qz 8 (upd (σ 8) ((qF B L o + b) - 1) (((nI 10) * (σ 8 ((qF B L o + b) - 1))) + ((nI 48) - (nI x))))) (up2_up2 _ 0 _ _))))) ?_
              refine cw_iconst (pc := 184) C dX7_readByte_184 (nI 1) (by decide) ?_
              refine hret true (up2 (up2 σ 0 (upd (upd (σ 0) 19 (nI 0)) 18 (nI (f + 1)))) 8 (upd (σ 8) ((qF B L o + b) - 1) (((nI 10) * (σ 8 ((qF B L o + b) - 1))) + ((nI 48) - (nI x))))) _ _ dX7_readByte_185 ?_
              clear hret
              have hd : dgt n (B k) = nI 48 - nI x := by rw [he, h158]; rfl
              rw [hd] at hPN
              refine ⟨⟨fun j j0 j6 j7 j8 => by simp [up2, j0, j6, j7, j8], fun z hz => by simp [up2, upd, show ¬ z = 12 by omega, show ¬ z = 16 by omega, show ¬ z = 17 by omega, show ¬ z = 18 by omega, show ¬ z = 19 by omega, show ¬ z = 20 by omega]⟩, Or.inr ⟨rfl, o, ly, b, f + 1, false, n, ⟨by simp [up2, upd, e12], by simp [up2, upd, e16], by simp [up2, upd, bI], fun _ => ⟨by simp [up2, upd, e17], by simp [up2, upd], fun hq => by simp [up2, upd, e20 hq]⟩⟩, hPN⟩⟩
  · -- 4 f
    have h4 : ly = 0 := (nc_eq (a := ly) (b := 0) (by omega) (by omega)).mp h4
    refine cw_aload_n (pc := 7) C dX7_readByte_7 rfl 0 rfl ?_
    refine cw_iload_n (pc := 8) C dX7_readByte_8 rfl 1 rfl ?_
    refine cw_bipush (pc := 9) C dX7_readByte_9 (nI 32) (by decide) ?_
    refine cw_icmp_ne (pc := 11) (tgt := 18) C dX7_readByte_11 (by decide) (fun h11 => ?_) (fun h11 => ?_)
    · -- 11 t
      have h11 : ¬ x = 32 := (nc_ne (a := x) (b := 32) (by omega) (by omega)).mp h11
      refine cw_iload_n (pc := 18) C dX7_readByte_18 rfl 1 rfl ?_
      refine cw_put (pc := 19) C dX7_readByte_19 0 (ty := .int) rfl rfl 16 (fun _ h => List.mem_cons_of_mem _ (List.mem_append_right _ h)) tyX7_ok nmX7 (by decide) (List.mem_of_getElem? (i := 1) rfl) rfl (by decide +kernel) rfl rfl (Nat.le_of_ble_eq_true rfl) (up2 σ 0 (upd (σ 0) 16 (nI x))) (wM_p0_16 Z A _ _) ?_
      refine cw_aload_n (pc := 22) C dX7_readByte_22 rfl 0 rfl ?_
      refine cw_iconst (pc := 23) C dX7_readByte_23 (nI 0) (by decide) ?_
      refine cw_put (pc := 24) C dX7_readByte_24 0 (ty := .int) rfl rfl 17 (fun _ h => List.mem_cons_of_mem _ (List.mem_append_right _ h)) tyX7_ok nmX7 (by decide) (List.mem_of_getElem? (i := 2) rfl) rfl (by decide +kernel) rfl rfl (Nat.le_of_ble_eq_true rfl) (up2 σ 0 (upd (upd (σ 0) 16 (nI x)) 17 (nI 0))) ((wM_p0_17 Z A _ _).trans (congrArg (wM Z A) (up2_up2 _ 0 _ _))) ?_
      refine cw_aload_n (pc := 27) C dX7_readByte_27 rfl 0 rfl ?_
      refine cw_iconst (pc := 28) C dX7_readByte_28 (nI 0) (by decide) ?_
      refine cw_put (pc := 29) C dX7_readByte_29 0 (ty := .int) rfl rfl 18 (fun _ h => List.mem_cons_of_mem _ (List.mem_append_right _ h)) tyX7_ok nmX7 (by decide) (List.mem_of_getElem? (i := 3) rfl) rfl (by decide +kernel) rfl rfl (Nat.le_of_ble_eq_true rfl) (up2 σ 0 (upd (upd (upd (σ 0) 16 (nI x)) 17 (nI 0)) 18 (nI 0))) ((wM_p0_18 Z A _ _).trans (congrArg (wM Z A) (up2_up2 _ 0 _ _))) ?_
      refine cw_aload_n (pc := 32) C dX7_readByte_32 rfl 0 rfl ?_
      refine cw_get (pc := 33) C dX7_readByte_33 0 (v := .ref (A 6)) rfl rfl 9 rfl (fun _ h => List.mem_cons_of_mem _ (List.mem_append_right _ h)) (by decide) (List.mem_of_getElem? (i := 4) rfl) ?_
      refine cw_aload_n (pc := 36) C dX7_readByte_36 rfl 0 rfl ?_
      refine cw_get (pc := 37) C dX7_readByte_37 0 (v := .int ((σ 0) 12)) rfl rfl 12 rfl (fun _ h => List.mem_cons_of_mem _ (List.mem_append_right _ h)) (by decide) (List.mem_of_getElem? (i := 5) rfl) ?_
      refine cw_top (nI o) e12 ?_
      refine cw_iload_n (pc := 40) C dX7_readByte_40 rfl 1 rfl ?_
      refine cw_iast2 (pc := 41) C dX7_readByte_41 6 6 (wM_g6 Z A) (wM_s6 Z A) (f := σ 6) (up2_ne _ _ (by decide)) o rfl (by omega) (by decide) (up2 (up2 σ 0 (upd (upd (upd (σ 0) 16 (nI x)) 17 (nI 0)) 18 (nI 0))) 6 (upd (σ 6) o (nI x))) rfl ?_
      refine cw_iload_n (pc := 42) C dX7_readByte_42 rfl 1 rfl ?_
      refine cw_bipush (pc := 43) C dX7_readByte_43 (nI 32) (by decide) ?_
      refine cw_icmp_eq (pc := 45) (tgt := 56) C dX7_readByte_45 (by decide) (fun h45 => ?_) (fun h45 => ?_)
      · -- 45 t
        have h45 : x = 32 := (nc_eq (a := x) (b := 32) (by omega) (by omega)).mp h45
        refine cw_iconst (pc := 56) C dX7_readByte_56 (nI 1) (by decide) ?_
        refine cw_goto (pc := 57) (tgt := 61) C dX7_readByte_57 (by decide) ?_
        refine hret true (up2 (up2 σ 0 (upd (upd (upd (σ 0) 16 (nI x)) 17 (nI 0)) 18 (nI 0))) 6 (upd (σ 6) o (nI x))) _ _ dX7_readByte_61 ?_
        clear hret
        exact absurd h45 h11
      · -- 45 f
        have h45 : ¬ (x = 32) := fun qq => h45 ((nc_eq (a := x) (b := 32) (by omega) (by omega)).mpr qq)
        refine cw_iload_n (pc := 48) C dX7_readByte_48 rfl 1 rfl ?_
        refine cw_calls (pc := 49) C dX7_readByte_49 (c_X7_wantsOf l D Z A (up2 (up2 σ 0 (upd (upd (upd (σ 0) 16 (nI x)) 17 (nI 0)) 18 (nI 0))) 6 (upd (σ 6) o (nI x))) x hx) (va_cwS 1 C.1.2.2.2.2 gX7_readByte_X7_wantsOf rfl rfl rfl (by decide +kernel) ⟨Nat.le_of_ble_eq_true rfl, Nat.le_of_ble_eq_true rfl⟩) rfl rfl (Nat.le_of_ble_eq_true rfl) (cw_pure (v := wantI x) (fun _ _ h => h) ?_)
        refine cw_iconst (pc := 52) C dX7_readByte_52 (-1) (by decide) ?_
        refine cw_icmp_eq (pc := 53) (tgt := 60) C dX7_readByte_53 (by decide) (fun h53 => ?_) (fun h53 => ?_)
        · -- 53 t
          refine cw_iconst (pc := 60) C dX7_readByte_60 (nI 0) (by decide) ?_
          refine hret false (up2 (up2 σ 0 (upd (upd (upd (σ 0) 16 (nI x)) 17 (nI 0)) 18 (nI 0))) 6 (upd (σ 6) o (nI x))) _ _ dX7_readByte_61 ?_
          clear hret
          exact ⟨⟨fun j j0 j6 j7 j8 => by simp [up2, j0, j6, j7, j8], fun z hz => by simp [up2, upd, show ¬ z = 12 by omega, show ¬ z = 16 by omega, show ¬ z = 17 by omega, show ¬ z = 18 by omega, show ¬ z = 19 by omega, show ¬ z = 20 by omega]⟩, Or.inl ⟨rfl, ph_bad0 hL hP h4 hk hx he h11 (wantI_t h53)⟩⟩
        · -- 53 f
          refine cw_iconst (pc := 56) C dX7_readByte_56 (nI 1) (by decide) ?_
          refine cw_goto (pc := 57) (tgt := 61) C dX7_readByte_57 (by decide) ?_
          refine hret true (up2 (up2 σ 0 (upd (upd (upd (σ 0) 16 (nI x)) 17 (nI 0)) 18 (nI 0))) 6 (upd (σ 6) o (nI x))) _ _ dX7_readByte_61 ?_
          clear hret
          refine ⟨⟨fun j j0 j6 j7 j8 => by simp [up2, j0, j6, j7, j8], fun z hz => by simp [up2, upd, show ¬ z = 12 by omega, show ¬ z = 16 by omega, show ¬ z = 17 by omega, show ¬ z = 18 by omega, show ¬ z = 19 by omega, show ¬ z = 20 by omega]⟩, Or.inr ⟨rfl, o, x, 0, 0, w, n, ⟨by simp [up2, upd, e12], by simp [up2, upd], by simp [up2, upd, e19], fun _ => ⟨by simp [up2, upd], by simp [up2, upd], fun hq => absurd rfl hq⟩⟩, ph_let hP h4 hk hx he h11 (wantI_f h53)⟩⟩
    · -- 11 f
      have h11 : x = 32 := (nc_eq (a := x) (b := 32) (by omega) (by omega)).mp h11
      refine cw_iconst (pc := 14) C dX7_readByte_14 (nI 0) (by decide) ?_
      refine cw_goto (pc := 15) (tgt := 19) C dX7_readByte_15 (by decide) ?_
      refine cw_put (pc := 19) C dX7_readByte_19 0 (ty := .int) rfl rfl 16 (fun _ h => List.mem_cons_of_mem _ (List.mem_append_right _ h)) tyX7_ok nmX7 (by decide) (List.mem_of_getElem? (i := 1) rfl) rfl (by decide +kernel) rfl rfl (Nat.le_of_ble_eq_true rfl) (up2 σ 0 (upd (σ 0) 16 (nI 0))) (wM_p0_16 Z A _ _) ?_
      refine cw_aload_n (pc := 22) C dX7_readByte_22 rfl 0 rfl ?_
      refine cw_iconst (pc := 23) C dX7_readByte_23 (nI 0) (by decide) ?_
      refine cw_put (pc := 24) C dX7_readByte_24 0 (ty := .int) rfl rfl 17 (fun _ h => List.mem_cons_of_mem _ (List.mem_append_right _ h)) tyX7_ok nmX7 (by decide) (List.mem_of_getElem? (i := 2) rfl) rfl (by decide +kernel) rfl rfl (Nat.le_of_ble_eq_true rfl) (up2 σ 0 (upd (upd (σ 0) 16 (nI 0)) 17 (nI 0))) ((wM_p0_17 Z A _ _).trans (congrArg (wM Z A) (up2_up2 _ 0 _ _))) ?_
      refine cw_aload_n (pc := 27) C dX7_readByte_27 rfl 0 rfl ?_
      refine cw_iconst (pc := 28) C dX7_readByte_28 (nI 0) (by decide) ?_
      refine cw_put (pc := 29) C dX7_readByte_29 0 (ty := .int) rfl rfl 18 (fun _ h => List.mem_cons_of_mem _ (List.mem_append_right _ h)) tyX7_ok nmX7 (by decide) (List.mem_of_getElem? (i := 3) rfl) rfl (by decide +kernel) rfl rfl (Nat.le_of_ble_eq_true rfl) (up2 σ 0 (upd (upd (upd (σ 0) 16 (nI 0)) 17 (nI 0)) 18 (nI 0))) ((wM_p0_18 Z A _ _).trans (congrArg (wM Z A) (up2_up2 _ 0 _ _))) ?_
      refine cw_aload_n (pc := 32) C dX7_readByte_32 rfl 0 rfl ?_
      refine cw_get (pc := 33) C dX7_readByte_33 0 (v := .ref (A 6)) rfl rfl 9 rfl (fun _ h => List.mem_cons_of_mem _ (List.mem_append_right _ h)) (by decide) (List.mem_of_getElem? (i := 4) rfl) ?_
      refine cw_aload_n (pc := 36) C dX7_readByte_36 rfl 0 rfl ?_
      refine cw_get (pc := 37) C dX7_readByte_37 0 (v := .int ((σ 0) 12)) rfl rfl 12 rfl (fun _ h => List.mem_cons_of_mem _ (List.mem_append_right _ h)) (by decide) (List.mem_of_getElem? (i := 5) rfl) ?_
      refine cw_top (nI o) e12 ?_
      refine cw_iload_n (pc := 40) C dX7_readByte_40 rfl 1 rfl ?_
      refine cw_iast2 (pc := 41) C dX7_readByte_41 6 6 (wM_g6 Z A) (wM_s6 Z A) (f := σ 6) (up2_ne _ _ (by decide)) o rfl (by omega) (by decide) (up2 (up2 σ 0 (upd (upd (upd (σ 0) 16 (nI 0)) 17 (nI 0)) 18 (nI 0))) 6 (upd (σ 6) o (nI x))) rfl ?_
      refine cw_iload_n (pc := 42) C dX7_readByte_42 rfl 1 rfl ?_
      refine cw_bipush (pc := 43) C dX7_readByte_43 (nI 32) (by decide) ?_
      refine cw_icmp_eq (pc := 45) (tgt := 56) C dX7_readByte_45 (by decide) (fun h45 => ?_) (fun h45 => ?_)
      · -- 45 t
        have h45 : x = 32 := (nc_eq (a := x) (b := 32) (by omega) (by omega)).mp h45
        refine cw_iconst (pc := 56) C dX7_readByte_56 (nI 1) (by decide) ?_
        refine cw_goto (pc := 57) (tgt := 61) C dX7_readByte_57 (by decide) ?_
        refine hret true (up2 (up2 σ 0 (upd (upd (upd (σ 0) 16 (nI 0)) 17 (nI 0)) 18 (nI 0))) 6 (upd (σ 6) o (nI x))) _ _ dX7_readByte_61 ?_
        clear hret
        refine ⟨⟨fun j j0 j6 j7 j8 => by simp [up2, j0, j6, j7, j8], fun z hz => by simp [up2, upd, show ¬ z = 12 by omega, show ¬ z = 16 by omega, show ¬ z = 17 by omega, show ¬ z = 18 by omega, show ¬ z = 19 by omega, show ¬ z = 20 by omega]⟩, Or.inr ⟨rfl, o, 0, 0, 0, w, n, ⟨by simp [up2, upd, e12], by simp [up2, upd, e16], by simp [up2, upd, e19], fun hq => absurd rfl hq⟩, ph_blank0 hP h4 hk (by rw [he, h11]) 0 0 (nI x)⟩⟩
      · -- 45 f
        have h45 : ¬ (x = 32) := fun qq => h45 ((nc_eq (a := x) (b := 32) (by omega) (by omega)).mpr qq)
        refine cw_iload_n (pc := 48) C dX7_readByte_48 rfl 1 rfl ?_
        refine cw_calls (pc := 49) C dX7_readByte_49 (c_X7_wantsOf l D Z A (up2 (up2 σ 0 (upd (upd (upd (σ 0) 16 (nI 0)) 17 (nI 0)) 18 (nI 0))) 6 (upd (σ 6) o (nI x))) x hx) (va_cwS 1 C.1.2.2.2.2 gX7_readByte_X7_wantsOf rfl rfl rfl (by decide +kernel) ⟨Nat.le_of_ble_eq_true rfl, Nat.le_of_ble_eq_true rfl⟩) rfl rfl (Nat.le_of_ble_eq_true rfl) (cw_pure (v := wantI x) (fun _ _ h => h) ?_)
        refine cw_iconst (pc := 52) C dX7_readByte_52 (-1) (by decide) ?_
        refine cw_icmp_eq (pc := 53) (tgt := 60) C dX7_readByte_53 (by decide) (fun h53 => ?_) (fun h53 => ?_)
        · -- 53 t
          refine cw_iconst (pc := 60) C dX7_readByte_60 (nI 0) (by decide) ?_
          refine hret false (up2 (up2 σ 0 (upd (upd (upd (σ 0) 16 (nI 0)) 17 (nI 0)) 18 (nI 0))) 6 (upd (σ 6) o (nI x))) _ _ dX7_readByte_61 ?_
          clear hret
          exact absurd h11 h45
        · -- 53 f
          refine cw_iconst (pc := 56) C dX7_readByte_56 (nI 1) (by decide) ?_
          refine cw_goto (pc := 57) (tgt := 61) C dX7_readByte_57 (by decide) ?_
          refine hret true (up2 (up2 σ 0 (upd (upd (upd (σ 0) 16 (nI 0)) 17 (nI 0)) 18 (nI 0))) 6 (upd (σ 6) o (nI x))) _ _ dX7_readByte_61 ?_
          clear hret
          exact absurd h11 h45
set_option maxHeartbeats 4000000 in
set_option maxRecDepth 100000 in
theorem c_X7_readText (l : Launch) (D : va_G) (Z : CZ) (A : Nat → Nat) (σ : St) (L : Nat)  (e8 : σ 0 8 = nI L) (hL : L ≤ 150) (hB : byOK (σ 5) L) : CTi l yX7_readText wsX7_readText 3 64 D Z (wM Z A) σ [.ref (A 0)] (fun r σ' => mkp σ σ' ∧ ∃ n, prsC (σ 5) L n r ∧ (r = -1 → σ' 0 12 = nI n ∧ ordsM (σ 5) L n (σ' 6) (σ' 7) (σ' 8))) := by
  refine CTi.mk (cc := cX7_readText) (nL := 2) (own := RX7) rfl (by decide) rfl (Nat.le_of_ble_eq_true rfl) ?_
  intro p0 e0 s0 m0 g0 b0 t0 c0 A0 Q C hret
  refine cw_lv (lv' := [(0, .ref (A 0))]) [0] rfl ?_
  refine cw_aload_n (pc := 0) C dX7_readText_0 rfl 0 rfl ?_
  refine cw_iconst (pc := 1) C dX7_readText_1 (nI 0) (by decide) ?_
  refine cw_put (pc := 2) C dX7_readText_2 0 (ty := .int) rfl rfl 12 (fun _ h => List.mem_cons_of_mem _ (List.mem_append_right _ h)) tyX7_ok nmX7 (by decide) (List.mem_of_getElem? (i := 1) rfl) rfl (by decide +kernel) rfl rfl (Nat.le_of_ble_eq_true rfl) (up2 σ 0 (upd (σ 0) 12 (nI 0))) (wM_p0_12 Z A _ _) ?_
  refine cw_aload_n (pc := 5) C dX7_readText_5 rfl 0 rfl ?_
  refine cw_get (pc := 6) C dX7_readText_6 0 (v := .ref (A 7)) rfl rfl 10 rfl (fun _ h => List.mem_cons_of_mem _ (List.mem_append_right _ h)) (by decide) (List.mem_of_getElem? (i := 2) rfl) ?_
  refine cw_iconst (pc := 9) C dX7_readText_9 (nI 0) (by decide) ?_
  refine cw_iconst (pc := 10) C dX7_readText_10 (nI 0) (by decide) ?_
  refine cw_iast2 (pc := 11) C dX7_readText_11 7 7 (wM_g7 Z A) (wM_s7 Z A) (f := σ 7) (up2_ne _ _ (by decide)) 0 rfl (by decide) (by decide) (up2 (up2 σ 0 (upd (σ 0) 12 (nI 0))) 7 (upd (σ 7) 0 (nI 0))) rfl ?_
  refine cw_aload_n (pc := 12) C dX7_readText_12 rfl 0 rfl ?_
  refine cw_iconst (pc := 13) C dX7_readText_13 (nI 0) (by decide) ?_
  refine cw_put (pc := 14) C dX7_readText_14 0 (ty := .int) rfl rfl 16 (fun _ h => List.mem_cons_of_mem _ (List.mem_append_right _ h)) tyX7_ok nmX7 (by decide) (List.mem_of_getElem? (i := 3) rfl) rfl (by decide +kernel) rfl rfl (Nat.le_of_ble_eq_true rfl) (up2 (up2 σ 0 (upd (upd (σ 0) 12 (nI 0)) 16 (nI 0))) 7 (upd (σ 7) 0 (nI 0))) ((wM_p0_16 Z A _ _).trans (congrArg (wM Z A) ((up2_comm _ _ _ (by decide)).trans (congrArg (fun qz => up2 qz 7 (upd (σ 7) 0 (nI 0))) (up2_up2 _ 0 _ _))))) ?_
  refine cw_aload_n (pc := 17) C dX7_readText_17 rfl 0 rfl ?_
  refine cw_iconst (pc := 18) C dX7_readText_18 (nI 0) (by decide) ?_
  refine cw_put (pc := 19) C dX7_readText_19 0 (ty := .boolean) rfl rfl 19 (fun _ h => List.mem_cons_of_mem _ (List.mem_append_right _ h)) tyX7_ok nmX7 (by decide) (List.mem_of_getElem? (i := 4) rfl) rfl (by decide +kernel) rfl rfl (Nat.le_of_ble_eq_true rfl) (up2 (up2 σ 0 (upd (upd (upd (σ 0) 12 (nI 0)) 16 (nI 0)) 19 (nI 0))) 7 (upd (σ 7) 0 (nI 0))) ((wM_p0_19 Z A _ _).trans (congrArg (wM Z A) ((up2_comm _ _ _ (by decide)).trans (congrArg (fun qz => up2 qz 7 (upd (σ 7) 0 (nI 0))) (up2_up2 _ 0 _ _))))) ?_
  refine cw_iconst (pc := 22) C dX7_readText_22 (nI 0) (by decide) ?_
  refine cw_istore_n (pc := 23) C dX7_readText_23 rfl (by decide) (lv' := [(1, .int (nI 0)), (0, .ref (A 0))]) rfl ?_
  have L24 : ∀ (n24 : Nat) (k : Nat) (s24 : St) (o : Nat) (ly : Nat) (b : Nat) (f : Nat) (w : Bool) (n : Bool) (hkp : mkp σ s24) (hS : stP s24 o ly b f w n) (hP : PH (σ 5) L k o ly b f w n (s24 6) (s24 7) (s24 8)) (hkL0 : k ≤ L) (hm : L < k + n24), CW p0 l e0 (rmC 3 64) s0 m0 g0 b0 t0 c0 D A0 2 (wM Z A) Q s24 24 [(0, .ref (A 0)), (1, .int (nI k))] [] := by
    intro n24
    induction n24 with
    | zero => intro k s24 o ly b f w n hkp hS hP hkL0 hm; exact absurd hm (by omega)
    | succ n24 ih24 =>
      intro k s24 o ly b f w n hkp hS hP hkL0 hm
      refine cw_iload_n (pc := 24) C dX7_readText_24 rfl 1 rfl ?_
      refine cw_aload_n (pc := 25) C dX7_readText_25 rfl 0 rfl ?_
      refine cw_get (pc := 26) C dX7_readText_26 0 (v := .int (s24 0 8)) rfl rfl 8 rfl (fun _ h => List.mem_cons_of_mem _ (List.mem_append_right _ h)) (by decide) (List.mem_of_getElem? (i := 5) rfl) ?_
      refine cw_top (nI L) ((hkp.2 8 (by decide)).trans e8) ?_
      refine cw_icmp_ge (pc := 29) (tgt := 53) C dX7_readText_29 (by decide) (fun h29 => ?_) (fun h29 => ?_)
      · -- 29 t
        have h29 : L ≤ k := (nc_ge (a := k) (b := L) (by omega) (by omega)).mp h29
        have hkL : L = k := by omega
        subst hkL
        have hob := (ph_bd hL hP).1
        have hy31 : ly < 2 ^ 31 := by
          by_cases q : ly = 0
          · omega
          · have := (ph_l hP q).1.1.2.2.2.1; omega
        refine cw_aload_n (pc := 53) C dX7_readText_53 rfl 0 rfl ?_
        refine cw_get (pc := 54) C dX7_readText_54 0 (v := .int (s24 0 16)) rfl rfl 16 rfl (fun _ h => List.mem_cons_of_mem _ (List.mem_append_right _ h)) (by decide) (List.mem_of_getElem? (i := 3) rfl) ?_
        refine cw_top (nI ly) hS.2.1 ?_
        refine cw_if_ne (pc := 57) (tgt := 67) C dX7_readText_57 (by decide) (fun h57 => ?_) (fun h57 => ?_)
        · -- 57 t
          have h57 : ¬ ly = 0 := (nc_ne (a := ly) (b := 0) (by omega) (by omega)).mp h57
          refine cw_aload_n (pc := 67) C dX7_readText_67 rfl 0 rfl ?_
          refine cw_get (pc := 68) C dX7_readText_68 0 (v := .int (s24 0 8)) rfl rfl 8 rfl (fun _ h => List.mem_cons_of_mem _ (List.mem_append_right _ h)) (by decide) (List.mem_of_getElem? (i := 5) rfl) ?_
          refine cw_top (nI L) ((hkp.2 8 (by decide)).trans e8) ?_
          refine cw_goto (pc := 71) (tgt := 75) C dX7_readText_71 (by decide) ?_
          refine hret (nI L) s24 _ _ dX7_readText_75 ?_
          clear hret
          obtain ⟨m, hm9⟩ := ph_endL hL hP h57
          exact ⟨hkp, m, hm9, fun q => absurd q (nI_nm1 (by omega))⟩
        · -- 57 f
          have h57 : ly = 0 := (nc_eq (a := ly) (b := 0) (by omega) (by omega)).mp h57
          refine cw_aload_n (pc := 60) C dX7_readText_60 rfl 0 rfl ?_
          refine cw_get (pc := 61) C dX7_readText_61 0 (v := .int (s24 0 12)) rfl rfl 12 rfl (fun _ h => List.mem_cons_of_mem _ (List.mem_append_right _ h)) (by decide) (List.mem_of_getElem? (i := 1) rfl) ?_
          refine cw_top (nI o) hS.1 ?_
          refine cw_if_ne (pc := 64) (tgt := 74) C dX7_readText_64 (by decide) (fun h64 => ?_) (fun h64 => ?_)
          · -- 64 t
            have h64 : ¬ o = 0 := (nc_ne (a := o) (b := 0) (by omega) (by omega)).mp h64
            refine cw_iconst (pc := 74) C dX7_readText_74 (-1) (by decide) ?_
            refine hret (-1) s24 _ _ dX7_readText_75 ?_
            clear hret
            exact ⟨hkp, o, (ph_end0 hL hP h57).2 h64, fun _ => ⟨hS.1, hP.2.1⟩⟩
          · -- 64 f
            have h64 : o = 0 := (nc_eq (a := o) (b := 0) (by omega) (by omega)).mp h64
            refine cw_aload_n (pc := 67) C dX7_readText_67 rfl 0 rfl ?_
            refine cw_get (pc := 68) C dX7_readText_68 0 (v := .int (s24 0 8)) rfl rfl 8 rfl (fun _ h => List.mem_cons_of_mem _ (List.mem_append_right _ h)) (by decide) (List.mem_of_getElem? (i := 5) rfl) ?_
            refine cw_top (nI L) ((hkp.2 8 (by decide)).trans e8) ?_
            refine cw_goto (pc := 71) (tgt := 75) C dX7_readText_71 (by decide) ?_
            refine hret (nI L) s24 _ _ dX7_readText_75 ?_
            clear hret
            obtain ⟨m, hm9⟩ := (ph_end0 hL hP h57).1 h64
            exact ⟨hkp, m, hm9, fun q => absurd q (nI_nm1 (by omega))⟩
      · -- 29 f
        have h29 : ¬ (L ≤ k) := fun qq => h29 ((nc_ge (a := k) (b := L) (by omega) (by omega)).mpr qq)
        obtain ⟨x, hx, he⟩ := hB k (by omega)
        have hob := (ph_bd hL hP).1
        refine cw_aload_n (pc := 32) C dX7_readText_32 rfl 0 rfl ?_
        refine cw_aload_n (pc := 33) C dX7_readText_33 rfl 0 rfl ?_
        refine cw_get (pc := 34) C dX7_readText_34 0 (v := .ref (A 5)) rfl rfl 7 rfl (fun _ h => List.mem_cons_of_mem _ (List.mem_append_right _ h)) (by decide) (List.mem_of_getElem? (i := 6) rfl) ?_
        refine cw_iload_n (pc := 37) C dX7_readText_37 rfl 1 rfl ?_
        refine cw_iald2 (pc := 38) C dX7_readText_38 5 5 (wM_g5 Z A) (f := s24 5) rfl k rfl (by omega) (by decide) ?_
        refine cw_top (nI x) ((congrFun (hkp.1 5 (by decide) (by decide) (by decide) (by decide)) k).trans he) ?_
        refine cw_calli (pc := 39) C dX7_readText_39 (c_X7_readByte l D Z A s24 (σ 5) L k o ly b f w n x hS hP (by omega) hL hx he) (cwV 1 C.1.2.2.2.2 gX7_readText_X7_readByte rfl rfl rfl (by decide +kernel) ⟨Nat.le_of_ble_eq_true rfl, Nat.le_of_ble_eq_true rfl⟩) 0 rfl rfl rfl rfl (Nat.le_of_ble_eq_true rfl) (fun r σ1 hr => ?_)
        obtain ⟨z, rfl, hkp2, hr⟩ := hr
        rcases hr with ⟨rfl, hbad⟩ | ⟨rfl, o2, y2, b2, f2, w2, n2, hS2, hP2⟩
        · -- a fault
          refine cw_if_ne (pc := 42) (tgt := 47) C dX7_readText_42 (by decide) (fun h => False.elim (by revert h; decide)) (fun _ => ?_)
          refine cw_iload_n (pc := 45) C dX7_readText_45 rfl 1 rfl ?_
          refine hret (nI k) σ1 _ _ dX7_readText_46 ?_
          clear hret
          obtain ⟨m, hm9⟩ := hbad
          exact ⟨mkp_tr hkp hkp2, m, hm9, fun q => absurd q (nI_nm1 (by omega))⟩
        · -- read
          refine cw_if_ne (pc := 42) (tgt := 47) C dX7_readText_42 (by decide) (fun _ => ?_) (fun h => False.elim (by revert h; decide))
          refine cw_iinc (pc := 47) C dX7_readText_47 1 rfl (nI (k + 1)) (nI_inc _ 1) (by decide) (lv' := [(1, .int (nI (k + 1))), (0, .ref (A 0))]) rfl ?_
          refine cw_goto (pc := 50) (tgt := 24) C dX7_readText_50 (by decide) ?_
          refine cw_lv [1, 0] rfl ?_
          exact ih24 (k + 1) σ1 o2 y2 b2 f2 w2 n2 (mkp_tr hkp hkp2) hS2 hP2 (by omega) (by omega)
  refine cw_lv [1, 0] rfl ?_
  exact L24 (L + 1) 0 (up2 (up2 σ 0 (upd (upd (upd (σ 0) 12 (nI 0)) 16 (nI 0)) 19 (nI 0))) 7 (upd (σ 7) 0 (nI 0))) 0 0 0 0 false false (⟨fun j j0 j6 j7 j8 => by simp [up2, j0, j7], fun z hz => by simp [up2, upd, show ¬ z = 12 by omega, show ¬ z = 16 by omega, show ¬ z = 19 by omega]⟩) (⟨by simp [up2, upd], by simp [up2, upd], by simp [up2, upd, bI], fun hq => absurd rfl hq⟩) ph_start (Nat.zero_le _) (by omega)
