set_option maxHeartbeats 4000000 in
set_option maxRecDepth 100000 in
theorem c_L_low (l : Launch) (D : va_G) (Z : CZ) (A : Nat → Nat) (σ : St)  (v : Int32) (n : Nat) (hn : ¬ nI n = 0) : CTi l yL_low wsL_low 0 0 D Z (wC Z A) σ [.int (v), .int (nI n)] (fun r σ' => r = lowI v n ∧ σ' = σ) := by
  refine CTi.mk (cc := cL_low) (nL := 2) (own := RL) rfl (by decide) rfl (Nat.le_of_ble_eq_true rfl) ?_
  intro p0 e0 s0 m0 g0 b0 t0 c0 A0 Q C hret
  refine cw_lv (lv' := [(0, .int (v)), (1, .int (nI n))]) [0, 1] rfl ?_
  refine cw_iload_n (pc := 0) C dL_low_0 rfl 0 rfl ?_
  refine cw_ldc (pc := 1) C dL_low_1 (v := 2147483647) (List.mem_of_getElem? (i := 1) rfl) ?_
  refine cw_iand (pc := 3) C dL_low_3 (z := v &&& 2147483647) rfl ?_
  refine cw_iload_n (pc := 4) C dL_low_4 rfl 1 rfl ?_
  refine cw_irem (pc := 5) C dL_low_5 hn (z := (v &&& 2147483647) - (v &&& 2147483647) / (nI n) * (nI n)) rfl ?_
  refine hret ((v &&& 2147483647) - (v &&& 2147483647) / (nI n) * (nI n)) σ _ _ dL_low_6 ?_
  clear hret
  exact ⟨rfl, rfl⟩
set_option maxHeartbeats 4000000 in
set_option maxRecDepth 100000 in
theorem c_L_whole (l : Launch) (D : va_G) (Z : CZ) (A : Nat → Nat) (σ : St) (X F : Nat → Int32) (K : Nat → Nat → Int32) (nn M : Nat)  (h : absP σ X F K nn M) : CTl l yL_whole wsL_whole 5 108 D Z (wC Z A) σ [.ref (A 0)] (fun r σ' => r = whF X ∧ absP σ' X F K nn M) := by
  refine CTl.mk (cc := cL_whole) (nL := 4) (own := RL) rfl (by decide) rfl (Nat.le_of_ble_eq_true rfl) ?_
  intro p0 e0 s0 m0 g0 b0 t0 c0 A0 Q C hret
  refine cw_lv (lv' := [(0, .ref (A 0))]) [0] rfl ?_
  refine cw_ldc2 (pc := 0) C dL_whole_0 (v := 41) (List.mem_of_getElem? (i := 1) rfl) ?_
  refine cw_lstore_n (pc := 3) C dL_whole_3 rfl (by decide) (lv' := [(1, .long (41)), (0, .ref (A 0))]) rfl ?_
  refine cw_iconst (pc := 4) C dL_whole_4 (nI 0) (by decide) ?_
  refine cw_istore_n (pc := 5) C dL_whole_5 rfl (by decide) (lv' := [(3, .int (nI 0)), (1, .long (41)), (0, .ref (A 0))]) rfl ?_
  have L6 : ∀ (n6 : Nat) (k : Nat) (hh : Int64) (σa : St) (hk : k ≤ 35) (hm : 35 < k + n6) (he : hh = dgF (wfO X) k 41) (hba : absP σa X F K nn M), CW p0 l e0 (rmC 5 108) s0 m0 g0 b0 t0 c0 D A0 4 (wC Z A) Q σa 6 [(0, .ref (A 0)), (1, .long (hh)), (3, .int (nI k))] [] := by
    intro n6
    induction n6 with
    | zero => intro k hh σa hk hm he hba; exact absurd hm (by omega)
    | succ n6 ih6 =>
      intro k hh σa hk hm he hba
      refine cw_iload_n (pc := 6) C dL_whole_6 rfl 2 rfl ?_
      refine cw_bipush (pc := 7) C dL_whole_7 (nI 35) (by decide) ?_
      refine cw_icmp_ge (pc := 9) (tgt := 38) C dL_whole_9 (by decide) (fun h9 => ?_) (fun h9 => ?_)
      · -- 9 t
        have h9 : 35 ≤ k := (nc_ge (a := k) (b := 35) (by omega) (by omega)).mp h9
        obtain rfl : k = 35 := by omega
        refine cw_iconst (pc := 38) C dL_whole_38 (nI 0) (by decide) ?_
        refine cw_istore_n (pc := 39) C dL_whole_39 rfl (by decide) (lv' := [(3, .int (nI 0)), (0, .ref (A 0)), (1, .long (hh))]) rfl ?_
        have L40 : ∀ (n40 : Nat) (k : Nat) (hh : Int64) (σb : St) (hk : k ≤ 20) (hm : 20 < k + n40) (he : hh = dgF (wfC X) k (dgF (wfO X) 35 41)) (hbb : absP σb X F K nn M), CW p0 l e0 (rmC 5 108) s0 m0 g0 b0 t0 c0 D A0 4 (wC Z A) Q σb 40 [(0, .ref (A 0)), (1, .long (hh)), (3, .int (nI k))] [] := by
          intro n40
          induction n40 with
          | zero => intro k hh σb hk hm he hbb; exact absurd hm (by omega)
          | succ n40 ih40 =>
            intro k hh σb hk hm he hbb
            refine cw_iload_n (pc := 40) C dL_whole_40 rfl 2 rfl ?_
            refine cw_bipush (pc := 41) C dL_whole_41 (nI 20) (by decide) ?_
            refine cw_icmp_ge (pc := 43) (tgt := 70) C dL_whole_43 (by decide) (fun h43 => ?_) (fun h43 => ?_)
            · -- 43 t
              have h43 : 20 ≤ k := (nc_ge (a := k) (b := 20) (by omega) (by omega)).mp h43
              obtain rfl : k = 20 := by omega
              refine cw_iconst (pc := 70) C dL_whole_70 (nI 0) (by decide) ?_
              refine cw_istore_n (pc := 71) C dL_whole_71 rfl (by decide) (lv' := [(3, .int (nI 0)), (0, .ref (A 0)), (1, .long (hh))]) rfl ?_
              have L72 : ∀ (n72 : Nat) (k : Nat) (hh : Int64) (σc : St) (hk : k ≤ 13) (hm : 13 < k + n72) (he : hh = dgF (wfS X) k (dgF (wfC X) 20 (dgF (wfO X) 35 41))) (hbc : absP σc X F K nn M), CW p0 l e0 (rmC 5 108) s0 m0 g0 b0 t0 c0 D A0 4 (wC Z A) Q σc 72 [(0, .ref (A 0)), (1, .long (hh)), (3, .int (nI k))] [] := by
                intro n72
                induction n72 with
                | zero => intro k hh σc hk hm he hbc; exact absurd hm (by omega)
                | succ n72 ih72 =>
                  intro k hh σc hk hm he hbc
                  refine cw_iload_n (pc := 72) C dL_whole_72 rfl 2 rfl ?_
                  refine cw_bipush (pc := 73) C dL_whole_73 (nI 13) (by decide) ?_
                  refine cw_icmp_ge (pc := 75) (tgt := 97) C dL_whole_75 (by decide) (fun h75 => ?_) (fun h75 => ?_)
                  · -- 75 t
                    have h75 : 13 ≤ k := (nc_ge (a := k) (b := 13) (by omega) (by omega)).mp h75
                    obtain rfl : k = 13 := by omega
                    refine cw_lload_n (pc := 97) C dL_whole_97 rfl 1 rfl ?_
                    refine hret hh σc _ _ dL_whole_98 ?_
                    clear hret
                    exact ⟨by rw [he]; rfl, hbc⟩
                  · -- 75 f
                    have h75 : ¬ (13 ≤ k) := fun qq => h75 ((nc_ge (a := k) (b := 13) (by omega) (by omega)).mpr qq)
                    refine cw_ldc2 (pc := 78) C dL_whole_78 (v := 31) (List.mem_of_getElem? (i := 2) rfl) ?_
                    refine cw_lload_n (pc := 81) C dL_whole_81 rfl 1 rfl ?_
                    refine cw_lmul (pc := 82) C dL_whole_82 ?_
                    refine cw_aload_n (pc := 83) C dL_whole_83 rfl 0 rfl ?_
                    refine cw_iload_n (pc := 84) C dL_whole_84 rfl 2 rfl ?_
                    refine cw_calli (pc := 85) C dL_whole_85 (w_state l D Z A σc X F K nn M (nI k) hbc) (cwV 1 C.1.2.2.2.2 gL_whole_X6_state rfl rfl rfl (by decide +kernel) ⟨Nat.le_of_ble_eq_true rfl, Nat.le_of_ble_eq_true rfl⟩) 0 rfl rfl rfl rfl (Nat.le_of_ble_eq_true rfl) (fun r1 σ1 hr1 => ?_)
                    rw [ansF_sa (by omega)] at hr1
                    obtain ⟨rfl, h1⟩ := hr1
                    have h1 : absP σ1 X F K nn M := h1
                    refine cw_top (ansV (saA X (nI k))) rfl ?_
                    refine cw_i2l (pc := 88) C dL_whole_88 ?_
                    refine cw_ladd (pc := 89) C dL_whole_89 ?_
                    refine cw_lstore_n (pc := 90) C dL_whole_90 rfl (by decide) (lv' := [(1, .long ((31 * hh) + ((ansV (saA X (nI k))).toInt64))), (0, .ref (A 0)), (3, .int (nI k))]) rfl ?_
                    refine cw_iinc (pc := 91) C dL_whole_91 2 rfl (nI (k + 1)) (nI_inc _ 1) (by decide) (lv' := [(3, .int (nI (k + 1))), (1, .long ((31 * hh) + ((ansV (saA X (nI k))).toInt64))), (0, .ref (A 0))]) rfl ?_
                    refine cw_goto (pc := 94) (tgt := 72) C dL_whole_94 (by decide) ?_
                    refine cw_lv [2, 1, 0] rfl ?_
                    exact ih72 (k + 1) ((31 * hh) + ((ansV (saA X (nI k))).toInt64)) σ1 (by omega) (by omega) (by rw [dgF_s, he]; rfl) h1
              refine cw_lv [1, 2, 0] rfl ?_
              exact L72 14 0 hh σb (by omega) (by omega) (by rw [dgF_z, he]) hbb
            · -- 43 f
              have h43 : ¬ (20 ≤ k) := fun qq => h43 ((nc_ge (a := k) (b := 20) (by omega) (by omega)).mpr qq)
              refine cw_ldc2 (pc := 46) C dL_whole_46 (v := 31) (List.mem_of_getElem? (i := 2) rfl) ?_
              refine cw_lload_n (pc := 49) C dL_whole_49 rfl 1 rfl ?_
              refine cw_lmul (pc := 50) C dL_whole_50 ?_
              refine cw_aload_n (pc := 51) C dL_whole_51 rfl 0 rfl ?_
              refine cw_iload_n (pc := 52) C dL_whole_52 rfl 2 rfl ?_
              refine cw_iconst (pc := 53) C dL_whole_53 (nI 4) (by decide) ?_
              refine cw_idiv (pc := 54) C dL_whole_54 (by decide) (z := nI (k / 4)) (pk_div (by omega) (by omega) (by omega)) ?_
              refine cw_iload_n (pc := 55) C dL_whole_55 rfl 2 rfl ?_
              refine cw_iconst (pc := 56) C dL_whole_56 (nI 4) (by decide) ?_
              refine cw_irem (pc := 57) C dL_whole_57 (by decide) (z := nI (k % 4)) (pk_rem (by omega) (by omega) (by omega)) ?_
              refine cw_calli (pc := 58) C dL_whole_58 (w_clutch l D Z A σb X F K nn M (nI (k / 4)) (nI (k % 4)) hbb) (cwV 2 C.1.2.2.2.2 gL_whole_X6_clutch rfl rfl rfl (by decide +kernel) ⟨Nat.le_of_ble_eq_true rfl, Nat.le_of_ble_eq_true rfl⟩) 0 rfl rfl rfl rfl (Nat.le_of_ble_eq_true rfl) (fun r2 σ2 hr2 => ?_)
              rw [ansF_cl (by omega) (by omega)] at hr2
              obtain ⟨rfl, h2⟩ := hr2
              have h2 : absP σ2 X F K nn M := h2
              refine cw_top (ansV (clA X (nI (k / 4)) (nI (k % 4)))) rfl ?_
              refine cw_i2l (pc := 61) C dL_whole_61 ?_
              refine cw_ladd (pc := 62) C dL_whole_62 ?_
              refine cw_lstore_n (pc := 63) C dL_whole_63 rfl (by decide) (lv' := [(1, .long ((31 * hh) + ((ansV (clA X (nI (k / 4)) (nI (k % 4)))).toInt64))), (0, .ref (A 0)), (3, .int (nI k))]) rfl ?_
              refine cw_iinc (pc := 64) C dL_whole_64 2 rfl (nI (k + 1)) (nI_inc _ 1) (by decide) (lv' := [(3, .int (nI (k + 1))), (1, .long ((31 * hh) + ((ansV (clA X (nI (k / 4)) (nI (k % 4)))).toInt64))), (0, .ref (A 0))]) rfl ?_
              refine cw_goto (pc := 67) (tgt := 40) C dL_whole_67 (by decide) ?_
              refine cw_lv [2, 1, 0] rfl ?_
              exact ih40 (k + 1) ((31 * hh) + ((ansV (clA X (nI (k / 4)) (nI (k % 4)))).toInt64)) σ2 (by omega) (by omega) (by rw [dgF_s, he]; rfl) h2
        refine cw_lv [1, 2, 0] rfl ?_
        exact L40 21 0 hh σa (by omega) (by omega) (by rw [dgF_z, he]) hba
      · -- 9 f
        have h9 : ¬ (35 ≤ k) := fun qq => h9 ((nc_ge (a := k) (b := 35) (by omega) (by omega)).mpr qq)
        refine cw_ldc2 (pc := 12) C dL_whole_12 (v := 31) (List.mem_of_getElem? (i := 2) rfl) ?_
        refine cw_lload_n (pc := 15) C dL_whole_15 rfl 1 rfl ?_
        refine cw_lmul (pc := 16) C dL_whole_16 ?_
        refine cw_aload_n (pc := 17) C dL_whole_17 rfl 0 rfl ?_
        refine cw_iconst (pc := 18) C dL_whole_18 (nI 1) (by decide) ?_
        refine cw_iload_n (pc := 19) C dL_whole_19 rfl 2 rfl ?_
        refine cw_iconst (pc := 20) C dL_whole_20 (nI 5) (by decide) ?_
        refine cw_idiv (pc := 21) C dL_whole_21 (by decide) (z := nI (k / 5)) (pk_div (by omega) (by omega) (by omega)) ?_
        refine cw_iadd (pc := 22) C dL_whole_22 (z := nI (1 + (k / 5))) (nI_add _ _) ?_
        refine cw_iload_n (pc := 23) C dL_whole_23 rfl 2 rfl ?_
        refine cw_iconst (pc := 24) C dL_whole_24 (nI 5) (by decide) ?_
        refine cw_irem (pc := 25) C dL_whole_25 (by decide) (z := nI (k % 5)) (pk_rem (by omega) (by omega) (by omega)) ?_
        refine cw_calli (pc := 26) C dL_whole_26 (w_of l D Z A σa X F K nn M (nI (1 + (k / 5))) (nI (k % 5)) hba) (cwV 2 C.1.2.2.2.2 gL_whole_X6_of rfl rfl rfl (by decide +kernel) ⟨Nat.le_of_ble_eq_true rfl, Nat.le_of_ble_eq_true rfl⟩) 0 rfl rfl rfl rfl (Nat.le_of_ble_eq_true rfl) (fun r3 σ3 hr3 => ?_)
        rw [ansF_of (by omega) (by omega) (by omega)] at hr3
        obtain ⟨rfl, h3⟩ := hr3
        have h3 : absP σ3 X F K nn M := h3
        refine cw_top (ansV (ofA X (nI (1 + k / 5)) (nI (k % 5)))) rfl ?_
        refine cw_i2l (pc := 29) C dL_whole_29 ?_
        refine cw_ladd (pc := 30) C dL_whole_30 ?_
        refine cw_lstore_n (pc := 31) C dL_whole_31 rfl (by decide) (lv' := [(1, .long ((31 * hh) + ((ansV (ofA X (nI (1 + k / 5)) (nI (k % 5)))).toInt64))), (0, .ref (A 0)), (3, .int (nI k))]) rfl ?_
        refine cw_iinc (pc := 32) C dL_whole_32 2 rfl (nI (k + 1)) (nI_inc _ 1) (by decide) (lv' := [(3, .int (nI (k + 1))), (1, .long ((31 * hh) + ((ansV (ofA X (nI (1 + k / 5)) (nI (k % 5)))).toInt64))), (0, .ref (A 0))]) rfl ?_
        refine cw_goto (pc := 35) (tgt := 6) C dL_whole_35 (by decide) ?_
        refine cw_lv [2, 1, 0] rfl ?_
        exact ih6 (k + 1) ((31 * hh) + ((ansV (ofA X (nI (1 + k / 5)) (nI (k % 5)))).toInt64)) σ3 (by omega) (by omega) (by rw [dgF_s, he]; rfl) h3
  refine cw_lv [2, 1, 0] rfl ?_
  exact L6 36 0 41 σ (by omega) (by omega) rfl h
set_option maxHeartbeats 4000000 in
set_option maxRecDepth 100000 in
theorem c_L_overlaps (l : Launch) (D : va_G) (Z : CZ) (A : Nat → Nat) (σ : St) (X F : Nat → Int32) (K : Nat → Nat → Int32) (nn M : Nat) (g : Nat) (k : Nat) (h : absP σ X F K nn M) (hs : simN X g k = true) : CTz l yL_overlaps wsL_overlaps 5 109 D Z (wC Z A) σ [.ref (A 0), .int (nI g), .int (nI k)] (fun z σ' => z = true ∧ absP σ' X F K nn M) := by
  refine CTz.mk (cc := cL_overlaps) (nL := 7) (own := RL) rfl (by decide) rfl (Nat.le_of_ble_eq_true rfl) ?_
  intro p0 e0 s0 m0 g0 b0 t0 c0 A0 Q C hret
  obtain ⟨-, ⟨hOK, -, hnn, -, -⟩, -, -⟩ := id h
  obtain ⟨g1, g2, k1, k2⟩ := simN_rng hs
  have hne := simN_ne hOK.1 g2 hs
  have hcm : comN X g k = nI (comS (X g) (X k)) := if_pos hs
  have hc := comS_lt (X g) (X k)
  have hw0 := wsA_0 hOK.1 hs
  have hw1 := wsA_1 hOK.1 hs
  have hv0 := ovA_t (t := 0) hOK.1 hs (by omega)
  have hv1 := ovA_t (t := 40) hOK.1 hs (by omega)
  generalize comS (X g) (X k) = cc at *
  obtain ⟨T, T1, T2, hT⟩ := hOK.2.2.1 cc hc
  obtain ⟨f, f1, f2, hf⟩ := hOK.2.2.2.1 cc hc
  obtain ⟨R, R1, R2, hR⟩ := hOK.2.2.2.2.2.2.2.2.2.1
  obtain ⟨p, q, hp, hq, p1, q1, c1, c2, c3⟩ := fl_facts hR hT hf R1 (by omega) T2 f2
  obtain ⟨o1, o2⟩ := ov_ends hR hT hf R1 (by omega) T2 f2
  rw [hp] at hw0
  rw [hq] at hw1
  rw [o1] at hv0
  rw [o2] at hv1
  refine cw_lv (lv' := [(0, .ref (A 0)), (1, .int (nI g)), (2, .int (nI k))]) [0, 1, 2] rfl ?_
  refine cw_aload_n (pc := 0) C dL_overlaps_0 rfl 0 rfl ?_
  refine cw_iload_n (pc := 1) C dL_overlaps_1 rfl 1 rfl ?_
  refine cw_iload_n (pc := 2) C dL_overlaps_2 rfl 2 rfl ?_
  refine cw_iconst (pc := 3) C dL_overlaps_3 (nI 1) (by decide) ?_
  refine cw_calli (pc := 4) C dL_overlaps_4 (w_simple l D Z A σ X F K nn M (nI g) (nI k) (nI 1) h) (cwV 3 C.1.2.2.2.2 gL_overlaps_X6_simple rfl rfl rfl (by decide +kernel) ⟨Nat.le_of_ble_eq_true rfl, Nat.le_of_ble_eq_true rfl⟩) 0 rfl rfl rfl rfl (Nat.le_of_ble_eq_true rfl) (fun r1 σ1 hr1 => ?_)
  rw [(smA_1 g1 g2 k1 k2 hne).trans (congrArg Sum.inl hcm)] at hr1
  obtain ⟨rfl, h1⟩ := hr1
  have h1 : absP σ1 X F K nn M := h1
  refine cw_top (nI cc) rfl ?_
  refine cw_istore_n (pc := 7) C dL_overlaps_7 rfl (by decide) (lv' := [(3, .int (nI cc)), (0, .ref (A 0)), (1, .int (nI g)), (2, .int (nI k))]) rfl ?_
  refine cw_aload_n (pc := 8) C dL_overlaps_8 rfl 1 rfl ?_
  refine cw_iload_n (pc := 9) C dL_overlaps_9 rfl 2 rfl ?_
  refine cw_iload_n (pc := 10) C dL_overlaps_10 rfl 3 rfl ?_
  refine cw_iconst (pc := 11) C dL_overlaps_11 (nI 0) (by decide) ?_
  refine cw_calli (pc := 12) C dL_overlaps_12 (w_worst l D Z A σ1 X F K nn M (nI g) (nI k) (nI 0) h1) (cwV 3 C.1.2.2.2.2 gL_overlaps_X6_worst rfl rfl rfl (by decide +kernel) ⟨Nat.le_of_ble_eq_true rfl, Nat.le_of_ble_eq_true rfl⟩) 0 rfl rfl rfl rfl (Nat.le_of_ble_eq_true rfl) (fun r2 σ2 hr2 => ?_)
  rw [hw0] at hr2
  obtain ⟨rfl, h2⟩ := hr2
  have h2 : absP σ2 X F K nn M := h2
  refine cw_top (nI p) rfl ?_
  refine cw_istore (pc := 15) C dL_overlaps_15 (by decide) (lv' := [(4, .int (nI p)), (3, .int (nI cc)), (0, .ref (A 0)), (1, .int (nI g)), (2, .int (nI k))]) rfl ?_
  refine cw_aload_n (pc := 17) C dL_overlaps_17 rfl 2 rfl ?_
  refine cw_iload_n (pc := 18) C dL_overlaps_18 rfl 3 rfl ?_
  refine cw_iload_n (pc := 19) C dL_overlaps_19 rfl 4 rfl ?_
  refine cw_iconst (pc := 20) C dL_overlaps_20 (nI 1) (by decide) ?_
  refine cw_calli (pc := 21) C dL_overlaps_21 (w_worst l D Z A σ2 X F K nn M (nI g) (nI k) (nI 1) h2) (cwV 3 C.1.2.2.2.2 gL_overlaps_X6_worst rfl rfl rfl (by decide +kernel) ⟨Nat.le_of_ble_eq_true rfl, Nat.le_of_ble_eq_true rfl⟩) 0 rfl rfl rfl rfl (Nat.le_of_ble_eq_true rfl) (fun r3 σ3 hr3 => ?_)
  rw [hw1] at hr3
  obtain ⟨rfl, h3⟩ := hr3
  have h3 : absP σ3 X F K nn M := h3
  refine cw_top (nI q) rfl ?_
  refine cw_istore (pc := 24) C dL_overlaps_24 (by decide) (lv' := [(5, .int (nI q)), (4, .int (nI p)), (3, .int (nI cc)), (0, .ref (A 0)), (1, .int (nI g)), (2, .int (nI k))]) rfl ?_
  refine cw_aload_n (pc := 26) C dL_overlaps_26 rfl 3 rfl ?_
  refine cw_iload_n (pc := 27) C dL_overlaps_27 rfl 2 rfl ?_
  refine cw_iconst (pc := 28) C dL_overlaps_28 (nI 1) (by decide) ?_
  refine cw_calli (pc := 29) C dL_overlaps_29 (w_clutch l D Z A σ3 X F K nn M (nI cc) (nI 1) h3) (cwV 2 C.1.2.2.2.2 gL_overlaps_X6_clutch rfl rfl rfl (by decide +kernel) ⟨Nat.le_of_ble_eq_true rfl, Nat.le_of_ble_eq_true rfl⟩) 0 rfl rfl rfl rfl (Nat.le_of_ble_eq_true rfl) (fun r4 σ4 hr4 => ?_)
  rw [(clA_1 hc).trans (congrArg Sum.inl hT)] at hr4
  obtain ⟨rfl, h4⟩ := hr4
  have h4 : absP σ4 X F K nn M := h4
  refine cw_top (nI T) rfl ?_
  refine cw_aload_n (pc := 32) C dL_overlaps_32 rfl 3 rfl ?_
  refine cw_iload_n (pc := 33) C dL_overlaps_33 rfl 2 rfl ?_
  refine cw_iconst (pc := 34) C dL_overlaps_34 (nI 2) (by decide) ?_
  refine cw_calli (pc := 35) C dL_overlaps_35 (w_clutch l D Z A σ4 X F K nn M (nI cc) (nI 2) h4) (cwV 2 C.1.2.2.2.2 gL_overlaps_X6_clutch rfl rfl rfl (by decide +kernel) ⟨Nat.le_of_ble_eq_true rfl, Nat.le_of_ble_eq_true rfl⟩) 0 rfl rfl rfl rfl (Nat.le_of_ble_eq_true rfl) (fun r5 σ5 hr5 => ?_)
  rw [(clA_2 hc).trans (congrArg Sum.inl hf)] at hr5
  obtain ⟨rfl, h5⟩ := hr5
  have h5 : absP σ5 X F K nn M := h5
  refine cw_top (nI f) rfl ?_
  refine cw_isub (pc := 38) C dL_overlaps_38 (z := (nI T) - (nI f)) rfl ?_
  refine cw_istore (pc := 39) C dL_overlaps_39 (by decide) (lv' := [(6, .int ((nI T) - (nI f))), (5, .int (nI q)), (4, .int (nI p)), (3, .int (nI cc)), (0, .ref (A 0)), (1, .int (nI g)), (2, .int (nI k))]) rfl ?_
  refine cw_iload (pc := 41) C dL_overlaps_41 2 rfl ?_
  refine cw_if_lt (pc := 43) (tgt := 144) C dL_overlaps_43 (by decide) (fun h43 => ?_) (fun h43 => ?_)
  · -- 43 t
    have h43 : p < 0 := (nc_lt (a := p) (b := 0) (by omega) (by omega)).mp h43
    exact absurd h43 (by omega)
  · -- 43 f
    have h43 : ¬ (p < 0) := fun qq => h43 ((nc_lt (a := p) (b := 0) (by omega) (by omega)).mpr qq)
    refine cw_iload (pc := 46) C dL_overlaps_46 1 rfl ?_
    refine cw_if_lt (pc := 48) (tgt := 144) C dL_overlaps_48 (by decide) (fun h48 => ?_) (fun h48 => ?_)
    · -- 48 t
      have h48 : q < 0 := (nc_lt (a := q) (b := 0) (by omega) (by omega)).mp h48
      exact absurd h48 (by omega)
    · -- 48 f
      have h48 : ¬ (q < 0) := fun qq => h48 ((nc_lt (a := q) (b := 0) (by omega) (by omega)).mpr qq)
      refine cw_iload (pc := 51) C dL_overlaps_51 2 rfl ?_
      refine cw_sipush (pc := 53) C dL_overlaps_53 (nI 1000) (by decide) ?_
      refine cw_icmp_gt (pc := 56) (tgt := 144) C dL_overlaps_56 (by decide) (fun h56 => ?_) (fun h56 => ?_)
      · -- 56 t
        have h56 : 1000 < p := (nc_gt (a := p) (b := 1000) (by omega) (by omega)).mp h56
        exact absurd h56 (by omega)
      · -- 56 f
        have h56 : ¬ (1000 < p) := fun qq => h56 ((nc_gt (a := p) (b := 1000) (by omega) (by omega)).mpr qq)
        refine cw_iload (pc := 59) C dL_overlaps_59 1 rfl ?_
        refine cw_sipush (pc := 61) C dL_overlaps_61 (nI 1000) (by decide) ?_
        refine cw_icmp_gt (pc := 64) (tgt := 144) C dL_overlaps_64 (by decide) (fun h64 => ?_) (fun h64 => ?_)
        · -- 64 t
          have h64 : 1000 < q := (nc_gt (a := q) (b := 1000) (by omega) (by omega)).mp h64
          exact absurd h64 (by omega)
        · -- 64 f
          have h64 : ¬ (1000 < q) := fun qq => h64 ((nc_gt (a := q) (b := 1000) (by omega) (by omega)).mpr qq)
          refine cw_iload (pc := 67) C dL_overlaps_67 0 rfl ?_
          refine cw_if_le (pc := 69) (tgt := 85) C dL_overlaps_69 (by decide) (fun h69 => ?_) (fun h69 => ?_)
          · -- 69 t
            have d69 : T ≤ f := (off_le T2 f2).mp h69
            refine cw_iload (pc := 85) C dL_overlaps_85 0 rfl ?_
            refine cw_if_ge (pc := 87) (tgt := 103) C dL_overlaps_87 (by decide) (fun h87 => ?_) (fun h87 => ?_)
            · -- 87 t
              have d87 : f ≤ T := (off_ge T2 f2).mp h87
              obtain ⟨e1, e2⟩ := c3 (by omega)
              refine cw_iload (pc := 103) C dL_overlaps_103 2 rfl ?_
              refine cw_if_ne (pc := 105) (tgt := 144) C dL_overlaps_105 (by decide) (fun h105 => ?_) (fun h105 => ?_)
              · -- 105 t
                have h105 : ¬ p = 0 := (nc_ne (a := p) (b := 0) (by omega) (by omega)).mp h105
                exact absurd e1 h105
              · -- 105 f
                have h105 : p = 0 := (nc_eq (a := p) (b := 0) (by omega) (by omega)).mp h105
                refine cw_iload (pc := 108) C dL_overlaps_108 1 rfl ?_
                refine cw_if_ne (pc := 110) (tgt := 144) C dL_overlaps_110 (by decide) (fun h110 => ?_) (fun h110 => ?_)
                · -- 110 t
                  have h110 : ¬ q = 0 := (nc_ne (a := q) (b := 0) (by omega) (by omega)).mp h110
                  exact absurd e2 h110
                · -- 110 f
                  have h110 : q = 0 := (nc_eq (a := q) (b := 0) (by omega) (by omega)).mp h110
                  refine cw_aload_n (pc := 113) C dL_overlaps_113 rfl 4 rfl ?_
                  refine cw_iload_n (pc := 114) C dL_overlaps_114 rfl 5 rfl ?_
                  refine cw_iload_n (pc := 115) C dL_overlaps_115 rfl 6 rfl ?_
                  refine cw_iconst (pc := 116) C dL_overlaps_116 (nI 0) (by decide) ?_
                  refine cw_calli (pc := 117) C dL_overlaps_117 (w_over l D Z A σ5 X F K nn M (nI g) (nI k) (nI 0) h5) (cwV 3 C.1.2.2.2.2 gL_overlaps_X6_over rfl rfl rfl (by decide +kernel) ⟨Nat.le_of_ble_eq_true rfl, Nat.le_of_ble_eq_true rfl⟩) 0 rfl rfl rfl rfl (Nat.le_of_ble_eq_true rfl) (fun r6 σ6 hr6 => ?_)
                  rw [hv0] at hr6
                  obtain ⟨rfl, h6⟩ := hr6
                  have h6 : absP σ6 X F K nn M := h6
                  refine cw_top (nI 1000) rfl ?_
                  refine cw_sipush (pc := 120) C dL_overlaps_120 (nI 1000) (by decide) ?_
                  refine cw_icmp_ne (pc := 123) (tgt := 144) C dL_overlaps_123 (by decide) (fun h => False.elim (by revert h; decide)) (fun _ => ?_)
                  refine cw_aload_n (pc := 126) C dL_overlaps_126 rfl 4 rfl ?_
                  refine cw_iload_n (pc := 127) C dL_overlaps_127 rfl 5 rfl ?_
                  refine cw_iload_n (pc := 128) C dL_overlaps_128 rfl 6 rfl ?_
                  refine cw_bipush (pc := 129) C dL_overlaps_129 (nI 40) (by decide) ?_
                  refine cw_calli (pc := 131) C dL_overlaps_131 (w_over l D Z A σ6 X F K nn M (nI g) (nI k) (nI 40) h6) (cwV 3 C.1.2.2.2.2 gL_overlaps_X6_over rfl rfl rfl (by decide +kernel) ⟨Nat.le_of_ble_eq_true rfl, Nat.le_of_ble_eq_true rfl⟩) 0 rfl rfl rfl rfl (Nat.le_of_ble_eq_true rfl) (fun r7 σ7 hr7 => ?_)
                  rw [hv1] at hr7
                  obtain ⟨rfl, h7⟩ := hr7
                  have h7 : absP σ7 X F K nn M := h7
                  refine cw_top (nI 1000) rfl ?_
                  refine cw_sipush (pc := 134) C dL_overlaps_134 (nI 1000) (by decide) ?_
                  refine cw_icmp_ne (pc := 137) (tgt := 144) C dL_overlaps_137 (by decide) (fun h => False.elim (by revert h; decide)) (fun _ => ?_)
                  refine cw_iconst (pc := 140) C dL_overlaps_140 (nI 1) (by decide) ?_
                  refine cw_goto (pc := 141) (tgt := 145) C dL_overlaps_141 (by decide) ?_
                  refine hret true σ7 _ _ dL_overlaps_145 ?_
                  clear hret
                  exact ⟨rfl, h7⟩
            · -- 87 f
              have d87 : T < f := by
                rcases Nat.lt_or_ge T f with z | z
                · exact z
                · exact absurd ((off_ge T2 f2).mpr z) h87
              obtain ⟨e1, e2⟩ := c2 d87
              refine cw_iload (pc := 90) C dL_overlaps_90 2 rfl ?_
              refine cw_if_ne (pc := 92) (tgt := 144) C dL_overlaps_92 (by decide) (fun h92 => ?_) (fun h92 => ?_)
              · -- 92 t
                have h92 : ¬ p = 0 := (nc_ne (a := p) (b := 0) (by omega) (by omega)).mp h92
                exact absurd e1 h92
              · -- 92 f
                have h92 : p = 0 := (nc_eq (a := p) (b := 0) (by omega) (by omega)).mp h92
                refine cw_iload (pc := 95) C dL_overlaps_95 1 rfl ?_
                refine cw_if_le (pc := 97) (tgt := 144) C dL_overlaps_97 (by decide) (fun h97 => ?_) (fun h97 => ?_)
                · -- 97 t
                  have h97 : q ≤ 0 := (nc_le (a := q) (b := 0) (by omega) (by omega)).mp h97
                  exact absurd h97 (by omega)
                · -- 97 f
                  have h97 : ¬ (q ≤ 0) := fun qq => h97 ((nc_le (a := q) (b := 0) (by omega) (by omega)).mpr qq)
                  refine cw_goto (pc := 100) (tgt := 113) C dL_overlaps_100 (by decide) ?_
                  refine cw_aload_n (pc := 113) C dL_overlaps_113 rfl 4 rfl ?_
                  refine cw_iload_n (pc := 114) C dL_overlaps_114 rfl 5 rfl ?_
                  refine cw_iload_n (pc := 115) C dL_overlaps_115 rfl 6 rfl ?_
                  refine cw_iconst (pc := 116) C dL_overlaps_116 (nI 0) (by decide) ?_
                  refine cw_calli (pc := 117) C dL_overlaps_117 (w_over l D Z A σ5 X F K nn M (nI g) (nI k) (nI 0) h5) (cwV 3 C.1.2.2.2.2 gL_overlaps_X6_over rfl rfl rfl (by decide +kernel) ⟨Nat.le_of_ble_eq_true rfl, Nat.le_of_ble_eq_true rfl⟩) 0 rfl rfl rfl rfl (Nat.le_of_ble_eq_true rfl) (fun r8 σ8 hr8 => ?_)
                  rw [hv0] at hr8
                  obtain ⟨rfl, h8⟩ := hr8
                  have h8 : absP σ8 X F K nn M := h8
                  refine cw_top (nI 1000) rfl ?_
                  refine cw_sipush (pc := 120) C dL_overlaps_120 (nI 1000) (by decide) ?_
                  refine cw_icmp_ne (pc := 123) (tgt := 144) C dL_overlaps_123 (by decide) (fun h => False.elim (by revert h; decide)) (fun _ => ?_)
                  refine cw_aload_n (pc := 126) C dL_overlaps_126 rfl 4 rfl ?_
                  refine cw_iload_n (pc := 127) C dL_overlaps_127 rfl 5 rfl ?_
                  refine cw_iload_n (pc := 128) C dL_overlaps_128 rfl 6 rfl ?_
                  refine cw_bipush (pc := 129) C dL_overlaps_129 (nI 40) (by decide) ?_
                  refine cw_calli (pc := 131) C dL_overlaps_131 (w_over l D Z A σ8 X F K nn M (nI g) (nI k) (nI 40) h8) (cwV 3 C.1.2.2.2.2 gL_overlaps_X6_over rfl rfl rfl (by decide +kernel) ⟨Nat.le_of_ble_eq_true rfl, Nat.le_of_ble_eq_true rfl⟩) 0 rfl rfl rfl rfl (Nat.le_of_ble_eq_true rfl) (fun r9 σ9 hr9 => ?_)
                  rw [hv1] at hr9
                  obtain ⟨rfl, h9⟩ := hr9
                  have h9 : absP σ9 X F K nn M := h9
                  refine cw_top (nI 1000) rfl ?_
                  refine cw_sipush (pc := 134) C dL_overlaps_134 (nI 1000) (by decide) ?_
                  refine cw_icmp_ne (pc := 137) (tgt := 144) C dL_overlaps_137 (by decide) (fun h => False.elim (by revert h; decide)) (fun _ => ?_)
                  refine cw_iconst (pc := 140) C dL_overlaps_140 (nI 1) (by decide) ?_
                  refine cw_goto (pc := 141) (tgt := 145) C dL_overlaps_141 (by decide) ?_
                  refine hret true σ9 _ _ dL_overlaps_145 ?_
                  clear hret
                  exact ⟨rfl, h9⟩
          · -- 69 f
            have d69 : f < T := by
              rcases Nat.lt_or_ge f T with z | z
              · exact z
              · exact absurd ((off_le T2 f2).mpr z) h69
            obtain ⟨e1, e2⟩ := c1 d69
            refine cw_iload (pc := 72) C dL_overlaps_72 2 rfl ?_
            refine cw_if_le (pc := 74) (tgt := 144) C dL_overlaps_74 (by decide) (fun h74 => ?_) (fun h74 => ?_)
            · -- 74 t
              have h74 : p ≤ 0 := (nc_le (a := p) (b := 0) (by omega) (by omega)).mp h74
              exact absurd h74 (by omega)
            · -- 74 f
              have h74 : ¬ (p ≤ 0) := fun qq => h74 ((nc_le (a := p) (b := 0) (by omega) (by omega)).mpr qq)
              refine cw_iload (pc := 77) C dL_overlaps_77 1 rfl ?_
              refine cw_if_ne (pc := 79) (tgt := 144) C dL_overlaps_79 (by decide) (fun h79 => ?_) (fun h79 => ?_)
              · -- 79 t
                have h79 : ¬ q = 0 := (nc_ne (a := q) (b := 0) (by omega) (by omega)).mp h79
                exact absurd e2 h79
              · -- 79 f
                have h79 : q = 0 := (nc_eq (a := q) (b := 0) (by omega) (by omega)).mp h79
                refine cw_goto (pc := 82) (tgt := 113) C dL_overlaps_82 (by decide) ?_
                refine cw_aload_n (pc := 113) C dL_overlaps_113 rfl 4 rfl ?_
                refine cw_iload_n (pc := 114) C dL_overlaps_114 rfl 5 rfl ?_
                refine cw_iload_n (pc := 115) C dL_overlaps_115 rfl 6 rfl ?_
                refine cw_iconst (pc := 116) C dL_overlaps_116 (nI 0) (by decide) ?_
                refine cw_calli (pc := 117) C dL_overlaps_117 (w_over l D Z A σ5 X F K nn M (nI g) (nI k) (nI 0) h5) (cwV 3 C.1.2.2.2.2 gL_overlaps_X6_over rfl rfl rfl (by decide +kernel) ⟨Nat.le_of_ble_eq_true rfl, Nat.le_of_ble_eq_true rfl⟩) 0 rfl rfl rfl rfl (Nat.le_of_ble_eq_true rfl) (fun r10 σ10 hr10 => ?_)
                rw [hv0] at hr10
                obtain ⟨rfl, h10⟩ := hr10
                have h10 : absP σ10 X F K nn M := h10
                refine cw_top (nI 1000) rfl ?_
                refine cw_sipush (pc := 120) C dL_overlaps_120 (nI 1000) (by decide) ?_
                refine cw_icmp_ne (pc := 123) (tgt := 144) C dL_overlaps_123 (by decide) (fun h => False.elim (by revert h; decide)) (fun _ => ?_)
                refine cw_aload_n (pc := 126) C dL_overlaps_126 rfl 4 rfl ?_
                refine cw_iload_n (pc := 127) C dL_overlaps_127 rfl 5 rfl ?_
                refine cw_iload_n (pc := 128) C dL_overlaps_128 rfl 6 rfl ?_
                refine cw_bipush (pc := 129) C dL_overlaps_129 (nI 40) (by decide) ?_
                refine cw_calli (pc := 131) C dL_overlaps_131 (w_over l D Z A σ10 X F K nn M (nI g) (nI k) (nI 40) h10) (cwV 3 C.1.2.2.2.2 gL_overlaps_X6_over rfl rfl rfl (by decide +kernel) ⟨Nat.le_of_ble_eq_true rfl, Nat.le_of_ble_eq_true rfl⟩) 0 rfl rfl rfl rfl (Nat.le_of_ble_eq_true rfl) (fun r11 σ11 hr11 => ?_)
                rw [hv1] at hr11
                obtain ⟨rfl, h11⟩ := hr11
                have h11 : absP σ11 X F K nn M := h11
                refine cw_top (nI 1000) rfl ?_
                refine cw_sipush (pc := 134) C dL_overlaps_134 (nI 1000) (by decide) ?_
                refine cw_icmp_ne (pc := 137) (tgt := 144) C dL_overlaps_137 (by decide) (fun h => False.elim (by revert h; decide)) (fun _ => ?_)
                refine cw_iconst (pc := 140) C dL_overlaps_140 (nI 1) (by decide) ?_
                refine cw_goto (pc := 141) (tgt := 145) C dL_overlaps_141 (by decide) ?_
                refine hret true σ11 _ _ dL_overlaps_145 ?_
                clear hret
                exact ⟨rfl, h11⟩
