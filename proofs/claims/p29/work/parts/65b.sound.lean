set_option maxHeartbeats 4000000 in
set_option maxRecDepth 100000 in
theorem c_L_sound (l : Launch) (D : va_G) (Z : CZ) (A : Nat → Nat) (σ : St) (X F : Nat → Int32) (K : Nat → Nat → Int32) (nn M : Nat)  (h : absP σ X F K nn M) : CTz l yL_sound wsL_sound 6 135 D Z (wC Z A) σ [.ref (A 0)] (fun z σ' => z = true ∧ absP σ' X F K nn M) := by
  refine CTz.mk (cc := cL_sound) (nL := 12) (own := RL) rfl (by decide) rfl (Nat.le_of_ble_eq_true rfl) ?_
  intro p0 e0 s0 m0 g0 b0 t0 c0 A0 Q C hret
  obtain ⟨-, ⟨hOK, -, hnn, -, -⟩, -, -⟩ := id h
  obtain ⟨hi, hIN, hfi⟩ := rowOK_in hOK
  generalize inN X = i at *
  obtain ⟨hd, hd1, hd2⟩ := hOK.2.2.2.2.2.2.1
  refine cw_lv (lv' := [(0, .ref (A 0))]) [0] rfl ?_
  refine cw_aload_n (pc := 0) C dL_sound_0 rfl 0 rfl ?_
  refine cw_iconst (pc := 1) C dL_sound_1 (nI 0) (by decide) ?_
  refine cw_calli (pc := 2) C dL_sound_2 (w_state l D Z A σ X F K nn M (nI 0) h) (cwV 1 C.1.2.2.2.2 gL_sound_X6_state rfl rfl rfl (by decide +kernel) ⟨Nat.le_of_ble_eq_true rfl, Nat.le_of_ble_eq_true rfl⟩) 0 rfl rfl rfl rfl (Nat.le_of_ble_eq_true rfl) (fun r1 σ1 hr1 => ?_)
  rw [(saA_k (k := 0) (by omega)).trans (congrArg Sum.inl hIN)] at hr1
  obtain ⟨rfl, h1⟩ := hr1
  have h1 : absP σ1 X F K nn M := h1
  refine cw_top (nI i) rfl ?_
  refine cw_istore_n (pc := 5) C dL_sound_5 rfl (by decide) (lv' := [(1, .int (nI i)), (0, .ref (A 0))]) rfl ?_
  refine cw_aload_n (pc := 6) C dL_sound_6 rfl 1 rfl ?_
  refine cw_bipush (pc := 7) C dL_sound_7 (nI 12) (by decide) ?_
  refine cw_calli (pc := 9) C dL_sound_9 (w_state l D Z A σ1 X F K nn M (nI 12) h1) (cwV 1 C.1.2.2.2.2 gL_sound_X6_state rfl rfl rfl (by decide +kernel) ⟨Nat.le_of_ble_eq_true rfl, Nat.le_of_ble_eq_true rfl⟩) 0 rfl rfl rfl rfl (Nat.le_of_ble_eq_true rfl) (fun r2 σ2 hr2 => ?_)
  rw [saA_12 X] at hr2
  obtain ⟨rfl, h2⟩ := hr2
  have h2 : absP σ2 X F K nn M := h2
  refine cw_top (fbits (fitN X) 7) rfl ?_
  refine cw_istore_n (pc := 12) C dL_sound_12 rfl (by decide) (lv' := [(2, .int (fbits (fitN X) 7)), (1, .int (nI i)), (0, .ref (A 0))]) rfl ?_
  refine cw_iload_n (pc := 13) C dL_sound_13 rfl 1 rfl ?_
  refine cw_if_lt (pc := 14) (tgt := 55) C dL_sound_14 (by decide) (fun h14 => ?_) (fun h14 => ?_)
  · -- 14 t
    have h14 : i < 0 := (nc_lt (a := i) (b := 0) (by omega) (by omega)).mp h14
    exact absurd h14 (by omega)
  · -- 14 f
    have h14 : ¬ (i < 0) := fun qq => h14 ((nc_lt (a := i) (b := 0) (by omega) (by omega)).mpr qq)
    refine cw_iload_n (pc := 17) C dL_sound_17 rfl 1 rfl ?_
    refine cw_bipush (pc := 18) C dL_sound_18 (nI 7) (by decide) ?_
    refine cw_icmp_gt (pc := 20) (tgt := 55) C dL_sound_20 (by decide) (fun h20 => ?_) (fun h20 => ?_)
    · -- 20 t
      have h20 : 7 < i := (nc_gt (a := i) (b := 7) (by omega) (by omega)).mp h20
      exact absurd h20 (by omega)
    · -- 20 f
      have h20 : ¬ (7 < i) := fun qq => h20 ((nc_gt (a := i) (b := 7) (by omega) (by omega)).mpr qq)
      refine cw_iload_n (pc := 23) C dL_sound_23 rfl 1 rfl ?_
      have L37 : ∀ (σa : St) (hσa : absP σa X F K nn M), CW p0 l e0 (rmC 6 135) s0 m0 g0 b0 t0 c0 D A0 12 (wC Z A) Q σa 37 [(0, .ref (A 0)), (1, .int (nI i)), (2, .int (fbits (fitN X) 7))] [] := by
        intro σa hσa
        refine cw_aload_n (pc := 37) C dL_sound_37 rfl 0 rfl ?_
        refine cw_iconst (pc := 38) C dL_sound_38 (nI 2) (by decide) ?_
        refine cw_calli (pc := 39) C dL_sound_39 (w_state l D Z A σa X F K nn M (nI 2) hσa) (cwV 1 C.1.2.2.2.2 gL_sound_X6_state rfl rfl rfl (by decide +kernel) ⟨Nat.le_of_ble_eq_true rfl, Nat.le_of_ble_eq_true rfl⟩) 0 rfl rfl rfl rfl (Nat.le_of_ble_eq_true rfl) (fun r3 σ3 hr3 => ?_)
        rw [(saA_k (k := 2) (by omega)).trans (congrArg Sum.inl hd2)] at hr3
        obtain ⟨rfl, h3⟩ := hr3
        have h3 : absP σ3 X F K nn M := h3
        refine cw_top (nI hd) rfl ?_
        refine cw_if_lt (pc := 42) (tgt := 55) C dL_sound_42 (by decide) (fun h42 => ?_) (fun h42 => ?_)
        · -- 42 t
          have h42 : hd < 0 := (nc_lt (a := hd) (b := 0) (by omega) (by omega)).mp h42
          exact absurd h42 (by omega)
        · -- 42 f
          have h42 : ¬ (hd < 0) := fun qq => h42 ((nc_lt (a := hd) (b := 0) (by omega) (by omega)).mpr qq)
          refine cw_aload_n (pc := 45) C dL_sound_45 rfl 0 rfl ?_
          refine cw_iconst (pc := 46) C dL_sound_46 (nI 2) (by decide) ?_
          refine cw_calli (pc := 47) C dL_sound_47 (w_state l D Z A σ3 X F K nn M (nI 2) h3) (cwV 1 C.1.2.2.2.2 gL_sound_X6_state rfl rfl rfl (by decide +kernel) ⟨Nat.le_of_ble_eq_true rfl, Nat.le_of_ble_eq_true rfl⟩) 0 rfl rfl rfl rfl (Nat.le_of_ble_eq_true rfl) (fun r4 σ4 hr4 => ?_)
          rw [(saA_k (k := 2) (by omega)).trans (congrArg Sum.inl hd2)] at hr4
          obtain ⟨rfl, h4⟩ := hr4
          have h4 : absP σ4 X F K nn M := h4
          refine cw_top (nI hd) rfl ?_
          refine cw_bipush (pc := 50) C dL_sound_50 (nI 10) (by decide) ?_
          refine cw_icmp_le (pc := 52) (tgt := 57) C dL_sound_52 (by decide) (fun h52 => ?_) (fun h52 => ?_)
          · -- 52 t
            have h52 : hd ≤ 10 := (nc_le (a := hd) (b := 10) (by omega) (by omega)).mp h52
            refine cw_iconst (pc := 57) C dL_sound_57 (nI 0) (by decide) ?_
            refine cw_istore_n (pc := 58) C dL_sound_58 rfl (by decide) (lv' := [(3, .int (nI 0)), (0, .ref (A 0)), (1, .int (nI i)), (2, .int (fbits (fitN X) 7))]) rfl ?_
            have L59 : ∀ (n59 : Nat) (c : Nat) (σb : St) (hc : c ≤ 5) (hm : 5 < c + n59) (hσb : absP σb X F K nn M), CW p0 l e0 (rmC 6 135) s0 m0 g0 b0 t0 c0 D A0 12 (wC Z A) Q σb 59 [(0, .ref (A 0)), (1, .int (nI i)), (2, .int (fbits (fitN X) 7)), (3, .int (nI c))] [] := by
              intro n59
              induction n59 with
              | zero => intro c σb hc hm hσb; exact absurd hm (by omega)
              | succ n59 ih59 =>
                intro c σb hc hm hσb
                refine cw_iload_n (pc := 59) C dL_sound_59 rfl 3 rfl ?_
                refine cw_iconst (pc := 60) C dL_sound_60 (nI 5) (by decide) ?_
                refine cw_icmp_ge (pc := 61) (tgt := 216) C dL_sound_61 (by decide) (fun h61 => ?_) (fun h61 => ?_)
                · -- 61 t
                  have h61 : 5 ≤ c := (nc_ge (a := c) (b := 5) (by omega) (by omega)).mp h61
                  have hc5 : c = 5 := by omega
                  refine cw_iconst (pc := 216) C dL_sound_216 (nI 1) (by decide) ?_
                  refine cw_istore_n (pc := 217) C dL_sound_217 rfl (by decide) (lv' := [(3, .int (nI 1)), (0, .ref (A 0)), (1, .int (nI i)), (2, .int (fbits (fitN X) 7))]) rfl ?_
                  have L218 : ∀ (n218 : Nat) (g : Nat) (σd : St) (g1 : 1 ≤ g) (g2 : g ≤ 8) (hm3 : 8 < g + n218) (hσd : absP σd X F K nn M), CW p0 l e0 (rmC 6 135) s0 m0 g0 b0 t0 c0 D A0 12 (wC Z A) Q σd 218 [(0, .ref (A 0)), (3, .int (nI g))] [] := by
                    intro n218
                    induction n218 with
                    | zero => intro g σd g1 g2 hm3 hσd; exact absurd hm3 (by omega)
                    | succ n218 ih218 =>
                      intro g σd g1 g2 hm3 hσd
                      refine cw_iload_n (pc := 218) C dL_sound_218 rfl 1 rfl ?_
                      refine cw_bipush (pc := 219) C dL_sound_219 (nI 8) (by decide) ?_
                      refine cw_icmp_ge (pc := 221) (tgt := 529) C dL_sound_221 (by decide) (fun h221 => ?_) (fun h221 => ?_)
                      · -- 221 t
                        have h221 : 8 ≤ g := (nc_ge (a := g) (b := 8) (by omega) (by omega)).mp h221
                        have hg8 : g = 8 := by omega
                        refine cw_iconst (pc := 529) C dL_sound_529 (nI 1) (by decide) ?_
                        refine hret true σd _ _ dL_sound_530 ?_
                        clear hret
                        exact ⟨rfl, hσd⟩
                      · -- 221 f
                        have h221 : ¬ (8 ≤ g) := fun qq => h221 ((nc_ge (a := g) (b := 8) (by omega) (by omega)).mpr qq)
                        refine cw_iconst (pc := 224) C dL_sound_224 (nI 0) (by decide) ?_
                        refine cw_istore (pc := 225) C dL_sound_225 (by decide) (lv' := [(4, .int (nI 0)), (0, .ref (A 0)), (3, .int (nI g))]) rfl ?_
                        refine cw_iconst (pc := 227) C dL_sound_227 (nI 1) (by decide) ?_
                        refine cw_istore (pc := 228) C dL_sound_228 (by decide) (lv' := [(5, .int (nI 1)), (4, .int (nI 0)), (0, .ref (A 0)), (3, .int (nI g))]) rfl ?_
                        have L230 : ∀ (n230 : Nat) (k : Nat) (mm : Nat) (σe : St) (k1 : 1 ≤ k) (k2 : k ≤ 8) (hm4 : 8 < k + n230) (hmm : mm = cntN (fun q9 => simN X g (q9 + 1)) (k - 1)) (hσe : absP σe X F K nn M), CW p0 l e0 (rmC 6 135) s0 m0 g0 b0 t0 c0 D A0 12 (wC Z A) Q σe 230 [(0, .ref (A 0)), (3, .int (nI g)), (4, .int (nI mm)), (5, .int (nI k))] [] := by
                          intro n230
                          induction n230 with
                          | zero => intro k mm σe k1 k2 hm4 hmm hσe; exact absurd hm4 (by omega)
                          | succ n230 ih230 =>
                            intro k mm σe k1 k2 hm4 hmm hσe
                            refine cw_iload (pc := 230) C dL_sound_230 3 rfl ?_
                            refine cw_bipush (pc := 232) C dL_sound_232 (nI 8) (by decide) ?_
                            refine cw_icmp_ge (pc := 234) (tgt := 510) C dL_sound_234 (by decide) (fun h234 => ?_) (fun h234 => ?_)
                            · -- 234 t
                              have h234 : 8 ≤ k := (nc_ge (a := k) (b := 8) (by omega) (by omega)).mp h234
                              have hk8 : k = 8 := by omega
                              have hcl := cntN_le (fun q9 => simN X g (q9 + 1)) 7
                              have hml : mm ≤ 8 := by
                                have := cntN_le (fun q9 => simN X g (q9 + 1)) (k - 1)
                                rw [← hmm] at this
                                omega
                              refine cw_iload (pc := 510) C dL_sound_510 2 rfl ?_
                              refine cw_aload_n (pc := 512) C dL_sound_512 rfl 0 rfl ?_
                              refine cw_iload_n (pc := 513) C dL_sound_513 rfl 1 rfl ?_
                              refine cw_iconst (pc := 514) C dL_sound_514 (nI 4) (by decide) ?_
                              refine cw_calli (pc := 515) C dL_sound_515 (w_of l D Z A σe X F K nn M (nI g) (nI 4) hσe) (cwV 2 C.1.2.2.2.2 gL_sound_X6_of rfl rfl rfl (by decide +kernel) ⟨Nat.le_of_ble_eq_true rfl, Nat.le_of_ble_eq_true rfl⟩) 0 rfl rfl rfl rfl (Nat.le_of_ble_eq_true rfl) (fun r5 σ5 hr5 => ?_)
                              rw [ofA_4 g1 (by omega)] at hr5
                              obtain ⟨rfl, h5⟩ := hr5
                              have h5 : absP σ5 X F K nn M := h5
                              refine cw_top (nI (cntN (fun q9 => simN X g (q9 + 1)) 7)) rfl ?_
                              refine cw_icmp_eq (pc := 518) (tgt := 523) C dL_sound_518 (by decide) (fun h518 => ?_) (fun h518 => ?_)
                              · -- 518 t
                                have h518 : mm = (cntN (fun q9 => simN X g (q9 + 1)) 7) := (nc_eq (a := mm) (b := cntN (fun q9 => simN X g (q9 + 1)) 7) (by omega) (by omega)).mp h518
                                refine cw_iinc (pc := 523) C dL_sound_523 1 rfl (nI (g + 1)) (nI_inc _ 1) (by decide) (lv' := [(3, .int (nI (g + 1))), (0, .ref (A 0)), (4, .int (nI mm)), (5, .int (nI k))]) rfl ?_
                                refine cw_goto (pc := 526) (tgt := 218) C dL_sound_526 (by decide) ?_
                                refine cw_lv [1, 0] rfl ?_
                                exact ih218 (g + 1) σ5 (by omega) (by omega) (by omega) h5
                              · -- 518 f
                                have h518 : ¬ (mm = (cntN (fun q9 => simN X g (q9 + 1)) 7)) := fun qq => h518 ((nc_eq (a := mm) (b := cntN (fun q9 => simN X g (q9 + 1)) 7) (by omega) (by omega)).mpr qq)
                                have e7 : k - 1 = 7 := by omega
                                exact absurd (by rw [hmm, e7]) h518
                            · -- 234 f
                              have h234 : ¬ (8 ≤ k) := fun qq => h234 ((nc_ge (a := k) (b := 8) (by omega) (by omega)).mpr qq)
                              refine cw_iload_n (pc := 237) C dL_sound_237 rfl 1 rfl ?_
                              refine cw_iload (pc := 238) C dL_sound_238 3 rfl ?_
                              refine cw_icmp_ne (pc := 240) (tgt := 246) C dL_sound_240 (by decide) (fun h240 => ?_) (fun h240 => ?_)
                              · -- 240 t
                                have h240 : ¬ g = k := (nc_ne (a := g) (b := k) (by omega) (by omega)).mp h240
                                have L362 : ∀ (m2 : Nat) (σf : St) (hm2 : m2 = cntN (fun q9 => simN X g (q9 + 1)) k) (hσf : absP σf X F K nn M), CW p0 l e0 (rmC 6 135) s0 m0 g0 b0 t0 c0 D A0 12 (wC Z A) Q σf 362 [(0, .ref (A 0)), (3, .int (nI g)), (4, .int (nI m2)), (5, .int (nI k))] [] := by
                                  intro m2 σf hm2 hσf
                                  refine cw_aload_n (pc := 362) C dL_sound_362 rfl 0 rfl ?_
                                  refine cw_iload_n (pc := 363) C dL_sound_363 rfl 1 rfl ?_
                                  refine cw_iconst (pc := 364) C dL_sound_364 (nI 1) (by decide) ?_
                                  refine cw_calli (pc := 365) C dL_sound_365 (w_of l D Z A σf X F K nn M (nI g) (nI 1) hσf) (cwV 2 C.1.2.2.2.2 gL_sound_X6_of rfl rfl rfl (by decide +kernel) ⟨Nat.le_of_ble_eq_true rfl, Nat.le_of_ble_eq_true rfl⟩) 0 rfl rfl rfl rfl (Nat.le_of_ble_eq_true rfl) (fun r6 σ6 hr6 => ?_)
                                  rw [ofA_1 g1 (by omega)] at hr6
                                  obtain ⟨rfl, h6⟩ := hr6
                                  have h6 : absP σ6 X F K nn M := h6
                                  refine cw_top (bI (fitN X g)) rfl ?_
                                  refine cw_iconst (pc := 368) C dL_sound_368 (nI 1) (by decide) ?_
                                  refine cw_icmp_ne (pc := 369) (tgt := 387) C dL_sound_369 (by decide) (fun h369 => ?_) (fun h369 => ?_)
                                  · -- 369 t
                                    have h369 := Bool.eq_false_iff.mpr (fun qq => h369 (bI_iff.mpr qq))
                                    refine cw_iconst (pc := 387) C dL_sound_387 (nI 0) (by decide) ?_
                                    refine cw_istore (pc := 388) C dL_sound_388 (by decide) (lv' := [(7, .int (nI 0)), (0, .ref (A 0)), (3, .int (nI g)), (4, .int (nI m2)), (5, .int (nI k))]) rfl ?_
                                    refine cw_iload (pc := 390) C dL_sound_390 0 rfl ?_
                                    refine cw_if_eq (pc := 392) (tgt := 406) C dL_sound_392 (by decide) (fun _ => ?_) (fun h => False.elim (by revert h; decide))
                                    refine cw_iconst (pc := 406) C dL_sound_406 (nI 0) (by decide) ?_
                                    refine cw_istore (pc := 407) C dL_sound_407 (by decide) (lv' := [(8, .int (nI 0)), (7, .int (nI 0)), (0, .ref (A 0)), (3, .int (nI g)), (4, .int (nI m2)), (5, .int (nI k))]) rfl ?_
                                    refine cw_iload (pc := 409) C dL_sound_409 1 rfl ?_
                                    refine cw_if_eq (pc := 411) (tgt := 441) C dL_sound_411 (by decide) (fun _ => ?_) (fun h => False.elim (by revert h; decide))
                                    refine cw_iload_n (pc := 441) C dL_sound_441 rfl 3 rfl ?_
                                    refine cw_istore (pc := 442) C dL_sound_442 (by decide) (lv' := [(9, .int (nI g)), (8, .int (nI 0)), (7, .int (nI 0)), (0, .ref (A 0)), (3, .int (nI g)), (4, .int (nI m2)), (5, .int (nI k))]) rfl ?_
                                    refine cw_iconst (pc := 444) C dL_sound_444 (nI 0) (by decide) ?_
                                    refine cw_istore (pc := 445) C dL_sound_445 (by decide) (lv' := [(10, .int (nI 0)), (9, .int (nI g)), (8, .int (nI 0)), (7, .int (nI 0)), (0, .ref (A 0)), (3, .int (nI g)), (4, .int (nI m2)), (5, .int (nI k))]) rfl ?_
                                    refine cw_iload (pc := 447) C dL_sound_447 0 rfl ?_
                                    refine cw_iload (pc := 449) C dL_sound_449 2 rfl ?_
                                    refine cw_icmp_ge (pc := 451) (tgt := 490) C dL_sound_451 (by decide) (fun _ => ?_) (fun h => False.elim (by revert h; decide))
                                    refine cw_iload (pc := 490) C dL_sound_490 2 rfl ?_
                                    refine cw_if_le (pc := 492) (tgt := 504) C dL_sound_492 (by decide) (fun _ => ?_) (fun h => False.elim (by revert h; decide))
                                    refine cw_iinc (pc := 504) C dL_sound_504 7 rfl (nI (k + 1)) (nI_inc _ 1) (by decide) (lv' := [(5, .int (nI (k + 1))), (10, .int (nI 0)), (9, .int (nI g)), (8, .int (nI 0)), (7, .int (nI 0)), (0, .ref (A 0)), (3, .int (nI g)), (4, .int (nI m2))]) rfl ?_
                                    refine cw_goto (pc := 507) (tgt := 230) C dL_sound_507 (by decide) ?_
                                    refine cw_lv [5, 6, 7, 0] rfl ?_
                                    exact ih230 (k + 1) m2 σ6 (by omega) (by omega) (by omega) (by rw [Nat.add_sub_cancel]; exact hm2) h6
                                  · -- 369 f
                                    have h369 := bI_iff.mp h369
                                    have hf1 := h369
                                    refine cw_aload_n (pc := 372) C dL_sound_372 rfl 0 rfl ?_
                                    refine cw_iload (pc := 373) C dL_sound_373 3 rfl ?_
                                    refine cw_iconst (pc := 375) C dL_sound_375 (nI 1) (by decide) ?_
                                    refine cw_calli (pc := 376) C dL_sound_376 (w_of l D Z A σ6 X F K nn M (nI k) (nI 1) h6) (cwV 2 C.1.2.2.2.2 gL_sound_X6_of rfl rfl rfl (by decide +kernel) ⟨Nat.le_of_ble_eq_true rfl, Nat.le_of_ble_eq_true rfl⟩) 0 rfl rfl rfl rfl (Nat.le_of_ble_eq_true rfl) (fun r7 σ7 hr7 => ?_)
                                    rw [ofA_1 k1 (by omega)] at hr7
                                    obtain ⟨rfl, h7⟩ := hr7
                                    have h7 : absP σ7 X F K nn M := h7
                                    refine cw_top (bI (fitN X k)) rfl ?_
                                    refine cw_iconst (pc := 379) C dL_sound_379 (nI 1) (by decide) ?_
                                    refine cw_icmp_ne (pc := 380) (tgt := 387) C dL_sound_380 (by decide) (fun h380 => ?_) (fun h380 => ?_)
                                    · -- 380 t
                                      have h380 := Bool.eq_false_iff.mpr (fun qq => h380 (bI_iff.mpr qq))
                                      refine cw_iconst (pc := 387) C dL_sound_387 (nI 0) (by decide) ?_
                                      refine cw_istore (pc := 388) C dL_sound_388 (by decide) (lv' := [(7, .int (nI 0)), (0, .ref (A 0)), (3, .int (nI g)), (4, .int (nI m2)), (5, .int (nI k))]) rfl ?_
                                      refine cw_iload (pc := 390) C dL_sound_390 0 rfl ?_
                                      refine cw_if_eq (pc := 392) (tgt := 406) C dL_sound_392 (by decide) (fun _ => ?_) (fun h => False.elim (by revert h; decide))
                                      refine cw_iconst (pc := 406) C dL_sound_406 (nI 0) (by decide) ?_
                                      refine cw_istore (pc := 407) C dL_sound_407 (by decide) (lv' := [(8, .int (nI 0)), (7, .int (nI 0)), (0, .ref (A 0)), (3, .int (nI g)), (4, .int (nI m2)), (5, .int (nI k))]) rfl ?_
                                      refine cw_iload (pc := 409) C dL_sound_409 1 rfl ?_
                                      refine cw_if_eq (pc := 411) (tgt := 441) C dL_sound_411 (by decide) (fun _ => ?_) (fun h => False.elim (by revert h; decide))
                                      refine cw_iload_n (pc := 441) C dL_sound_441 rfl 3 rfl ?_
                                      refine cw_istore (pc := 442) C dL_sound_442 (by decide) (lv' := [(9, .int (nI g)), (8, .int (nI 0)), (7, .int (nI 0)), (0, .ref (A 0)), (3, .int (nI g)), (4, .int (nI m2)), (5, .int (nI k))]) rfl ?_
                                      refine cw_iconst (pc := 444) C dL_sound_444 (nI 0) (by decide) ?_
                                      refine cw_istore (pc := 445) C dL_sound_445 (by decide) (lv' := [(10, .int (nI 0)), (9, .int (nI g)), (8, .int (nI 0)), (7, .int (nI 0)), (0, .ref (A 0)), (3, .int (nI g)), (4, .int (nI m2)), (5, .int (nI k))]) rfl ?_
                                      refine cw_iload (pc := 447) C dL_sound_447 0 rfl ?_
                                      refine cw_iload (pc := 449) C dL_sound_449 2 rfl ?_
                                      refine cw_icmp_ge (pc := 451) (tgt := 490) C dL_sound_451 (by decide) (fun _ => ?_) (fun h => False.elim (by revert h; decide))
                                      refine cw_iload (pc := 490) C dL_sound_490 2 rfl ?_
                                      refine cw_if_le (pc := 492) (tgt := 504) C dL_sound_492 (by decide) (fun _ => ?_) (fun h => False.elim (by revert h; decide))
                                      refine cw_iinc (pc := 504) C dL_sound_504 7 rfl (nI (k + 1)) (nI_inc _ 1) (by decide) (lv' := [(5, .int (nI (k + 1))), (10, .int (nI 0)), (9, .int (nI g)), (8, .int (nI 0)), (7, .int (nI 0)), (0, .ref (A 0)), (3, .int (nI g)), (4, .int (nI m2))]) rfl ?_
                                      refine cw_goto (pc := 507) (tgt := 230) C dL_sound_507 (by decide) ?_
                                      refine cw_lv [5, 6, 7, 0] rfl ?_
                                      exact ih230 (k + 1) m2 σ7 (by omega) (by omega) (by omega) (by rw [Nat.add_sub_cancel]; exact hm2) h7
                                    · -- 380 f
                                      have h380 := bI_iff.mp h380
                                      have hf2 := h380
                                      refine cw_iconst (pc := 383) C dL_sound_383 (nI 1) (by decide) ?_
                                      refine cw_goto (pc := 384) (tgt := 388) C dL_sound_384 (by decide) ?_
                                      refine cw_istore (pc := 388) C dL_sound_388 (by decide) (lv' := [(7, .int (nI 1)), (0, .ref (A 0)), (3, .int (nI g)), (4, .int (nI m2)), (5, .int (nI k))]) rfl ?_
                                      refine cw_iload (pc := 390) C dL_sound_390 0 rfl ?_
                                      refine cw_if_eq (pc := 392) (tgt := 406) C dL_sound_392 (by decide) (fun h => False.elim (by revert h; decide)) (fun _ => ?_)
                                      refine cw_aload_n (pc := 395) C dL_sound_395 rfl 1 rfl ?_
                                      refine cw_iload_n (pc := 396) C dL_sound_396 rfl 2 rfl ?_
                                      refine cw_iload (pc := 397) C dL_sound_397 4 rfl ?_
                                      refine cw_iconst (pc := 399) C dL_sound_399 (-1) (by decide) ?_
                                      by_cases hwy : wyN X g k = 0
                                      · -- way 0
                                        refine cw_calli (pc := 400) C dL_sound_400 (w_way l D Z A σ7 X F K nn M (nI g) (nI k) (-1) h7) (cwV 3 C.1.2.2.2.2 gL_sound_X6_way rfl rfl rfl (by decide +kernel) ⟨Nat.le_of_ble_eq_true rfl, Nat.le_of_ble_eq_true rfl⟩) 0 rfl rfl rfl rfl (Nat.le_of_ble_eq_true rfl) (fun r8 σ8 hr8 => ?_)
                                        rw [wyA_none hf1 hf2 h240 hwy] at hr8
                                        obtain ⟨rfl, h8⟩ := hr8
                                        have h8 : absP σ8 X F K nn M := h8
                                        refine cw_top (-5) rfl ?_
                                        refine cw_goto (pc := 403) (tgt := 407) C dL_sound_403 (by decide) ?_
                                        refine cw_istore (pc := 407) C dL_sound_407 (by decide) (lv' := [(8, .int ((-5))), (7, .int (nI 1)), (0, .ref (A 0)), (3, .int (nI g)), (4, .int (nI m2)), (5, .int (nI k))]) rfl ?_
                                        refine cw_iload (pc := 409) C dL_sound_409 1 rfl ?_
                                        refine cw_if_eq (pc := 411) (tgt := 441) C dL_sound_411 (by decide) (fun h => False.elim (by revert h; decide)) (fun _ => ?_)
                                        refine cw_iload (pc := 414) C dL_sound_414 0 rfl ?_
                                        refine cw_aload_n (pc := 416) C dL_sound_416 rfl 2 rfl ?_
                                        refine cw_iload (pc := 417) C dL_sound_417 5 rfl ?_
                                        refine cw_iload_n (pc := 419) C dL_sound_419 rfl 3 rfl ?_
                                        refine cw_iconst (pc := 420) C dL_sound_420 (-1) (by decide) ?_
                                        refine cw_calli (pc := 421) C dL_sound_421 (w_way l D Z A σ8 X F K nn M (nI k) (nI g) (-1) h8) (cwV 3 C.1.2.2.2.2 gL_sound_X6_way rfl rfl rfl (by decide +kernel) ⟨Nat.le_of_ble_eq_true rfl, Nat.le_of_ble_eq_true rfl⟩) 0 rfl rfl rfl rfl (Nat.le_of_ble_eq_true rfl) (fun r9 σ9 hr9 => ?_)
                                        rw [wyA_none hf2 hf1 (fun q => h240 q.symm) ((wy_sym hf2 hf1).trans hwy)] at hr9
                                        obtain ⟨rfl, h9⟩ := hr9
                                        have h9 : absP σ9 X F K nn M := h9
                                        refine cw_top (-5) rfl ?_
                                        refine cw_icmp_ne (pc := 424) (tgt := 439) C dL_sound_424 (by decide) (fun h => False.elim (by revert h; decide)) (fun _ => ?_)
                                        refine cw_iload (pc := 427) C dL_sound_427 0 rfl ?_
                                        refine cw_if_eq (pc := 429) (tgt := 439) C dL_sound_429 (by decide) (fun h => False.elim (by revert h; decide)) (fun _ => ?_)
                                        refine cw_iload (pc := 432) C dL_sound_432 0 rfl ?_
                                        refine cw_bipush (pc := 434) C dL_sound_434 (nI 6) (by decide) ?_
                                        refine cw_icmp_le (pc := 436) (tgt := 441) C dL_sound_436 (by decide) (fun _ => ?_) (fun h => False.elim (by revert h; decide))
                                        refine cw_iload_n (pc := 441) C dL_sound_441 rfl 3 rfl ?_
                                        refine cw_istore (pc := 442) C dL_sound_442 (by decide) (lv' := [(9, .int (nI g)), (8, .int ((-5))), (7, .int (nI 1)), (0, .ref (A 0)), (3, .int (nI g)), (4, .int (nI m2)), (5, .int (nI k))]) rfl ?_
                                        refine cw_iconst (pc := 444) C dL_sound_444 (nI 0) (by decide) ?_
                                        refine cw_istore (pc := 445) C dL_sound_445 (by decide) (lv' := [(10, .int (nI 0)), (9, .int (nI g)), (8, .int ((-5))), (7, .int (nI 1)), (0, .ref (A 0)), (3, .int (nI g)), (4, .int (nI m2)), (5, .int (nI k))]) rfl ?_
                                        refine cw_iload (pc := 447) C dL_sound_447 0 rfl ?_
                                        refine cw_iload (pc := 449) C dL_sound_449 2 rfl ?_
                                        refine cw_icmp_ge (pc := 451) (tgt := 490) C dL_sound_451 (by decide) (fun _ => ?_) (fun h => False.elim (by revert h; decide))
                                        refine cw_iload (pc := 490) C dL_sound_490 2 rfl ?_
                                        refine cw_if_le (pc := 492) (tgt := 504) C dL_sound_492 (by decide) (fun _ => ?_) (fun h => False.elim (by revert h; decide))
                                        refine cw_iinc (pc := 504) C dL_sound_504 7 rfl (nI (k + 1)) (nI_inc _ 1) (by decide) (lv' := [(5, .int (nI (k + 1))), (10, .int (nI 0)), (9, .int (nI g)), (8, .int ((-5))), (7, .int (nI 1)), (0, .ref (A 0)), (3, .int (nI g)), (4, .int (nI m2))]) rfl ?_
                                        refine cw_goto (pc := 507) (tgt := 230) C dL_sound_507 (by decide) ?_
                                        refine cw_lv [5, 6, 7, 0] rfl ?_
                                        exact ih230 (k + 1) m2 σ9 (by omega) (by omega) (by omega) (by rw [Nat.add_sub_cancel]; exact hm2) h9
                                      · -- way 1
                                        refine cw_calli (pc := 400) C dL_sound_400 (w_way l D Z A σ7 X F K nn M (nI g) (nI k) (-1) h7) (cwV 3 C.1.2.2.2.2 gL_sound_X6_way rfl rfl rfl (by decide +kernel) ⟨Nat.le_of_ble_eq_true rfl, Nat.le_of_ble_eq_true rfl⟩) 0 rfl rfl rfl rfl (Nat.le_of_ble_eq_true rfl) (fun r8 σ8 hr8 => ?_)
                                        rw [wyA_some hf1 hf2 h240 hwy] at hr8
                                        obtain ⟨rfl, h8⟩ := hr8
                                        have h8 : absP σ8 X F K nn M := h8
                                        refine cw_top (nI (wyN X g k)) rfl ?_
                                        have hwl : wyN X g k ≤ 6 := wayN_le _ _ _ _
                                        refine cw_goto (pc := 403) (tgt := 407) C dL_sound_403 (by decide) ?_
                                        refine cw_istore (pc := 407) C dL_sound_407 (by decide) (lv' := [(8, .int (nI (wyN X g k))), (7, .int (nI 1)), (0, .ref (A 0)), (3, .int (nI g)), (4, .int (nI m2)), (5, .int (nI k))]) rfl ?_
                                        refine cw_iload (pc := 409) C dL_sound_409 1 rfl ?_
                                        refine cw_if_eq (pc := 411) (tgt := 441) C dL_sound_411 (by decide) (fun h => False.elim (by revert h; decide)) (fun _ => ?_)
                                        refine cw_iload (pc := 414) C dL_sound_414 0 rfl ?_
                                        refine cw_aload_n (pc := 416) C dL_sound_416 rfl 2 rfl ?_
                                        refine cw_iload (pc := 417) C dL_sound_417 5 rfl ?_
                                        refine cw_iload_n (pc := 419) C dL_sound_419 rfl 3 rfl ?_
                                        refine cw_iconst (pc := 420) C dL_sound_420 (-1) (by decide) ?_
                                        refine cw_calli (pc := 421) C dL_sound_421 (w_way l D Z A σ8 X F K nn M (nI k) (nI g) (-1) h8) (cwV 3 C.1.2.2.2.2 gL_sound_X6_way rfl rfl rfl (by decide +kernel) ⟨Nat.le_of_ble_eq_true rfl, Nat.le_of_ble_eq_true rfl⟩) 0 rfl rfl rfl rfl (Nat.le_of_ble_eq_true rfl) (fun r10 σ10 hr10 => ?_)
                                        rw [(wyA_some hf2 hf1 (fun q => h240 q.symm) (fun q => hwy ((wy_sym hf1 hf2).trans q))).trans (congrArg (fun q => Sum.inl (nI q)) (wy_sym hf2 hf1))] at hr10
                                        obtain ⟨rfl, h10⟩ := hr10
                                        have h10 : absP σ10 X F K nn M := h10
                                        refine cw_top (nI (wyN X g k)) rfl ?_
                                        refine cw_icmp_ne (pc := 424) (tgt := 439) C dL_sound_424 (by decide) (fun h424 => ?_) (fun h424 => ?_)
                                        · -- 424 t
                                          have h424 : ¬ (wyN X g k) = (wyN X g k) := (nc_ne (a := wyN X g k) (b := wyN X g k) (by omega) (by omega)).mp h424
                                          exact absurd rfl h424
                                        · -- 424 f
                                          have h424 : (wyN X g k) = (wyN X g k) := (nc_eq (a := wyN X g k) (b := wyN X g k) (by omega) (by omega)).mp h424
                                          refine cw_iload (pc := 427) C dL_sound_427 0 rfl ?_
                                          refine cw_if_eq (pc := 429) (tgt := 439) C dL_sound_429 (by decide) (fun h429 => ?_) (fun h429 => ?_)
                                          · -- 429 t
                                            have h429 : (wyN X g k) = 0 := (nc_eq (a := wyN X g k) (b := 0) (by omega) (by omega)).mp h429
                                            exact absurd h429 hwy
                                          · -- 429 f
                                            have h429 : ¬ ((wyN X g k) = 0) := fun qq => h429 ((nc_eq (a := wyN X g k) (b := 0) (by omega) (by omega)).mpr qq)
                                            refine cw_iload (pc := 432) C dL_sound_432 0 rfl ?_
                                            refine cw_bipush (pc := 434) C dL_sound_434 (nI 6) (by decide) ?_
                                            refine cw_icmp_le (pc := 436) (tgt := 441) C dL_sound_436 (by decide) (fun h436 => ?_) (fun h436 => ?_)
                                            · -- 436 t
                                              have h436 : (wyN X g k) ≤ 6 := (nc_le (a := wyN X g k) (b := 6) (by omega) (by omega)).mp h436
                                              refine cw_iload_n (pc := 441) C dL_sound_441 rfl 3 rfl ?_
                                              refine cw_istore (pc := 442) C dL_sound_442 (by decide) (lv' := [(9, .int (nI g)), (8, .int (nI (wyN X g k))), (7, .int (nI 1)), (0, .ref (A 0)), (3, .int (nI g)), (4, .int (nI m2)), (5, .int (nI k))]) rfl ?_
                                              refine cw_iconst (pc := 444) C dL_sound_444 (nI 0) (by decide) ?_
                                              refine cw_istore (pc := 445) C dL_sound_445 (by decide) (lv' := [(10, .int (nI 0)), (9, .int (nI g)), (8, .int (nI (wyN X g k))), (7, .int (nI 1)), (0, .ref (A 0)), (3, .int (nI g)), (4, .int (nI m2)), (5, .int (nI k))]) rfl ?_
                                              have L447 : ∀ (n447 : Nat) (j : Nat) (σg : St) (hj : j ≤ wyN X g k) (hm5 : wyN X g k < j + n447) (hσg : absP σg X F K nn M), CW p0 l e0 (rmC 6 135) s0 m0 g0 b0 t0 c0 D A0 12 (wC Z A) Q σg 447 [(0, .ref (A 0)), (3, .int (nI g)), (4, .int (nI m2)), (5, .int (nI k)), (8, .int (nI (wyN X g k))), (9, .int (nI (wyG X g k j))), (10, .int (nI j))] [] := by
                                                intro n447
                                                induction n447 with
                                                | zero => intro j σg hj hm5 hσg; exact absurd hm5 (by omega)
                                                | succ n447 ih447 =>
                                                  intro j σg hj hm5 hσg
                                                  refine cw_iload (pc := 447) C dL_sound_447 6 rfl ?_
                                                  refine cw_iload (pc := 449) C dL_sound_449 4 rfl ?_
                                                  refine cw_icmp_ge (pc := 451) (tgt := 490) C dL_sound_451 (by decide) (fun h451 => ?_) (fun h451 => ?_)
                                                  · -- 451 t
                                                    have h451 : (wyN X g k) ≤ j := (nc_ge (a := j) (b := wyN X g k) (by omega) (by omega)).mp h451
                                                    have hje : j = wyN X g k := by omega
                                                    have hge : wyG X g k j = k := by rw [hje]; exact wyG_end hwy
                                                    refine cw_iload (pc := 490) C dL_sound_490 4 rfl ?_
                                                    refine cw_if_le (pc := 492) (tgt := 504) C dL_sound_492 (by decide) (fun h492 => ?_) (fun h492 => ?_)
                                                    · -- 492 t
                                                      have h492 : (wyN X g k) ≤ 0 := (nc_le (a := wyN X g k) (b := 0) (by omega) (by omega)).mp h492
                                                      exact absurd h492 (by omega)
                                                    · -- 492 f
                                                      have h492 : ¬ ((wyN X g k) ≤ 0) := fun qq => h492 ((nc_le (a := wyN X g k) (b := 0) (by omega) (by omega)).mpr qq)
                                                      refine cw_iload (pc := 495) C dL_sound_495 5 rfl ?_
                                                      refine cw_iload (pc := 497) C dL_sound_497 3 rfl ?_
                                                      refine cw_icmp_eq (pc := 499) (tgt := 504) C dL_sound_499 (by decide) (fun h499 => ?_) (fun h499 => ?_)
                                                      · -- 499 t
                                                        have h499 : (wyG X g k j) = k := (nc_eq (a := wyG X g k j) (b := k) (by omega) (by omega)).mp h499
                                                        refine cw_iinc (pc := 504) C dL_sound_504 3 rfl (nI (k + 1)) (nI_inc _ 1) (by decide) (lv' := [(5, .int (nI (k + 1))), (0, .ref (A 0)), (3, .int (nI g)), (4, .int (nI m2)), (8, .int (nI (wyN X g k))), (9, .int (nI (wyG X g k j))), (10, .int (nI j))]) rfl ?_
                                                        refine cw_goto (pc := 507) (tgt := 230) C dL_sound_507 (by decide) ?_
                                                        refine cw_lv [1, 2, 3, 0] rfl ?_
                                                        exact ih230 (k + 1) m2 σg (by omega) (by omega) (by omega) (by rw [Nat.add_sub_cancel]; exact hm2) hσg
                                                      · -- 499 f
                                                        have h499 : ¬ ((wyG X g k j) = k) := fun qq => h499 ((nc_eq (a := wyG X g k j) (b := k) (by omega) (by omega)).mpr qq)
                                                        exact absurd hge h499
                                                  · -- 451 f
                                                    have h451 : ¬ ((wyN X g k) ≤ j) := fun qq => h451 ((nc_ge (a := j) (b := wyN X g k) (by omega) (by omega)).mpr qq)
                                                    have hst : simN X (wyG X g k j) (wyG X g k (j + 1)) = true := go_sim hf2 (by omega)
                                                    obtain ⟨r1, r2, r3, r4⟩ := simN_rng hst
                                                    have hjn := simN_ne hOK.1 r2 hst
                                                    refine cw_aload_n (pc := 454) C dL_sound_454 rfl 0 rfl ?_
                                                    refine cw_iload_n (pc := 455) C dL_sound_455 rfl 1 rfl ?_
                                                    refine cw_iload (pc := 456) C dL_sound_456 3 rfl ?_
                                                    refine cw_iload (pc := 458) C dL_sound_458 6 rfl ?_
                                                    refine cw_calli (pc := 460) C dL_sound_460 (w_way l D Z A σg X F K nn M (nI g) (nI k) (nI j) hσg) (cwV 3 C.1.2.2.2.2 gL_sound_X6_way rfl rfl rfl (by decide +kernel) ⟨Nat.le_of_ble_eq_true rfl, Nat.le_of_ble_eq_true rfl⟩) 0 rfl rfl rfl rfl (Nat.le_of_ble_eq_true rfl) (fun r11 σ11 hr11 => ?_)
                                                    rw [wyA_i hf1 hf2 h240 (by omega)] at hr11
                                                    obtain ⟨rfl, h11⟩ := hr11
                                                    have h11 : absP σ11 X F K nn M := h11
                                                    refine cw_top (nI (wyG X g k (j + 1))) rfl ?_
                                                    refine cw_istore (pc := 463) C dL_sound_463 (by decide) (lv' := [(11, .int (nI (wyG X g k (j + 1)))), (0, .ref (A 0)), (3, .int (nI g)), (4, .int (nI m2)), (5, .int (nI k)), (8, .int (nI (wyN X g k))), (9, .int (nI (wyG X g k j))), (10, .int (nI j))]) rfl ?_
                                                    refine cw_aload_n (pc := 465) C dL_sound_465 rfl 1 rfl ?_
                                                    refine cw_iload (pc := 466) C dL_sound_466 6 rfl ?_
                                                    refine cw_iload (pc := 468) C dL_sound_468 0 rfl ?_
                                                    refine cw_iconst (pc := 470) C dL_sound_470 (nI 0) (by decide) ?_
                                                    refine cw_calli (pc := 471) C dL_sound_471 (w_simple l D Z A σ11 X F K nn M (nI (wyG X g k j)) (nI (wyG X g k (j + 1))) (nI 0) h11) (cwV 3 C.1.2.2.2.2 gL_sound_X6_simple rfl rfl rfl (by decide +kernel) ⟨Nat.le_of_ble_eq_true rfl, Nat.le_of_ble_eq_true rfl⟩) 0 rfl rfl rfl rfl (Nat.le_of_ble_eq_true rfl) (fun r12 σ12 hr12 => ?_)
                                                    rw [(smA_0 r1 r2 r3 r4 hjn).trans (congrArg Sum.inl (congrArg bI hst))] at hr12
                                                    obtain ⟨rfl, h12⟩ := hr12
                                                    have h12 : absP σ12 X F K nn M := h12
                                                    refine cw_top (nI 1) rfl ?_
                                                    refine cw_iconst (pc := 474) C dL_sound_474 (nI 1) (by decide) ?_
                                                    refine cw_icmp_eq (pc := 475) (tgt := 480) C dL_sound_475 (by decide) (fun _ => ?_) (fun h => False.elim (by revert h; decide))
                                                    refine cw_iload (pc := 480) C dL_sound_480 0 rfl ?_
                                                    refine cw_istore (pc := 482) C dL_sound_482 (by decide) (lv' := [(9, .int (nI (wyG X g k (j + 1)))), (11, .int (nI (wyG X g k (j + 1)))), (0, .ref (A 0)), (3, .int (nI g)), (4, .int (nI m2)), (5, .int (nI k)), (8, .int (nI (wyN X g k))), (10, .int (nI j))]) rfl ?_
                                                    refine cw_iinc (pc := 484) C dL_sound_484 7 rfl (nI (j + 1)) (nI_inc _ 1) (by decide) (lv' := [(10, .int (nI (j + 1))), (9, .int (nI (wyG X g k (j + 1)))), (11, .int (nI (wyG X g k (j + 1)))), (0, .ref (A 0)), (3, .int (nI g)), (4, .int (nI m2)), (5, .int (nI k)), (8, .int (nI (wyN X g k)))]) rfl ?_
                                                    refine cw_goto (pc := 487) (tgt := 447) C dL_sound_487 (by decide) ?_
                                                    refine cw_lv [3, 4, 5, 6, 7, 1, 0] rfl ?_
                                                    exact ih447 (j + 1) σ12 (by omega) (by omega) h12
                                              refine cw_lv [4, 5, 6, 7, 2, 1, 0] rfl ?_
                                              exact L447 (wyN X g k + 1) 0 σ10 (by omega) (by omega) h10
                                            · -- 436 f
                                              have h436 : ¬ ((wyN X g k) ≤ 6) := fun qq => h436 ((nc_le (a := wyN X g k) (b := 6) (by omega) (by omega)).mpr qq)
                                              exact absurd h436 (by omega)
                                refine cw_aload_n (pc := 246) C dL_sound_246 rfl 0 rfl ?_
                                refine cw_iload_n (pc := 247) C dL_sound_247 rfl 1 rfl ?_
                                refine cw_iload (pc := 248) C dL_sound_248 3 rfl ?_
                                refine cw_iconst (pc := 250) C dL_sound_250 (nI 0) (by decide) ?_
                                refine cw_calli (pc := 251) C dL_sound_251 (w_simple l D Z A σe X F K nn M (nI g) (nI k) (nI 0) hσe) (cwV 3 C.1.2.2.2.2 gL_sound_X6_simple rfl rfl rfl (by decide +kernel) ⟨Nat.le_of_ble_eq_true rfl, Nat.le_of_ble_eq_true rfl⟩) 0 rfl rfl rfl rfl (Nat.le_of_ble_eq_true rfl) (fun r13 σ13 hr13 => ?_)
                                rw [smA_0 g1 (by omega) k1 (by omega) h240] at hr13
                                obtain ⟨rfl, h13⟩ := hr13
                                have h13 : absP σ13 X F K nn M := h13
                                rcases Bool.eq_false_or_eq_true (simN X g k) with hs | hs
                                · -- simple 1
                                  refine cw_top (nI 1) (by rw [hs]; rfl) ?_
                                  refine cw_istore (pc := 254) C dL_sound_254 (by decide) (lv' := [(6, .int (nI 1)), (0, .ref (A 0)), (3, .int (nI g)), (4, .int (nI mm)), (5, .int (nI k))]) rfl ?_
                                  refine cw_iload (pc := 256) C dL_sound_256 3 rfl ?_
                                  refine cw_iload (pc := 258) C dL_sound_258 0 rfl ?_
                                  refine cw_iadd (pc := 260) C dL_sound_260 (z := nI (mm + 1)) (nI_add _ _) ?_
                                  refine cw_istore (pc := 261) C dL_sound_261 (by decide) (lv' := [(4, .int (nI (mm + 1))), (6, .int (nI 1)), (0, .ref (A 0)), (3, .int (nI g)), (5, .int (nI k))]) rfl ?_
                                  refine cw_iload (pc := 263) C dL_sound_263 1 rfl ?_
                                  refine cw_aload_n (pc := 265) C dL_sound_265 rfl 2 rfl ?_
                                  refine cw_iload (pc := 266) C dL_sound_266 4 rfl ?_
                                  refine cw_iload_n (pc := 268) C dL_sound_268 rfl 3 rfl ?_
                                  refine cw_iconst (pc := 269) C dL_sound_269 (nI 0) (by decide) ?_
                                  refine cw_calli (pc := 270) C dL_sound_270 (w_simple l D Z A σ13 X F K nn M (nI k) (nI g) (nI 0) h13) (cwV 3 C.1.2.2.2.2 gL_sound_X6_simple rfl rfl rfl (by decide +kernel) ⟨Nat.le_of_ble_eq_true rfl, Nat.le_of_ble_eq_true rfl⟩) 0 rfl rfl rfl rfl (Nat.le_of_ble_eq_true rfl) (fun r14 σ14 hr14 => ?_)
                                  rw [(smA_0 k1 (by omega) g1 (by omega) (fun q => h240 q.symm)).trans (congrArg Sum.inl ((congrArg bI (simN_comm X k g)).trans (congrArg bI hs)))] at hr14
                                  obtain ⟨rfl, h14⟩ := hr14
                                  have h14 : absP σ14 X F K nn M := h14
                                  refine cw_top (nI 1) rfl ?_
                                  refine cw_icmp_ne (pc := 273) (tgt := 295) C dL_sound_273 (by decide) (fun h => False.elim (by revert h; decide)) (fun _ => ?_)
                                  refine cw_aload_n (pc := 276) C dL_sound_276 rfl 2 rfl ?_
                                  refine cw_iload_n (pc := 277) C dL_sound_277 rfl 3 rfl ?_
                                  refine cw_iload (pc := 278) C dL_sound_278 4 rfl ?_
                                  refine cw_iconst (pc := 280) C dL_sound_280 (nI 1) (by decide) ?_
                                  refine cw_calli (pc := 281) C dL_sound_281 (w_simple l D Z A σ14 X F K nn M (nI g) (nI k) (nI 1) h14) (cwV 3 C.1.2.2.2.2 gL_sound_X6_simple rfl rfl rfl (by decide +kernel) ⟨Nat.le_of_ble_eq_true rfl, Nat.le_of_ble_eq_true rfl⟩) 0 rfl rfl rfl rfl (Nat.le_of_ble_eq_true rfl) (fun r15 σ15 hr15 => ?_)
                                  rw [smA_1 g1 (by omega) k1 (by omega) h240] at hr15
                                  obtain ⟨rfl, h15⟩ := hr15
                                  have h15 : absP σ15 X F K nn M := h15
                                  refine cw_top (comN X g k) rfl ?_
                                  refine cw_aload_n (pc := 284) C dL_sound_284 rfl 2 rfl ?_
                                  refine cw_iload (pc := 285) C dL_sound_285 4 rfl ?_
                                  refine cw_iload_n (pc := 287) C dL_sound_287 rfl 3 rfl ?_
                                  refine cw_iconst (pc := 288) C dL_sound_288 (nI 2) (by decide) ?_
                                  refine cw_calli (pc := 289) C dL_sound_289 (w_simple l D Z A σ15 X F K nn M (nI k) (nI g) (nI 2) h15) (cwV 3 C.1.2.2.2.2 gL_sound_X6_simple rfl rfl rfl (by decide +kernel) ⟨Nat.le_of_ble_eq_true rfl, Nat.le_of_ble_eq_true rfl⟩) 0 rfl rfl rfl rfl (Nat.le_of_ble_eq_true rfl) (fun r16 σ16 hr16 => ?_)
                                  rw [smA_2 k1 (by omega) g1 (by omega) (fun q => h240 q.symm)] at hr16
                                  obtain ⟨rfl, h16⟩ := hr16
                                  have h16 : absP σ16 X F K nn M := h16
                                  refine cw_top (comN X g k) rfl ?_
                                  refine cw_icmp_eq (pc := 292) (tgt := 297) C dL_sound_292 (by decide) (fun h292 => ?_) (fun h292 => absurd rfl h292)
                                  refine cw_iload (pc := 297) C dL_sound_297 1 rfl ?_
                                  refine cw_iconst (pc := 299) C dL_sound_299 (nI 1) (by decide) ?_
                                  refine cw_icmp_ne (pc := 300) (tgt := 362) C dL_sound_300 (by decide) (fun h => False.elim (by revert h; decide)) (fun _ => ?_)
                                  refine cw_aload_n (pc := 303) C dL_sound_303 rfl 2 rfl ?_
                                  refine cw_aload_n (pc := 304) C dL_sound_304 rfl 2 rfl ?_
                                  refine cw_iload_n (pc := 305) C dL_sound_305 rfl 3 rfl ?_
                                  refine cw_iconst (pc := 306) C dL_sound_306 (nI 0) (by decide) ?_
                                  refine cw_calli (pc := 307) C dL_sound_307 (w_of l D Z A σ16 X F K nn M (nI g) (nI 0) h16) (cwV 2 C.1.2.2.2.2 gL_sound_X6_of rfl rfl rfl (by decide +kernel) ⟨Nat.le_of_ble_eq_true rfl, Nat.le_of_ble_eq_true rfl⟩) 0 rfl rfl rfl rfl (Nat.le_of_ble_eq_true rfl) (fun r17 σ17 hr17 => ?_)
                                  rw [ofA_0 g1 (by omega)] at hr17
                                  obtain ⟨rfl, h17⟩ := hr17
                                  have h17 : absP σ17 X F K nn M := h17
                                  refine cw_top (X g) rfl ?_
                                  refine cw_aload_n (pc := 310) C dL_sound_310 rfl 2 rfl ?_
                                  refine cw_iload (pc := 311) C dL_sound_311 4 rfl ?_
                                  refine cw_iconst (pc := 313) C dL_sound_313 (nI 0) (by decide) ?_
                                  refine cw_calli (pc := 314) C dL_sound_314 (w_of l D Z A σ17 X F K nn M (nI k) (nI 0) h17) (cwV 2 C.1.2.2.2.2 gL_sound_X6_of rfl rfl rfl (by decide +kernel) ⟨Nat.le_of_ble_eq_true rfl, Nat.le_of_ble_eq_true rfl⟩) 0 rfl rfl rfl rfl (Nat.le_of_ble_eq_true rfl) (fun r18 σ18 hr18 => ?_)
                                  rw [ofA_0 k1 (by omega)] at hr18
                                  obtain ⟨rfl, h18⟩ := hr18
                                  have h18 : absP σ18 X F K nn M := h18
                                  refine cw_top (X k) rfl ?_
                                  refine cw_ior (pc := 317) C dL_sound_317 (z := (X g) ||| (X k)) rfl ?_
                                  refine cw_calli (pc := 318) C dL_sound_318 (w_ties l D Z A σ18 X F K nn M ((X g) ||| (X k)) h18) (cwV 1 C.1.2.2.2.2 gL_sound_X6_ties rfl rfl rfl (by decide +kernel) ⟨Nat.le_of_ble_eq_true rfl, Nat.le_of_ble_eq_true rfl⟩) 0 rfl rfl rfl rfl (Nat.le_of_ble_eq_true rfl) (fun r19 σ19 hr19 => ?_)
                                  rw [tie_two hOK.1 hs] at hr19
                                  obtain ⟨rfl, h19⟩ := hr19
                                  have h19 : absP σ19 X F K nn M := h19
                                  refine cw_top (nI 1) rfl ?_
                                  refine cw_iconst (pc := 321) C dL_sound_321 (nI 1) (by decide) ?_
                                  refine cw_icmp_ne (pc := 322) (tgt := 360) C dL_sound_322 (by decide) (fun h => False.elim (by revert h; decide)) (fun _ => ?_)
                                  refine cw_aload_n (pc := 325) C dL_sound_325 rfl 2 rfl ?_
                                  refine cw_iload_n (pc := 326) C dL_sound_326 rfl 3 rfl ?_
                                  refine cw_iload (pc := 327) C dL_sound_327 4 rfl ?_
                                  refine cw_iconst (pc := 329) C dL_sound_329 (-1) (by decide) ?_
                                  refine cw_calli (pc := 330) C dL_sound_330 (w_way l D Z A σ19 X F K nn M (nI g) (nI k) (-1) h19) (cwV 3 C.1.2.2.2.2 gL_sound_X6_way rfl rfl rfl (by decide +kernel) ⟨Nat.le_of_ble_eq_true rfl, Nat.le_of_ble_eq_true rfl⟩) 0 rfl rfl rfl rfl (Nat.le_of_ble_eq_true rfl) (fun r20 σ20 hr20 => ?_)
                                  rw [wyA_one hs h240] at hr20
                                  obtain ⟨rfl, h20⟩ := hr20
                                  have h20 : absP σ20 X F K nn M := h20
                                  refine cw_top (nI 1) rfl ?_
                                  refine cw_iconst (pc := 333) C dL_sound_333 (nI 1) (by decide) ?_
                                  refine cw_icmp_ne (pc := 334) (tgt := 360) C dL_sound_334 (by decide) (fun h => False.elim (by revert h; decide)) (fun _ => ?_)
                                  refine cw_aload_n (pc := 337) C dL_sound_337 rfl 2 rfl ?_
                                  refine cw_iload_n (pc := 338) C dL_sound_338 rfl 3 rfl ?_
                                  refine cw_iload (pc := 339) C dL_sound_339 4 rfl ?_
                                  refine cw_iconst (pc := 341) C dL_sound_341 (nI 0) (by decide) ?_
                                  refine cw_calli (pc := 342) C dL_sound_342 (w_way l D Z A σ20 X F K nn M (nI g) (nI k) (nI 0) h20) (cwV 3 C.1.2.2.2.2 gL_sound_X6_way rfl rfl rfl (by decide +kernel) ⟨Nat.le_of_ble_eq_true rfl, Nat.le_of_ble_eq_true rfl⟩) 0 rfl rfl rfl rfl (Nat.le_of_ble_eq_true rfl) (fun r21 σ21 hr21 => ?_)
                                  rw [wyA_fst hs h240] at hr21
                                  obtain ⟨rfl, h21⟩ := hr21
                                  have h21 : absP σ21 X F K nn M := h21
                                  refine cw_top (nI k) rfl ?_
                                  refine cw_iload (pc := 345) C dL_sound_345 4 rfl ?_
                                  refine cw_icmp_ne (pc := 347) (tgt := 360) C dL_sound_347 (by decide) (fun h347 => ?_) (fun h347 => ?_)
                                  · -- 347 t
                                    have h347 : ¬ k = k := (nc_ne (a := k) (b := k) (by omega) (by omega)).mp h347
                                    exact absurd rfl h347
                                  · -- 347 f
                                    have h347 : k = k := (nc_eq (a := k) (b := k) (by omega) (by omega)).mp h347
                                    refine cw_aload_n (pc := 350) C dL_sound_350 rfl 2 rfl ?_
                                    refine cw_iload_n (pc := 351) C dL_sound_351 rfl 3 rfl ?_
                                    refine cw_iload (pc := 352) C dL_sound_352 4 rfl ?_
                                    refine cw_calls (pc := 354) C dL_sound_354 (c_L_overlaps l D Z A σ21 X F K nn M g k h21 hs) (va_cwS 3 C.1.2.2.2.2 gL_sound_L_overlaps rfl rfl rfl (by decide +kernel) ⟨Nat.le_of_ble_eq_true rfl, Nat.le_of_ble_eq_true rfl⟩) rfl rfl (Nat.le_of_ble_eq_true rfl) (fun r22 σ22 hr22 => ?_)
                                    obtain ⟨z22, rfl, rfl, h22⟩ := hr22
                                    refine cw_top (nI 1) rfl ?_
                                    refine cw_if_ne (pc := 357) (tgt := 362) C dL_sound_357 (by decide) (fun _ => ?_) (fun h => False.elim (by revert h; decide))
                                    refine cw_lv [2, 3, 0, 4] rfl ?_
                                    exact L362 (mm + 1) σ22 (by rw [cnt_at k1, ← hmm, Nat.sub_add_cancel k1, hs]; rfl) h22
                                · -- simple 0
                                  refine cw_top (nI 0) (by rw [hs]; rfl) ?_
                                  refine cw_istore (pc := 254) C dL_sound_254 (by decide) (lv' := [(6, .int (nI 0)), (0, .ref (A 0)), (3, .int (nI g)), (4, .int (nI mm)), (5, .int (nI k))]) rfl ?_
                                  refine cw_iload (pc := 256) C dL_sound_256 3 rfl ?_
                                  refine cw_iload (pc := 258) C dL_sound_258 0 rfl ?_
                                  refine cw_iadd (pc := 260) C dL_sound_260 (z := nI mm) (nI_add0 _) ?_
                                  refine cw_istore (pc := 261) C dL_sound_261 (by decide) (lv' := [(4, .int (nI mm)), (6, .int (nI 0)), (0, .ref (A 0)), (3, .int (nI g)), (5, .int (nI k))]) rfl ?_
                                  refine cw_iload (pc := 263) C dL_sound_263 1 rfl ?_
                                  refine cw_aload_n (pc := 265) C dL_sound_265 rfl 2 rfl ?_
                                  refine cw_iload (pc := 266) C dL_sound_266 4 rfl ?_
                                  refine cw_iload_n (pc := 268) C dL_sound_268 rfl 3 rfl ?_
                                  refine cw_iconst (pc := 269) C dL_sound_269 (nI 0) (by decide) ?_
                                  refine cw_calli (pc := 270) C dL_sound_270 (w_simple l D Z A σ13 X F K nn M (nI k) (nI g) (nI 0) h13) (cwV 3 C.1.2.2.2.2 gL_sound_X6_simple rfl rfl rfl (by decide +kernel) ⟨Nat.le_of_ble_eq_true rfl, Nat.le_of_ble_eq_true rfl⟩) 0 rfl rfl rfl rfl (Nat.le_of_ble_eq_true rfl) (fun r23 σ23 hr23 => ?_)
                                  rw [(smA_0 k1 (by omega) g1 (by omega) (fun q => h240 q.symm)).trans (congrArg Sum.inl ((congrArg bI (simN_comm X k g)).trans (congrArg bI hs)))] at hr23
                                  obtain ⟨rfl, h23⟩ := hr23
                                  have h23 : absP σ23 X F K nn M := h23
                                  refine cw_top (nI 0) rfl ?_
                                  refine cw_icmp_ne (pc := 273) (tgt := 295) C dL_sound_273 (by decide) (fun h => False.elim (by revert h; decide)) (fun _ => ?_)
                                  refine cw_aload_n (pc := 276) C dL_sound_276 rfl 2 rfl ?_
                                  refine cw_iload_n (pc := 277) C dL_sound_277 rfl 3 rfl ?_
                                  refine cw_iload (pc := 278) C dL_sound_278 4 rfl ?_
                                  refine cw_iconst (pc := 280) C dL_sound_280 (nI 1) (by decide) ?_
                                  refine cw_calli (pc := 281) C dL_sound_281 (w_simple l D Z A σ23 X F K nn M (nI g) (nI k) (nI 1) h23) (cwV 3 C.1.2.2.2.2 gL_sound_X6_simple rfl rfl rfl (by decide +kernel) ⟨Nat.le_of_ble_eq_true rfl, Nat.le_of_ble_eq_true rfl⟩) 0 rfl rfl rfl rfl (Nat.le_of_ble_eq_true rfl) (fun r24 σ24 hr24 => ?_)
                                  rw [smA_1 g1 (by omega) k1 (by omega) h240] at hr24
                                  obtain ⟨rfl, h24⟩ := hr24
                                  have h24 : absP σ24 X F K nn M := h24
                                  refine cw_top (comN X g k) rfl ?_
                                  refine cw_aload_n (pc := 284) C dL_sound_284 rfl 2 rfl ?_
                                  refine cw_iload (pc := 285) C dL_sound_285 4 rfl ?_
                                  refine cw_iload_n (pc := 287) C dL_sound_287 rfl 3 rfl ?_
                                  refine cw_iconst (pc := 288) C dL_sound_288 (nI 2) (by decide) ?_
                                  refine cw_calli (pc := 289) C dL_sound_289 (w_simple l D Z A σ24 X F K nn M (nI k) (nI g) (nI 2) h24) (cwV 3 C.1.2.2.2.2 gL_sound_X6_simple rfl rfl rfl (by decide +kernel) ⟨Nat.le_of_ble_eq_true rfl, Nat.le_of_ble_eq_true rfl⟩) 0 rfl rfl rfl rfl (Nat.le_of_ble_eq_true rfl) (fun r25 σ25 hr25 => ?_)
                                  rw [smA_2 k1 (by omega) g1 (by omega) (fun q => h240 q.symm)] at hr25
                                  obtain ⟨rfl, h25⟩ := hr25
                                  have h25 : absP σ25 X F K nn M := h25
                                  refine cw_top (comN X g k) rfl ?_
                                  refine cw_icmp_eq (pc := 292) (tgt := 297) C dL_sound_292 (by decide) (fun h292 => ?_) (fun h292 => absurd rfl h292)
                                  refine cw_iload (pc := 297) C dL_sound_297 1 rfl ?_
                                  refine cw_iconst (pc := 299) C dL_sound_299 (nI 1) (by decide) ?_
                                  refine cw_icmp_ne (pc := 300) (tgt := 362) C dL_sound_300 (by decide) (fun _ => ?_) (fun h => False.elim (by revert h; decide))
                                  refine cw_lv [2, 3, 0, 4] rfl ?_
                                  exact L362 mm σ25 (by rw [cnt_at k1, ← hmm, Nat.sub_add_cancel k1, hs]; rfl) h25
                              · -- 240 f
                                have h240 : g = k := (nc_eq (a := g) (b := k) (by omega) (by omega)).mp h240
                                refine cw_goto (pc := 243) (tgt := 504) C dL_sound_243 (by decide) ?_
                                refine cw_iinc (pc := 504) C dL_sound_504 3 rfl (nI (k + 1)) (nI_inc _ 1) (by decide) (lv' := [(5, .int (nI (k + 1))), (0, .ref (A 0)), (3, .int (nI g)), (4, .int (nI mm))]) rfl ?_
                                refine cw_goto (pc := 507) (tgt := 230) C dL_sound_507 (by decide) ?_
                                refine cw_lv [1, 2, 3, 0] rfl ?_
                                exact ih230 (k + 1) mm σe (by omega) (by omega) (by omega) (by rw [Nat.add_sub_cancel, cnt_at k1, ← hmm, Nat.sub_add_cancel k1, ← h240, simN_irr hOK.1 (by omega)]; rfl) hσe
                        refine cw_lv [2, 3, 1, 0] rfl ?_
                        exact L230 8 1 0 σd (by omega) (by omega) (by omega) rfl hσd
                  refine cw_lv [1, 0] rfl ?_
                  exact L218 8 1 σb (by omega) (by omega) (by omega) hσb
                · -- 61 f
                  have h61 : ¬ (5 ≤ c) := fun qq => h61 ((nc_ge (a := c) (b := 5) (by omega) (by omega)).mpr qq)
                  refine cw_iconst (pc := 64) C dL_sound_64 (nI 1) (by decide) ?_
                  refine cw_istore (pc := 65) C dL_sound_65 (by decide) (lv' := [(4, .int (nI 1)), (0, .ref (A 0)), (1, .int (nI i)), (2, .int (fbits (fitN X) 7)), (3, .int (nI c))]) rfl ?_
                  have L67 : ∀ (n67 : Nat) (g : Nat) (σc : St) (g1 : 1 ≤ g) (g2 : g ≤ 8) (hm2 : 8 < g + n67) (hσc : absP σc X F K nn M), CW p0 l e0 (rmC 6 135) s0 m0 g0 b0 t0 c0 D A0 12 (wC Z A) Q σc 67 [(0, .ref (A 0)), (1, .int (nI i)), (2, .int (fbits (fitN X) 7)), (3, .int (nI c)), (4, .int (nI g))] [] := by
                    intro n67
                    induction n67 with
                    | zero => intro g σc g1 g2 hm2 hσc; exact absurd hm2 (by omega)
                    | succ n67 ih67 =>
                      intro g σc g1 g2 hm2 hσc
                      refine cw_iload (pc := 67) C dL_sound_67 4 rfl ?_
                      refine cw_bipush (pc := 69) C dL_sound_69 (nI 8) (by decide) ?_
                      refine cw_icmp_ge (pc := 71) (tgt := 187) C dL_sound_71 (by decide) (fun h71 => ?_) (fun h71 => ?_)
                      · -- 71 t
                        have h71 : 8 ≤ g := (nc_ge (a := g) (b := 8) (by omega) (by omega)).mp h71
                        have hg8 : g = 8 := by omega
                        obtain ⟨fl, fl1, fl2, hfl⟩ := hOK.2.2.2.1 c (by omega)
                        refine cw_aload_n (pc := 187) C dL_sound_187 rfl 0 rfl ?_
                        refine cw_iload_n (pc := 188) C dL_sound_188 rfl 3 rfl ?_
                        refine cw_iconst (pc := 189) C dL_sound_189 (nI 2) (by decide) ?_
                        refine cw_calli (pc := 190) C dL_sound_190 (w_clutch l D Z A σc X F K nn M (nI c) (nI 2) hσc) (cwV 2 C.1.2.2.2.2 gL_sound_X6_clutch rfl rfl rfl (by decide +kernel) ⟨Nat.le_of_ble_eq_true rfl, Nat.le_of_ble_eq_true rfl⟩) 0 rfl rfl rfl rfl (Nat.le_of_ble_eq_true rfl) (fun r26 σ26 hr26 => ?_)
                        rw [(clA_2 (by omega)).trans (congrArg Sum.inl hfl)] at hr26
                        obtain ⟨rfl, h26⟩ := hr26
                        have h26 : absP σ26 X F K nn M := h26
                        refine cw_top (nI fl) rfl ?_
                        refine cw_iconst (pc := 193) C dL_sound_193 (nI 1) (by decide) ?_
                        refine cw_icmp_lt (pc := 194) (tgt := 208) C dL_sound_194 (by decide) (fun h194 => ?_) (fun h194 => ?_)
                        · -- 194 t
                          have h194 : fl < 1 := (nc_lt (a := fl) (b := 1) (by omega) (by omega)).mp h194
                          exact absurd h194 (by omega)
                        · -- 194 f
                          have h194 : ¬ (fl < 1) := fun qq => h194 ((nc_lt (a := fl) (b := 1) (by omega) (by omega)).mpr qq)
                          refine cw_aload_n (pc := 197) C dL_sound_197 rfl 0 rfl ?_
                          refine cw_iload_n (pc := 198) C dL_sound_198 rfl 3 rfl ?_
                          refine cw_iconst (pc := 199) C dL_sound_199 (nI 2) (by decide) ?_
                          refine cw_calli (pc := 200) C dL_sound_200 (w_clutch l D Z A σ26 X F K nn M (nI c) (nI 2) h26) (cwV 2 C.1.2.2.2.2 gL_sound_X6_clutch rfl rfl rfl (by decide +kernel) ⟨Nat.le_of_ble_eq_true rfl, Nat.le_of_ble_eq_true rfl⟩) 0 rfl rfl rfl rfl (Nat.le_of_ble_eq_true rfl) (fun r27 σ27 hr27 => ?_)
                          rw [(clA_2 (by omega)).trans (congrArg Sum.inl hfl)] at hr27
                          obtain ⟨rfl, h27⟩ := hr27
                          have h27 : absP σ27 X F K nn M := h27
                          refine cw_top (nI fl) rfl ?_
                          refine cw_bipush (pc := 203) C dL_sound_203 (nI 20) (by decide) ?_
                          refine cw_icmp_le (pc := 205) (tgt := 210) C dL_sound_205 (by decide) (fun h205 => ?_) (fun h205 => ?_)
                          · -- 205 t
                            have h205 : fl ≤ 20 := (nc_le (a := fl) (b := 20) (by omega) (by omega)).mp h205
                            refine cw_iinc (pc := 210) C dL_sound_210 3 rfl (nI (c + 1)) (nI_inc _ 1) (by decide) (lv' := [(3, .int (nI (c + 1))), (0, .ref (A 0)), (1, .int (nI i)), (2, .int (fbits (fitN X) 7)), (4, .int (nI g))]) rfl ?_
                            refine cw_goto (pc := 213) (tgt := 59) C dL_sound_213 (by decide) ?_
                            refine cw_lv [1, 2, 3, 0] rfl ?_
                            exact ih59 (c + 1) σ27 (by omega) (by omega) h27
                          · -- 205 f
                            have h205 : ¬ (fl ≤ 20) := fun qq => h205 ((nc_le (a := fl) (b := 20) (by omega) (by omega)).mpr qq)
                            exact absurd h205 (by omega)
                      · -- 71 f
                        have h71 : ¬ (8 ≤ g) := fun qq => h71 ((nc_ge (a := g) (b := 8) (by omega) (by omega)).mpr qq)
                        refine cw_aload_n (pc := 74) C dL_sound_74 rfl 0 rfl ?_
                        refine cw_iload (pc := 75) C dL_sound_75 4 rfl ?_
                        refine cw_iconst (pc := 77) C dL_sound_77 (nI 0) (by decide) ?_
                        refine cw_calli (pc := 78) C dL_sound_78 (w_of l D Z A σc X F K nn M (nI g) (nI 0) hσc) (cwV 2 C.1.2.2.2.2 gL_sound_X6_of rfl rfl rfl (by decide +kernel) ⟨Nat.le_of_ble_eq_true rfl, Nat.le_of_ble_eq_true rfl⟩) 0 rfl rfl rfl rfl (Nat.le_of_ble_eq_true rfl) (fun r28 σ28 hr28 => ?_)
                        rw [ofA_0 g1 (by omega)] at hr28
                        obtain ⟨rfl, h28⟩ := hr28
                        have h28 : absP σ28 X F K nn M := h28
                        refine cw_top (X g) rfl ?_
                        refine cw_iload_n (pc := 81) C dL_sound_81 rfl 3 rfl ?_
                        refine cw_ishr (pc := 82) C dL_sound_82 (z := (X g) >>> ((nI c) &&& 31)) rfl ?_
                        refine cw_iconst (pc := 83) C dL_sound_83 (nI 1) (by decide) ?_
                        refine cw_iand (pc := 84) C dL_sound_84 (z := sbit (X g) c) rfl ?_
                        refine cw_iconst (pc := 85) C dL_sound_85 (nI 1) (by decide) ?_
                        refine cw_icmp_ne (pc := 86) (tgt := 93) C dL_sound_86 (by decide) (fun h86 => ?_) (fun h86 => ?_)
                        · -- 86 t
                          refine cw_iconst (pc := 93) C dL_sound_93 (nI 0) (by decide) ?_
                          refine cw_istore (pc := 94) C dL_sound_94 (by decide) (lv' := [(5, .int (nI 0)), (0, .ref (A 0)), (1, .int (nI i)), (2, .int (fbits (fitN X) 7)), (3, .int (nI c)), (4, .int (nI g))]) rfl ?_
                          refine cw_aload_n (pc := 96) C dL_sound_96 rfl 1 rfl ?_
                          refine cw_iload (pc := 97) C dL_sound_97 5 rfl ?_
                          refine cw_iconst (pc := 99) C dL_sound_99 (nI 1) (by decide) ?_
                          refine cw_calli (pc := 100) C dL_sound_100 (w_of l D Z A σ28 X F K nn M (nI g) (nI 1) h28) (cwV 2 C.1.2.2.2.2 gL_sound_X6_of rfl rfl rfl (by decide +kernel) ⟨Nat.le_of_ble_eq_true rfl, Nat.le_of_ble_eq_true rfl⟩) 0 rfl rfl rfl rfl (Nat.le_of_ble_eq_true rfl) (fun r29 σ29 hr29 => ?_)
                          rw [ofA_1 g1 (by omega)] at hr29
                          obtain ⟨rfl, h29⟩ := hr29
                          have h29 : absP σ29 X F K nn M := h29
                          refine cw_top (bI (fitN X g)) rfl ?_
                          refine cw_iconst (pc := 103) C dL_sound_103 (nI 1) (by decide) ?_
                          refine cw_icmp_ne (pc := 104) (tgt := 111) C dL_sound_104 (by decide) (fun h104 => ?_) (fun h104 => ?_)
                          · -- 104 t
                            have h104 := Bool.eq_false_iff.mpr (fun qq => h104 (bI_iff.mpr qq))
                            refine cw_iconst (pc := 111) C dL_sound_111 (nI 0) (by decide) ?_
                            refine cw_istore (pc := 112) C dL_sound_112 (by decide) (lv' := [(6, .int (nI 0)), (5, .int (nI 0)), (0, .ref (A 0)), (1, .int (nI i)), (2, .int (fbits (fitN X) 7)), (3, .int (nI c)), (4, .int (nI g))]) rfl ?_
                            refine cw_iload (pc := 114) C dL_sound_114 0 rfl ?_
                            refine cw_iload_n (pc := 116) C dL_sound_116 rfl 4 rfl ?_
                            refine cw_iload (pc := 117) C dL_sound_117 6 rfl ?_
                            refine cw_ishr (pc := 119) C dL_sound_119 (z := (fbits (fitN X) 7) >>> ((nI g) &&& 31)) rfl ?_
                            refine cw_iconst (pc := 120) C dL_sound_120 (nI 1) (by decide) ?_
                            refine cw_iand (pc := 121) C dL_sound_121 (z := bI (fitN X g)) (fbits_bit g1 (by omega)) ?_
                            refine cw_iconst (pc := 122) C dL_sound_122 (nI 1) (by decide) ?_
                            refine cw_icmp_ne (pc := 123) (tgt := 130) C dL_sound_123 (by decide) (fun h123 => ?_) (fun h123 => ?_)
                            · -- 123 t
                              have h123 := Bool.eq_false_iff.mpr (fun qq => h123 (bI_iff.mpr qq))
                              refine cw_iconst (pc := 130) C dL_sound_130 (nI 0) (by decide) ?_
                              refine cw_icmp_ne (pc := 131) (tgt := 179) C dL_sound_131 (by decide) (fun h => False.elim (by revert h; decide)) (fun _ => ?_)
                              refine cw_iload (pc := 134) C dL_sound_134 0 rfl ?_
                              refine cw_if_eq (pc := 136) (tgt := 181) C dL_sound_136 (by decide) (fun _ => ?_) (fun h => False.elim (by revert h; decide))
                              refine cw_iinc (pc := 181) C dL_sound_181 6 rfl (nI (g + 1)) (nI_inc _ 1) (by decide) (lv' := [(4, .int (nI (g + 1))), (6, .int (nI 0)), (5, .int (nI 0)), (0, .ref (A 0)), (1, .int (nI i)), (2, .int (fbits (fitN X) 7)), (3, .int (nI c))]) rfl ?_
                              refine cw_goto (pc := 184) (tgt := 67) C dL_sound_184 (by decide) ?_
                              refine cw_lv [3, 4, 5, 6, 0] rfl ?_
                              exact ih67 (g + 1) σ29 (by omega) (by omega) (by omega) h29
                            · -- 123 f
                              have h123 := bI_iff.mp h123
                              exact absurd h123 (by rw [h104]; decide)
                          · -- 104 f
                            have h104 := bI_iff.mp h104
                            refine cw_iconst (pc := 107) C dL_sound_107 (nI 1) (by decide) ?_
                            refine cw_goto (pc := 108) (tgt := 112) C dL_sound_108 (by decide) ?_
                            refine cw_istore (pc := 112) C dL_sound_112 (by decide) (lv' := [(6, .int (nI 1)), (5, .int (nI 0)), (0, .ref (A 0)), (1, .int (nI i)), (2, .int (fbits (fitN X) 7)), (3, .int (nI c)), (4, .int (nI g))]) rfl ?_
                            refine cw_iload (pc := 114) C dL_sound_114 0 rfl ?_
                            refine cw_iload_n (pc := 116) C dL_sound_116 rfl 4 rfl ?_
                            refine cw_iload (pc := 117) C dL_sound_117 6 rfl ?_
                            refine cw_ishr (pc := 119) C dL_sound_119 (z := (fbits (fitN X) 7) >>> ((nI g) &&& 31)) rfl ?_
                            refine cw_iconst (pc := 120) C dL_sound_120 (nI 1) (by decide) ?_
                            refine cw_iand (pc := 121) C dL_sound_121 (z := bI (fitN X g)) (fbits_bit g1 (by omega)) ?_
                            refine cw_iconst (pc := 122) C dL_sound_122 (nI 1) (by decide) ?_
                            refine cw_icmp_ne (pc := 123) (tgt := 130) C dL_sound_123 (by decide) (fun h123 => ?_) (fun h123 => ?_)
                            · -- 123 t
                              have h123 := Bool.eq_false_iff.mpr (fun qq => h123 (bI_iff.mpr qq))
                              exact absurd h104 (by rw [h123]; decide)
                            · -- 123 f
                              have h123 := bI_iff.mp h123
                              refine cw_iconst (pc := 126) C dL_sound_126 (nI 1) (by decide) ?_
                              refine cw_goto (pc := 127) (tgt := 131) C dL_sound_127 (by decide) ?_
                              refine cw_icmp_ne (pc := 131) (tgt := 179) C dL_sound_131 (by decide) (fun h => False.elim (by revert h; decide)) (fun _ => ?_)
                              refine cw_iload (pc := 134) C dL_sound_134 0 rfl ?_
                              refine cw_if_eq (pc := 136) (tgt := 181) C dL_sound_136 (by decide) (fun h => False.elim (by revert h; decide)) (fun _ => ?_)
                              refine cw_aload_n (pc := 139) C dL_sound_139 rfl 2 rfl ?_
                              refine cw_iload (pc := 140) C dL_sound_140 6 rfl ?_
                              refine cw_iconst (pc := 142) C dL_sound_142 (nI 0) (by decide) ?_
                              refine cw_calli (pc := 143) C dL_sound_143 (w_of l D Z A σ29 X F K nn M (nI g) (nI 0) h29) (cwV 2 C.1.2.2.2.2 gL_sound_X6_of rfl rfl rfl (by decide +kernel) ⟨Nat.le_of_ble_eq_true rfl, Nat.le_of_ble_eq_true rfl⟩) 0 rfl rfl rfl rfl (Nat.le_of_ble_eq_true rfl) (fun r30 σ30 hr30 => ?_)
                              rw [ofA_0 g1 (by omega)] at hr30
                              obtain ⟨rfl, h30⟩ := hr30
                              have h30 : absP σ30 X F K nn M := h30
                              refine cw_top (X g) rfl ?_
                              refine cw_if_eq (pc := 146) (tgt := 179) C dL_sound_146 (by decide) (fun h146 => ?_) (fun h146 => ?_)
                              · -- 146 t
                                exact absurd h146 (fitN_ne0 h104)
                              · -- 146 f
                                refine cw_iload (pc := 149) C dL_sound_149 1 rfl ?_
                                refine cw_if_eq (pc := 151) (tgt := 164) C dL_sound_151 (by decide) (fun _ => ?_) (fun h => False.elim (by revert h; decide))
                                refine cw_iload (pc := 164) C dL_sound_164 1 rfl ?_
                                refine cw_if_ne (pc := 166) (tgt := 181) C dL_sound_166 (by decide) (fun h => False.elim (by revert h; decide)) (fun _ => ?_)
                                refine cw_aload_n (pc := 169) C dL_sound_169 rfl 2 rfl ?_
                                refine cw_iload_n (pc := 170) C dL_sound_170 rfl 5 rfl ?_
                                refine cw_iconst (pc := 171) C dL_sound_171 (nI 0) (by decide) ?_
                                refine cw_calli (pc := 172) C dL_sound_172 (w_clutch l D Z A σ30 X F K nn M (nI c) (nI 0) h30) (cwV 2 C.1.2.2.2.2 gL_sound_X6_clutch rfl rfl rfl (by decide +kernel) ⟨Nat.le_of_ble_eq_true rfl, Nat.le_of_ble_eq_true rfl⟩) 0 rfl rfl rfl rfl (Nat.le_of_ble_eq_true rfl) (fun r31 σ31 hr31 => ?_)
                                rw [clA_0 (by omega)] at hr31
                                obtain ⟨rfl, h31⟩ := hr31
                                have h31 : absP σ31 X F K nn M := h31
                                refine cw_top (X (24 + c)) rfl ?_
                                refine cw_iconst (pc := 175) C dL_sound_175 (nI 2) (by decide) ?_
                                refine cw_icmp_ne (pc := 176) (tgt := 181) C dL_sound_176 (by decide) (fun h176 => ?_) (fun h176 => ?_)
                                · -- 176 t
                                  refine cw_iinc (pc := 181) C dL_sound_181 6 rfl (nI (g + 1)) (nI_inc _ 1) (by decide) (lv' := [(4, .int (nI (g + 1))), (6, .int (nI 1)), (5, .int (nI 0)), (0, .ref (A 0)), (1, .int (nI i)), (2, .int (fbits (fitN X) 7)), (3, .int (nI c))]) rfl ?_
                                  refine cw_goto (pc := 184) (tgt := 67) C dL_sound_184 (by decide) ?_
                                  refine cw_lv [3, 4, 5, 6, 0] rfl ?_
                                  exact ih67 (g + 1) σ31 (by omega) (by omega) (by omega) h31
                                · -- 176 f
                                  exact absurd h176 ((fit_okc h104 (by omega)).2 h86)
                        · -- 86 f
                          refine cw_iconst (pc := 89) C dL_sound_89 (nI 1) (by decide) ?_
                          refine cw_goto (pc := 90) (tgt := 94) C dL_sound_90 (by decide) ?_
                          refine cw_istore (pc := 94) C dL_sound_94 (by decide) (lv' := [(5, .int (nI 1)), (0, .ref (A 0)), (1, .int (nI i)), (2, .int (fbits (fitN X) 7)), (3, .int (nI c)), (4, .int (nI g))]) rfl ?_
                          refine cw_aload_n (pc := 96) C dL_sound_96 rfl 1 rfl ?_
                          refine cw_iload (pc := 97) C dL_sound_97 5 rfl ?_
                          refine cw_iconst (pc := 99) C dL_sound_99 (nI 1) (by decide) ?_
                          refine cw_calli (pc := 100) C dL_sound_100 (w_of l D Z A σ28 X F K nn M (nI g) (nI 1) h28) (cwV 2 C.1.2.2.2.2 gL_sound_X6_of rfl rfl rfl (by decide +kernel) ⟨Nat.le_of_ble_eq_true rfl, Nat.le_of_ble_eq_true rfl⟩) 0 rfl rfl rfl rfl (Nat.le_of_ble_eq_true rfl) (fun r32 σ32 hr32 => ?_)
                          rw [ofA_1 g1 (by omega)] at hr32
                          obtain ⟨rfl, h32⟩ := hr32
                          have h32 : absP σ32 X F K nn M := h32
                          refine cw_top (bI (fitN X g)) rfl ?_
                          refine cw_iconst (pc := 103) C dL_sound_103 (nI 1) (by decide) ?_
                          refine cw_icmp_ne (pc := 104) (tgt := 111) C dL_sound_104 (by decide) (fun h104 => ?_) (fun h104 => ?_)
                          · -- 104 t
                            have h104 := Bool.eq_false_iff.mpr (fun qq => h104 (bI_iff.mpr qq))
                            refine cw_iconst (pc := 111) C dL_sound_111 (nI 0) (by decide) ?_
                            refine cw_istore (pc := 112) C dL_sound_112 (by decide) (lv' := [(6, .int (nI 0)), (5, .int (nI 1)), (0, .ref (A 0)), (1, .int (nI i)), (2, .int (fbits (fitN X) 7)), (3, .int (nI c)), (4, .int (nI g))]) rfl ?_
                            refine cw_iload (pc := 114) C dL_sound_114 0 rfl ?_
                            refine cw_iload_n (pc := 116) C dL_sound_116 rfl 4 rfl ?_
                            refine cw_iload (pc := 117) C dL_sound_117 6 rfl ?_
                            refine cw_ishr (pc := 119) C dL_sound_119 (z := (fbits (fitN X) 7) >>> ((nI g) &&& 31)) rfl ?_
                            refine cw_iconst (pc := 120) C dL_sound_120 (nI 1) (by decide) ?_
                            refine cw_iand (pc := 121) C dL_sound_121 (z := bI (fitN X g)) (fbits_bit g1 (by omega)) ?_
                            refine cw_iconst (pc := 122) C dL_sound_122 (nI 1) (by decide) ?_
                            refine cw_icmp_ne (pc := 123) (tgt := 130) C dL_sound_123 (by decide) (fun h123 => ?_) (fun h123 => ?_)
                            · -- 123 t
                              have h123 := Bool.eq_false_iff.mpr (fun qq => h123 (bI_iff.mpr qq))
                              refine cw_iconst (pc := 130) C dL_sound_130 (nI 0) (by decide) ?_
                              refine cw_icmp_ne (pc := 131) (tgt := 179) C dL_sound_131 (by decide) (fun h => False.elim (by revert h; decide)) (fun _ => ?_)
                              refine cw_iload (pc := 134) C dL_sound_134 0 rfl ?_
                              refine cw_if_eq (pc := 136) (tgt := 181) C dL_sound_136 (by decide) (fun _ => ?_) (fun h => False.elim (by revert h; decide))
                              refine cw_iinc (pc := 181) C dL_sound_181 6 rfl (nI (g + 1)) (nI_inc _ 1) (by decide) (lv' := [(4, .int (nI (g + 1))), (6, .int (nI 0)), (5, .int (nI 1)), (0, .ref (A 0)), (1, .int (nI i)), (2, .int (fbits (fitN X) 7)), (3, .int (nI c))]) rfl ?_
                              refine cw_goto (pc := 184) (tgt := 67) C dL_sound_184 (by decide) ?_
                              refine cw_lv [3, 4, 5, 6, 0] rfl ?_
                              exact ih67 (g + 1) σ32 (by omega) (by omega) (by omega) h32
                            · -- 123 f
                              have h123 := bI_iff.mp h123
                              exact absurd h123 (by rw [h104]; decide)
                          · -- 104 f
                            have h104 := bI_iff.mp h104
                            refine cw_iconst (pc := 107) C dL_sound_107 (nI 1) (by decide) ?_
                            refine cw_goto (pc := 108) (tgt := 112) C dL_sound_108 (by decide) ?_
                            refine cw_istore (pc := 112) C dL_sound_112 (by decide) (lv' := [(6, .int (nI 1)), (5, .int (nI 1)), (0, .ref (A 0)), (1, .int (nI i)), (2, .int (fbits (fitN X) 7)), (3, .int (nI c)), (4, .int (nI g))]) rfl ?_
                            refine cw_iload (pc := 114) C dL_sound_114 0 rfl ?_
                            refine cw_iload_n (pc := 116) C dL_sound_116 rfl 4 rfl ?_
                            refine cw_iload (pc := 117) C dL_sound_117 6 rfl ?_
                            refine cw_ishr (pc := 119) C dL_sound_119 (z := (fbits (fitN X) 7) >>> ((nI g) &&& 31)) rfl ?_
                            refine cw_iconst (pc := 120) C dL_sound_120 (nI 1) (by decide) ?_
                            refine cw_iand (pc := 121) C dL_sound_121 (z := bI (fitN X g)) (fbits_bit g1 (by omega)) ?_
                            refine cw_iconst (pc := 122) C dL_sound_122 (nI 1) (by decide) ?_
                            refine cw_icmp_ne (pc := 123) (tgt := 130) C dL_sound_123 (by decide) (fun h123 => ?_) (fun h123 => ?_)
                            · -- 123 t
                              have h123 := Bool.eq_false_iff.mpr (fun qq => h123 (bI_iff.mpr qq))
                              exact absurd h104 (by rw [h123]; decide)
                            · -- 123 f
                              have h123 := bI_iff.mp h123
                              refine cw_iconst (pc := 126) C dL_sound_126 (nI 1) (by decide) ?_
                              refine cw_goto (pc := 127) (tgt := 131) C dL_sound_127 (by decide) ?_
                              refine cw_icmp_ne (pc := 131) (tgt := 179) C dL_sound_131 (by decide) (fun h => False.elim (by revert h; decide)) (fun _ => ?_)
                              refine cw_iload (pc := 134) C dL_sound_134 0 rfl ?_
                              refine cw_if_eq (pc := 136) (tgt := 181) C dL_sound_136 (by decide) (fun h => False.elim (by revert h; decide)) (fun _ => ?_)
                              refine cw_aload_n (pc := 139) C dL_sound_139 rfl 2 rfl ?_
                              refine cw_iload (pc := 140) C dL_sound_140 6 rfl ?_
                              refine cw_iconst (pc := 142) C dL_sound_142 (nI 0) (by decide) ?_
                              refine cw_calli (pc := 143) C dL_sound_143 (w_of l D Z A σ32 X F K nn M (nI g) (nI 0) h32) (cwV 2 C.1.2.2.2.2 gL_sound_X6_of rfl rfl rfl (by decide +kernel) ⟨Nat.le_of_ble_eq_true rfl, Nat.le_of_ble_eq_true rfl⟩) 0 rfl rfl rfl rfl (Nat.le_of_ble_eq_true rfl) (fun r33 σ33 hr33 => ?_)
                              rw [ofA_0 g1 (by omega)] at hr33
                              obtain ⟨rfl, h33⟩ := hr33
                              have h33 : absP σ33 X F K nn M := h33
                              refine cw_top (X g) rfl ?_
                              refine cw_if_eq (pc := 146) (tgt := 179) C dL_sound_146 (by decide) (fun h146 => ?_) (fun h146 => ?_)
                              · -- 146 t
                                exact absurd h146 (fitN_ne0 h104)
                              · -- 146 f
                                refine cw_iload (pc := 149) C dL_sound_149 1 rfl ?_
                                refine cw_if_eq (pc := 151) (tgt := 164) C dL_sound_151 (by decide) (fun h => False.elim (by revert h; decide)) (fun _ => ?_)
                                refine cw_aload_n (pc := 154) C dL_sound_154 rfl 2 rfl ?_
                                refine cw_iload_n (pc := 155) C dL_sound_155 rfl 5 rfl ?_
                                refine cw_iconst (pc := 156) C dL_sound_156 (nI 0) (by decide) ?_
                                refine cw_calli (pc := 157) C dL_sound_157 (w_clutch l D Z A σ33 X F K nn M (nI c) (nI 0) h33) (cwV 2 C.1.2.2.2.2 gL_sound_X6_clutch rfl rfl rfl (by decide +kernel) ⟨Nat.le_of_ble_eq_true rfl, Nat.le_of_ble_eq_true rfl⟩) 0 rfl rfl rfl rfl (Nat.le_of_ble_eq_true rfl) (fun r34 σ34 hr34 => ?_)
                                rw [clA_0 (by omega)] at hr34
                                obtain ⟨rfl, h34⟩ := hr34
                                have h34 : absP σ34 X F K nn M := h34
                                refine cw_top (X (24 + c)) rfl ?_
                                refine cw_iconst (pc := 160) C dL_sound_160 (nI 1) (by decide) ?_
                                refine cw_icmp_eq (pc := 161) (tgt := 179) C dL_sound_161 (by decide) (fun h161 => ?_) (fun h161 => ?_)
                                · -- 161 t
                                  exact absurd h161 ((fit_okc h104 (by omega)).1 h86)
                                · -- 161 f
                                  refine cw_iload (pc := 164) C dL_sound_164 1 rfl ?_
                                  refine cw_if_ne (pc := 166) (tgt := 181) C dL_sound_166 (by decide) (fun _ => ?_) (fun h => False.elim (by revert h; decide))
                                  refine cw_iinc (pc := 181) C dL_sound_181 6 rfl (nI (g + 1)) (nI_inc _ 1) (by decide) (lv' := [(4, .int (nI (g + 1))), (6, .int (nI 1)), (5, .int (nI 1)), (0, .ref (A 0)), (1, .int (nI i)), (2, .int (fbits (fitN X) 7)), (3, .int (nI c))]) rfl ?_
                                  refine cw_goto (pc := 184) (tgt := 67) C dL_sound_184 (by decide) ?_
                                  refine cw_lv [3, 4, 5, 6, 0] rfl ?_
                                  exact ih67 (g + 1) σ34 (by omega) (by omega) (by omega) h34
                  refine cw_lv [1, 2, 3, 4, 0] rfl ?_
                  exact L67 8 1 σb (by omega) (by omega) (by omega) hσb
            refine cw_lv [1, 2, 3, 0] rfl ?_
            exact L59 6 0 σ4 (by omega) (by omega) h4
          · -- 52 f
            have h52 : ¬ (hd ≤ 10) := fun qq => h52 ((nc_le (a := hd) (b := 10) (by omega) (by omega)).mpr qq)
            exact absurd h52 (by omega)
      refine cw_if_le (pc := 24) (tgt := 37) C dL_sound_24 (by decide) (fun h24 => ?_) (fun h24 => ?_)
      · -- 24 t
        have h24 : i ≤ 0 := (nc_le (a := i) (b := 0) (by omega) (by omega)).mp h24
        refine cw_lv [2, 1, 0] rfl ?_
        exact L37 σ2 h2
      · -- 24 f
        have h24 : ¬ (i ≤ 0) := fun qq => h24 ((nc_le (a := i) (b := 0) (by omega) (by omega)).mpr qq)
        refine cw_aload_n (pc := 27) C dL_sound_27 rfl 2 rfl ?_
        refine cw_iload_n (pc := 28) C dL_sound_28 rfl 1 rfl ?_
        refine cw_iconst (pc := 29) C dL_sound_29 (nI 1) (by decide) ?_
        refine cw_calli (pc := 30) C dL_sound_30 (w_of l D Z A σ2 X F K nn M (nI i) (nI 1) h2) (cwV 2 C.1.2.2.2.2 gL_sound_X6_of rfl rfl rfl (by decide +kernel) ⟨Nat.le_of_ble_eq_true rfl, Nat.le_of_ble_eq_true rfl⟩) 0 rfl rfl rfl rfl (Nat.le_of_ble_eq_true rfl) (fun r35 σ35 hr35 => ?_)
        rw [ofA_1 (by omega) hi] at hr35
        obtain ⟨rfl, h35⟩ := hr35
        have h35 : absP σ35 X F K nn M := h35
        refine cw_top (bI (fitN X i)) rfl ?_
        refine cw_iconst (pc := 33) C dL_sound_33 (nI 1) (by decide) ?_
        refine cw_icmp_ne (pc := 34) (tgt := 55) C dL_sound_34 (by decide) (fun h34 => ?_) (fun h34 => ?_)
        · -- 34 t
          have h34 := Bool.eq_false_iff.mpr (fun qq => h34 (bI_iff.mpr qq))
          exact absurd h34 (by rw [hfi.resolve_left (by omega)]; decide)
        · -- 34 f
          have h34 := bI_iff.mp h34
          refine cw_lv [2, 1, 0] rfl ?_
          exact L37 σ35 h35
