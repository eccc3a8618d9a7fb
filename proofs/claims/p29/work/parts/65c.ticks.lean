set_option maxHeartbeats 40000000 in
set_option maxRecDepth 100000 in
theorem c_L_ticks (l : Launch) (D : va_G) (Z : CZ) (A : Nat → Nat) (σ : St) (X F : Nat → Int32) (K : Nat → Nat → Int32) (nn M : Nat) (x : Int32) (h : absP σ X F K nn M) (hM : M ≤ 100000) : CTz l yL_ticks wsL_ticks 8 188 D Z (wC Z A) σ [.ref (A 0), .int (x)] (fun z σ' => z = true ∧ ∃ (X' : Nat → Int32) (K' : Nat → Nat → Int32) (n' : Nat), absP σ' X' F K' n' (M + 360)) := by
  refine CTz.mk (cc := cL_ticks) (nL := 15) (own := RL) rfl (by decide) rfl (Nat.le_of_ble_eq_true rfl) ?_
  intro p0 e0 s0 m0 g0 b0 t0 c0 A0 Q C hret
  refine cw_lv (lv' := [(0, .ref (A 0)), (1, .int (x))]) [0, 1] rfl ?_
  refine cw_iconst (pc := 0) C dL_ticks_0 (nI 0) (by decide) ?_
  refine cw_istore_n (pc := 1) C dL_ticks_1 rfl (by decide) (lv' := [(2, .int (nI 0)), (0, .ref (A 0)), (1, .int (x))]) rfl ?_
  have L2 : ∀ (n2 : Nat) (k : Nat) (Xt : Nat → Int32) (Kt : Nat → Nat → Int32) (nt : Nat) (σt : St) (hk : k ≤ 6) (hm : 6 < k + n2) (ht : absP σt Xt F Kt nt (M + 60 * k)), CW p0 l e0 (rmC 8 188) s0 m0 g0 b0 t0 c0 D A0 15 (wC Z A) Q σt 2 [(0, .ref (A 0)), (1, .int (x)), (2, .int (nI k))] [] := by
    intro n2
    induction n2 with
    | zero => intro k Xt Kt nt σt hk hm ht; exact absurd hm (by omega)
    | succ n2 ih2 =>
      intro k Xt Kt nt σt hk hm ht
      refine cw_iload_n (pc := 2) C dL_ticks_2 rfl 2 rfl ?_
      refine cw_bipush (pc := 3) C dL_ticks_3 (nI 6) (by decide) ?_
      refine cw_icmp_ge (pc := 5) (tgt := 392) C dL_ticks_5 (by decide) (fun h5 => ?_) (fun h5 => ?_)
      · -- 5 t
        have h5 : 6 ≤ k := (nc_ge (a := k) (b := 6) (by omega) (by omega)).mp h5
        have hk6 : k = 6 := by omega
        refine cw_iconst (pc := 392) C dL_ticks_392 (nI 1) (by decide) ?_
        refine hret true σt _ _ dL_ticks_393 ?_
        clear hret
        exact ⟨rfl, _, _, _, by rw [hk6] at ht; exact ht⟩
      · -- 5 f
        have h5 : ¬ (6 ≤ k) := fun qq => h5 ((nc_ge (a := k) (b := 6) (by omega) (by omega)).mpr qq)
        have L40 : ∀ (v : Int32) (σu : St) (hv : withinB v (nI 0) (nI 300) = true) (hu : absP σu Xt F Kt nt (M + 60 * k)), CW p0 l e0 (rmC 8 188) s0 m0 g0 b0 t0 c0 D A0 15 (wC Z A) Q σu 40 [(0, .ref (A 0)), (1, .int (x)), (2, .int (nI k))] [.int (v)] := by
          intro v σu hv hu
          refine cw_istore_n (pc := 40) C dL_ticks_40 rfl (by decide) (lv' := [(3, .int (v)), (0, .ref (A 0)), (1, .int (x)), (2, .int (nI k))]) rfl ?_
          obtain ⟨-, ⟨hOK, -, hnt5, -, -⟩, ⟨ht7, ht71, ht72⟩, -⟩ := id hu
          obtain ⟨hi, hIN, hfi⟩ := rowOK_in hOK
          obtain ⟨hd, hd1, hd2⟩ := hOK.2.2.2.2.2.2.1
          obtain ⟨htm, hcs⟩ := tick_cases (v := v) hOK hd2 hd1
          have hft := wntS_fit Xt (inN Xt) v
          have hto := wntS_le (X := Xt) (v := v) hi
          have hwv := wnA_v (X := Xt) hv
          have hYo := tickS_ok hOK v
          have hwk := wntS_tk0 (X := Xt) (v := v) hi
          have hdr := drv_tk (X := Xt) hv (n := 1) (by omega) (by omega)
          have hdr1 : oR Xt 7 v (nI 1) = nI (inN (tickS Xt v)) := hdr.1
          have hdr2 : oX Xt 7 v (nI 1) = tickS Xt v := hdr.2
          have hwl : wyN Xt (inN Xt) (wntS Xt (inN Xt) v) ≤ 6 := wayN_le _ _ _ _
          generalize tickS Xt v = Y at *
          generalize hti : inN Xt = i at *
          generalize htt : wntS Xt i v = to at *
          refine cw_aload_n (pc := 41) C dL_ticks_41 rfl 1 rfl ?_
          refine cw_iconst (pc := 42) C dL_ticks_42 (nI 0) (by decide) ?_
          refine cw_calli (pc := 43) C dL_ticks_43 (w_state l D Z A σu Xt F Kt nt (M + 60 * k) (nI 0) hu) (cwV 1 C.1.2.2.2.2 gL_ticks_X6_state rfl rfl rfl (by decide +kernel) ⟨Nat.le_of_ble_eq_true rfl, Nat.le_of_ble_eq_true rfl⟩) 0 rfl rfl rfl rfl (Nat.le_of_ble_eq_true rfl) (fun r1 σ1 hr1 => ?_)
          rw [(saA_k (k := 0) (by omega)).trans (congrArg Sum.inl hIN)] at hr1
          obtain ⟨rfl, h1⟩ := hr1
          have h1 : absP σ1 Xt F Kt nt (M + 60 * k) := h1
          refine cw_top (nI i) rfl ?_
          refine cw_istore (pc := 46) C dL_ticks_46 (by decide) (lv' := [(4, .int (nI i)), (3, .int (v)), (0, .ref (A 0)), (1, .int (x)), (2, .int (nI k))]) rfl ?_
          refine cw_aload_n (pc := 48) C dL_ticks_48 rfl 2 rfl ?_
          refine cw_iload_n (pc := 49) C dL_ticks_49 rfl 1 rfl ?_
          refine cw_calli (pc := 50) C dL_ticks_50 (w_want l D Z A σ1 Xt F Kt nt (M + 60 * k) v h1) (cwV 1 C.1.2.2.2.2 gL_ticks_X6_want rfl rfl rfl (by decide +kernel) ⟨Nat.le_of_ble_eq_true rfl, Nat.le_of_ble_eq_true rfl⟩) 0 rfl rfl rfl rfl (Nat.le_of_ble_eq_true rfl) (fun r2 σ2 hr2 => ?_)
          rw [hwv] at hr2
          obtain ⟨rfl, h2⟩ := hr2
          have h2 : absP σ2 Xt F Kt nt (M + 60 * k) := h2
          refine cw_top (nI to) rfl ?_
          refine cw_istore (pc := 53) C dL_ticks_53 (by decide) (lv' := [(5, .int (nI to)), (4, .int (nI i)), (3, .int (v)), (0, .ref (A 0)), (1, .int (x)), (2, .int (nI k))]) rfl ?_
          refine cw_aload_n (pc := 55) C dL_ticks_55 rfl 3 rfl ?_
          refine cw_iconst (pc := 56) C dL_ticks_56 (nI 2) (by decide) ?_
          refine cw_calli (pc := 57) C dL_ticks_57 (w_state l D Z A σ2 Xt F Kt nt (M + 60 * k) (nI 2) h2) (cwV 1 C.1.2.2.2.2 gL_ticks_X6_state rfl rfl rfl (by decide +kernel) ⟨Nat.le_of_ble_eq_true rfl, Nat.le_of_ble_eq_true rfl⟩) 0 rfl rfl rfl rfl (Nat.le_of_ble_eq_true rfl) (fun r3 σ3 hr3 => ?_)
          rw [(saA_k (k := 2) (by omega)).trans (congrArg Sum.inl hd2)] at hr3
          obtain ⟨rfl, h3⟩ := hr3
          have h3 : absP σ3 Xt F Kt nt (M + 60 * k) := h3
          refine cw_top (nI hd) rfl ?_
          refine cw_istore (pc := 60) C dL_ticks_60 (by decide) (lv' := [(6, .int (nI hd)), (5, .int (nI to)), (4, .int (nI i)), (3, .int (v)), (0, .ref (A 0)), (1, .int (x)), (2, .int (nI k))]) rfl ?_
          refine cw_aload_n (pc := 62) C dL_ticks_62 rfl 4 rfl ?_
          refine cw_iconst (pc := 63) C dL_ticks_63 (nI 4) (by decide) ?_
          refine cw_calli (pc := 64) C dL_ticks_64 (w_state l D Z A σ3 Xt F Kt nt (M + 60 * k) (nI 4) h3) (cwV 1 C.1.2.2.2.2 gL_ticks_X6_state rfl rfl rfl (by decide +kernel) ⟨Nat.le_of_ble_eq_true rfl, Nat.le_of_ble_eq_true rfl⟩) 0 rfl rfl rfl rfl (Nat.le_of_ble_eq_true rfl) (fun r4 σ4 hr4 => ?_)
          rw [saA_k (k := 4) (by omega)] at hr4
          obtain ⟨rfl, h4⟩ := hr4
          have h4 : absP σ4 Xt F Kt nt (M + 60 * k) := h4
          refine cw_top (Xt 43) rfl ?_
          refine cw_istore (pc := 67) C dL_ticks_67 (by decide) (lv' := [(7, .int (Xt 43)), (6, .int (nI hd)), (5, .int (nI to)), (4, .int (nI i)), (3, .int (v)), (0, .ref (A 0)), (1, .int (x)), (2, .int (nI k))]) rfl ?_
          refine cw_aload_n (pc := 69) C dL_ticks_69 rfl 5 rfl ?_
          refine cw_bipush (pc := 70) C dL_ticks_70 (nI 7) (by decide) ?_
          refine cw_calli (pc := 72) C dL_ticks_72 (w_state l D Z A σ4 Xt F Kt nt (M + 60 * k) (nI 7) h4) (cwV 1 C.1.2.2.2.2 gL_ticks_X6_state rfl rfl rfl (by decide +kernel) ⟨Nat.le_of_ble_eq_true rfl, Nat.le_of_ble_eq_true rfl⟩) 0 rfl rfl rfl rfl (Nat.le_of_ble_eq_true rfl) (fun r5 σ5 hr5 => ?_)
          rw [(saA_k (k := 7) (by omega)).trans (congrArg Sum.inl ht72)] at hr5
          obtain ⟨rfl, h5⟩ := hr5
          have h5 : absP σ5 Xt F Kt nt (M + 60 * k) := h5
          refine cw_top (nI ht7) rfl ?_
          refine cw_istore (pc := 75) C dL_ticks_75 (by decide) (lv' := [(8, .int (nI ht7)), (7, .int (Xt 43)), (6, .int (nI hd)), (5, .int (nI to)), (4, .int (nI i)), (3, .int (v)), (0, .ref (A 0)), (1, .int (x)), (2, .int (nI k))]) rfl ?_
          refine cw_aload_n (pc := 77) C dL_ticks_77 rfl 6 rfl ?_
          refine cw_iconst (pc := 78) C dL_ticks_78 (nI 1) (by decide) ?_
          refine cw_calli (pc := 79) C dL_ticks_79 (w_state l D Z A σ5 Xt F Kt nt (M + 60 * k) (nI 1) h5) (cwV 1 C.1.2.2.2.2 gL_ticks_X6_state rfl rfl rfl (by decide +kernel) ⟨Nat.le_of_ble_eq_true rfl, Nat.le_of_ble_eq_true rfl⟩) 0 rfl rfl rfl rfl (Nat.le_of_ble_eq_true rfl) (fun r6 σ6 hr6 => ?_)
          rw [saA_k (k := 1) (by omega)] at hr6
          obtain ⟨rfl, h6⟩ := hr6
          have h6 : absP σ6 Xt F Kt nt (M + 60 * k) := h6
          refine cw_top (Xt 40) rfl ?_
          refine cw_istore (pc := 82) C dL_ticks_82 (by decide) (lv' := [(9, .int (Xt 40)), (8, .int (nI ht7)), (7, .int (Xt 43)), (6, .int (nI hd)), (5, .int (nI to)), (4, .int (nI i)), (3, .int (v)), (0, .ref (A 0)), (1, .int (x)), (2, .int (nI k))]) rfl ?_
          rcases hcs with ⟨q0, y39, y43, y46, y41⟩ | ⟨q0, q1, rfl⟩ | ⟨q0, q1, q2, rfl⟩ | ⟨q0, q1, q2, q3, rfl⟩ | ⟨q0, q1, q2, q3, y39, y43, y46, y41, y42⟩ | ⟨q0, q1, q3, y39, y43, y46, y41⟩ | ⟨q0, q1, q3, y39, y43, y46, y41, y42, u1, u2⟩
          · -- case 0
            have yin : inN Y = to := inN_of y39 (by omega)
            rw [ht72] at y46
            refine cw_iload (pc := 84) C dL_ticks_84 5 rfl ?_
            refine cw_if_le (pc := 86) (tgt := 108) C dL_ticks_86 (by decide) (fun h86 => ?_) (fun h86 => ?_)
            · -- 86 t
              have h86 : i ≤ 0 := (nc_le (a := i) (b := 0) (by omega) (by omega)).mp h86
              refine cw_iconst (pc := 108) C dL_ticks_108 (nI 0) (by decide) ?_
              refine cw_istore (pc := 109) C dL_ticks_109 (by decide) (lv' := [(10, .int (nI 0)), (9, .int (Xt 40)), (8, .int (nI ht7)), (7, .int (Xt 43)), (6, .int (nI hd)), (5, .int (nI to)), (4, .int (nI i)), (3, .int (v)), (0, .ref (A 0)), (1, .int (x)), (2, .int (nI k))]) rfl ?_
              refine cw_aload_n (pc := 111) C dL_ticks_111 rfl 8 rfl ?_
              refine cw_iload_n (pc := 112) C dL_ticks_112 rfl 7 rfl ?_
              refine cw_iconst (pc := 113) C dL_ticks_113 (nI 1) (by decide) ?_
              refine cw_calli (pc := 114) C dL_ticks_114 (w_drives l D Z A σ6 Xt F Kt nt (M + 60 * k) v (nI 1) h6) (cwV 2 C.1.2.2.2.2 gL_ticks_X6_drives rfl rfl rfl (by decide +kernel) ⟨Nat.le_of_ble_eq_true rfl, Nat.le_of_ble_eq_true rfl⟩) 0 rfl rfl rfl rfl (Nat.le_of_ble_eq_true rfl) (fun r7 σ7 hr7 => ?_)
              obtain ⟨rfl, h7⟩ := chP_ok (v := nI to) (Y := Y) hr7 (hdr1.trans (congrArg nI yin)) (nI_pos' (by omega)) hdr2
              refine cw_istore (pc := 117) C dL_ticks_117 (by decide) (lv' := [(11, .int (nI to)), (10, .int (nI 0)), (9, .int (Xt 40)), (8, .int (nI ht7)), (7, .int (Xt 43)), (6, .int (nI hd)), (5, .int (nI to)), (4, .int (nI i)), (3, .int (v)), (0, .ref (A 0)), (1, .int (x)), (2, .int (nI k))]) rfl ?_
              refine cw_iload (pc := 119) C dL_ticks_119 5 rfl ?_
              refine cw_if_le (pc := 121) (tgt := 131) C dL_ticks_121 (by decide) (fun h121 => ?_) (fun h121 => ?_)
              · -- 121 t
                have h121 : hd ≤ 0 := (nc_le (a := hd) (b := 0) (by omega) (by omega)).mp h121
                refine cw_iconst (pc := 131) C dL_ticks_131 (nI 0) (by decide) ?_
                refine cw_istore (pc := 132) C dL_ticks_132 (by decide) (lv' := [(12, .int (nI 0)), (11, .int (nI to)), (10, .int (nI 0)), (9, .int (Xt 40)), (8, .int (nI ht7)), (7, .int (Xt 43)), (6, .int (nI hd)), (5, .int (nI to)), (4, .int (nI i)), (3, .int (v)), (0, .ref (A 0)), (1, .int (x)), (2, .int (nI k))]) rfl ?_
                refine cw_iload (pc := 134) C dL_ticks_134 8 rfl ?_
                refine cw_if_le (pc := 136) (tgt := 167) C dL_ticks_136 (by decide) (fun h136 => ?_) (fun h136 => ?_)
                · -- 136 t
                  have h136 : i ≤ 0 := (nc_le (a := i) (b := 0) (by omega) (by omega)).mp h136
                  refine cw_iconst (pc := 167) C dL_ticks_167 (nI 0) (by decide) ?_
                  refine cw_istore (pc := 168) C dL_ticks_168 (by decide) (lv' := [(13, .int (nI 0)), (12, .int (nI 0)), (11, .int (nI to)), (10, .int (nI 0)), (9, .int (Xt 40)), (8, .int (nI ht7)), (7, .int (Xt 43)), (6, .int (nI hd)), (5, .int (nI to)), (4, .int (nI i)), (3, .int (v)), (0, .ref (A 0)), (1, .int (x)), (2, .int (nI k))]) rfl ?_
                  refine cw_iload (pc := 170) C dL_ticks_170 2 rfl ?_
                  refine cw_iload (pc := 172) C dL_ticks_172 0 rfl ?_
                  refine cw_if_eq (pc := 174) (tgt := 182) C dL_ticks_174 (by decide) (fun _ => ?_) (fun h => False.elim (by revert h; decide))
                  refine cw_iload (pc := 182) C dL_ticks_182 8 rfl ?_
                  refine cw_icmp_ne (pc := 184) (tgt := 261) C dL_ticks_184 (by decide) (fun h184 => ?_) (fun h184 => ?_)
                  · -- 184 t
                    have h184 : ¬ to = to := (nc_ne (a := to) (b := to) (by omega) (by omega)).mp h184
                    exact absurd h184 (by omega)
                  · -- 184 f
                    have h184 : to = to := (nc_eq (a := to) (b := to) (by omega) (by omega)).mp h184
                    refine cw_aload_n (pc := 187) C dL_ticks_187 rfl 11 rfl ?_
                    refine cw_iconst (pc := 188) C dL_ticks_188 (nI 0) (by decide) ?_
                    refine cw_calli (pc := 189) C dL_ticks_189 (w_state l D Z A σ7 Y F (psh Kt nt Xt) (min (nt + 1) 5) (M + 60 * k + 60) (nI 0) h7) (cwV 1 C.1.2.2.2.2 gL_ticks_X6_state rfl rfl rfl (by decide +kernel) ⟨Nat.le_of_ble_eq_true rfl, Nat.le_of_ble_eq_true rfl⟩) 0 rfl rfl rfl rfl (Nat.le_of_ble_eq_true rfl) (fun r8 σ8 hr8 => ?_)
                    rw [(saA_k (k := 0) (by omega)).trans (congrArg Sum.inl y39)] at hr8
                    obtain ⟨rfl, h8⟩ := hr8
                    have h8 : absP σ8 Y F (psh Kt nt Xt) (min (nt + 1) 5) (M + 60 * k + 60) := h8
                    refine cw_top (nI to) rfl ?_
                    refine cw_iload (pc := 192) C dL_ticks_192 2 rfl ?_
                    refine cw_icmp_ne (pc := 194) (tgt := 261) C dL_ticks_194 (by decide) (fun h194 => ?_) (fun h194 => ?_)
                    · -- 194 t
                      have h194 : ¬ to = to := (nc_ne (a := to) (b := to) (by omega) (by omega)).mp h194
                      exact absurd h194 (by omega)
                    · -- 194 f
                      have h194 : to = to := (nc_eq (a := to) (b := to) (by omega) (by omega)).mp h194
                      refine cw_aload_n (pc := 197) C dL_ticks_197 rfl 11 rfl ?_
                      refine cw_iconst (pc := 198) C dL_ticks_198 (nI 1) (by decide) ?_
                      refine cw_calli (pc := 199) C dL_ticks_199 (w_state l D Z A σ8 Y F (psh Kt nt Xt) (min (nt + 1) 5) (M + 60 * k + 60) (nI 1) h8) (cwV 1 C.1.2.2.2.2 gL_ticks_X6_state rfl rfl rfl (by decide +kernel) ⟨Nat.le_of_ble_eq_true rfl, Nat.le_of_ble_eq_true rfl⟩) 0 rfl rfl rfl rfl (Nat.le_of_ble_eq_true rfl) (fun r9 σ9 hr9 => ?_)
                      rw [(saA_k (k := 1) (by omega)).trans (congrArg Sum.inl htm)] at hr9
                      obtain ⟨rfl, h9⟩ := hr9
                      have h9 : absP σ9 Y F (psh Kt nt Xt) (min (nt + 1) 5) (M + 60 * k + 60) := h9
                      refine cw_top (Xt 40 + nI 1) rfl ?_
                      refine cw_iload (pc := 202) C dL_ticks_202 4 rfl ?_
                      refine cw_iconst (pc := 204) C dL_ticks_204 (nI 1) (by decide) ?_
                      refine cw_iadd (pc := 205) C dL_ticks_205 (z := (Xt 40) + (nI 1)) rfl ?_
                      refine cw_icmp_ne (pc := 206) (tgt := 261) C dL_ticks_206 (by decide) (fun h206 => absurd rfl h206) (fun h206 => ?_)
                      refine cw_aload_n (pc := 209) C dL_ticks_209 rfl 11 rfl ?_
                      refine cw_iconst (pc := 210) C dL_ticks_210 (nI 4) (by decide) ?_
                      refine cw_calli (pc := 211) C dL_ticks_211 (w_state l D Z A σ9 Y F (psh Kt nt Xt) (min (nt + 1) 5) (M + 60 * k + 60) (nI 4) h9) (cwV 1 C.1.2.2.2.2 gL_ticks_X6_state rfl rfl rfl (by decide +kernel) ⟨Nat.le_of_ble_eq_true rfl, Nat.le_of_ble_eq_true rfl⟩) 0 rfl rfl rfl rfl (Nat.le_of_ble_eq_true rfl) (fun r10 σ10 hr10 => ?_)
                      rw [(saA_k (k := 4) (by omega)).trans (congrArg Sum.inl y43)] at hr10
                      obtain ⟨rfl, h10⟩ := hr10
                      have h10 : absP σ10 Y F (psh Kt nt Xt) (min (nt + 1) 5) (M + 60 * k + 60) := h10
                      refine cw_top (Xt 43) rfl ?_
                      refine cw_iload (pc := 214) C dL_ticks_214 6 rfl ?_
                      refine cw_iload (pc := 216) C dL_ticks_216 0 rfl ?_
                      refine cw_if_ne (pc := 218) (tgt := 226) C dL_ticks_218 (by decide) (fun h => False.elim (by revert h; decide)) (fun _ => ?_)
                      refine cw_iload (pc := 221) C dL_ticks_221 9 rfl ?_
                      refine cw_if_ne (pc := 223) (tgt := 230) C dL_ticks_223 (by decide) (fun h223 => ?_) (fun h223 => ?_)
                      · -- 223 t
                        have h223 : ¬ i = 0 := (nc_ne (a := i) (b := 0) (by omega) (by omega)).mp h223
                        exact absurd h223 (by omega)
                      · -- 223 f
                        have h223 : i = 0 := (nc_eq (a := i) (b := 0) (by omega) (by omega)).mp h223
                        refine cw_iconst (pc := 226) C dL_ticks_226 (nI 0) (by decide) ?_
                        refine cw_goto (pc := 227) (tgt := 232) C dL_ticks_227 (by decide) ?_
                        refine cw_iadd (pc := 232) C dL_ticks_232 (z := Xt 43) (by rw [nI_0, Int32.add_zero]) ?_
                        refine cw_icmp_ne (pc := 233) (tgt := 261) C dL_ticks_233 (by decide) (fun h233 => absurd rfl h233) (fun h233 => ?_)
                        refine cw_aload_n (pc := 236) C dL_ticks_236 rfl 11 rfl ?_
                        refine cw_bipush (pc := 237) C dL_ticks_237 (nI 7) (by decide) ?_
                        refine cw_calli (pc := 239) C dL_ticks_239 (w_state l D Z A σ10 Y F (psh Kt nt Xt) (min (nt + 1) 5) (M + 60 * k + 60) (nI 7) h10) (cwV 1 C.1.2.2.2.2 gL_ticks_X6_state rfl rfl rfl (by decide +kernel) ⟨Nat.le_of_ble_eq_true rfl, Nat.le_of_ble_eq_true rfl⟩) 0 rfl rfl rfl rfl (Nat.le_of_ble_eq_true rfl) (fun r11 σ11 hr11 => ?_)
                        rw [(saA_k (k := 7) (by omega)).trans (congrArg Sum.inl y46)] at hr11
                        obtain ⟨rfl, h11⟩ := hr11
                        have h11 : absP σ11 Y F (psh Kt nt Xt) (min (nt + 1) 5) (M + 60 * k + 60) := h11
                        refine cw_top (nI ht7) rfl ?_
                        refine cw_iload (pc := 242) C dL_ticks_242 5 rfl ?_
                        refine cw_isub (pc := 244) C dL_ticks_244 (z := nI 0) ((pk_sub (by omega)).trans (congrArg nI (by omega))) ?_
                        refine cw_if_lt (pc := 245) (tgt := 261) C dL_ticks_245 (by decide) (fun h => False.elim (by revert h; decide)) (fun _ => ?_)
                        refine cw_aload_n (pc := 248) C dL_ticks_248 rfl 11 rfl ?_
                        refine cw_bipush (pc := 249) C dL_ticks_249 (nI 7) (by decide) ?_
                        refine cw_calli (pc := 251) C dL_ticks_251 (w_state l D Z A σ11 Y F (psh Kt nt Xt) (min (nt + 1) 5) (M + 60 * k + 60) (nI 7) h11) (cwV 1 C.1.2.2.2.2 gL_ticks_X6_state rfl rfl rfl (by decide +kernel) ⟨Nat.le_of_ble_eq_true rfl, Nat.le_of_ble_eq_true rfl⟩) 0 rfl rfl rfl rfl (Nat.le_of_ble_eq_true rfl) (fun r12 σ12 hr12 => ?_)
                        rw [(saA_k (k := 7) (by omega)).trans (congrArg Sum.inl y46)] at hr12
                        obtain ⟨rfl, h12⟩ := hr12
                        have h12 : absP σ12 Y F (psh Kt nt Xt) (min (nt + 1) 5) (M + 60 * k + 60) := h12
                        refine cw_top (nI ht7) rfl ?_
                        refine cw_iload (pc := 254) C dL_ticks_254 5 rfl ?_
                        refine cw_isub (pc := 256) C dL_ticks_256 (z := nI 0) ((pk_sub (by omega)).trans (congrArg nI (by omega))) ?_
                        refine cw_iconst (pc := 257) C dL_ticks_257 (nI 1) (by decide) ?_
                        refine cw_icmp_le (pc := 258) (tgt := 263) C dL_ticks_258 (by decide) (fun _ => ?_) (fun h => False.elim (by revert h; decide))
                        refine cw_aload_n (pc := 263) C dL_ticks_263 rfl 11 rfl ?_
                        refine cw_bipush (pc := 264) C dL_ticks_264 (nI 7) (by decide) ?_
                        refine cw_calli (pc := 266) C dL_ticks_266 (w_state l D Z A σ12 Y F (psh Kt nt Xt) (min (nt + 1) 5) (M + 60 * k + 60) (nI 7) h12) (cwV 1 C.1.2.2.2.2 gL_ticks_X6_state rfl rfl rfl (by decide +kernel) ⟨Nat.le_of_ble_eq_true rfl, Nat.le_of_ble_eq_true rfl⟩) 0 rfl rfl rfl rfl (Nat.le_of_ble_eq_true rfl) (fun r13 σ13 hr13 => ?_)
                        rw [(saA_k (k := 7) (by omega)).trans (congrArg Sum.inl y46)] at hr13
                        obtain ⟨rfl, h13⟩ := hr13
                        have h13 : absP σ13 Y F (psh Kt nt Xt) (min (nt + 1) 5) (M + 60 * k + 60) := h13
                        refine cw_top (nI ht7) rfl ?_
                        refine cw_iload (pc := 269) C dL_ticks_269 5 rfl ?_
                        refine cw_icmp_le (pc := 271) (tgt := 278) C dL_ticks_271 (by decide) (fun h271 => ?_) (fun h271 => ?_)
                        · -- 271 t
                          have h271 : ht7 ≤ ht7 := (nc_le (a := ht7) (b := ht7) (by omega) (by omega)).mp h271
                          refine cw_iconst (pc := 278) C dL_ticks_278 (nI 0) (by decide) ?_
                          refine cw_istore (pc := 279) C dL_ticks_279 (by decide) (lv' := [(14, .int (nI 0)), (13, .int (nI 0)), (12, .int (nI 0)), (11, .int (nI to)), (10, .int (nI 0)), (9, .int (Xt 40)), (8, .int (nI ht7)), (7, .int (Xt 43)), (6, .int (nI hd)), (5, .int (nI to)), (4, .int (nI i)), (3, .int (v)), (0, .ref (A 0)), (1, .int (x)), (2, .int (nI k))]) rfl ?_
                          refine cw_aload_n (pc := 281) C dL_ticks_281 rfl 12 rfl ?_
                          refine cw_iconst (pc := 282) C dL_ticks_282 (nI 2) (by decide) ?_
                          refine cw_calli (pc := 283) C dL_ticks_283 (w_state l D Z A σ13 Y F (psh Kt nt Xt) (min (nt + 1) 5) (M + 60 * k + 60) (nI 2) h13) (cwV 1 C.1.2.2.2.2 gL_ticks_X6_state rfl rfl rfl (by decide +kernel) ⟨Nat.le_of_ble_eq_true rfl, Nat.le_of_ble_eq_true rfl⟩) 0 rfl rfl rfl rfl (Nat.le_of_ble_eq_true rfl) (fun r14 σ14 hr14 => ?_)
                          rw [(saA_k (k := 2) (by omega)).trans (congrArg Sum.inl y41)] at hr14
                          obtain ⟨rfl, h14⟩ := hr14
                          have h14 : absP σ14 Y F (psh Kt nt Xt) (min (nt + 1) 5) (M + 60 * k + 60) := h14
                          refine cw_top (nI (hd - 1)) rfl ?_
                          refine cw_iload (pc := 286) C dL_ticks_286 0 rfl ?_
                          refine cw_if_eq (pc := 288) (tgt := 296) C dL_ticks_288 (by decide) (fun _ => ?_) (fun h => False.elim (by revert h; decide))
                          refine cw_iload (pc := 296) C dL_ticks_296 2 rfl ?_
                          refine cw_icmp_ne (pc := 298) (tgt := 360) C dL_ticks_298 (by decide) (fun h298 => ?_) (fun h298 => ?_)
                          · -- 298 t
                            have h298 : ¬ (hd - 1) = 0 := (nc_ne (a := hd - 1) (b := 0) (by omega) (by omega)).mp h298
                            exact absurd h298 (by omega)
                          · -- 298 f
                            have h298 : (hd - 1) = 0 := (nc_eq (a := hd - 1) (b := 0) (by omega) (by omega)).mp h298
                            refine cw_iload (pc := 301) C dL_ticks_301 0 rfl ?_
                            refine cw_if_eq (pc := 303) (tgt := 336) C dL_ticks_303 (by decide) (fun _ => ?_) (fun h => False.elim (by revert h; decide))
                            refine cw_iload (pc := 336) C dL_ticks_336 3 rfl ?_
                            refine cw_iload (pc := 338) C dL_ticks_338 10 rfl ?_
                            refine cw_icmp_le (pc := 340) (tgt := 362) C dL_ticks_340 (by decide) (fun h340 => ?_) (fun h340 => ?_)
                            · -- 340 t
                              have h340 : to ≤ i := (nc_le (a := to) (b := i) (by omega) (by omega)).mp h340
                              refine cw_iload (pc := 362) C dL_ticks_362 10 rfl ?_
                              refine cw_if_le (pc := 364) (tgt := 386) C dL_ticks_364 (by decide) (fun h364 => ?_) (fun h364 => ?_)
                              · -- 364 t
                                have h364 : i ≤ 0 := (nc_le (a := i) (b := 0) (by omega) (by omega)).mp h364
                                refine cw_iinc (pc := 386) C dL_ticks_386 14 rfl (nI (k + 1)) (nI_inc _ 1) (by decide) (lv' := [(2, .int (nI (k + 1))), (14, .int (nI 0)), (13, .int (nI 0)), (12, .int (nI 0)), (11, .int (nI to)), (10, .int (nI 0)), (9, .int (Xt 40)), (8, .int (nI ht7)), (7, .int (Xt 43)), (6, .int (nI hd)), (5, .int (nI to)), (4, .int (nI i)), (3, .int (v)), (0, .ref (A 0)), (1, .int (x))]) rfl ?_
                                refine cw_goto (pc := 389) (tgt := 2) C dL_ticks_389 (by decide) ?_
                                refine cw_lv [13, 14, 0] rfl ?_
                                exact ih2 (k + 1) Y (psh Kt nt Xt) (min (nt + 1) 5) σ14 (by omega) (by omega) (by rw [show M + 60 * (k + 1) = M + 60 * k + 60 by omega]; exact h14)
                              · -- 364 f
                                have h364 : ¬ (i ≤ 0) := fun qq => h364 ((nc_le (a := i) (b := 0) (by omega) (by omega)).mpr qq)
                                exact absurd h364 (by omega)
                            · -- 340 f
                              have h340 : ¬ (to ≤ i) := fun qq => h340 ((nc_le (a := to) (b := i) (by omega) (by omega)).mpr qq)
                              refine cw_iload (pc := 343) C dL_ticks_343 10 rfl ?_
                              refine cw_if_le (pc := 345) (tgt := 362) C dL_ticks_345 (by decide) (fun h345 => ?_) (fun h345 => ?_)
                              · -- 345 t
                                have h345 : i ≤ 0 := (nc_le (a := i) (b := 0) (by omega) (by omega)).mp h345
                                refine cw_iload (pc := 362) C dL_ticks_362 10 rfl ?_
                                refine cw_if_le (pc := 364) (tgt := 386) C dL_ticks_364 (by decide) (fun h364 => ?_) (fun h364 => ?_)
                                · -- 364 t
                                  have h364 : i ≤ 0 := (nc_le (a := i) (b := 0) (by omega) (by omega)).mp h364
                                  refine cw_iinc (pc := 386) C dL_ticks_386 14 rfl (nI (k + 1)) (nI_inc _ 1) (by decide) (lv' := [(2, .int (nI (k + 1))), (14, .int (nI 0)), (13, .int (nI 0)), (12, .int (nI 0)), (11, .int (nI to)), (10, .int (nI 0)), (9, .int (Xt 40)), (8, .int (nI ht7)), (7, .int (Xt 43)), (6, .int (nI hd)), (5, .int (nI to)), (4, .int (nI i)), (3, .int (v)), (0, .ref (A 0)), (1, .int (x))]) rfl ?_
                                  refine cw_goto (pc := 389) (tgt := 2) C dL_ticks_389 (by decide) ?_
                                  refine cw_lv [13, 14, 0] rfl ?_
                                  exact ih2 (k + 1) Y (psh Kt nt Xt) (min (nt + 1) 5) σ14 (by omega) (by omega) (by rw [show M + 60 * (k + 1) = M + 60 * k + 60 by omega]; exact h14)
                                · -- 364 f
                                  have h364 : ¬ (i ≤ 0) := fun qq => h364 ((nc_le (a := i) (b := 0) (by omega) (by omega)).mpr qq)
                                  exact absurd h364 (by omega)
                              · -- 345 f
                                have h345 : ¬ (i ≤ 0) := fun qq => h345 ((nc_le (a := i) (b := 0) (by omega) (by omega)).mpr qq)
                                exact absurd h345 (by omega)
                        · -- 271 f
                          have h271 : ¬ (ht7 ≤ ht7) := fun qq => h271 ((nc_le (a := ht7) (b := ht7) (by omega) (by omega)).mpr qq)
                          exact absurd h271 (by omega)
                · -- 136 f
                  have h136 : ¬ (i ≤ 0) := fun qq => h136 ((nc_le (a := i) (b := 0) (by omega) (by omega)).mpr qq)
                  exact absurd h136 (by omega)
              · -- 121 f
                have h121 : ¬ (hd ≤ 0) := fun qq => h121 ((nc_le (a := hd) (b := 0) (by omega) (by omega)).mpr qq)
                refine cw_iload (pc := 124) C dL_ticks_124 5 rfl ?_
                refine cw_iconst (pc := 126) C dL_ticks_126 (nI 1) (by decide) ?_
                refine cw_isub (pc := 127) C dL_ticks_127 (z := nI (hd - 1)) (pk_sub (by omega)) ?_
                refine cw_goto (pc := 128) (tgt := 132) C dL_ticks_128 (by decide) ?_
                refine cw_istore (pc := 132) C dL_ticks_132 (by decide) (lv' := [(12, .int (nI (hd - 1))), (11, .int (nI to)), (10, .int (nI 0)), (9, .int (Xt 40)), (8, .int (nI ht7)), (7, .int (Xt 43)), (6, .int (nI hd)), (5, .int (nI to)), (4, .int (nI i)), (3, .int (v)), (0, .ref (A 0)), (1, .int (x)), (2, .int (nI k))]) rfl ?_
                refine cw_iload (pc := 134) C dL_ticks_134 8 rfl ?_
                refine cw_if_le (pc := 136) (tgt := 167) C dL_ticks_136 (by decide) (fun h136 => ?_) (fun h136 => ?_)
                · -- 136 t
                  have h136 : i ≤ 0 := (nc_le (a := i) (b := 0) (by omega) (by omega)).mp h136
                  refine cw_iconst (pc := 167) C dL_ticks_167 (nI 0) (by decide) ?_
                  refine cw_istore (pc := 168) C dL_ticks_168 (by decide) (lv' := [(13, .int (nI 0)), (12, .int (nI (hd - 1))), (11, .int (nI to)), (10, .int (nI 0)), (9, .int (Xt 40)), (8, .int (nI ht7)), (7, .int (Xt 43)), (6, .int (nI hd)), (5, .int (nI to)), (4, .int (nI i)), (3, .int (v)), (0, .ref (A 0)), (1, .int (x)), (2, .int (nI k))]) rfl ?_
                  refine cw_iload (pc := 170) C dL_ticks_170 2 rfl ?_
                  refine cw_iload (pc := 172) C dL_ticks_172 0 rfl ?_
                  refine cw_if_eq (pc := 174) (tgt := 182) C dL_ticks_174 (by decide) (fun _ => ?_) (fun h => False.elim (by revert h; decide))
                  refine cw_iload (pc := 182) C dL_ticks_182 8 rfl ?_
                  refine cw_icmp_ne (pc := 184) (tgt := 261) C dL_ticks_184 (by decide) (fun h184 => ?_) (fun h184 => ?_)
                  · -- 184 t
                    have h184 : ¬ to = to := (nc_ne (a := to) (b := to) (by omega) (by omega)).mp h184
                    exact absurd h184 (by omega)
                  · -- 184 f
                    have h184 : to = to := (nc_eq (a := to) (b := to) (by omega) (by omega)).mp h184
                    refine cw_aload_n (pc := 187) C dL_ticks_187 rfl 11 rfl ?_
                    refine cw_iconst (pc := 188) C dL_ticks_188 (nI 0) (by decide) ?_
                    refine cw_calli (pc := 189) C dL_ticks_189 (w_state l D Z A σ7 Y F (psh Kt nt Xt) (min (nt + 1) 5) (M + 60 * k + 60) (nI 0) h7) (cwV 1 C.1.2.2.2.2 gL_ticks_X6_state rfl rfl rfl (by decide +kernel) ⟨Nat.le_of_ble_eq_true rfl, Nat.le_of_ble_eq_true rfl⟩) 0 rfl rfl rfl rfl (Nat.le_of_ble_eq_true rfl) (fun r15 σ15 hr15 => ?_)
                    rw [(saA_k (k := 0) (by omega)).trans (congrArg Sum.inl y39)] at hr15
                    obtain ⟨rfl, h15⟩ := hr15
                    have h15 : absP σ15 Y F (psh Kt nt Xt) (min (nt + 1) 5) (M + 60 * k + 60) := h15
                    refine cw_top (nI to) rfl ?_
                    refine cw_iload (pc := 192) C dL_ticks_192 2 rfl ?_
                    refine cw_icmp_ne (pc := 194) (tgt := 261) C dL_ticks_194 (by decide) (fun h194 => ?_) (fun h194 => ?_)
                    · -- 194 t
                      have h194 : ¬ to = to := (nc_ne (a := to) (b := to) (by omega) (by omega)).mp h194
                      exact absurd h194 (by omega)
                    · -- 194 f
                      have h194 : to = to := (nc_eq (a := to) (b := to) (by omega) (by omega)).mp h194
                      refine cw_aload_n (pc := 197) C dL_ticks_197 rfl 11 rfl ?_
                      refine cw_iconst (pc := 198) C dL_ticks_198 (nI 1) (by decide) ?_
                      refine cw_calli (pc := 199) C dL_ticks_199 (w_state l D Z A σ15 Y F (psh Kt nt Xt) (min (nt + 1) 5) (M + 60 * k + 60) (nI 1) h15) (cwV 1 C.1.2.2.2.2 gL_ticks_X6_state rfl rfl rfl (by decide +kernel) ⟨Nat.le_of_ble_eq_true rfl, Nat.le_of_ble_eq_true rfl⟩) 0 rfl rfl rfl rfl (Nat.le_of_ble_eq_true rfl) (fun r16 σ16 hr16 => ?_)
                      rw [(saA_k (k := 1) (by omega)).trans (congrArg Sum.inl htm)] at hr16
                      obtain ⟨rfl, h16⟩ := hr16
                      have h16 : absP σ16 Y F (psh Kt nt Xt) (min (nt + 1) 5) (M + 60 * k + 60) := h16
                      refine cw_top (Xt 40 + nI 1) rfl ?_
                      refine cw_iload (pc := 202) C dL_ticks_202 4 rfl ?_
                      refine cw_iconst (pc := 204) C dL_ticks_204 (nI 1) (by decide) ?_
                      refine cw_iadd (pc := 205) C dL_ticks_205 (z := (Xt 40) + (nI 1)) rfl ?_
                      refine cw_icmp_ne (pc := 206) (tgt := 261) C dL_ticks_206 (by decide) (fun h206 => absurd rfl h206) (fun h206 => ?_)
                      refine cw_aload_n (pc := 209) C dL_ticks_209 rfl 11 rfl ?_
                      refine cw_iconst (pc := 210) C dL_ticks_210 (nI 4) (by decide) ?_
                      refine cw_calli (pc := 211) C dL_ticks_211 (w_state l D Z A σ16 Y F (psh Kt nt Xt) (min (nt + 1) 5) (M + 60 * k + 60) (nI 4) h16) (cwV 1 C.1.2.2.2.2 gL_ticks_X6_state rfl rfl rfl (by decide +kernel) ⟨Nat.le_of_ble_eq_true rfl, Nat.le_of_ble_eq_true rfl⟩) 0 rfl rfl rfl rfl (Nat.le_of_ble_eq_true rfl) (fun r17 σ17 hr17 => ?_)
                      rw [(saA_k (k := 4) (by omega)).trans (congrArg Sum.inl y43)] at hr17
                      obtain ⟨rfl, h17⟩ := hr17
                      have h17 : absP σ17 Y F (psh Kt nt Xt) (min (nt + 1) 5) (M + 60 * k + 60) := h17
                      refine cw_top (Xt 43) rfl ?_
                      refine cw_iload (pc := 214) C dL_ticks_214 6 rfl ?_
                      refine cw_iload (pc := 216) C dL_ticks_216 0 rfl ?_
                      refine cw_if_ne (pc := 218) (tgt := 226) C dL_ticks_218 (by decide) (fun h => False.elim (by revert h; decide)) (fun _ => ?_)
                      refine cw_iload (pc := 221) C dL_ticks_221 9 rfl ?_
                      refine cw_if_ne (pc := 223) (tgt := 230) C dL_ticks_223 (by decide) (fun h223 => ?_) (fun h223 => ?_)
                      · -- 223 t
                        have h223 : ¬ i = 0 := (nc_ne (a := i) (b := 0) (by omega) (by omega)).mp h223
                        exact absurd h223 (by omega)
                      · -- 223 f
                        have h223 : i = 0 := (nc_eq (a := i) (b := 0) (by omega) (by omega)).mp h223
                        refine cw_iconst (pc := 226) C dL_ticks_226 (nI 0) (by decide) ?_
                        refine cw_goto (pc := 227) (tgt := 232) C dL_ticks_227 (by decide) ?_
                        refine cw_iadd (pc := 232) C dL_ticks_232 (z := Xt 43) (by rw [nI_0, Int32.add_zero]) ?_
                        refine cw_icmp_ne (pc := 233) (tgt := 261) C dL_ticks_233 (by decide) (fun h233 => absurd rfl h233) (fun h233 => ?_)
                        refine cw_aload_n (pc := 236) C dL_ticks_236 rfl 11 rfl ?_
                        refine cw_bipush (pc := 237) C dL_ticks_237 (nI 7) (by decide) ?_
                        refine cw_calli (pc := 239) C dL_ticks_239 (w_state l D Z A σ17 Y F (psh Kt nt Xt) (min (nt + 1) 5) (M + 60 * k + 60) (nI 7) h17) (cwV 1 C.1.2.2.2.2 gL_ticks_X6_state rfl rfl rfl (by decide +kernel) ⟨Nat.le_of_ble_eq_true rfl, Nat.le_of_ble_eq_true rfl⟩) 0 rfl rfl rfl rfl (Nat.le_of_ble_eq_true rfl) (fun r18 σ18 hr18 => ?_)
                        rw [(saA_k (k := 7) (by omega)).trans (congrArg Sum.inl y46)] at hr18
                        obtain ⟨rfl, h18⟩ := hr18
                        have h18 : absP σ18 Y F (psh Kt nt Xt) (min (nt + 1) 5) (M + 60 * k + 60) := h18
                        refine cw_top (nI ht7) rfl ?_
                        refine cw_iload (pc := 242) C dL_ticks_242 5 rfl ?_
                        refine cw_isub (pc := 244) C dL_ticks_244 (z := nI 0) ((pk_sub (by omega)).trans (congrArg nI (by omega))) ?_
                        refine cw_if_lt (pc := 245) (tgt := 261) C dL_ticks_245 (by decide) (fun h => False.elim (by revert h; decide)) (fun _ => ?_)
                        refine cw_aload_n (pc := 248) C dL_ticks_248 rfl 11 rfl ?_
                        refine cw_bipush (pc := 249) C dL_ticks_249 (nI 7) (by decide) ?_
                        refine cw_calli (pc := 251) C dL_ticks_251 (w_state l D Z A σ18 Y F (psh Kt nt Xt) (min (nt + 1) 5) (M + 60 * k + 60) (nI 7) h18) (cwV 1 C.1.2.2.2.2 gL_ticks_X6_state rfl rfl rfl (by decide +kernel) ⟨Nat.le_of_ble_eq_true rfl, Nat.le_of_ble_eq_true rfl⟩) 0 rfl rfl rfl rfl (Nat.le_of_ble_eq_true rfl) (fun r19 σ19 hr19 => ?_)
                        rw [(saA_k (k := 7) (by omega)).trans (congrArg Sum.inl y46)] at hr19
                        obtain ⟨rfl, h19⟩ := hr19
                        have h19 : absP σ19 Y F (psh Kt nt Xt) (min (nt + 1) 5) (M + 60 * k + 60) := h19
                        refine cw_top (nI ht7) rfl ?_
                        refine cw_iload (pc := 254) C dL_ticks_254 5 rfl ?_
                        refine cw_isub (pc := 256) C dL_ticks_256 (z := nI 0) ((pk_sub (by omega)).trans (congrArg nI (by omega))) ?_
                        refine cw_iconst (pc := 257) C dL_ticks_257 (nI 1) (by decide) ?_
                        refine cw_icmp_le (pc := 258) (tgt := 263) C dL_ticks_258 (by decide) (fun _ => ?_) (fun h => False.elim (by revert h; decide))
                        refine cw_aload_n (pc := 263) C dL_ticks_263 rfl 11 rfl ?_
                        refine cw_bipush (pc := 264) C dL_ticks_264 (nI 7) (by decide) ?_
                        refine cw_calli (pc := 266) C dL_ticks_266 (w_state l D Z A σ19 Y F (psh Kt nt Xt) (min (nt + 1) 5) (M + 60 * k + 60) (nI 7) h19) (cwV 1 C.1.2.2.2.2 gL_ticks_X6_state rfl rfl rfl (by decide +kernel) ⟨Nat.le_of_ble_eq_true rfl, Nat.le_of_ble_eq_true rfl⟩) 0 rfl rfl rfl rfl (Nat.le_of_ble_eq_true rfl) (fun r20 σ20 hr20 => ?_)
                        rw [(saA_k (k := 7) (by omega)).trans (congrArg Sum.inl y46)] at hr20
                        obtain ⟨rfl, h20⟩ := hr20
                        have h20 : absP σ20 Y F (psh Kt nt Xt) (min (nt + 1) 5) (M + 60 * k + 60) := h20
                        refine cw_top (nI ht7) rfl ?_
                        refine cw_iload (pc := 269) C dL_ticks_269 5 rfl ?_
                        refine cw_icmp_le (pc := 271) (tgt := 278) C dL_ticks_271 (by decide) (fun h271 => ?_) (fun h271 => ?_)
                        · -- 271 t
                          have h271 : ht7 ≤ ht7 := (nc_le (a := ht7) (b := ht7) (by omega) (by omega)).mp h271
                          refine cw_iconst (pc := 278) C dL_ticks_278 (nI 0) (by decide) ?_
                          refine cw_istore (pc := 279) C dL_ticks_279 (by decide) (lv' := [(14, .int (nI 0)), (13, .int (nI 0)), (12, .int (nI (hd - 1))), (11, .int (nI to)), (10, .int (nI 0)), (9, .int (Xt 40)), (8, .int (nI ht7)), (7, .int (Xt 43)), (6, .int (nI hd)), (5, .int (nI to)), (4, .int (nI i)), (3, .int (v)), (0, .ref (A 0)), (1, .int (x)), (2, .int (nI k))]) rfl ?_
                          refine cw_aload_n (pc := 281) C dL_ticks_281 rfl 12 rfl ?_
                          refine cw_iconst (pc := 282) C dL_ticks_282 (nI 2) (by decide) ?_
                          refine cw_calli (pc := 283) C dL_ticks_283 (w_state l D Z A σ20 Y F (psh Kt nt Xt) (min (nt + 1) 5) (M + 60 * k + 60) (nI 2) h20) (cwV 1 C.1.2.2.2.2 gL_ticks_X6_state rfl rfl rfl (by decide +kernel) ⟨Nat.le_of_ble_eq_true rfl, Nat.le_of_ble_eq_true rfl⟩) 0 rfl rfl rfl rfl (Nat.le_of_ble_eq_true rfl) (fun r21 σ21 hr21 => ?_)
                          rw [(saA_k (k := 2) (by omega)).trans (congrArg Sum.inl y41)] at hr21
                          obtain ⟨rfl, h21⟩ := hr21
                          have h21 : absP σ21 Y F (psh Kt nt Xt) (min (nt + 1) 5) (M + 60 * k + 60) := h21
                          refine cw_top (nI (hd - 1)) rfl ?_
                          refine cw_iload (pc := 286) C dL_ticks_286 0 rfl ?_
                          refine cw_if_eq (pc := 288) (tgt := 296) C dL_ticks_288 (by decide) (fun _ => ?_) (fun h => False.elim (by revert h; decide))
                          refine cw_iload (pc := 296) C dL_ticks_296 2 rfl ?_
                          refine cw_icmp_ne (pc := 298) (tgt := 360) C dL_ticks_298 (by decide) (fun h298 => ?_) (fun h298 => ?_)
                          · -- 298 t
                            have h298 : ¬ (hd - 1) = (hd - 1) := (nc_ne (a := hd - 1) (b := hd - 1) (by omega) (by omega)).mp h298
                            exact absurd h298 (by omega)
                          · -- 298 f
                            have h298 : (hd - 1) = (hd - 1) := (nc_eq (a := hd - 1) (b := hd - 1) (by omega) (by omega)).mp h298
                            refine cw_iload (pc := 301) C dL_ticks_301 0 rfl ?_
                            refine cw_if_eq (pc := 303) (tgt := 336) C dL_ticks_303 (by decide) (fun _ => ?_) (fun h => False.elim (by revert h; decide))
                            refine cw_iload (pc := 336) C dL_ticks_336 3 rfl ?_
                            refine cw_iload (pc := 338) C dL_ticks_338 10 rfl ?_
                            refine cw_icmp_le (pc := 340) (tgt := 362) C dL_ticks_340 (by decide) (fun h340 => ?_) (fun h340 => ?_)
                            · -- 340 t
                              have h340 : to ≤ i := (nc_le (a := to) (b := i) (by omega) (by omega)).mp h340
                              refine cw_iload (pc := 362) C dL_ticks_362 10 rfl ?_
                              refine cw_if_le (pc := 364) (tgt := 386) C dL_ticks_364 (by decide) (fun h364 => ?_) (fun h364 => ?_)
                              · -- 364 t
                                have h364 : i ≤ 0 := (nc_le (a := i) (b := 0) (by omega) (by omega)).mp h364
                                refine cw_iinc (pc := 386) C dL_ticks_386 14 rfl (nI (k + 1)) (nI_inc _ 1) (by decide) (lv' := [(2, .int (nI (k + 1))), (14, .int (nI 0)), (13, .int (nI 0)), (12, .int (nI (hd - 1))), (11, .int (nI to)), (10, .int (nI 0)), (9, .int (Xt 40)), (8, .int (nI ht7)), (7, .int (Xt 43)), (6, .int (nI hd)), (5, .int (nI to)), (4, .int (nI i)), (3, .int (v)), (0, .ref (A 0)), (1, .int (x))]) rfl ?_
                                refine cw_goto (pc := 389) (tgt := 2) C dL_ticks_389 (by decide) ?_
                                refine cw_lv [13, 14, 0] rfl ?_
                                exact ih2 (k + 1) Y (psh Kt nt Xt) (min (nt + 1) 5) σ21 (by omega) (by omega) (by rw [show M + 60 * (k + 1) = M + 60 * k + 60 by omega]; exact h21)
                              · -- 364 f
                                have h364 : ¬ (i ≤ 0) := fun qq => h364 ((nc_le (a := i) (b := 0) (by omega) (by omega)).mpr qq)
                                exact absurd h364 (by omega)
                            · -- 340 f
                              have h340 : ¬ (to ≤ i) := fun qq => h340 ((nc_le (a := to) (b := i) (by omega) (by omega)).mpr qq)
                              refine cw_iload (pc := 343) C dL_ticks_343 10 rfl ?_
                              refine cw_if_le (pc := 345) (tgt := 362) C dL_ticks_345 (by decide) (fun h345 => ?_) (fun h345 => ?_)
                              · -- 345 t
                                have h345 : i ≤ 0 := (nc_le (a := i) (b := 0) (by omega) (by omega)).mp h345
                                refine cw_iload (pc := 362) C dL_ticks_362 10 rfl ?_
                                refine cw_if_le (pc := 364) (tgt := 386) C dL_ticks_364 (by decide) (fun h364 => ?_) (fun h364 => ?_)
                                · -- 364 t
                                  have h364 : i ≤ 0 := (nc_le (a := i) (b := 0) (by omega) (by omega)).mp h364
                                  refine cw_iinc (pc := 386) C dL_ticks_386 14 rfl (nI (k + 1)) (nI_inc _ 1) (by decide) (lv' := [(2, .int (nI (k + 1))), (14, .int (nI 0)), (13, .int (nI 0)), (12, .int (nI (hd - 1))), (11, .int (nI to)), (10, .int (nI 0)), (9, .int (Xt 40)), (8, .int (nI ht7)), (7, .int (Xt 43)), (6, .int (nI hd)), (5, .int (nI to)), (4, .int (nI i)), (3, .int (v)), (0, .ref (A 0)), (1, .int (x))]) rfl ?_
                                  refine cw_goto (pc := 389) (tgt := 2) C dL_ticks_389 (by decide) ?_
                                  refine cw_lv [13, 14, 0] rfl ?_
                                  exact ih2 (k + 1) Y (psh Kt nt Xt) (min (nt + 1) 5) σ21 (by omega) (by omega) (by rw [show M + 60 * (k + 1) = M + 60 * k + 60 by omega]; exact h21)
                                · -- 364 f
                                  have h364 : ¬ (i ≤ 0) := fun qq => h364 ((nc_le (a := i) (b := 0) (by omega) (by omega)).mpr qq)
                                  exact absurd h364 (by omega)
                              · -- 345 f
                                have h345 : ¬ (i ≤ 0) := fun qq => h345 ((nc_le (a := i) (b := 0) (by omega) (by omega)).mpr qq)
                                exact absurd h345 (by omega)
                        · -- 271 f
                          have h271 : ¬ (ht7 ≤ ht7) := fun qq => h271 ((nc_le (a := ht7) (b := ht7) (by omega) (by omega)).mpr qq)
                          exact absurd h271 (by omega)
                · -- 136 f
                  have h136 : ¬ (i ≤ 0) := fun qq => h136 ((nc_le (a := i) (b := 0) (by omega) (by omega)).mpr qq)
                  exact absurd h136 (by omega)
            · -- 86 f
              have h86 : ¬ (i ≤ 0) := fun qq => h86 ((nc_le (a := i) (b := 0) (by omega) (by omega)).mpr qq)
              exact absurd h86 (by omega)
          · -- case 1
            have y39 : tk0 Xt 39 = nI i := (tk0_ne (by decide)).trans hIN
            have y43 : tk0 Xt 43 = Xt 43 := tk0_ne (by decide)
            have y46 : tk0 Xt 46 = Xt 46 := tk0_ne (by decide)
            have y41 : tk0 Xt 41 = nI (hd - 1) := tk0_41 hd2 hd1
            have yin : inN (tk0 Xt) = i := inN_of y39 (by omega)
            rw [ht72] at y46
            refine cw_iload (pc := 84) C dL_ticks_84 5 rfl ?_
            refine cw_if_le (pc := 86) (tgt := 108) C dL_ticks_86 (by decide) (fun h86 => ?_) (fun h86 => ?_)
            · -- 86 t
              have h86 : i ≤ 0 := (nc_le (a := i) (b := 0) (by omega) (by omega)).mp h86
              exact absurd h86 (by omega)
            · -- 86 f
              have h86 : ¬ (i ≤ 0) := fun qq => h86 ((nc_le (a := i) (b := 0) (by omega) (by omega)).mpr qq)
              refine cw_iload (pc := 89) C dL_ticks_89 4 rfl ?_
              refine cw_iload (pc := 91) C dL_ticks_91 5 rfl ?_
              refine cw_icmp_eq (pc := 93) (tgt := 108) C dL_ticks_93 (by decide) (fun h93 => ?_) (fun h93 => ?_)
              · -- 93 t
                have h93 : to = i := (nc_eq (a := to) (b := i) (by omega) (by omega)).mp h93
                refine cw_iconst (pc := 108) C dL_ticks_108 (nI 0) (by decide) ?_
                refine cw_istore (pc := 109) C dL_ticks_109 (by decide) (lv' := [(10, .int (nI 0)), (9, .int (Xt 40)), (8, .int (nI ht7)), (7, .int (Xt 43)), (6, .int (nI hd)), (5, .int (nI to)), (4, .int (nI i)), (3, .int (v)), (0, .ref (A 0)), (1, .int (x)), (2, .int (nI k))]) rfl ?_
                refine cw_aload_n (pc := 111) C dL_ticks_111 rfl 8 rfl ?_
                refine cw_iload_n (pc := 112) C dL_ticks_112 rfl 7 rfl ?_
                refine cw_iconst (pc := 113) C dL_ticks_113 (nI 1) (by decide) ?_
                refine cw_calli (pc := 114) C dL_ticks_114 (w_drives l D Z A σ6 Xt F Kt nt (M + 60 * k) v (nI 1) h6) (cwV 2 C.1.2.2.2.2 gL_ticks_X6_drives rfl rfl rfl (by decide +kernel) ⟨Nat.le_of_ble_eq_true rfl, Nat.le_of_ble_eq_true rfl⟩) 0 rfl rfl rfl rfl (Nat.le_of_ble_eq_true rfl) (fun r22 σ22 hr22 => ?_)
                obtain ⟨rfl, h22⟩ := chP_ok (v := nI i) (Y := (tk0 Xt)) hr22 (hdr1.trans (congrArg nI yin)) (nI_pos' (by omega)) hdr2
                refine cw_istore (pc := 117) C dL_ticks_117 (by decide) (lv' := [(11, .int (nI i)), (10, .int (nI 0)), (9, .int (Xt 40)), (8, .int (nI ht7)), (7, .int (Xt 43)), (6, .int (nI hd)), (5, .int (nI to)), (4, .int (nI i)), (3, .int (v)), (0, .ref (A 0)), (1, .int (x)), (2, .int (nI k))]) rfl ?_
                refine cw_iload (pc := 119) C dL_ticks_119 5 rfl ?_
                refine cw_if_le (pc := 121) (tgt := 131) C dL_ticks_121 (by decide) (fun h121 => ?_) (fun h121 => ?_)
                · -- 121 t
                  have h121 : hd ≤ 0 := (nc_le (a := hd) (b := 0) (by omega) (by omega)).mp h121
                  refine cw_iconst (pc := 131) C dL_ticks_131 (nI 0) (by decide) ?_
                  refine cw_istore (pc := 132) C dL_ticks_132 (by decide) (lv' := [(12, .int (nI 0)), (11, .int (nI i)), (10, .int (nI 0)), (9, .int (Xt 40)), (8, .int (nI ht7)), (7, .int (Xt 43)), (6, .int (nI hd)), (5, .int (nI to)), (4, .int (nI i)), (3, .int (v)), (0, .ref (A 0)), (1, .int (x)), (2, .int (nI k))]) rfl ?_
                  refine cw_iload (pc := 134) C dL_ticks_134 8 rfl ?_
                  refine cw_if_le (pc := 136) (tgt := 167) C dL_ticks_136 (by decide) (fun h136 => ?_) (fun h136 => ?_)
                  · -- 136 t
                    have h136 : i ≤ 0 := (nc_le (a := i) (b := 0) (by omega) (by omega)).mp h136
                    exact absurd h136 (by omega)
                  · -- 136 f
                    have h136 : ¬ (i ≤ 0) := fun qq => h136 ((nc_le (a := i) (b := 0) (by omega) (by omega)).mpr qq)
                    refine cw_iload (pc := 139) C dL_ticks_139 7 rfl ?_
                    refine cw_iload (pc := 141) C dL_ticks_141 8 rfl ?_
                    refine cw_icmp_eq (pc := 143) (tgt := 163) C dL_ticks_143 (by decide) (fun h143 => ?_) (fun h143 => ?_)
                    · -- 143 t
                      have h143 : to = i := (nc_eq (a := to) (b := i) (by omega) (by omega)).mp h143
                      refine cw_iconst (pc := 163) C dL_ticks_163 (nI 1) (by decide) ?_
                      refine cw_goto (pc := 164) (tgt := 168) C dL_ticks_164 (by decide) ?_
                      refine cw_istore (pc := 168) C dL_ticks_168 (by decide) (lv' := [(13, .int (nI 1)), (12, .int (nI 0)), (11, .int (nI i)), (10, .int (nI 0)), (9, .int (Xt 40)), (8, .int (nI ht7)), (7, .int (Xt 43)), (6, .int (nI hd)), (5, .int (nI to)), (4, .int (nI i)), (3, .int (v)), (0, .ref (A 0)), (1, .int (x)), (2, .int (nI k))]) rfl ?_
                      refine cw_iload (pc := 170) C dL_ticks_170 2 rfl ?_
                      refine cw_iload (pc := 172) C dL_ticks_172 0 rfl ?_
                      refine cw_if_eq (pc := 174) (tgt := 182) C dL_ticks_174 (by decide) (fun h => False.elim (by revert h; decide)) (fun _ => ?_)
                      refine cw_iload (pc := 177) C dL_ticks_177 9 rfl ?_
                      refine cw_goto (pc := 179) (tgt := 184) C dL_ticks_179 (by decide) ?_
                      refine cw_icmp_ne (pc := 184) (tgt := 261) C dL_ticks_184 (by decide) (fun h184 => ?_) (fun h184 => ?_)
                      · -- 184 t
                        have h184 : ¬ i = i := (nc_ne (a := i) (b := i) (by omega) (by omega)).mp h184
                        exact absurd h184 (by omega)
                      · -- 184 f
                        have h184 : i = i := (nc_eq (a := i) (b := i) (by omega) (by omega)).mp h184
                        refine cw_aload_n (pc := 187) C dL_ticks_187 rfl 11 rfl ?_
                        refine cw_iconst (pc := 188) C dL_ticks_188 (nI 0) (by decide) ?_
                        refine cw_calli (pc := 189) C dL_ticks_189 (w_state l D Z A σ22 (tk0 Xt) F (psh Kt nt Xt) (min (nt + 1) 5) (M + 60 * k + 60) (nI 0) h22) (cwV 1 C.1.2.2.2.2 gL_ticks_X6_state rfl rfl rfl (by decide +kernel) ⟨Nat.le_of_ble_eq_true rfl, Nat.le_of_ble_eq_true rfl⟩) 0 rfl rfl rfl rfl (Nat.le_of_ble_eq_true rfl) (fun r23 σ23 hr23 => ?_)
                        rw [(saA_k (k := 0) (by omega)).trans (congrArg Sum.inl y39)] at hr23
                        obtain ⟨rfl, h23⟩ := hr23
                        have h23 : absP σ23 (tk0 Xt) F (psh Kt nt Xt) (min (nt + 1) 5) (M + 60 * k + 60) := h23
                        refine cw_top (nI i) rfl ?_
                        refine cw_iload (pc := 192) C dL_ticks_192 2 rfl ?_
                        refine cw_icmp_ne (pc := 194) (tgt := 261) C dL_ticks_194 (by decide) (fun h194 => ?_) (fun h194 => ?_)
                        · -- 194 t
                          have h194 : ¬ i = i := (nc_ne (a := i) (b := i) (by omega) (by omega)).mp h194
                          exact absurd h194 (by omega)
                        · -- 194 f
                          have h194 : i = i := (nc_eq (a := i) (b := i) (by omega) (by omega)).mp h194
                          refine cw_aload_n (pc := 197) C dL_ticks_197 rfl 11 rfl ?_
                          refine cw_iconst (pc := 198) C dL_ticks_198 (nI 1) (by decide) ?_
                          refine cw_calli (pc := 199) C dL_ticks_199 (w_state l D Z A σ23 (tk0 Xt) F (psh Kt nt Xt) (min (nt + 1) 5) (M + 60 * k + 60) (nI 1) h23) (cwV 1 C.1.2.2.2.2 gL_ticks_X6_state rfl rfl rfl (by decide +kernel) ⟨Nat.le_of_ble_eq_true rfl, Nat.le_of_ble_eq_true rfl⟩) 0 rfl rfl rfl rfl (Nat.le_of_ble_eq_true rfl) (fun r24 σ24 hr24 => ?_)
                          rw [(saA_k (k := 1) (by omega)).trans (congrArg Sum.inl htm)] at hr24
                          obtain ⟨rfl, h24⟩ := hr24
                          have h24 : absP σ24 (tk0 Xt) F (psh Kt nt Xt) (min (nt + 1) 5) (M + 60 * k + 60) := h24
                          refine cw_top (Xt 40 + nI 1) rfl ?_
                          refine cw_iload (pc := 202) C dL_ticks_202 4 rfl ?_
                          refine cw_iconst (pc := 204) C dL_ticks_204 (nI 1) (by decide) ?_
                          refine cw_iadd (pc := 205) C dL_ticks_205 (z := (Xt 40) + (nI 1)) rfl ?_
                          refine cw_icmp_ne (pc := 206) (tgt := 261) C dL_ticks_206 (by decide) (fun h206 => absurd rfl h206) (fun h206 => ?_)
                          refine cw_aload_n (pc := 209) C dL_ticks_209 rfl 11 rfl ?_
                          refine cw_iconst (pc := 210) C dL_ticks_210 (nI 4) (by decide) ?_
                          refine cw_calli (pc := 211) C dL_ticks_211 (w_state l D Z A σ24 (tk0 Xt) F (psh Kt nt Xt) (min (nt + 1) 5) (M + 60 * k + 60) (nI 4) h24) (cwV 1 C.1.2.2.2.2 gL_ticks_X6_state rfl rfl rfl (by decide +kernel) ⟨Nat.le_of_ble_eq_true rfl, Nat.le_of_ble_eq_true rfl⟩) 0 rfl rfl rfl rfl (Nat.le_of_ble_eq_true rfl) (fun r25 σ25 hr25 => ?_)
                          rw [(saA_k (k := 4) (by omega)).trans (congrArg Sum.inl y43)] at hr25
                          obtain ⟨rfl, h25⟩ := hr25
                          have h25 : absP σ25 (tk0 Xt) F (psh Kt nt Xt) (min (nt + 1) 5) (M + 60 * k + 60) := h25
                          refine cw_top (Xt 43) rfl ?_
                          refine cw_iload (pc := 214) C dL_ticks_214 6 rfl ?_
                          refine cw_iload (pc := 216) C dL_ticks_216 0 rfl ?_
                          refine cw_if_ne (pc := 218) (tgt := 226) C dL_ticks_218 (by decide) (fun _ => ?_) (fun h => False.elim (by revert h; decide))
                          refine cw_iconst (pc := 226) C dL_ticks_226 (nI 0) (by decide) ?_
                          refine cw_goto (pc := 227) (tgt := 232) C dL_ticks_227 (by decide) ?_
                          refine cw_iadd (pc := 232) C dL_ticks_232 (z := Xt 43) (by rw [nI_0, Int32.add_zero]) ?_
                          refine cw_icmp_ne (pc := 233) (tgt := 261) C dL_ticks_233 (by decide) (fun h233 => absurd rfl h233) (fun h233 => ?_)
                          refine cw_aload_n (pc := 236) C dL_ticks_236 rfl 11 rfl ?_
                          refine cw_bipush (pc := 237) C dL_ticks_237 (nI 7) (by decide) ?_
                          refine cw_calli (pc := 239) C dL_ticks_239 (w_state l D Z A σ25 (tk0 Xt) F (psh Kt nt Xt) (min (nt + 1) 5) (M + 60 * k + 60) (nI 7) h25) (cwV 1 C.1.2.2.2.2 gL_ticks_X6_state rfl rfl rfl (by decide +kernel) ⟨Nat.le_of_ble_eq_true rfl, Nat.le_of_ble_eq_true rfl⟩) 0 rfl rfl rfl rfl (Nat.le_of_ble_eq_true rfl) (fun r26 σ26 hr26 => ?_)
                          rw [(saA_k (k := 7) (by omega)).trans (congrArg Sum.inl y46)] at hr26
                          obtain ⟨rfl, h26⟩ := hr26
                          have h26 : absP σ26 (tk0 Xt) F (psh Kt nt Xt) (min (nt + 1) 5) (M + 60 * k + 60) := h26
                          refine cw_top (nI ht7) rfl ?_
                          refine cw_iload (pc := 242) C dL_ticks_242 5 rfl ?_
                          refine cw_isub (pc := 244) C dL_ticks_244 (z := nI 0) ((pk_sub (by omega)).trans (congrArg nI (by omega))) ?_
                          refine cw_if_lt (pc := 245) (tgt := 261) C dL_ticks_245 (by decide) (fun h => False.elim (by revert h; decide)) (fun _ => ?_)
                          refine cw_aload_n (pc := 248) C dL_ticks_248 rfl 11 rfl ?_
                          refine cw_bipush (pc := 249) C dL_ticks_249 (nI 7) (by decide) ?_
                          refine cw_calli (pc := 251) C dL_ticks_251 (w_state l D Z A σ26 (tk0 Xt) F (psh Kt nt Xt) (min (nt + 1) 5) (M + 60 * k + 60) (nI 7) h26) (cwV 1 C.1.2.2.2.2 gL_ticks_X6_state rfl rfl rfl (by decide +kernel) ⟨Nat.le_of_ble_eq_true rfl, Nat.le_of_ble_eq_true rfl⟩) 0 rfl rfl rfl rfl (Nat.le_of_ble_eq_true rfl) (fun r27 σ27 hr27 => ?_)
                          rw [(saA_k (k := 7) (by omega)).trans (congrArg Sum.inl y46)] at hr27
                          obtain ⟨rfl, h27⟩ := hr27
                          have h27 : absP σ27 (tk0 Xt) F (psh Kt nt Xt) (min (nt + 1) 5) (M + 60 * k + 60) := h27
                          refine cw_top (nI ht7) rfl ?_
                          refine cw_iload (pc := 254) C dL_ticks_254 5 rfl ?_
                          refine cw_isub (pc := 256) C dL_ticks_256 (z := nI 0) ((pk_sub (by omega)).trans (congrArg nI (by omega))) ?_
                          refine cw_iconst (pc := 257) C dL_ticks_257 (nI 1) (by decide) ?_
                          refine cw_icmp_le (pc := 258) (tgt := 263) C dL_ticks_258 (by decide) (fun _ => ?_) (fun h => False.elim (by revert h; decide))
                          refine cw_aload_n (pc := 263) C dL_ticks_263 rfl 11 rfl ?_
                          refine cw_bipush (pc := 264) C dL_ticks_264 (nI 7) (by decide) ?_
                          refine cw_calli (pc := 266) C dL_ticks_266 (w_state l D Z A σ27 (tk0 Xt) F (psh Kt nt Xt) (min (nt + 1) 5) (M + 60 * k + 60) (nI 7) h27) (cwV 1 C.1.2.2.2.2 gL_ticks_X6_state rfl rfl rfl (by decide +kernel) ⟨Nat.le_of_ble_eq_true rfl, Nat.le_of_ble_eq_true rfl⟩) 0 rfl rfl rfl rfl (Nat.le_of_ble_eq_true rfl) (fun r28 σ28 hr28 => ?_)
                          rw [(saA_k (k := 7) (by omega)).trans (congrArg Sum.inl y46)] at hr28
                          obtain ⟨rfl, h28⟩ := hr28
                          have h28 : absP σ28 (tk0 Xt) F (psh Kt nt Xt) (min (nt + 1) 5) (M + 60 * k + 60) := h28
                          refine cw_top (nI ht7) rfl ?_
                          refine cw_iload (pc := 269) C dL_ticks_269 5 rfl ?_
                          refine cw_icmp_le (pc := 271) (tgt := 278) C dL_ticks_271 (by decide) (fun h271 => ?_) (fun h271 => ?_)
                          · -- 271 t
                            have h271 : ht7 ≤ ht7 := (nc_le (a := ht7) (b := ht7) (by omega) (by omega)).mp h271
                            refine cw_iconst (pc := 278) C dL_ticks_278 (nI 0) (by decide) ?_
                            refine cw_istore (pc := 279) C dL_ticks_279 (by decide) (lv' := [(14, .int (nI 0)), (13, .int (nI 1)), (12, .int (nI 0)), (11, .int (nI i)), (10, .int (nI 0)), (9, .int (Xt 40)), (8, .int (nI ht7)), (7, .int (Xt 43)), (6, .int (nI hd)), (5, .int (nI to)), (4, .int (nI i)), (3, .int (v)), (0, .ref (A 0)), (1, .int (x)), (2, .int (nI k))]) rfl ?_
                            refine cw_aload_n (pc := 281) C dL_ticks_281 rfl 12 rfl ?_
                            refine cw_iconst (pc := 282) C dL_ticks_282 (nI 2) (by decide) ?_
                            refine cw_calli (pc := 283) C dL_ticks_283 (w_state l D Z A σ28 (tk0 Xt) F (psh Kt nt Xt) (min (nt + 1) 5) (M + 60 * k + 60) (nI 2) h28) (cwV 1 C.1.2.2.2.2 gL_ticks_X6_state rfl rfl rfl (by decide +kernel) ⟨Nat.le_of_ble_eq_true rfl, Nat.le_of_ble_eq_true rfl⟩) 0 rfl rfl rfl rfl (Nat.le_of_ble_eq_true rfl) (fun r29 σ29 hr29 => ?_)
                            rw [(saA_k (k := 2) (by omega)).trans (congrArg Sum.inl y41)] at hr29
                            obtain ⟨rfl, h29⟩ := hr29
                            have h29 : absP σ29 (tk0 Xt) F (psh Kt nt Xt) (min (nt + 1) 5) (M + 60 * k + 60) := h29
                            refine cw_top (nI (hd - 1)) rfl ?_
                            refine cw_iload (pc := 286) C dL_ticks_286 0 rfl ?_
                            refine cw_if_eq (pc := 288) (tgt := 296) C dL_ticks_288 (by decide) (fun _ => ?_) (fun h => False.elim (by revert h; decide))
                            refine cw_iload (pc := 296) C dL_ticks_296 2 rfl ?_
                            refine cw_icmp_ne (pc := 298) (tgt := 360) C dL_ticks_298 (by decide) (fun h298 => ?_) (fun h298 => ?_)
                            · -- 298 t
                              have h298 : ¬ (hd - 1) = 0 := (nc_ne (a := hd - 1) (b := 0) (by omega) (by omega)).mp h298
                              exact absurd h298 (by omega)
                            · -- 298 f
                              have h298 : (hd - 1) = 0 := (nc_eq (a := hd - 1) (b := 0) (by omega) (by omega)).mp h298
                              refine cw_iload (pc := 301) C dL_ticks_301 0 rfl ?_
                              refine cw_if_eq (pc := 303) (tgt := 336) C dL_ticks_303 (by decide) (fun _ => ?_) (fun h => False.elim (by revert h; decide))
                              refine cw_iload (pc := 336) C dL_ticks_336 3 rfl ?_
                              refine cw_iload (pc := 338) C dL_ticks_338 10 rfl ?_
                              refine cw_icmp_le (pc := 340) (tgt := 362) C dL_ticks_340 (by decide) (fun h340 => ?_) (fun h340 => ?_)
                              · -- 340 t
                                have h340 : i ≤ i := (nc_le (a := i) (b := i) (by omega) (by omega)).mp h340
                                refine cw_iload (pc := 362) C dL_ticks_362 10 rfl ?_
                                refine cw_if_le (pc := 364) (tgt := 386) C dL_ticks_364 (by decide) (fun h364 => ?_) (fun h364 => ?_)
                                · -- 364 t
                                  have h364 : i ≤ 0 := (nc_le (a := i) (b := 0) (by omega) (by omega)).mp h364
                                  exact absurd h364 (by omega)
                                · -- 364 f
                                  have h364 : ¬ (i ≤ 0) := fun qq => h364 ((nc_le (a := i) (b := 0) (by omega) (by omega)).mpr qq)
                                  refine cw_iload (pc := 367) C dL_ticks_367 9 rfl ?_
                                  refine cw_iload (pc := 369) C dL_ticks_369 10 rfl ?_
                                  refine cw_icmp_ne (pc := 371) (tgt := 386) C dL_ticks_371 (by decide) (fun h371 => ?_) (fun h371 => ?_)
                                  · -- 371 t
                                    have h371 : ¬ to = i := (nc_ne (a := to) (b := i) (by omega) (by omega)).mp h371
                                    exact absurd h371 (by omega)
                                  · -- 371 f
                                    have h371 : to = i := (nc_eq (a := to) (b := i) (by omega) (by omega)).mp h371
                                    refine cw_aload_n (pc := 374) C dL_ticks_374 rfl 12 rfl ?_
                                    refine cw_iload_n (pc := 375) C dL_ticks_375 rfl 11 rfl ?_
                                    refine cw_calli (pc := 376) C dL_ticks_376 (w_want l D Z A σ29 (tk0 Xt) F (psh Kt nt Xt) (min (nt + 1) 5) (M + 60 * k + 60) v h29) (cwV 1 C.1.2.2.2.2 gL_ticks_X6_want rfl rfl rfl (by decide +kernel) ⟨Nat.le_of_ble_eq_true rfl, Nat.le_of_ble_eq_true rfl⟩) 0 rfl rfl rfl rfl (Nat.le_of_ble_eq_true rfl) (fun r30 σ30 hr30 => ?_)
                                    rw [(wnA_v hv).trans (congrArg (fun q => Sum.inl (nI q)) ((congrArg (fun q => wntS (tk0 Xt) q v) yin).trans hwk))] at hr30
                                    obtain ⟨rfl, h30⟩ := hr30
                                    have h30 : absP σ30 (tk0 Xt) F (psh Kt nt Xt) (min (nt + 1) 5) (M + 60 * k + 60) := h30
                                    refine cw_top (nI to) rfl ?_
                                    refine cw_iload (pc := 379) C dL_ticks_379 3 rfl ?_
                                    refine cw_icmp_eq (pc := 381) (tgt := 386) C dL_ticks_381 (by decide) (fun h381 => ?_) (fun h381 => ?_)
                                    · -- 381 t
                                      have h381 : to = i := (nc_eq (a := to) (b := i) (by omega) (by omega)).mp h381
                                      refine cw_iinc (pc := 386) C dL_ticks_386 14 rfl (nI (k + 1)) (nI_inc _ 1) (by decide) (lv' := [(2, .int (nI (k + 1))), (14, .int (nI 0)), (13, .int (nI 1)), (12, .int (nI 0)), (11, .int (nI i)), (10, .int (nI 0)), (9, .int (Xt 40)), (8, .int (nI ht7)), (7, .int (Xt 43)), (6, .int (nI hd)), (5, .int (nI to)), (4, .int (nI i)), (3, .int (v)), (0, .ref (A 0)), (1, .int (x))]) rfl ?_
                                      refine cw_goto (pc := 389) (tgt := 2) C dL_ticks_389 (by decide) ?_
                                      refine cw_lv [13, 14, 0] rfl ?_
                                      exact ih2 (k + 1) (tk0 Xt) (psh Kt nt Xt) (min (nt + 1) 5) σ30 (by omega) (by omega) (by rw [show M + 60 * (k + 1) = M + 60 * k + 60 by omega]; exact h30)
                                    · -- 381 f
                                      have h381 : ¬ (to = i) := fun qq => h381 ((nc_eq (a := to) (b := i) (by omega) (by omega)).mpr qq)
                                      exact absurd h381 (by omega)
                              · -- 340 f
                                have h340 : ¬ (i ≤ i) := fun qq => h340 ((nc_le (a := i) (b := i) (by omega) (by omega)).mpr qq)
                                exact absurd h340 (by omega)
                          · -- 271 f
                            have h271 : ¬ (ht7 ≤ ht7) := fun qq => h271 ((nc_le (a := ht7) (b := ht7) (by omega) (by omega)).mpr qq)
                            exact absurd h271 (by omega)
                    · -- 143 f
                      have h143 : ¬ (to = i) := fun qq => h143 ((nc_eq (a := to) (b := i) (by omega) (by omega)).mpr qq)
                      exact absurd h143 (by omega)
                · -- 121 f
                  have h121 : ¬ (hd ≤ 0) := fun qq => h121 ((nc_le (a := hd) (b := 0) (by omega) (by omega)).mpr qq)
                  refine cw_iload (pc := 124) C dL_ticks_124 5 rfl ?_
                  refine cw_iconst (pc := 126) C dL_ticks_126 (nI 1) (by decide) ?_
                  refine cw_isub (pc := 127) C dL_ticks_127 (z := nI (hd - 1)) (pk_sub (by omega)) ?_
                  refine cw_goto (pc := 128) (tgt := 132) C dL_ticks_128 (by decide) ?_
                  refine cw_istore (pc := 132) C dL_ticks_132 (by decide) (lv' := [(12, .int (nI (hd - 1))), (11, .int (nI i)), (10, .int (nI 0)), (9, .int (Xt 40)), (8, .int (nI ht7)), (7, .int (Xt 43)), (6, .int (nI hd)), (5, .int (nI to)), (4, .int (nI i)), (3, .int (v)), (0, .ref (A 0)), (1, .int (x)), (2, .int (nI k))]) rfl ?_
                  refine cw_iload (pc := 134) C dL_ticks_134 8 rfl ?_
                  refine cw_if_le (pc := 136) (tgt := 167) C dL_ticks_136 (by decide) (fun h136 => ?_) (fun h136 => ?_)
                  · -- 136 t
                    have h136 : i ≤ 0 := (nc_le (a := i) (b := 0) (by omega) (by omega)).mp h136
                    exact absurd h136 (by omega)
                  · -- 136 f
                    have h136 : ¬ (i ≤ 0) := fun qq => h136 ((nc_le (a := i) (b := 0) (by omega) (by omega)).mpr qq)
                    refine cw_iload (pc := 139) C dL_ticks_139 7 rfl ?_
                    refine cw_iload (pc := 141) C dL_ticks_141 8 rfl ?_
                    refine cw_icmp_eq (pc := 143) (tgt := 163) C dL_ticks_143 (by decide) (fun h143 => ?_) (fun h143 => ?_)
                    · -- 143 t
                      have h143 : to = i := (nc_eq (a := to) (b := i) (by omega) (by omega)).mp h143
                      refine cw_iconst (pc := 163) C dL_ticks_163 (nI 1) (by decide) ?_
                      refine cw_goto (pc := 164) (tgt := 168) C dL_ticks_164 (by decide) ?_
                      refine cw_istore (pc := 168) C dL_ticks_168 (by decide) (lv' := [(13, .int (nI 1)), (12, .int (nI (hd - 1))), (11, .int (nI i)), (10, .int (nI 0)), (9, .int (Xt 40)), (8, .int (nI ht7)), (7, .int (Xt 43)), (6, .int (nI hd)), (5, .int (nI to)), (4, .int (nI i)), (3, .int (v)), (0, .ref (A 0)), (1, .int (x)), (2, .int (nI k))]) rfl ?_
                      refine cw_iload (pc := 170) C dL_ticks_170 2 rfl ?_
                      refine cw_iload (pc := 172) C dL_ticks_172 0 rfl ?_
                      refine cw_if_eq (pc := 174) (tgt := 182) C dL_ticks_174 (by decide) (fun h => False.elim (by revert h; decide)) (fun _ => ?_)
                      refine cw_iload (pc := 177) C dL_ticks_177 9 rfl ?_
                      refine cw_goto (pc := 179) (tgt := 184) C dL_ticks_179 (by decide) ?_
                      refine cw_icmp_ne (pc := 184) (tgt := 261) C dL_ticks_184 (by decide) (fun h184 => ?_) (fun h184 => ?_)
                      · -- 184 t
                        have h184 : ¬ i = i := (nc_ne (a := i) (b := i) (by omega) (by omega)).mp h184
                        exact absurd h184 (by omega)
                      · -- 184 f
                        have h184 : i = i := (nc_eq (a := i) (b := i) (by omega) (by omega)).mp h184
                        refine cw_aload_n (pc := 187) C dL_ticks_187 rfl 11 rfl ?_
                        refine cw_iconst (pc := 188) C dL_ticks_188 (nI 0) (by decide) ?_
                        refine cw_calli (pc := 189) C dL_ticks_189 (w_state l D Z A σ22 (tk0 Xt) F (psh Kt nt Xt) (min (nt + 1) 5) (M + 60 * k + 60) (nI 0) h22) (cwV 1 C.1.2.2.2.2 gL_ticks_X6_state rfl rfl rfl (by decide +kernel) ⟨Nat.le_of_ble_eq_true rfl, Nat.le_of_ble_eq_true rfl⟩) 0 rfl rfl rfl rfl (Nat.le_of_ble_eq_true rfl) (fun r31 σ31 hr31 => ?_)
                        rw [(saA_k (k := 0) (by omega)).trans (congrArg Sum.inl y39)] at hr31
                        obtain ⟨rfl, h31⟩ := hr31
                        have h31 : absP σ31 (tk0 Xt) F (psh Kt nt Xt) (min (nt + 1) 5) (M + 60 * k + 60) := h31
                        refine cw_top (nI i) rfl ?_
                        refine cw_iload (pc := 192) C dL_ticks_192 2 rfl ?_
                        refine cw_icmp_ne (pc := 194) (tgt := 261) C dL_ticks_194 (by decide) (fun h194 => ?_) (fun h194 => ?_)
                        · -- 194 t
                          have h194 : ¬ i = i := (nc_ne (a := i) (b := i) (by omega) (by omega)).mp h194
                          exact absurd h194 (by omega)
                        · -- 194 f
                          have h194 : i = i := (nc_eq (a := i) (b := i) (by omega) (by omega)).mp h194
                          refine cw_aload_n (pc := 197) C dL_ticks_197 rfl 11 rfl ?_
                          refine cw_iconst (pc := 198) C dL_ticks_198 (nI 1) (by decide) ?_
                          refine cw_calli (pc := 199) C dL_ticks_199 (w_state l D Z A σ31 (tk0 Xt) F (psh Kt nt Xt) (min (nt + 1) 5) (M + 60 * k + 60) (nI 1) h31) (cwV 1 C.1.2.2.2.2 gL_ticks_X6_state rfl rfl rfl (by decide +kernel) ⟨Nat.le_of_ble_eq_true rfl, Nat.le_of_ble_eq_true rfl⟩) 0 rfl rfl rfl rfl (Nat.le_of_ble_eq_true rfl) (fun r32 σ32 hr32 => ?_)
                          rw [(saA_k (k := 1) (by omega)).trans (congrArg Sum.inl htm)] at hr32
                          obtain ⟨rfl, h32⟩ := hr32
                          have h32 : absP σ32 (tk0 Xt) F (psh Kt nt Xt) (min (nt + 1) 5) (M + 60 * k + 60) := h32
                          refine cw_top (Xt 40 + nI 1) rfl ?_
                          refine cw_iload (pc := 202) C dL_ticks_202 4 rfl ?_
                          refine cw_iconst (pc := 204) C dL_ticks_204 (nI 1) (by decide) ?_
                          refine cw_iadd (pc := 205) C dL_ticks_205 (z := (Xt 40) + (nI 1)) rfl ?_
                          refine cw_icmp_ne (pc := 206) (tgt := 261) C dL_ticks_206 (by decide) (fun h206 => absurd rfl h206) (fun h206 => ?_)
                          refine cw_aload_n (pc := 209) C dL_ticks_209 rfl 11 rfl ?_
                          refine cw_iconst (pc := 210) C dL_ticks_210 (nI 4) (by decide) ?_
                          refine cw_calli (pc := 211) C dL_ticks_211 (w_state l D Z A σ32 (tk0 Xt) F (psh Kt nt Xt) (min (nt + 1) 5) (M + 60 * k + 60) (nI 4) h32) (cwV 1 C.1.2.2.2.2 gL_ticks_X6_state rfl rfl rfl (by decide +kernel) ⟨Nat.le_of_ble_eq_true rfl, Nat.le_of_ble_eq_true rfl⟩) 0 rfl rfl rfl rfl (Nat.le_of_ble_eq_true rfl) (fun r33 σ33 hr33 => ?_)
                          rw [(saA_k (k := 4) (by omega)).trans (congrArg Sum.inl y43)] at hr33
                          obtain ⟨rfl, h33⟩ := hr33
                          have h33 : absP σ33 (tk0 Xt) F (psh Kt nt Xt) (min (nt + 1) 5) (M + 60 * k + 60) := h33
                          refine cw_top (Xt 43) rfl ?_
                          refine cw_iload (pc := 214) C dL_ticks_214 6 rfl ?_
                          refine cw_iload (pc := 216) C dL_ticks_216 0 rfl ?_
                          refine cw_if_ne (pc := 218) (tgt := 226) C dL_ticks_218 (by decide) (fun _ => ?_) (fun h => False.elim (by revert h; decide))
                          refine cw_iconst (pc := 226) C dL_ticks_226 (nI 0) (by decide) ?_
                          refine cw_goto (pc := 227) (tgt := 232) C dL_ticks_227 (by decide) ?_
                          refine cw_iadd (pc := 232) C dL_ticks_232 (z := Xt 43) (by rw [nI_0, Int32.add_zero]) ?_
                          refine cw_icmp_ne (pc := 233) (tgt := 261) C dL_ticks_233 (by decide) (fun h233 => absurd rfl h233) (fun h233 => ?_)
                          refine cw_aload_n (pc := 236) C dL_ticks_236 rfl 11 rfl ?_
                          refine cw_bipush (pc := 237) C dL_ticks_237 (nI 7) (by decide) ?_
                          refine cw_calli (pc := 239) C dL_ticks_239 (w_state l D Z A σ33 (tk0 Xt) F (psh Kt nt Xt) (min (nt + 1) 5) (M + 60 * k + 60) (nI 7) h33) (cwV 1 C.1.2.2.2.2 gL_ticks_X6_state rfl rfl rfl (by decide +kernel) ⟨Nat.le_of_ble_eq_true rfl, Nat.le_of_ble_eq_true rfl⟩) 0 rfl rfl rfl rfl (Nat.le_of_ble_eq_true rfl) (fun r34 σ34 hr34 => ?_)
                          rw [(saA_k (k := 7) (by omega)).trans (congrArg Sum.inl y46)] at hr34
                          obtain ⟨rfl, h34⟩ := hr34
                          have h34 : absP σ34 (tk0 Xt) F (psh Kt nt Xt) (min (nt + 1) 5) (M + 60 * k + 60) := h34
                          refine cw_top (nI ht7) rfl ?_
                          refine cw_iload (pc := 242) C dL_ticks_242 5 rfl ?_
                          refine cw_isub (pc := 244) C dL_ticks_244 (z := nI 0) ((pk_sub (by omega)).trans (congrArg nI (by omega))) ?_
                          refine cw_if_lt (pc := 245) (tgt := 261) C dL_ticks_245 (by decide) (fun h => False.elim (by revert h; decide)) (fun _ => ?_)
                          refine cw_aload_n (pc := 248) C dL_ticks_248 rfl 11 rfl ?_
                          refine cw_bipush (pc := 249) C dL_ticks_249 (nI 7) (by decide) ?_
                          refine cw_calli (pc := 251) C dL_ticks_251 (w_state l D Z A σ34 (tk0 Xt) F (psh Kt nt Xt) (min (nt + 1) 5) (M + 60 * k + 60) (nI 7) h34) (cwV 1 C.1.2.2.2.2 gL_ticks_X6_state rfl rfl rfl (by decide +kernel) ⟨Nat.le_of_ble_eq_true rfl, Nat.le_of_ble_eq_true rfl⟩) 0 rfl rfl rfl rfl (Nat.le_of_ble_eq_true rfl) (fun r35 σ35 hr35 => ?_)
                          rw [(saA_k (k := 7) (by omega)).trans (congrArg Sum.inl y46)] at hr35
                          obtain ⟨rfl, h35⟩ := hr35
                          have h35 : absP σ35 (tk0 Xt) F (psh Kt nt Xt) (min (nt + 1) 5) (M + 60 * k + 60) := h35
                          refine cw_top (nI ht7) rfl ?_
                          refine cw_iload (pc := 254) C dL_ticks_254 5 rfl ?_
                          refine cw_isub (pc := 256) C dL_ticks_256 (z := nI 0) ((pk_sub (by omega)).trans (congrArg nI (by omega))) ?_
                          refine cw_iconst (pc := 257) C dL_ticks_257 (nI 1) (by decide) ?_
                          refine cw_icmp_le (pc := 258) (tgt := 263) C dL_ticks_258 (by decide) (fun _ => ?_) (fun h => False.elim (by revert h; decide))
                          refine cw_aload_n (pc := 263) C dL_ticks_263 rfl 11 rfl ?_
                          refine cw_bipush (pc := 264) C dL_ticks_264 (nI 7) (by decide) ?_
                          refine cw_calli (pc := 266) C dL_ticks_266 (w_state l D Z A σ35 (tk0 Xt) F (psh Kt nt Xt) (min (nt + 1) 5) (M + 60 * k + 60) (nI 7) h35) (cwV 1 C.1.2.2.2.2 gL_ticks_X6_state rfl rfl rfl (by decide +kernel) ⟨Nat.le_of_ble_eq_true rfl, Nat.le_of_ble_eq_true rfl⟩) 0 rfl rfl rfl rfl (Nat.le_of_ble_eq_true rfl) (fun r36 σ36 hr36 => ?_)
                          rw [(saA_k (k := 7) (by omega)).trans (congrArg Sum.inl y46)] at hr36
                          obtain ⟨rfl, h36⟩ := hr36
                          have h36 : absP σ36 (tk0 Xt) F (psh Kt nt Xt) (min (nt + 1) 5) (M + 60 * k + 60) := h36
                          refine cw_top (nI ht7) rfl ?_
                          refine cw_iload (pc := 269) C dL_ticks_269 5 rfl ?_
                          refine cw_icmp_le (pc := 271) (tgt := 278) C dL_ticks_271 (by decide) (fun h271 => ?_) (fun h271 => ?_)
                          · -- 271 t
                            have h271 : ht7 ≤ ht7 := (nc_le (a := ht7) (b := ht7) (by omega) (by omega)).mp h271
                            refine cw_iconst (pc := 278) C dL_ticks_278 (nI 0) (by decide) ?_
                            refine cw_istore (pc := 279) C dL_ticks_279 (by decide) (lv' := [(14, .int (nI 0)), (13, .int (nI 1)), (12, .int (nI (hd - 1))), (11, .int (nI i)), (10, .int (nI 0)), (9, .int (Xt 40)), (8, .int (nI ht7)), (7, .int (Xt 43)), (6, .int (nI hd)), (5, .int (nI to)), (4, .int (nI i)), (3, .int (v)), (0, .ref (A 0)), (1, .int (x)), (2, .int (nI k))]) rfl ?_
                            refine cw_aload_n (pc := 281) C dL_ticks_281 rfl 12 rfl ?_
                            refine cw_iconst (pc := 282) C dL_ticks_282 (nI 2) (by decide) ?_
                            refine cw_calli (pc := 283) C dL_ticks_283 (w_state l D Z A σ36 (tk0 Xt) F (psh Kt nt Xt) (min (nt + 1) 5) (M + 60 * k + 60) (nI 2) h36) (cwV 1 C.1.2.2.2.2 gL_ticks_X6_state rfl rfl rfl (by decide +kernel) ⟨Nat.le_of_ble_eq_true rfl, Nat.le_of_ble_eq_true rfl⟩) 0 rfl rfl rfl rfl (Nat.le_of_ble_eq_true rfl) (fun r37 σ37 hr37 => ?_)
                            rw [(saA_k (k := 2) (by omega)).trans (congrArg Sum.inl y41)] at hr37
                            obtain ⟨rfl, h37⟩ := hr37
                            have h37 : absP σ37 (tk0 Xt) F (psh Kt nt Xt) (min (nt + 1) 5) (M + 60 * k + 60) := h37
                            refine cw_top (nI (hd - 1)) rfl ?_
                            refine cw_iload (pc := 286) C dL_ticks_286 0 rfl ?_
                            refine cw_if_eq (pc := 288) (tgt := 296) C dL_ticks_288 (by decide) (fun _ => ?_) (fun h => False.elim (by revert h; decide))
                            refine cw_iload (pc := 296) C dL_ticks_296 2 rfl ?_
                            refine cw_icmp_ne (pc := 298) (tgt := 360) C dL_ticks_298 (by decide) (fun h298 => ?_) (fun h298 => ?_)
                            · -- 298 t
                              have h298 : ¬ (hd - 1) = (hd - 1) := (nc_ne (a := hd - 1) (b := hd - 1) (by omega) (by omega)).mp h298
                              exact absurd h298 (by omega)
                            · -- 298 f
                              have h298 : (hd - 1) = (hd - 1) := (nc_eq (a := hd - 1) (b := hd - 1) (by omega) (by omega)).mp h298
                              refine cw_iload (pc := 301) C dL_ticks_301 0 rfl ?_
                              refine cw_if_eq (pc := 303) (tgt := 336) C dL_ticks_303 (by decide) (fun _ => ?_) (fun h => False.elim (by revert h; decide))
                              refine cw_iload (pc := 336) C dL_ticks_336 3 rfl ?_
                              refine cw_iload (pc := 338) C dL_ticks_338 10 rfl ?_
                              refine cw_icmp_le (pc := 340) (tgt := 362) C dL_ticks_340 (by decide) (fun h340 => ?_) (fun h340 => ?_)
                              · -- 340 t
                                have h340 : i ≤ i := (nc_le (a := i) (b := i) (by omega) (by omega)).mp h340
                                refine cw_iload (pc := 362) C dL_ticks_362 10 rfl ?_
                                refine cw_if_le (pc := 364) (tgt := 386) C dL_ticks_364 (by decide) (fun h364 => ?_) (fun h364 => ?_)
                                · -- 364 t
                                  have h364 : i ≤ 0 := (nc_le (a := i) (b := 0) (by omega) (by omega)).mp h364
                                  exact absurd h364 (by omega)
                                · -- 364 f
                                  have h364 : ¬ (i ≤ 0) := fun qq => h364 ((nc_le (a := i) (b := 0) (by omega) (by omega)).mpr qq)
                                  refine cw_iload (pc := 367) C dL_ticks_367 9 rfl ?_
                                  refine cw_iload (pc := 369) C dL_ticks_369 10 rfl ?_
                                  refine cw_icmp_ne (pc := 371) (tgt := 386) C dL_ticks_371 (by decide) (fun h371 => ?_) (fun h371 => ?_)
                                  · -- 371 t
                                    have h371 : ¬ to = i := (nc_ne (a := to) (b := i) (by omega) (by omega)).mp h371
                                    exact absurd h371 (by omega)
                                  · -- 371 f
                                    have h371 : to = i := (nc_eq (a := to) (b := i) (by omega) (by omega)).mp h371
                                    refine cw_aload_n (pc := 374) C dL_ticks_374 rfl 12 rfl ?_
                                    refine cw_iload_n (pc := 375) C dL_ticks_375 rfl 11 rfl ?_
                                    refine cw_calli (pc := 376) C dL_ticks_376 (w_want l D Z A σ37 (tk0 Xt) F (psh Kt nt Xt) (min (nt + 1) 5) (M + 60 * k + 60) v h37) (cwV 1 C.1.2.2.2.2 gL_ticks_X6_want rfl rfl rfl (by decide +kernel) ⟨Nat.le_of_ble_eq_true rfl, Nat.le_of_ble_eq_true rfl⟩) 0 rfl rfl rfl rfl (Nat.le_of_ble_eq_true rfl) (fun r38 σ38 hr38 => ?_)
                                    rw [(wnA_v hv).trans (congrArg (fun q => Sum.inl (nI q)) ((congrArg (fun q => wntS (tk0 Xt) q v) yin).trans hwk))] at hr38
                                    obtain ⟨rfl, h38⟩ := hr38
                                    have h38 : absP σ38 (tk0 Xt) F (psh Kt nt Xt) (min (nt + 1) 5) (M + 60 * k + 60) := h38
                                    refine cw_top (nI to) rfl ?_
                                    refine cw_iload (pc := 379) C dL_ticks_379 3 rfl ?_
                                    refine cw_icmp_eq (pc := 381) (tgt := 386) C dL_ticks_381 (by decide) (fun h381 => ?_) (fun h381 => ?_)
                                    · -- 381 t
                                      have h381 : to = i := (nc_eq (a := to) (b := i) (by omega) (by omega)).mp h381
                                      refine cw_iinc (pc := 386) C dL_ticks_386 14 rfl (nI (k + 1)) (nI_inc _ 1) (by decide) (lv' := [(2, .int (nI (k + 1))), (14, .int (nI 0)), (13, .int (nI 1)), (12, .int (nI (hd - 1))), (11, .int (nI i)), (10, .int (nI 0)), (9, .int (Xt 40)), (8, .int (nI ht7)), (7, .int (Xt 43)), (6, .int (nI hd)), (5, .int (nI to)), (4, .int (nI i)), (3, .int (v)), (0, .ref (A 0)), (1, .int (x))]) rfl ?_
                                      refine cw_goto (pc := 389) (tgt := 2) C dL_ticks_389 (by decide) ?_
                                      refine cw_lv [13, 14, 0] rfl ?_
                                      exact ih2 (k + 1) (tk0 Xt) (psh Kt nt Xt) (min (nt + 1) 5) σ38 (by omega) (by omega) (by rw [show M + 60 * (k + 1) = M + 60 * k + 60 by omega]; exact h38)
                                    · -- 381 f
                                      have h381 : ¬ (to = i) := fun qq => h381 ((nc_eq (a := to) (b := i) (by omega) (by omega)).mpr qq)
                                      exact absurd h381 (by omega)
                              · -- 340 f
                                have h340 : ¬ (i ≤ i) := fun qq => h340 ((nc_le (a := i) (b := i) (by omega) (by omega)).mpr qq)
                                exact absurd h340 (by omega)
                          · -- 271 f
                            have h271 : ¬ (ht7 ≤ ht7) := fun qq => h271 ((nc_le (a := ht7) (b := ht7) (by omega) (by omega)).mpr qq)
                            exact absurd h271 (by omega)
                    · -- 143 f
                      have h143 : ¬ (to = i) := fun qq => h143 ((nc_eq (a := to) (b := i) (by omega) (by omega)).mpr qq)
                      exact absurd h143 (by omega)
              · -- 93 f
                have h93 : ¬ (to = i) := fun qq => h93 ((nc_eq (a := to) (b := i) (by omega) (by omega)).mpr qq)
                exact absurd h93 (by omega)
          · -- case 2
            have y39 : tk0 Xt 39 = nI i := (tk0_ne (by decide)).trans hIN
            have y43 : tk0 Xt 43 = Xt 43 := tk0_ne (by decide)
            have y46 : tk0 Xt 46 = Xt 46 := tk0_ne (by decide)
            have y41 : tk0 Xt 41 = nI (hd - 1) := tk0_41 hd2 hd1
            have yin : inN (tk0 Xt) = i := inN_of y39 (by omega)
            rw [ht72] at y46
            have fi : fitN Xt i = true := hfi.resolve_left q0
            have fo : fitN Xt to = true := hft.resolve_left (by omega)
            have qn : ¬ i = to := by omega
            refine cw_iload (pc := 84) C dL_ticks_84 5 rfl ?_
            refine cw_if_le (pc := 86) (tgt := 108) C dL_ticks_86 (by decide) (fun h86 => ?_) (fun h86 => ?_)
            · -- 86 t
              have h86 : i ≤ 0 := (nc_le (a := i) (b := 0) (by omega) (by omega)).mp h86
              exact absurd h86 (by omega)
            · -- 86 f
              have h86 : ¬ (i ≤ 0) := fun qq => h86 ((nc_le (a := i) (b := 0) (by omega) (by omega)).mpr qq)
              refine cw_iload (pc := 89) C dL_ticks_89 4 rfl ?_
              refine cw_iload (pc := 91) C dL_ticks_91 5 rfl ?_
              refine cw_icmp_eq (pc := 93) (tgt := 108) C dL_ticks_93 (by decide) (fun h93 => ?_) (fun h93 => ?_)
              · -- 93 t
                have h93 : to = i := (nc_eq (a := to) (b := i) (by omega) (by omega)).mp h93
                exact absurd h93 (by omega)
              · -- 93 f
                have h93 : ¬ (to = i) := fun qq => h93 ((nc_eq (a := to) (b := i) (by omega) (by omega)).mpr qq)
                refine cw_aload_n (pc := 96) C dL_ticks_96 rfl 7 rfl ?_
                refine cw_iload (pc := 97) C dL_ticks_97 5 rfl ?_
                refine cw_iload (pc := 99) C dL_ticks_99 4 rfl ?_
                refine cw_iconst (pc := 101) C dL_ticks_101 (-1) (by decide) ?_
                refine cw_calli (pc := 102) C dL_ticks_102 (w_way l D Z A σ6 Xt F Kt nt (M + 60 * k) (nI i) (nI to) (-1) h6) (cwV 3 C.1.2.2.2.2 gL_ticks_X6_way rfl rfl rfl (by decide +kernel) ⟨Nat.le_of_ble_eq_true rfl, Nat.le_of_ble_eq_true rfl⟩) 0 rfl rfl rfl rfl (Nat.le_of_ble_eq_true rfl) (fun r39 σ39 hr39 => ?_)
                rw [wyA_m1 fi fo qn] at hr39
                obtain ⟨-, h39⟩ := hr39
                have h39 : absP σ39 Xt F Kt nt (M + 60 * k) := h39
                refine cw_goto (pc := 105) (tgt := 109) C dL_ticks_105 (by decide) ?_
                refine cw_istore (pc := 109) C dL_ticks_109 (by decide) (lv' := [(10, .int (r39)), (9, .int (Xt 40)), (8, .int (nI ht7)), (7, .int (Xt 43)), (6, .int (nI hd)), (5, .int (nI to)), (4, .int (nI i)), (3, .int (v)), (0, .ref (A 0)), (1, .int (x)), (2, .int (nI k))]) rfl ?_
                refine cw_aload_n (pc := 111) C dL_ticks_111 rfl 8 rfl ?_
                refine cw_iload_n (pc := 112) C dL_ticks_112 rfl 7 rfl ?_
                refine cw_iconst (pc := 113) C dL_ticks_113 (nI 1) (by decide) ?_
                refine cw_calli (pc := 114) C dL_ticks_114 (w_drives l D Z A σ39 Xt F Kt nt (M + 60 * k) v (nI 1) h39) (cwV 2 C.1.2.2.2.2 gL_ticks_X6_drives rfl rfl rfl (by decide +kernel) ⟨Nat.le_of_ble_eq_true rfl, Nat.le_of_ble_eq_true rfl⟩) 0 rfl rfl rfl rfl (Nat.le_of_ble_eq_true rfl) (fun r40 σ40 hr40 => ?_)
                obtain ⟨rfl, h40⟩ := chP_ok (v := nI i) (Y := (tk0 Xt)) hr40 (hdr1.trans (congrArg nI yin)) (nI_pos' (by omega)) hdr2
                refine cw_istore (pc := 117) C dL_ticks_117 (by decide) (lv' := [(11, .int (nI i)), (10, .int (r39)), (9, .int (Xt 40)), (8, .int (nI ht7)), (7, .int (Xt 43)), (6, .int (nI hd)), (5, .int (nI to)), (4, .int (nI i)), (3, .int (v)), (0, .ref (A 0)), (1, .int (x)), (2, .int (nI k))]) rfl ?_
                refine cw_iload (pc := 119) C dL_ticks_119 5 rfl ?_
                refine cw_if_le (pc := 121) (tgt := 131) C dL_ticks_121 (by decide) (fun h121 => ?_) (fun h121 => ?_)
                · -- 121 t
                  have h121 : hd ≤ 0 := (nc_le (a := hd) (b := 0) (by omega) (by omega)).mp h121
                  exact absurd h121 (by omega)
                · -- 121 f
                  have h121 : ¬ (hd ≤ 0) := fun qq => h121 ((nc_le (a := hd) (b := 0) (by omega) (by omega)).mpr qq)
                  refine cw_iload (pc := 124) C dL_ticks_124 5 rfl ?_
                  refine cw_iconst (pc := 126) C dL_ticks_126 (nI 1) (by decide) ?_
                  refine cw_isub (pc := 127) C dL_ticks_127 (z := nI (hd - 1)) (pk_sub (by omega)) ?_
                  refine cw_goto (pc := 128) (tgt := 132) C dL_ticks_128 (by decide) ?_
                  refine cw_istore (pc := 132) C dL_ticks_132 (by decide) (lv' := [(12, .int (nI (hd - 1))), (11, .int (nI i)), (10, .int (r39)), (9, .int (Xt 40)), (8, .int (nI ht7)), (7, .int (Xt 43)), (6, .int (nI hd)), (5, .int (nI to)), (4, .int (nI i)), (3, .int (v)), (0, .ref (A 0)), (1, .int (x)), (2, .int (nI k))]) rfl ?_
                  refine cw_iload (pc := 134) C dL_ticks_134 8 rfl ?_
                  refine cw_if_le (pc := 136) (tgt := 167) C dL_ticks_136 (by decide) (fun h136 => ?_) (fun h136 => ?_)
                  · -- 136 t
                    have h136 : i ≤ 0 := (nc_le (a := i) (b := 0) (by omega) (by omega)).mp h136
                    exact absurd h136 (by omega)
                  · -- 136 f
                    have h136 : ¬ (i ≤ 0) := fun qq => h136 ((nc_le (a := i) (b := 0) (by omega) (by omega)).mpr qq)
                    refine cw_iload (pc := 139) C dL_ticks_139 7 rfl ?_
                    refine cw_iload (pc := 141) C dL_ticks_141 8 rfl ?_
                    refine cw_icmp_eq (pc := 143) (tgt := 163) C dL_ticks_143 (by decide) (fun h143 => ?_) (fun h143 => ?_)
                    · -- 143 t
                      have h143 : to = i := (nc_eq (a := to) (b := i) (by omega) (by omega)).mp h143
                      exact absurd h143 (by omega)
                    · -- 143 f
                      have h143 : ¬ (to = i) := fun qq => h143 ((nc_eq (a := to) (b := i) (by omega) (by omega)).mpr qq)
                      refine cw_iload (pc := 146) C dL_ticks_146 7 rfl ?_
                      refine cw_iload (pc := 148) C dL_ticks_148 8 rfl ?_
                      refine cw_icmp_le (pc := 150) (tgt := 158) C dL_ticks_150 (by decide) (fun h150 => ?_) (fun h150 => ?_)
                      · -- 150 t
                        have h150 : to ≤ i := (nc_le (a := to) (b := i) (by omega) (by omega)).mp h150
                        exact absurd h150 (by omega)
                      · -- 150 f
                        have h150 : ¬ (to ≤ i) := fun qq => h150 ((nc_le (a := to) (b := i) (by omega) (by omega)).mpr qq)
                        refine cw_iload (pc := 153) C dL_ticks_153 0 rfl ?_
                        refine cw_if_gt (pc := 155) (tgt := 163) C dL_ticks_155 (by decide) (fun h155 => ?_) (fun h155 => ?_)
                        · -- 155 t
                          have h155 : 0 < (hd - 1) := (nc_gt (a := hd - 1) (b := 0) (by omega) (by omega)).mp h155
                          refine cw_iconst (pc := 163) C dL_ticks_163 (nI 1) (by decide) ?_
                          refine cw_goto (pc := 164) (tgt := 168) C dL_ticks_164 (by decide) ?_
                          refine cw_istore (pc := 168) C dL_ticks_168 (by decide) (lv' := [(13, .int (nI 1)), (12, .int (nI (hd - 1))), (11, .int (nI i)), (10, .int (r39)), (9, .int (Xt 40)), (8, .int (nI ht7)), (7, .int (Xt 43)), (6, .int (nI hd)), (5, .int (nI to)), (4, .int (nI i)), (3, .int (v)), (0, .ref (A 0)), (1, .int (x)), (2, .int (nI k))]) rfl ?_
                          refine cw_iload (pc := 170) C dL_ticks_170 2 rfl ?_
                          refine cw_iload (pc := 172) C dL_ticks_172 0 rfl ?_
                          refine cw_if_eq (pc := 174) (tgt := 182) C dL_ticks_174 (by decide) (fun h => False.elim (by revert h; decide)) (fun _ => ?_)
                          refine cw_iload (pc := 177) C dL_ticks_177 9 rfl ?_
                          refine cw_goto (pc := 179) (tgt := 184) C dL_ticks_179 (by decide) ?_
                          refine cw_icmp_ne (pc := 184) (tgt := 261) C dL_ticks_184 (by decide) (fun h184 => ?_) (fun h184 => ?_)
                          · -- 184 t
                            have h184 : ¬ i = i := (nc_ne (a := i) (b := i) (by omega) (by omega)).mp h184
                            exact absurd h184 (by omega)
                          · -- 184 f
                            have h184 : i = i := (nc_eq (a := i) (b := i) (by omega) (by omega)).mp h184
                            refine cw_aload_n (pc := 187) C dL_ticks_187 rfl 11 rfl ?_
                            refine cw_iconst (pc := 188) C dL_ticks_188 (nI 0) (by decide) ?_
                            refine cw_calli (pc := 189) C dL_ticks_189 (w_state l D Z A σ40 (tk0 Xt) F (psh Kt nt Xt) (min (nt + 1) 5) (M + 60 * k + 60) (nI 0) h40) (cwV 1 C.1.2.2.2.2 gL_ticks_X6_state rfl rfl rfl (by decide +kernel) ⟨Nat.le_of_ble_eq_true rfl, Nat.le_of_ble_eq_true rfl⟩) 0 rfl rfl rfl rfl (Nat.le_of_ble_eq_true rfl) (fun r41 σ41 hr41 => ?_)
                            rw [(saA_k (k := 0) (by omega)).trans (congrArg Sum.inl y39)] at hr41
                            obtain ⟨rfl, h41⟩ := hr41
                            have h41 : absP σ41 (tk0 Xt) F (psh Kt nt Xt) (min (nt + 1) 5) (M + 60 * k + 60) := h41
                            refine cw_top (nI i) rfl ?_
                            refine cw_iload (pc := 192) C dL_ticks_192 2 rfl ?_
                            refine cw_icmp_ne (pc := 194) (tgt := 261) C dL_ticks_194 (by decide) (fun h194 => ?_) (fun h194 => ?_)
                            · -- 194 t
                              have h194 : ¬ i = i := (nc_ne (a := i) (b := i) (by omega) (by omega)).mp h194
                              exact absurd h194 (by omega)
                            · -- 194 f
                              have h194 : i = i := (nc_eq (a := i) (b := i) (by omega) (by omega)).mp h194
                              refine cw_aload_n (pc := 197) C dL_ticks_197 rfl 11 rfl ?_
                              refine cw_iconst (pc := 198) C dL_ticks_198 (nI 1) (by decide) ?_
                              refine cw_calli (pc := 199) C dL_ticks_199 (w_state l D Z A σ41 (tk0 Xt) F (psh Kt nt Xt) (min (nt + 1) 5) (M + 60 * k + 60) (nI 1) h41) (cwV 1 C.1.2.2.2.2 gL_ticks_X6_state rfl rfl rfl (by decide +kernel) ⟨Nat.le_of_ble_eq_true rfl, Nat.le_of_ble_eq_true rfl⟩) 0 rfl rfl rfl rfl (Nat.le_of_ble_eq_true rfl) (fun r42 σ42 hr42 => ?_)
                              rw [(saA_k (k := 1) (by omega)).trans (congrArg Sum.inl htm)] at hr42
                              obtain ⟨rfl, h42⟩ := hr42
                              have h42 : absP σ42 (tk0 Xt) F (psh Kt nt Xt) (min (nt + 1) 5) (M + 60 * k + 60) := h42
                              refine cw_top (Xt 40 + nI 1) rfl ?_
                              refine cw_iload (pc := 202) C dL_ticks_202 4 rfl ?_
                              refine cw_iconst (pc := 204) C dL_ticks_204 (nI 1) (by decide) ?_
                              refine cw_iadd (pc := 205) C dL_ticks_205 (z := (Xt 40) + (nI 1)) rfl ?_
                              refine cw_icmp_ne (pc := 206) (tgt := 261) C dL_ticks_206 (by decide) (fun h206 => absurd rfl h206) (fun h206 => ?_)
                              refine cw_aload_n (pc := 209) C dL_ticks_209 rfl 11 rfl ?_
                              refine cw_iconst (pc := 210) C dL_ticks_210 (nI 4) (by decide) ?_
                              refine cw_calli (pc := 211) C dL_ticks_211 (w_state l D Z A σ42 (tk0 Xt) F (psh Kt nt Xt) (min (nt + 1) 5) (M + 60 * k + 60) (nI 4) h42) (cwV 1 C.1.2.2.2.2 gL_ticks_X6_state rfl rfl rfl (by decide +kernel) ⟨Nat.le_of_ble_eq_true rfl, Nat.le_of_ble_eq_true rfl⟩) 0 rfl rfl rfl rfl (Nat.le_of_ble_eq_true rfl) (fun r43 σ43 hr43 => ?_)
                              rw [(saA_k (k := 4) (by omega)).trans (congrArg Sum.inl y43)] at hr43
                              obtain ⟨rfl, h43⟩ := hr43
                              have h43 : absP σ43 (tk0 Xt) F (psh Kt nt Xt) (min (nt + 1) 5) (M + 60 * k + 60) := h43
                              refine cw_top (Xt 43) rfl ?_
                              refine cw_iload (pc := 214) C dL_ticks_214 6 rfl ?_
                              refine cw_iload (pc := 216) C dL_ticks_216 0 rfl ?_
                              refine cw_if_ne (pc := 218) (tgt := 226) C dL_ticks_218 (by decide) (fun _ => ?_) (fun h => False.elim (by revert h; decide))
                              refine cw_iconst (pc := 226) C dL_ticks_226 (nI 0) (by decide) ?_
                              refine cw_goto (pc := 227) (tgt := 232) C dL_ticks_227 (by decide) ?_
                              refine cw_iadd (pc := 232) C dL_ticks_232 (z := Xt 43) (by rw [nI_0, Int32.add_zero]) ?_
                              refine cw_icmp_ne (pc := 233) (tgt := 261) C dL_ticks_233 (by decide) (fun h233 => absurd rfl h233) (fun h233 => ?_)
                              refine cw_aload_n (pc := 236) C dL_ticks_236 rfl 11 rfl ?_
                              refine cw_bipush (pc := 237) C dL_ticks_237 (nI 7) (by decide) ?_
                              refine cw_calli (pc := 239) C dL_ticks_239 (w_state l D Z A σ43 (tk0 Xt) F (psh Kt nt Xt) (min (nt + 1) 5) (M + 60 * k + 60) (nI 7) h43) (cwV 1 C.1.2.2.2.2 gL_ticks_X6_state rfl rfl rfl (by decide +kernel) ⟨Nat.le_of_ble_eq_true rfl, Nat.le_of_ble_eq_true rfl⟩) 0 rfl rfl rfl rfl (Nat.le_of_ble_eq_true rfl) (fun r44 σ44 hr44 => ?_)
                              rw [(saA_k (k := 7) (by omega)).trans (congrArg Sum.inl y46)] at hr44
                              obtain ⟨rfl, h44⟩ := hr44
                              have h44 : absP σ44 (tk0 Xt) F (psh Kt nt Xt) (min (nt + 1) 5) (M + 60 * k + 60) := h44
                              refine cw_top (nI ht7) rfl ?_
                              refine cw_iload (pc := 242) C dL_ticks_242 5 rfl ?_
                              refine cw_isub (pc := 244) C dL_ticks_244 (z := nI 0) ((pk_sub (by omega)).trans (congrArg nI (by omega))) ?_
                              refine cw_if_lt (pc := 245) (tgt := 261) C dL_ticks_245 (by decide) (fun h => False.elim (by revert h; decide)) (fun _ => ?_)
                              refine cw_aload_n (pc := 248) C dL_ticks_248 rfl 11 rfl ?_
                              refine cw_bipush (pc := 249) C dL_ticks_249 (nI 7) (by decide) ?_
                              refine cw_calli (pc := 251) C dL_ticks_251 (w_state l D Z A σ44 (tk0 Xt) F (psh Kt nt Xt) (min (nt + 1) 5) (M + 60 * k + 60) (nI 7) h44) (cwV 1 C.1.2.2.2.2 gL_ticks_X6_state rfl rfl rfl (by decide +kernel) ⟨Nat.le_of_ble_eq_true rfl, Nat.le_of_ble_eq_true rfl⟩) 0 rfl rfl rfl rfl (Nat.le_of_ble_eq_true rfl) (fun r45 σ45 hr45 => ?_)
                              rw [(saA_k (k := 7) (by omega)).trans (congrArg Sum.inl y46)] at hr45
                              obtain ⟨rfl, h45⟩ := hr45
                              have h45 : absP σ45 (tk0 Xt) F (psh Kt nt Xt) (min (nt + 1) 5) (M + 60 * k + 60) := h45
                              refine cw_top (nI ht7) rfl ?_
                              refine cw_iload (pc := 254) C dL_ticks_254 5 rfl ?_
                              refine cw_isub (pc := 256) C dL_ticks_256 (z := nI 0) ((pk_sub (by omega)).trans (congrArg nI (by omega))) ?_
                              refine cw_iconst (pc := 257) C dL_ticks_257 (nI 1) (by decide) ?_
                              refine cw_icmp_le (pc := 258) (tgt := 263) C dL_ticks_258 (by decide) (fun _ => ?_) (fun h => False.elim (by revert h; decide))
                              refine cw_aload_n (pc := 263) C dL_ticks_263 rfl 11 rfl ?_
                              refine cw_bipush (pc := 264) C dL_ticks_264 (nI 7) (by decide) ?_
                              refine cw_calli (pc := 266) C dL_ticks_266 (w_state l D Z A σ45 (tk0 Xt) F (psh Kt nt Xt) (min (nt + 1) 5) (M + 60 * k + 60) (nI 7) h45) (cwV 1 C.1.2.2.2.2 gL_ticks_X6_state rfl rfl rfl (by decide +kernel) ⟨Nat.le_of_ble_eq_true rfl, Nat.le_of_ble_eq_true rfl⟩) 0 rfl rfl rfl rfl (Nat.le_of_ble_eq_true rfl) (fun r46 σ46 hr46 => ?_)
                              rw [(saA_k (k := 7) (by omega)).trans (congrArg Sum.inl y46)] at hr46
                              obtain ⟨rfl, h46⟩ := hr46
                              have h46 : absP σ46 (tk0 Xt) F (psh Kt nt Xt) (min (nt + 1) 5) (M + 60 * k + 60) := h46
                              refine cw_top (nI ht7) rfl ?_
                              refine cw_iload (pc := 269) C dL_ticks_269 5 rfl ?_
                              refine cw_icmp_le (pc := 271) (tgt := 278) C dL_ticks_271 (by decide) (fun h271 => ?_) (fun h271 => ?_)
                              · -- 271 t
                                have h271 : ht7 ≤ ht7 := (nc_le (a := ht7) (b := ht7) (by omega) (by omega)).mp h271
                                refine cw_iconst (pc := 278) C dL_ticks_278 (nI 0) (by decide) ?_
                                refine cw_istore (pc := 279) C dL_ticks_279 (by decide) (lv' := [(14, .int (nI 0)), (13, .int (nI 1)), (12, .int (nI (hd - 1))), (11, .int (nI i)), (10, .int (r39)), (9, .int (Xt 40)), (8, .int (nI ht7)), (7, .int (Xt 43)), (6, .int (nI hd)), (5, .int (nI to)), (4, .int (nI i)), (3, .int (v)), (0, .ref (A 0)), (1, .int (x)), (2, .int (nI k))]) rfl ?_
                                refine cw_aload_n (pc := 281) C dL_ticks_281 rfl 12 rfl ?_
                                refine cw_iconst (pc := 282) C dL_ticks_282 (nI 2) (by decide) ?_
                                refine cw_calli (pc := 283) C dL_ticks_283 (w_state l D Z A σ46 (tk0 Xt) F (psh Kt nt Xt) (min (nt + 1) 5) (M + 60 * k + 60) (nI 2) h46) (cwV 1 C.1.2.2.2.2 gL_ticks_X6_state rfl rfl rfl (by decide +kernel) ⟨Nat.le_of_ble_eq_true rfl, Nat.le_of_ble_eq_true rfl⟩) 0 rfl rfl rfl rfl (Nat.le_of_ble_eq_true rfl) (fun r47 σ47 hr47 => ?_)
                                rw [(saA_k (k := 2) (by omega)).trans (congrArg Sum.inl y41)] at hr47
                                obtain ⟨rfl, h47⟩ := hr47
                                have h47 : absP σ47 (tk0 Xt) F (psh Kt nt Xt) (min (nt + 1) 5) (M + 60 * k + 60) := h47
                                refine cw_top (nI (hd - 1)) rfl ?_
                                refine cw_iload (pc := 286) C dL_ticks_286 0 rfl ?_
                                refine cw_if_eq (pc := 288) (tgt := 296) C dL_ticks_288 (by decide) (fun _ => ?_) (fun h => False.elim (by revert h; decide))
                                refine cw_iload (pc := 296) C dL_ticks_296 2 rfl ?_
                                refine cw_icmp_ne (pc := 298) (tgt := 360) C dL_ticks_298 (by decide) (fun h298 => ?_) (fun h298 => ?_)
                                · -- 298 t
                                  have h298 : ¬ (hd - 1) = (hd - 1) := (nc_ne (a := hd - 1) (b := hd - 1) (by omega) (by omega)).mp h298
                                  exact absurd h298 (by omega)
                                · -- 298 f
                                  have h298 : (hd - 1) = (hd - 1) := (nc_eq (a := hd - 1) (b := hd - 1) (by omega) (by omega)).mp h298
                                  refine cw_iload (pc := 301) C dL_ticks_301 0 rfl ?_
                                  refine cw_if_eq (pc := 303) (tgt := 336) C dL_ticks_303 (by decide) (fun _ => ?_) (fun h => False.elim (by revert h; decide))
                                  refine cw_iload (pc := 336) C dL_ticks_336 3 rfl ?_
                                  refine cw_iload (pc := 338) C dL_ticks_338 10 rfl ?_
                                  refine cw_icmp_le (pc := 340) (tgt := 362) C dL_ticks_340 (by decide) (fun h340 => ?_) (fun h340 => ?_)
                                  · -- 340 t
                                    have h340 : i ≤ i := (nc_le (a := i) (b := i) (by omega) (by omega)).mp h340
                                    refine cw_iload (pc := 362) C dL_ticks_362 10 rfl ?_
                                    refine cw_if_le (pc := 364) (tgt := 386) C dL_ticks_364 (by decide) (fun h364 => ?_) (fun h364 => ?_)
                                    · -- 364 t
                                      have h364 : i ≤ 0 := (nc_le (a := i) (b := 0) (by omega) (by omega)).mp h364
                                      exact absurd h364 (by omega)
                                    · -- 364 f
                                      have h364 : ¬ (i ≤ 0) := fun qq => h364 ((nc_le (a := i) (b := 0) (by omega) (by omega)).mpr qq)
                                      refine cw_iload (pc := 367) C dL_ticks_367 9 rfl ?_
                                      refine cw_iload (pc := 369) C dL_ticks_369 10 rfl ?_
                                      refine cw_icmp_ne (pc := 371) (tgt := 386) C dL_ticks_371 (by decide) (fun h371 => ?_) (fun h371 => ?_)
                                      · -- 371 t
                                        have h371 : ¬ to = i := (nc_ne (a := to) (b := i) (by omega) (by omega)).mp h371
                                        refine cw_iinc (pc := 386) C dL_ticks_386 14 rfl (nI (k + 1)) (nI_inc _ 1) (by decide) (lv' := [(2, .int (nI (k + 1))), (14, .int (nI 0)), (13, .int (nI 1)), (12, .int (nI (hd - 1))), (11, .int (nI i)), (10, .int (r39)), (9, .int (Xt 40)), (8, .int (nI ht7)), (7, .int (Xt 43)), (6, .int (nI hd)), (5, .int (nI to)), (4, .int (nI i)), (3, .int (v)), (0, .ref (A 0)), (1, .int (x))]) rfl ?_
                                        refine cw_goto (pc := 389) (tgt := 2) C dL_ticks_389 (by decide) ?_
                                        refine cw_lv [13, 14, 0] rfl ?_
                                        exact ih2 (k + 1) (tk0 Xt) (psh Kt nt Xt) (min (nt + 1) 5) σ47 (by omega) (by omega) (by rw [show M + 60 * (k + 1) = M + 60 * k + 60 by omega]; exact h47)
                                      · -- 371 f
                                        have h371 : to = i := (nc_eq (a := to) (b := i) (by omega) (by omega)).mp h371
                                        exact absurd h371 (by omega)
                                  · -- 340 f
                                    have h340 : ¬ (i ≤ i) := fun qq => h340 ((nc_le (a := i) (b := i) (by omega) (by omega)).mpr qq)
                                    exact absurd h340 (by omega)
                              · -- 271 f
                                have h271 : ¬ (ht7 ≤ ht7) := fun qq => h271 ((nc_le (a := ht7) (b := ht7) (by omega) (by omega)).mpr qq)
                                exact absurd h271 (by omega)
                        · -- 155 f
                          have h155 : ¬ (0 < (hd - 1)) := fun qq => h155 ((nc_gt (a := hd - 1) (b := 0) (by omega) (by omega)).mpr qq)
                          exact absurd h155 (by omega)
          · -- case 3
            have y39 : tk0 Xt 39 = nI i := (tk0_ne (by decide)).trans hIN
            have y43 : tk0 Xt 43 = Xt 43 := tk0_ne (by decide)
            have y46 : tk0 Xt 46 = Xt 46 := tk0_ne (by decide)
            have y41 : tk0 Xt 41 = nI (hd - 1) := tk0_41 hd2 hd1
            have yin : inN (tk0 Xt) = i := inN_of y39 (by omega)
            rw [ht72] at y46
            have fi : fitN Xt i = true := hfi.resolve_left q0
            have fo : fitN Xt to = true := hft.resolve_left (by omega)
            have qn : ¬ i = to := by omega
            refine cw_iload (pc := 84) C dL_ticks_84 5 rfl ?_
            refine cw_if_le (pc := 86) (tgt := 108) C dL_ticks_86 (by decide) (fun h86 => ?_) (fun h86 => ?_)
            · -- 86 t
              have h86 : i ≤ 0 := (nc_le (a := i) (b := 0) (by omega) (by omega)).mp h86
              exact absurd h86 (by omega)
            · -- 86 f
              have h86 : ¬ (i ≤ 0) := fun qq => h86 ((nc_le (a := i) (b := 0) (by omega) (by omega)).mpr qq)
              refine cw_iload (pc := 89) C dL_ticks_89 4 rfl ?_
              refine cw_iload (pc := 91) C dL_ticks_91 5 rfl ?_
              refine cw_icmp_eq (pc := 93) (tgt := 108) C dL_ticks_93 (by decide) (fun h93 => ?_) (fun h93 => ?_)
              · -- 93 t
                have h93 : to = i := (nc_eq (a := to) (b := i) (by omega) (by omega)).mp h93
                exact absurd h93 (by omega)
              · -- 93 f
                have h93 : ¬ (to = i) := fun qq => h93 ((nc_eq (a := to) (b := i) (by omega) (by omega)).mpr qq)
                refine cw_aload_n (pc := 96) C dL_ticks_96 rfl 7 rfl ?_
                refine cw_iload (pc := 97) C dL_ticks_97 5 rfl ?_
                refine cw_iload (pc := 99) C dL_ticks_99 4 rfl ?_
                refine cw_iconst (pc := 101) C dL_ticks_101 (-1) (by decide) ?_
                refine cw_calli (pc := 102) C dL_ticks_102 (w_way l D Z A σ6 Xt F Kt nt (M + 60 * k) (nI i) (nI to) (-1) h6) (cwV 3 C.1.2.2.2.2 gL_ticks_X6_way rfl rfl rfl (by decide +kernel) ⟨Nat.le_of_ble_eq_true rfl, Nat.le_of_ble_eq_true rfl⟩) 0 rfl rfl rfl rfl (Nat.le_of_ble_eq_true rfl) (fun r48 σ48 hr48 => ?_)
                rw [wyA_none fi fo qn q3] at hr48
                obtain ⟨rfl, h48⟩ := hr48
                have h48 : absP σ48 Xt F Kt nt (M + 60 * k) := h48
                refine cw_top (-5) rfl ?_
                refine cw_goto (pc := 105) (tgt := 109) C dL_ticks_105 (by decide) ?_
                refine cw_istore (pc := 109) C dL_ticks_109 (by decide) (lv' := [(10, .int ((-5))), (9, .int (Xt 40)), (8, .int (nI ht7)), (7, .int (Xt 43)), (6, .int (nI hd)), (5, .int (nI to)), (4, .int (nI i)), (3, .int (v)), (0, .ref (A 0)), (1, .int (x)), (2, .int (nI k))]) rfl ?_
                refine cw_aload_n (pc := 111) C dL_ticks_111 rfl 8 rfl ?_
                refine cw_iload_n (pc := 112) C dL_ticks_112 rfl 7 rfl ?_
                refine cw_iconst (pc := 113) C dL_ticks_113 (nI 1) (by decide) ?_
                refine cw_calli (pc := 114) C dL_ticks_114 (w_drives l D Z A σ48 Xt F Kt nt (M + 60 * k) v (nI 1) h48) (cwV 2 C.1.2.2.2.2 gL_ticks_X6_drives rfl rfl rfl (by decide +kernel) ⟨Nat.le_of_ble_eq_true rfl, Nat.le_of_ble_eq_true rfl⟩) 0 rfl rfl rfl rfl (Nat.le_of_ble_eq_true rfl) (fun r49 σ49 hr49 => ?_)
                obtain ⟨rfl, h49⟩ := chP_ok (v := nI i) (Y := (tk0 Xt)) hr49 (hdr1.trans (congrArg nI yin)) (nI_pos' (by omega)) hdr2
                refine cw_istore (pc := 117) C dL_ticks_117 (by decide) (lv' := [(11, .int (nI i)), (10, .int ((-5))), (9, .int (Xt 40)), (8, .int (nI ht7)), (7, .int (Xt 43)), (6, .int (nI hd)), (5, .int (nI to)), (4, .int (nI i)), (3, .int (v)), (0, .ref (A 0)), (1, .int (x)), (2, .int (nI k))]) rfl ?_
                refine cw_iload (pc := 119) C dL_ticks_119 5 rfl ?_
                refine cw_if_le (pc := 121) (tgt := 131) C dL_ticks_121 (by decide) (fun h121 => ?_) (fun h121 => ?_)
                · -- 121 t
                  have h121 : hd ≤ 0 := (nc_le (a := hd) (b := 0) (by omega) (by omega)).mp h121
                  refine cw_iconst (pc := 131) C dL_ticks_131 (nI 0) (by decide) ?_
                  refine cw_istore (pc := 132) C dL_ticks_132 (by decide) (lv' := [(12, .int (nI 0)), (11, .int (nI i)), (10, .int ((-5))), (9, .int (Xt 40)), (8, .int (nI ht7)), (7, .int (Xt 43)), (6, .int (nI hd)), (5, .int (nI to)), (4, .int (nI i)), (3, .int (v)), (0, .ref (A 0)), (1, .int (x)), (2, .int (nI k))]) rfl ?_
                  refine cw_iload (pc := 134) C dL_ticks_134 8 rfl ?_
                  refine cw_if_le (pc := 136) (tgt := 167) C dL_ticks_136 (by decide) (fun h136 => ?_) (fun h136 => ?_)
                  · -- 136 t
                    have h136 : i ≤ 0 := (nc_le (a := i) (b := 0) (by omega) (by omega)).mp h136
                    exact absurd h136 (by omega)
                  · -- 136 f
                    have h136 : ¬ (i ≤ 0) := fun qq => h136 ((nc_le (a := i) (b := 0) (by omega) (by omega)).mpr qq)
                    refine cw_iload (pc := 139) C dL_ticks_139 7 rfl ?_
                    refine cw_iload (pc := 141) C dL_ticks_141 8 rfl ?_
                    refine cw_icmp_eq (pc := 143) (tgt := 163) C dL_ticks_143 (by decide) (fun h143 => ?_) (fun h143 => ?_)
                    · -- 143 t
                      have h143 : to = i := (nc_eq (a := to) (b := i) (by omega) (by omega)).mp h143
                      exact absurd h143 (by omega)
                    · -- 143 f
                      have h143 : ¬ (to = i) := fun qq => h143 ((nc_eq (a := to) (b := i) (by omega) (by omega)).mpr qq)
                      refine cw_iload (pc := 146) C dL_ticks_146 7 rfl ?_
                      refine cw_iload (pc := 148) C dL_ticks_148 8 rfl ?_
                      refine cw_icmp_le (pc := 150) (tgt := 158) C dL_ticks_150 (by decide) (fun h150 => ?_) (fun h150 => ?_)
                      · -- 150 t
                        have h150 : to ≤ i := (nc_le (a := to) (b := i) (by omega) (by omega)).mp h150
                        refine cw_iload (pc := 158) C dL_ticks_158 2 rfl ?_
                        refine cw_if_ge (pc := 160) (tgt := 167) C dL_ticks_160 (by decide) (fun h => False.elim (by revert h; decide)) (fun _ => ?_)
                        refine cw_iconst (pc := 163) C dL_ticks_163 (nI 1) (by decide) ?_
                        refine cw_goto (pc := 164) (tgt := 168) C dL_ticks_164 (by decide) ?_
                        refine cw_istore (pc := 168) C dL_ticks_168 (by decide) (lv' := [(13, .int (nI 1)), (12, .int (nI 0)), (11, .int (nI i)), (10, .int ((-5))), (9, .int (Xt 40)), (8, .int (nI ht7)), (7, .int (Xt 43)), (6, .int (nI hd)), (5, .int (nI to)), (4, .int (nI i)), (3, .int (v)), (0, .ref (A 0)), (1, .int (x)), (2, .int (nI k))]) rfl ?_
                        refine cw_iload (pc := 170) C dL_ticks_170 2 rfl ?_
                        refine cw_iload (pc := 172) C dL_ticks_172 0 rfl ?_
                        refine cw_if_eq (pc := 174) (tgt := 182) C dL_ticks_174 (by decide) (fun h => False.elim (by revert h; decide)) (fun _ => ?_)
                        refine cw_iload (pc := 177) C dL_ticks_177 9 rfl ?_
                        refine cw_goto (pc := 179) (tgt := 184) C dL_ticks_179 (by decide) ?_
                        refine cw_icmp_ne (pc := 184) (tgt := 261) C dL_ticks_184 (by decide) (fun h184 => ?_) (fun h184 => ?_)
                        · -- 184 t
                          have h184 : ¬ i = i := (nc_ne (a := i) (b := i) (by omega) (by omega)).mp h184
                          exact absurd h184 (by omega)
                        · -- 184 f
                          have h184 : i = i := (nc_eq (a := i) (b := i) (by omega) (by omega)).mp h184
                          refine cw_aload_n (pc := 187) C dL_ticks_187 rfl 11 rfl ?_
                          refine cw_iconst (pc := 188) C dL_ticks_188 (nI 0) (by decide) ?_
                          refine cw_calli (pc := 189) C dL_ticks_189 (w_state l D Z A σ49 (tk0 Xt) F (psh Kt nt Xt) (min (nt + 1) 5) (M + 60 * k + 60) (nI 0) h49) (cwV 1 C.1.2.2.2.2 gL_ticks_X6_state rfl rfl rfl (by decide +kernel) ⟨Nat.le_of_ble_eq_true rfl, Nat.le_of_ble_eq_true rfl⟩) 0 rfl rfl rfl rfl (Nat.le_of_ble_eq_true rfl) (fun r50 σ50 hr50 => ?_)
                          rw [(saA_k (k := 0) (by omega)).trans (congrArg Sum.inl y39)] at hr50
                          obtain ⟨rfl, h50⟩ := hr50
                          have h50 : absP σ50 (tk0 Xt) F (psh Kt nt Xt) (min (nt + 1) 5) (M + 60 * k + 60) := h50
                          refine cw_top (nI i) rfl ?_
                          refine cw_iload (pc := 192) C dL_ticks_192 2 rfl ?_
                          refine cw_icmp_ne (pc := 194) (tgt := 261) C dL_ticks_194 (by decide) (fun h194 => ?_) (fun h194 => ?_)
                          · -- 194 t
                            have h194 : ¬ i = i := (nc_ne (a := i) (b := i) (by omega) (by omega)).mp h194
                            exact absurd h194 (by omega)
                          · -- 194 f
                            have h194 : i = i := (nc_eq (a := i) (b := i) (by omega) (by omega)).mp h194
                            refine cw_aload_n (pc := 197) C dL_ticks_197 rfl 11 rfl ?_
                            refine cw_iconst (pc := 198) C dL_ticks_198 (nI 1) (by decide) ?_
                            refine cw_calli (pc := 199) C dL_ticks_199 (w_state l D Z A σ50 (tk0 Xt) F (psh Kt nt Xt) (min (nt + 1) 5) (M + 60 * k + 60) (nI 1) h50) (cwV 1 C.1.2.2.2.2 gL_ticks_X6_state rfl rfl rfl (by decide +kernel) ⟨Nat.le_of_ble_eq_true rfl, Nat.le_of_ble_eq_true rfl⟩) 0 rfl rfl rfl rfl (Nat.le_of_ble_eq_true rfl) (fun r51 σ51 hr51 => ?_)
                            rw [(saA_k (k := 1) (by omega)).trans (congrArg Sum.inl htm)] at hr51
                            obtain ⟨rfl, h51⟩ := hr51
                            have h51 : absP σ51 (tk0 Xt) F (psh Kt nt Xt) (min (nt + 1) 5) (M + 60 * k + 60) := h51
                            refine cw_top (Xt 40 + nI 1) rfl ?_
                            refine cw_iload (pc := 202) C dL_ticks_202 4 rfl ?_
                            refine cw_iconst (pc := 204) C dL_ticks_204 (nI 1) (by decide) ?_
                            refine cw_iadd (pc := 205) C dL_ticks_205 (z := (Xt 40) + (nI 1)) rfl ?_
                            refine cw_icmp_ne (pc := 206) (tgt := 261) C dL_ticks_206 (by decide) (fun h206 => absurd rfl h206) (fun h206 => ?_)
                            refine cw_aload_n (pc := 209) C dL_ticks_209 rfl 11 rfl ?_
                            refine cw_iconst (pc := 210) C dL_ticks_210 (nI 4) (by decide) ?_
                            refine cw_calli (pc := 211) C dL_ticks_211 (w_state l D Z A σ51 (tk0 Xt) F (psh Kt nt Xt) (min (nt + 1) 5) (M + 60 * k + 60) (nI 4) h51) (cwV 1 C.1.2.2.2.2 gL_ticks_X6_state rfl rfl rfl (by decide +kernel) ⟨Nat.le_of_ble_eq_true rfl, Nat.le_of_ble_eq_true rfl⟩) 0 rfl rfl rfl rfl (Nat.le_of_ble_eq_true rfl) (fun r52 σ52 hr52 => ?_)
                            rw [(saA_k (k := 4) (by omega)).trans (congrArg Sum.inl y43)] at hr52
                            obtain ⟨rfl, h52⟩ := hr52
                            have h52 : absP σ52 (tk0 Xt) F (psh Kt nt Xt) (min (nt + 1) 5) (M + 60 * k + 60) := h52
                            refine cw_top (Xt 43) rfl ?_
                            refine cw_iload (pc := 214) C dL_ticks_214 6 rfl ?_
                            refine cw_iload (pc := 216) C dL_ticks_216 0 rfl ?_
                            refine cw_if_ne (pc := 218) (tgt := 226) C dL_ticks_218 (by decide) (fun _ => ?_) (fun h => False.elim (by revert h; decide))
                            refine cw_iconst (pc := 226) C dL_ticks_226 (nI 0) (by decide) ?_
                            refine cw_goto (pc := 227) (tgt := 232) C dL_ticks_227 (by decide) ?_
                            refine cw_iadd (pc := 232) C dL_ticks_232 (z := Xt 43) (by rw [nI_0, Int32.add_zero]) ?_
                            refine cw_icmp_ne (pc := 233) (tgt := 261) C dL_ticks_233 (by decide) (fun h233 => absurd rfl h233) (fun h233 => ?_)
                            refine cw_aload_n (pc := 236) C dL_ticks_236 rfl 11 rfl ?_
                            refine cw_bipush (pc := 237) C dL_ticks_237 (nI 7) (by decide) ?_
                            refine cw_calli (pc := 239) C dL_ticks_239 (w_state l D Z A σ52 (tk0 Xt) F (psh Kt nt Xt) (min (nt + 1) 5) (M + 60 * k + 60) (nI 7) h52) (cwV 1 C.1.2.2.2.2 gL_ticks_X6_state rfl rfl rfl (by decide +kernel) ⟨Nat.le_of_ble_eq_true rfl, Nat.le_of_ble_eq_true rfl⟩) 0 rfl rfl rfl rfl (Nat.le_of_ble_eq_true rfl) (fun r53 σ53 hr53 => ?_)
                            rw [(saA_k (k := 7) (by omega)).trans (congrArg Sum.inl y46)] at hr53
                            obtain ⟨rfl, h53⟩ := hr53
                            have h53 : absP σ53 (tk0 Xt) F (psh Kt nt Xt) (min (nt + 1) 5) (M + 60 * k + 60) := h53
                            refine cw_top (nI ht7) rfl ?_
                            refine cw_iload (pc := 242) C dL_ticks_242 5 rfl ?_
                            refine cw_isub (pc := 244) C dL_ticks_244 (z := nI 0) ((pk_sub (by omega)).trans (congrArg nI (by omega))) ?_
                            refine cw_if_lt (pc := 245) (tgt := 261) C dL_ticks_245 (by decide) (fun h => False.elim (by revert h; decide)) (fun _ => ?_)
                            refine cw_aload_n (pc := 248) C dL_ticks_248 rfl 11 rfl ?_
                            refine cw_bipush (pc := 249) C dL_ticks_249 (nI 7) (by decide) ?_
                            refine cw_calli (pc := 251) C dL_ticks_251 (w_state l D Z A σ53 (tk0 Xt) F (psh Kt nt Xt) (min (nt + 1) 5) (M + 60 * k + 60) (nI 7) h53) (cwV 1 C.1.2.2.2.2 gL_ticks_X6_state rfl rfl rfl (by decide +kernel) ⟨Nat.le_of_ble_eq_true rfl, Nat.le_of_ble_eq_true rfl⟩) 0 rfl rfl rfl rfl (Nat.le_of_ble_eq_true rfl) (fun r54 σ54 hr54 => ?_)
                            rw [(saA_k (k := 7) (by omega)).trans (congrArg Sum.inl y46)] at hr54
                            obtain ⟨rfl, h54⟩ := hr54
                            have h54 : absP σ54 (tk0 Xt) F (psh Kt nt Xt) (min (nt + 1) 5) (M + 60 * k + 60) := h54
                            refine cw_top (nI ht7) rfl ?_
                            refine cw_iload (pc := 254) C dL_ticks_254 5 rfl ?_
                            refine cw_isub (pc := 256) C dL_ticks_256 (z := nI 0) ((pk_sub (by omega)).trans (congrArg nI (by omega))) ?_
                            refine cw_iconst (pc := 257) C dL_ticks_257 (nI 1) (by decide) ?_
                            refine cw_icmp_le (pc := 258) (tgt := 263) C dL_ticks_258 (by decide) (fun _ => ?_) (fun h => False.elim (by revert h; decide))
                            refine cw_aload_n (pc := 263) C dL_ticks_263 rfl 11 rfl ?_
                            refine cw_bipush (pc := 264) C dL_ticks_264 (nI 7) (by decide) ?_
                            refine cw_calli (pc := 266) C dL_ticks_266 (w_state l D Z A σ54 (tk0 Xt) F (psh Kt nt Xt) (min (nt + 1) 5) (M + 60 * k + 60) (nI 7) h54) (cwV 1 C.1.2.2.2.2 gL_ticks_X6_state rfl rfl rfl (by decide +kernel) ⟨Nat.le_of_ble_eq_true rfl, Nat.le_of_ble_eq_true rfl⟩) 0 rfl rfl rfl rfl (Nat.le_of_ble_eq_true rfl) (fun r55 σ55 hr55 => ?_)
                            rw [(saA_k (k := 7) (by omega)).trans (congrArg Sum.inl y46)] at hr55
                            obtain ⟨rfl, h55⟩ := hr55
                            have h55 : absP σ55 (tk0 Xt) F (psh Kt nt Xt) (min (nt + 1) 5) (M + 60 * k + 60) := h55
                            refine cw_top (nI ht7) rfl ?_
                            refine cw_iload (pc := 269) C dL_ticks_269 5 rfl ?_
                            refine cw_icmp_le (pc := 271) (tgt := 278) C dL_ticks_271 (by decide) (fun h271 => ?_) (fun h271 => ?_)
                            · -- 271 t
                              have h271 : ht7 ≤ ht7 := (nc_le (a := ht7) (b := ht7) (by omega) (by omega)).mp h271
                              refine cw_iconst (pc := 278) C dL_ticks_278 (nI 0) (by decide) ?_
                              refine cw_istore (pc := 279) C dL_ticks_279 (by decide) (lv' := [(14, .int (nI 0)), (13, .int (nI 1)), (12, .int (nI 0)), (11, .int (nI i)), (10, .int ((-5))), (9, .int (Xt 40)), (8, .int (nI ht7)), (7, .int (Xt 43)), (6, .int (nI hd)), (5, .int (nI to)), (4, .int (nI i)), (3, .int (v)), (0, .ref (A 0)), (1, .int (x)), (2, .int (nI k))]) rfl ?_
                              refine cw_aload_n (pc := 281) C dL_ticks_281 rfl 12 rfl ?_
                              refine cw_iconst (pc := 282) C dL_ticks_282 (nI 2) (by decide) ?_
                              refine cw_calli (pc := 283) C dL_ticks_283 (w_state l D Z A σ55 (tk0 Xt) F (psh Kt nt Xt) (min (nt + 1) 5) (M + 60 * k + 60) (nI 2) h55) (cwV 1 C.1.2.2.2.2 gL_ticks_X6_state rfl rfl rfl (by decide +kernel) ⟨Nat.le_of_ble_eq_true rfl, Nat.le_of_ble_eq_true rfl⟩) 0 rfl rfl rfl rfl (Nat.le_of_ble_eq_true rfl) (fun r56 σ56 hr56 => ?_)
                              rw [(saA_k (k := 2) (by omega)).trans (congrArg Sum.inl y41)] at hr56
                              obtain ⟨rfl, h56⟩ := hr56
                              have h56 : absP σ56 (tk0 Xt) F (psh Kt nt Xt) (min (nt + 1) 5) (M + 60 * k + 60) := h56
                              refine cw_top (nI (hd - 1)) rfl ?_
                              refine cw_iload (pc := 286) C dL_ticks_286 0 rfl ?_
                              refine cw_if_eq (pc := 288) (tgt := 296) C dL_ticks_288 (by decide) (fun _ => ?_) (fun h => False.elim (by revert h; decide))
                              refine cw_iload (pc := 296) C dL_ticks_296 2 rfl ?_
                              refine cw_icmp_ne (pc := 298) (tgt := 360) C dL_ticks_298 (by decide) (fun h298 => ?_) (fun h298 => ?_)
                              · -- 298 t
                                have h298 : ¬ (hd - 1) = 0 := (nc_ne (a := hd - 1) (b := 0) (by omega) (by omega)).mp h298
                                exact absurd h298 (by omega)
                              · -- 298 f
                                have h298 : (hd - 1) = 0 := (nc_eq (a := hd - 1) (b := 0) (by omega) (by omega)).mp h298
                                refine cw_iload (pc := 301) C dL_ticks_301 0 rfl ?_
                                refine cw_if_eq (pc := 303) (tgt := 336) C dL_ticks_303 (by decide) (fun _ => ?_) (fun h => False.elim (by revert h; decide))
                                refine cw_iload (pc := 336) C dL_ticks_336 3 rfl ?_
                                refine cw_iload (pc := 338) C dL_ticks_338 10 rfl ?_
                                refine cw_icmp_le (pc := 340) (tgt := 362) C dL_ticks_340 (by decide) (fun h340 => ?_) (fun h340 => ?_)
                                · -- 340 t
                                  have h340 : i ≤ i := (nc_le (a := i) (b := i) (by omega) (by omega)).mp h340
                                  refine cw_iload (pc := 362) C dL_ticks_362 10 rfl ?_
                                  refine cw_if_le (pc := 364) (tgt := 386) C dL_ticks_364 (by decide) (fun h364 => ?_) (fun h364 => ?_)
                                  · -- 364 t
                                    have h364 : i ≤ 0 := (nc_le (a := i) (b := 0) (by omega) (by omega)).mp h364
                                    exact absurd h364 (by omega)
                                  · -- 364 f
                                    have h364 : ¬ (i ≤ 0) := fun qq => h364 ((nc_le (a := i) (b := 0) (by omega) (by omega)).mpr qq)
                                    refine cw_iload (pc := 367) C dL_ticks_367 9 rfl ?_
                                    refine cw_iload (pc := 369) C dL_ticks_369 10 rfl ?_
                                    refine cw_icmp_ne (pc := 371) (tgt := 386) C dL_ticks_371 (by decide) (fun h371 => ?_) (fun h371 => ?_)
                                    · -- 371 t
                                      have h371 : ¬ to = i := (nc_ne (a := to) (b := i) (by omega) (by omega)).mp h371
                                      refine cw_iinc (pc := 386) C dL_ticks_386 14 rfl (nI (k + 1)) (nI_inc _ 1) (by decide) (lv' := [(2, .int (nI (k + 1))), (14, .int (nI 0)), (13, .int (nI 1)), (12, .int (nI 0)), (11, .int (nI i)), (10, .int ((-5))), (9, .int (Xt 40)), (8, .int (nI ht7)), (7, .int (Xt 43)), (6, .int (nI hd)), (5, .int (nI to)), (4, .int (nI i)), (3, .int (v)), (0, .ref (A 0)), (1, .int (x))]) rfl ?_
                                      refine cw_goto (pc := 389) (tgt := 2) C dL_ticks_389 (by decide) ?_
                                      refine cw_lv [13, 14, 0] rfl ?_
                                      exact ih2 (k + 1) (tk0 Xt) (psh Kt nt Xt) (min (nt + 1) 5) σ56 (by omega) (by omega) (by rw [show M + 60 * (k + 1) = M + 60 * k + 60 by omega]; exact h56)
                                    · -- 371 f
                                      have h371 : to = i := (nc_eq (a := to) (b := i) (by omega) (by omega)).mp h371
                                      exact absurd h371 (by omega)
                                · -- 340 f
                                  have h340 : ¬ (i ≤ i) := fun qq => h340 ((nc_le (a := i) (b := i) (by omega) (by omega)).mpr qq)
                                  exact absurd h340 (by omega)
                            · -- 271 f
                              have h271 : ¬ (ht7 ≤ ht7) := fun qq => h271 ((nc_le (a := ht7) (b := ht7) (by omega) (by omega)).mpr qq)
                              exact absurd h271 (by omega)
                      · -- 150 f
                        have h150 : ¬ (to ≤ i) := fun qq => h150 ((nc_le (a := to) (b := i) (by omega) (by omega)).mpr qq)
                        refine cw_iload (pc := 153) C dL_ticks_153 0 rfl ?_
                        refine cw_if_gt (pc := 155) (tgt := 163) C dL_ticks_155 (by decide) (fun h => False.elim (by revert h; decide)) (fun _ => ?_)
                        refine cw_iload (pc := 158) C dL_ticks_158 2 rfl ?_
                        refine cw_if_ge (pc := 160) (tgt := 167) C dL_ticks_160 (by decide) (fun h => False.elim (by revert h; decide)) (fun _ => ?_)
                        refine cw_iconst (pc := 163) C dL_ticks_163 (nI 1) (by decide) ?_
                        refine cw_goto (pc := 164) (tgt := 168) C dL_ticks_164 (by decide) ?_
                        refine cw_istore (pc := 168) C dL_ticks_168 (by decide) (lv' := [(13, .int (nI 1)), (12, .int (nI 0)), (11, .int (nI i)), (10, .int ((-5))), (9, .int (Xt 40)), (8, .int (nI ht7)), (7, .int (Xt 43)), (6, .int (nI hd)), (5, .int (nI to)), (4, .int (nI i)), (3, .int (v)), (0, .ref (A 0)), (1, .int (x)), (2, .int (nI k))]) rfl ?_
                        refine cw_iload (pc := 170) C dL_ticks_170 2 rfl ?_
                        refine cw_iload (pc := 172) C dL_ticks_172 0 rfl ?_
                        refine cw_if_eq (pc := 174) (tgt := 182) C dL_ticks_174 (by decide) (fun h => False.elim (by revert h; decide)) (fun _ => ?_)
                        refine cw_iload (pc := 177) C dL_ticks_177 9 rfl ?_
                        refine cw_goto (pc := 179) (tgt := 184) C dL_ticks_179 (by decide) ?_
                        refine cw_icmp_ne (pc := 184) (tgt := 261) C dL_ticks_184 (by decide) (fun h184 => ?_) (fun h184 => ?_)
                        · -- 184 t
                          have h184 : ¬ i = i := (nc_ne (a := i) (b := i) (by omega) (by omega)).mp h184
                          exact absurd h184 (by omega)
                        · -- 184 f
                          have h184 : i = i := (nc_eq (a := i) (b := i) (by omega) (by omega)).mp h184
                          refine cw_aload_n (pc := 187) C dL_ticks_187 rfl 11 rfl ?_
                          refine cw_iconst (pc := 188) C dL_ticks_188 (nI 0) (by decide) ?_
                          refine cw_calli (pc := 189) C dL_ticks_189 (w_state l D Z A σ49 (tk0 Xt) F (psh Kt nt Xt) (min (nt + 1) 5) (M + 60 * k + 60) (nI 0) h49) (cwV 1 C.1.2.2.2.2 gL_ticks_X6_state rfl rfl rfl (by decide +kernel) ⟨Nat.le_of_ble_eq_true rfl, Nat.le_of_ble_eq_true rfl⟩) 0 rfl rfl rfl rfl (Nat.le_of_ble_eq_true rfl) (fun r57 σ57 hr57 => ?_)
                          rw [(saA_k (k := 0) (by omega)).trans (congrArg Sum.inl y39)] at hr57
                          obtain ⟨rfl, h57⟩ := hr57
                          have h57 : absP σ57 (tk0 Xt) F (psh Kt nt Xt) (min (nt + 1) 5) (M + 60 * k + 60) := h57
                          refine cw_top (nI i) rfl ?_
                          refine cw_iload (pc := 192) C dL_ticks_192 2 rfl ?_
                          refine cw_icmp_ne (pc := 194) (tgt := 261) C dL_ticks_194 (by decide) (fun h194 => ?_) (fun h194 => ?_)
                          · -- 194 t
                            have h194 : ¬ i = i := (nc_ne (a := i) (b := i) (by omega) (by omega)).mp h194
                            exact absurd h194 (by omega)
                          · -- 194 f
                            have h194 : i = i := (nc_eq (a := i) (b := i) (by omega) (by omega)).mp h194
                            refine cw_aload_n (pc := 197) C dL_ticks_197 rfl 11 rfl ?_
                            refine cw_iconst (pc := 198) C dL_ticks_198 (nI 1) (by decide) ?_
                            refine cw_calli (pc := 199) C dL_ticks_199 (w_state l D Z A σ57 (tk0 Xt) F (psh Kt nt Xt) (min (nt + 1) 5) (M + 60 * k + 60) (nI 1) h57) (cwV 1 C.1.2.2.2.2 gL_ticks_X6_state rfl rfl rfl (by decide +kernel) ⟨Nat.le_of_ble_eq_true rfl, Nat.le_of_ble_eq_true rfl⟩) 0 rfl rfl rfl rfl (Nat.le_of_ble_eq_true rfl) (fun r58 σ58 hr58 => ?_)
                            rw [(saA_k (k := 1) (by omega)).trans (congrArg Sum.inl htm)] at hr58
                            obtain ⟨rfl, h58⟩ := hr58
                            have h58 : absP σ58 (tk0 Xt) F (psh Kt nt Xt) (min (nt + 1) 5) (M + 60 * k + 60) := h58
                            refine cw_top (Xt 40 + nI 1) rfl ?_
                            refine cw_iload (pc := 202) C dL_ticks_202 4 rfl ?_
                            refine cw_iconst (pc := 204) C dL_ticks_204 (nI 1) (by decide) ?_
                            refine cw_iadd (pc := 205) C dL_ticks_205 (z := (Xt 40) + (nI 1)) rfl ?_
                            refine cw_icmp_ne (pc := 206) (tgt := 261) C dL_ticks_206 (by decide) (fun h206 => absurd rfl h206) (fun h206 => ?_)
                            refine cw_aload_n (pc := 209) C dL_ticks_209 rfl 11 rfl ?_
                            refine cw_iconst (pc := 210) C dL_ticks_210 (nI 4) (by decide) ?_
                            refine cw_calli (pc := 211) C dL_ticks_211 (w_state l D Z A σ58 (tk0 Xt) F (psh Kt nt Xt) (min (nt + 1) 5) (M + 60 * k + 60) (nI 4) h58) (cwV 1 C.1.2.2.2.2 gL_ticks_X6_state rfl rfl rfl (by decide +kernel) ⟨Nat.le_of_ble_eq_true rfl, Nat.le_of_ble_eq_true rfl⟩) 0 rfl rfl rfl rfl (Nat.le_of_ble_eq_true rfl) (fun r59 σ59 hr59 => ?_)
                            rw [(saA_k (k := 4) (by omega)).trans (congrArg Sum.inl y43)] at hr59
                            obtain ⟨rfl, h59⟩ := hr59
                            have h59 : absP σ59 (tk0 Xt) F (psh Kt nt Xt) (min (nt + 1) 5) (M + 60 * k + 60) := h59
                            refine cw_top (Xt 43) rfl ?_
                            refine cw_iload (pc := 214) C dL_ticks_214 6 rfl ?_
                            refine cw_iload (pc := 216) C dL_ticks_216 0 rfl ?_
                            refine cw_if_ne (pc := 218) (tgt := 226) C dL_ticks_218 (by decide) (fun _ => ?_) (fun h => False.elim (by revert h; decide))
                            refine cw_iconst (pc := 226) C dL_ticks_226 (nI 0) (by decide) ?_
                            refine cw_goto (pc := 227) (tgt := 232) C dL_ticks_227 (by decide) ?_
                            refine cw_iadd (pc := 232) C dL_ticks_232 (z := Xt 43) (by rw [nI_0, Int32.add_zero]) ?_
                            refine cw_icmp_ne (pc := 233) (tgt := 261) C dL_ticks_233 (by decide) (fun h233 => absurd rfl h233) (fun h233 => ?_)
                            refine cw_aload_n (pc := 236) C dL_ticks_236 rfl 11 rfl ?_
                            refine cw_bipush (pc := 237) C dL_ticks_237 (nI 7) (by decide) ?_
                            refine cw_calli (pc := 239) C dL_ticks_239 (w_state l D Z A σ59 (tk0 Xt) F (psh Kt nt Xt) (min (nt + 1) 5) (M + 60 * k + 60) (nI 7) h59) (cwV 1 C.1.2.2.2.2 gL_ticks_X6_state rfl rfl rfl (by decide +kernel) ⟨Nat.le_of_ble_eq_true rfl, Nat.le_of_ble_eq_true rfl⟩) 0 rfl rfl rfl rfl (Nat.le_of_ble_eq_true rfl) (fun r60 σ60 hr60 => ?_)
                            rw [(saA_k (k := 7) (by omega)).trans (congrArg Sum.inl y46)] at hr60
                            obtain ⟨rfl, h60⟩ := hr60
                            have h60 : absP σ60 (tk0 Xt) F (psh Kt nt Xt) (min (nt + 1) 5) (M + 60 * k + 60) := h60
                            refine cw_top (nI ht7) rfl ?_
                            refine cw_iload (pc := 242) C dL_ticks_242 5 rfl ?_
                            refine cw_isub (pc := 244) C dL_ticks_244 (z := nI 0) ((pk_sub (by omega)).trans (congrArg nI (by omega))) ?_
                            refine cw_if_lt (pc := 245) (tgt := 261) C dL_ticks_245 (by decide) (fun h => False.elim (by revert h; decide)) (fun _ => ?_)
                            refine cw_aload_n (pc := 248) C dL_ticks_248 rfl 11 rfl ?_
                            refine cw_bipush (pc := 249) C dL_ticks_249 (nI 7) (by decide) ?_
                            refine cw_calli (pc := 251) C dL_ticks_251 (w_state l D Z A σ60 (tk0 Xt) F (psh Kt nt Xt) (min (nt + 1) 5) (M + 60 * k + 60) (nI 7) h60) (cwV 1 C.1.2.2.2.2 gL_ticks_X6_state rfl rfl rfl (by decide +kernel) ⟨Nat.le_of_ble_eq_true rfl, Nat.le_of_ble_eq_true rfl⟩) 0 rfl rfl rfl rfl (Nat.le_of_ble_eq_true rfl) (fun r61 σ61 hr61 => ?_)
                            rw [(saA_k (k := 7) (by omega)).trans (congrArg Sum.inl y46)] at hr61
                            obtain ⟨rfl, h61⟩ := hr61
                            have h61 : absP σ61 (tk0 Xt) F (psh Kt nt Xt) (min (nt + 1) 5) (M + 60 * k + 60) := h61
                            refine cw_top (nI ht7) rfl ?_
                            refine cw_iload (pc := 254) C dL_ticks_254 5 rfl ?_
                            refine cw_isub (pc := 256) C dL_ticks_256 (z := nI 0) ((pk_sub (by omega)).trans (congrArg nI (by omega))) ?_
                            refine cw_iconst (pc := 257) C dL_ticks_257 (nI 1) (by decide) ?_
                            refine cw_icmp_le (pc := 258) (tgt := 263) C dL_ticks_258 (by decide) (fun _ => ?_) (fun h => False.elim (by revert h; decide))
                            refine cw_aload_n (pc := 263) C dL_ticks_263 rfl 11 rfl ?_
                            refine cw_bipush (pc := 264) C dL_ticks_264 (nI 7) (by decide) ?_
                            refine cw_calli (pc := 266) C dL_ticks_266 (w_state l D Z A σ61 (tk0 Xt) F (psh Kt nt Xt) (min (nt + 1) 5) (M + 60 * k + 60) (nI 7) h61) (cwV 1 C.1.2.2.2.2 gL_ticks_X6_state rfl rfl rfl (by decide +kernel) ⟨Nat.le_of_ble_eq_true rfl, Nat.le_of_ble_eq_true rfl⟩) 0 rfl rfl rfl rfl (Nat.le_of_ble_eq_true rfl) (fun r62 σ62 hr62 => ?_)
                            rw [(saA_k (k := 7) (by omega)).trans (congrArg Sum.inl y46)] at hr62
                            obtain ⟨rfl, h62⟩ := hr62
                            have h62 : absP σ62 (tk0 Xt) F (psh Kt nt Xt) (min (nt + 1) 5) (M + 60 * k + 60) := h62
                            refine cw_top (nI ht7) rfl ?_
                            refine cw_iload (pc := 269) C dL_ticks_269 5 rfl ?_
                            refine cw_icmp_le (pc := 271) (tgt := 278) C dL_ticks_271 (by decide) (fun h271 => ?_) (fun h271 => ?_)
                            · -- 271 t
                              have h271 : ht7 ≤ ht7 := (nc_le (a := ht7) (b := ht7) (by omega) (by omega)).mp h271
                              refine cw_iconst (pc := 278) C dL_ticks_278 (nI 0) (by decide) ?_
                              refine cw_istore (pc := 279) C dL_ticks_279 (by decide) (lv' := [(14, .int (nI 0)), (13, .int (nI 1)), (12, .int (nI 0)), (11, .int (nI i)), (10, .int ((-5))), (9, .int (Xt 40)), (8, .int (nI ht7)), (7, .int (Xt 43)), (6, .int (nI hd)), (5, .int (nI to)), (4, .int (nI i)), (3, .int (v)), (0, .ref (A 0)), (1, .int (x)), (2, .int (nI k))]) rfl ?_
                              refine cw_aload_n (pc := 281) C dL_ticks_281 rfl 12 rfl ?_
                              refine cw_iconst (pc := 282) C dL_ticks_282 (nI 2) (by decide) ?_
                              refine cw_calli (pc := 283) C dL_ticks_283 (w_state l D Z A σ62 (tk0 Xt) F (psh Kt nt Xt) (min (nt + 1) 5) (M + 60 * k + 60) (nI 2) h62) (cwV 1 C.1.2.2.2.2 gL_ticks_X6_state rfl rfl rfl (by decide +kernel) ⟨Nat.le_of_ble_eq_true rfl, Nat.le_of_ble_eq_true rfl⟩) 0 rfl rfl rfl rfl (Nat.le_of_ble_eq_true rfl) (fun r63 σ63 hr63 => ?_)
                              rw [(saA_k (k := 2) (by omega)).trans (congrArg Sum.inl y41)] at hr63
                              obtain ⟨rfl, h63⟩ := hr63
                              have h63 : absP σ63 (tk0 Xt) F (psh Kt nt Xt) (min (nt + 1) 5) (M + 60 * k + 60) := h63
                              refine cw_top (nI (hd - 1)) rfl ?_
                              refine cw_iload (pc := 286) C dL_ticks_286 0 rfl ?_
                              refine cw_if_eq (pc := 288) (tgt := 296) C dL_ticks_288 (by decide) (fun _ => ?_) (fun h => False.elim (by revert h; decide))
                              refine cw_iload (pc := 296) C dL_ticks_296 2 rfl ?_
                              refine cw_icmp_ne (pc := 298) (tgt := 360) C dL_ticks_298 (by decide) (fun h298 => ?_) (fun h298 => ?_)
                              · -- 298 t
                                have h298 : ¬ (hd - 1) = 0 := (nc_ne (a := hd - 1) (b := 0) (by omega) (by omega)).mp h298
                                exact absurd h298 (by omega)
                              · -- 298 f
                                have h298 : (hd - 1) = 0 := (nc_eq (a := hd - 1) (b := 0) (by omega) (by omega)).mp h298
                                refine cw_iload (pc := 301) C dL_ticks_301 0 rfl ?_
                                refine cw_if_eq (pc := 303) (tgt := 336) C dL_ticks_303 (by decide) (fun _ => ?_) (fun h => False.elim (by revert h; decide))
                                refine cw_iload (pc := 336) C dL_ticks_336 3 rfl ?_
                                refine cw_iload (pc := 338) C dL_ticks_338 10 rfl ?_
                                refine cw_icmp_le (pc := 340) (tgt := 362) C dL_ticks_340 (by decide) (fun h340 => ?_) (fun h340 => ?_)
                                · -- 340 t
                                  have h340 : i ≤ i := (nc_le (a := i) (b := i) (by omega) (by omega)).mp h340
                                  refine cw_iload (pc := 362) C dL_ticks_362 10 rfl ?_
                                  refine cw_if_le (pc := 364) (tgt := 386) C dL_ticks_364 (by decide) (fun h364 => ?_) (fun h364 => ?_)
                                  · -- 364 t
                                    have h364 : i ≤ 0 := (nc_le (a := i) (b := 0) (by omega) (by omega)).mp h364
                                    exact absurd h364 (by omega)
                                  · -- 364 f
                                    have h364 : ¬ (i ≤ 0) := fun qq => h364 ((nc_le (a := i) (b := 0) (by omega) (by omega)).mpr qq)
                                    refine cw_iload (pc := 367) C dL_ticks_367 9 rfl ?_
                                    refine cw_iload (pc := 369) C dL_ticks_369 10 rfl ?_
                                    refine cw_icmp_ne (pc := 371) (tgt := 386) C dL_ticks_371 (by decide) (fun h371 => ?_) (fun h371 => ?_)
                                    · -- 371 t
                                      have h371 : ¬ to = i := (nc_ne (a := to) (b := i) (by omega) (by omega)).mp h371
                                      refine cw_iinc (pc := 386) C dL_ticks_386 14 rfl (nI (k + 1)) (nI_inc _ 1) (by decide) (lv' := [(2, .int (nI (k + 1))), (14, .int (nI 0)), (13, .int (nI 1)), (12, .int (nI 0)), (11, .int (nI i)), (10, .int ((-5))), (9, .int (Xt 40)), (8, .int (nI ht7)), (7, .int (Xt 43)), (6, .int (nI hd)), (5, .int (nI to)), (4, .int (nI i)), (3, .int (v)), (0, .ref (A 0)), (1, .int (x))]) rfl ?_
                                      refine cw_goto (pc := 389) (tgt := 2) C dL_ticks_389 (by decide) ?_
                                      refine cw_lv [13, 14, 0] rfl ?_
                                      exact ih2 (k + 1) (tk0 Xt) (psh Kt nt Xt) (min (nt + 1) 5) σ63 (by omega) (by omega) (by rw [show M + 60 * (k + 1) = M + 60 * k + 60 by omega]; exact h63)
                                    · -- 371 f
                                      have h371 : to = i := (nc_eq (a := to) (b := i) (by omega) (by omega)).mp h371
                                      exact absurd h371 (by omega)
                                · -- 340 f
                                  have h340 : ¬ (i ≤ i) := fun qq => h340 ((nc_le (a := i) (b := i) (by omega) (by omega)).mpr qq)
                                  exact absurd h340 (by omega)
                            · -- 271 f
                              have h271 : ¬ (ht7 ≤ ht7) := fun qq => h271 ((nc_le (a := ht7) (b := ht7) (by omega) (by omega)).mpr qq)
                              exact absurd h271 (by omega)
                · -- 121 f
                  have h121 : ¬ (hd ≤ 0) := fun qq => h121 ((nc_le (a := hd) (b := 0) (by omega) (by omega)).mpr qq)
                  refine cw_iload (pc := 124) C dL_ticks_124 5 rfl ?_
                  refine cw_iconst (pc := 126) C dL_ticks_126 (nI 1) (by decide) ?_
                  refine cw_isub (pc := 127) C dL_ticks_127 (z := nI (hd - 1)) (pk_sub (by omega)) ?_
                  refine cw_goto (pc := 128) (tgt := 132) C dL_ticks_128 (by decide) ?_
                  refine cw_istore (pc := 132) C dL_ticks_132 (by decide) (lv' := [(12, .int (nI (hd - 1))), (11, .int (nI i)), (10, .int ((-5))), (9, .int (Xt 40)), (8, .int (nI ht7)), (7, .int (Xt 43)), (6, .int (nI hd)), (5, .int (nI to)), (4, .int (nI i)), (3, .int (v)), (0, .ref (A 0)), (1, .int (x)), (2, .int (nI k))]) rfl ?_
                  refine cw_iload (pc := 134) C dL_ticks_134 8 rfl ?_
                  refine cw_if_le (pc := 136) (tgt := 167) C dL_ticks_136 (by decide) (fun h136 => ?_) (fun h136 => ?_)
                  · -- 136 t
                    have h136 : i ≤ 0 := (nc_le (a := i) (b := 0) (by omega) (by omega)).mp h136
                    exact absurd h136 (by omega)
                  · -- 136 f
                    have h136 : ¬ (i ≤ 0) := fun qq => h136 ((nc_le (a := i) (b := 0) (by omega) (by omega)).mpr qq)
                    refine cw_iload (pc := 139) C dL_ticks_139 7 rfl ?_
                    refine cw_iload (pc := 141) C dL_ticks_141 8 rfl ?_
                    refine cw_icmp_eq (pc := 143) (tgt := 163) C dL_ticks_143 (by decide) (fun h143 => ?_) (fun h143 => ?_)
                    · -- 143 t
                      have h143 : to = i := (nc_eq (a := to) (b := i) (by omega) (by omega)).mp h143
                      exact absurd h143 (by omega)
                    · -- 143 f
                      have h143 : ¬ (to = i) := fun qq => h143 ((nc_eq (a := to) (b := i) (by omega) (by omega)).mpr qq)
                      refine cw_iload (pc := 146) C dL_ticks_146 7 rfl ?_
                      refine cw_iload (pc := 148) C dL_ticks_148 8 rfl ?_
                      refine cw_icmp_le (pc := 150) (tgt := 158) C dL_ticks_150 (by decide) (fun h150 => ?_) (fun h150 => ?_)
                      · -- 150 t
                        have h150 : to ≤ i := (nc_le (a := to) (b := i) (by omega) (by omega)).mp h150
                        refine cw_iload (pc := 158) C dL_ticks_158 2 rfl ?_
                        refine cw_if_ge (pc := 160) (tgt := 167) C dL_ticks_160 (by decide) (fun h => False.elim (by revert h; decide)) (fun _ => ?_)
                        refine cw_iconst (pc := 163) C dL_ticks_163 (nI 1) (by decide) ?_
                        refine cw_goto (pc := 164) (tgt := 168) C dL_ticks_164 (by decide) ?_
                        refine cw_istore (pc := 168) C dL_ticks_168 (by decide) (lv' := [(13, .int (nI 1)), (12, .int (nI (hd - 1))), (11, .int (nI i)), (10, .int ((-5))), (9, .int (Xt 40)), (8, .int (nI ht7)), (7, .int (Xt 43)), (6, .int (nI hd)), (5, .int (nI to)), (4, .int (nI i)), (3, .int (v)), (0, .ref (A 0)), (1, .int (x)), (2, .int (nI k))]) rfl ?_
                        refine cw_iload (pc := 170) C dL_ticks_170 2 rfl ?_
                        refine cw_iload (pc := 172) C dL_ticks_172 0 rfl ?_
                        refine cw_if_eq (pc := 174) (tgt := 182) C dL_ticks_174 (by decide) (fun h => False.elim (by revert h; decide)) (fun _ => ?_)
                        refine cw_iload (pc := 177) C dL_ticks_177 9 rfl ?_
                        refine cw_goto (pc := 179) (tgt := 184) C dL_ticks_179 (by decide) ?_
                        refine cw_icmp_ne (pc := 184) (tgt := 261) C dL_ticks_184 (by decide) (fun h184 => ?_) (fun h184 => ?_)
                        · -- 184 t
                          have h184 : ¬ i = i := (nc_ne (a := i) (b := i) (by omega) (by omega)).mp h184
                          exact absurd h184 (by omega)
                        · -- 184 f
                          have h184 : i = i := (nc_eq (a := i) (b := i) (by omega) (by omega)).mp h184
                          refine cw_aload_n (pc := 187) C dL_ticks_187 rfl 11 rfl ?_
                          refine cw_iconst (pc := 188) C dL_ticks_188 (nI 0) (by decide) ?_
                          refine cw_calli (pc := 189) C dL_ticks_189 (w_state l D Z A σ49 (tk0 Xt) F (psh Kt nt Xt) (min (nt + 1) 5) (M + 60 * k + 60) (nI 0) h49) (cwV 1 C.1.2.2.2.2 gL_ticks_X6_state rfl rfl rfl (by decide +kernel) ⟨Nat.le_of_ble_eq_true rfl, Nat.le_of_ble_eq_true rfl⟩) 0 rfl rfl rfl rfl (Nat.le_of_ble_eq_true rfl) (fun r64 σ64 hr64 => ?_)
                          rw [(saA_k (k := 0) (by omega)).trans (congrArg Sum.inl y39)] at hr64
                          obtain ⟨rfl, h64⟩ := hr64
                          have h64 : absP σ64 (tk0 Xt) F (psh Kt nt Xt) (min (nt + 1) 5) (M + 60 * k + 60) := h64
                          refine cw_top (nI i) rfl ?_
                          refine cw_iload (pc := 192) C dL_ticks_192 2 rfl ?_
                          refine cw_icmp_ne (pc := 194) (tgt := 261) C dL_ticks_194 (by decide) (fun h194 => ?_) (fun h194 => ?_)
                          · -- 194 t
                            have h194 : ¬ i = i := (nc_ne (a := i) (b := i) (by omega) (by omega)).mp h194
                            exact absurd h194 (by omega)
                          · -- 194 f
                            have h194 : i = i := (nc_eq (a := i) (b := i) (by omega) (by omega)).mp h194
                            refine cw_aload_n (pc := 197) C dL_ticks_197 rfl 11 rfl ?_
                            refine cw_iconst (pc := 198) C dL_ticks_198 (nI 1) (by decide) ?_
                            refine cw_calli (pc := 199) C dL_ticks_199 (w_state l D Z A σ64 (tk0 Xt) F (psh Kt nt Xt) (min (nt + 1) 5) (M + 60 * k + 60) (nI 1) h64) (cwV 1 C.1.2.2.2.2 gL_ticks_X6_state rfl rfl rfl (by decide +kernel) ⟨Nat.le_of_ble_eq_true rfl, Nat.le_of_ble_eq_true rfl⟩) 0 rfl rfl rfl rfl (Nat.le_of_ble_eq_true rfl) (fun r65 σ65 hr65 => ?_)
                            rw [(saA_k (k := 1) (by omega)).trans (congrArg Sum.inl htm)] at hr65
                            obtain ⟨rfl, h65⟩ := hr65
                            have h65 : absP σ65 (tk0 Xt) F (psh Kt nt Xt) (min (nt + 1) 5) (M + 60 * k + 60) := h65
                            refine cw_top (Xt 40 + nI 1) rfl ?_
                            refine cw_iload (pc := 202) C dL_ticks_202 4 rfl ?_
                            refine cw_iconst (pc := 204) C dL_ticks_204 (nI 1) (by decide) ?_
                            refine cw_iadd (pc := 205) C dL_ticks_205 (z := (Xt 40) + (nI 1)) rfl ?_
                            refine cw_icmp_ne (pc := 206) (tgt := 261) C dL_ticks_206 (by decide) (fun h206 => absurd rfl h206) (fun h206 => ?_)
                            refine cw_aload_n (pc := 209) C dL_ticks_209 rfl 11 rfl ?_
                            refine cw_iconst (pc := 210) C dL_ticks_210 (nI 4) (by decide) ?_
                            refine cw_calli (pc := 211) C dL_ticks_211 (w_state l D Z A σ65 (tk0 Xt) F (psh Kt nt Xt) (min (nt + 1) 5) (M + 60 * k + 60) (nI 4) h65) (cwV 1 C.1.2.2.2.2 gL_ticks_X6_state rfl rfl rfl (by decide +kernel) ⟨Nat.le_of_ble_eq_true rfl, Nat.le_of_ble_eq_true rfl⟩) 0 rfl rfl rfl rfl (Nat.le_of_ble_eq_true rfl) (fun r66 σ66 hr66 => ?_)
                            rw [(saA_k (k := 4) (by omega)).trans (congrArg Sum.inl y43)] at hr66
                            obtain ⟨rfl, h66⟩ := hr66
                            have h66 : absP σ66 (tk0 Xt) F (psh Kt nt Xt) (min (nt + 1) 5) (M + 60 * k + 60) := h66
                            refine cw_top (Xt 43) rfl ?_
                            refine cw_iload (pc := 214) C dL_ticks_214 6 rfl ?_
                            refine cw_iload (pc := 216) C dL_ticks_216 0 rfl ?_
                            refine cw_if_ne (pc := 218) (tgt := 226) C dL_ticks_218 (by decide) (fun _ => ?_) (fun h => False.elim (by revert h; decide))
                            refine cw_iconst (pc := 226) C dL_ticks_226 (nI 0) (by decide) ?_
                            refine cw_goto (pc := 227) (tgt := 232) C dL_ticks_227 (by decide) ?_
                            refine cw_iadd (pc := 232) C dL_ticks_232 (z := Xt 43) (by rw [nI_0, Int32.add_zero]) ?_
                            refine cw_icmp_ne (pc := 233) (tgt := 261) C dL_ticks_233 (by decide) (fun h233 => absurd rfl h233) (fun h233 => ?_)
                            refine cw_aload_n (pc := 236) C dL_ticks_236 rfl 11 rfl ?_
                            refine cw_bipush (pc := 237) C dL_ticks_237 (nI 7) (by decide) ?_
                            refine cw_calli (pc := 239) C dL_ticks_239 (w_state l D Z A σ66 (tk0 Xt) F (psh Kt nt Xt) (min (nt + 1) 5) (M + 60 * k + 60) (nI 7) h66) (cwV 1 C.1.2.2.2.2 gL_ticks_X6_state rfl rfl rfl (by decide +kernel) ⟨Nat.le_of_ble_eq_true rfl, Nat.le_of_ble_eq_true rfl⟩) 0 rfl rfl rfl rfl (Nat.le_of_ble_eq_true rfl) (fun r67 σ67 hr67 => ?_)
                            rw [(saA_k (k := 7) (by omega)).trans (congrArg Sum.inl y46)] at hr67
                            obtain ⟨rfl, h67⟩ := hr67
                            have h67 : absP σ67 (tk0 Xt) F (psh Kt nt Xt) (min (nt + 1) 5) (M + 60 * k + 60) := h67
                            refine cw_top (nI ht7) rfl ?_
                            refine cw_iload (pc := 242) C dL_ticks_242 5 rfl ?_
                            refine cw_isub (pc := 244) C dL_ticks_244 (z := nI 0) ((pk_sub (by omega)).trans (congrArg nI (by omega))) ?_
                            refine cw_if_lt (pc := 245) (tgt := 261) C dL_ticks_245 (by decide) (fun h => False.elim (by revert h; decide)) (fun _ => ?_)
                            refine cw_aload_n (pc := 248) C dL_ticks_248 rfl 11 rfl ?_
                            refine cw_bipush (pc := 249) C dL_ticks_249 (nI 7) (by decide) ?_
                            refine cw_calli (pc := 251) C dL_ticks_251 (w_state l D Z A σ67 (tk0 Xt) F (psh Kt nt Xt) (min (nt + 1) 5) (M + 60 * k + 60) (nI 7) h67) (cwV 1 C.1.2.2.2.2 gL_ticks_X6_state rfl rfl rfl (by decide +kernel) ⟨Nat.le_of_ble_eq_true rfl, Nat.le_of_ble_eq_true rfl⟩) 0 rfl rfl rfl rfl (Nat.le_of_ble_eq_true rfl) (fun r68 σ68 hr68 => ?_)
                            rw [(saA_k (k := 7) (by omega)).trans (congrArg Sum.inl y46)] at hr68
                            obtain ⟨rfl, h68⟩ := hr68
                            have h68 : absP σ68 (tk0 Xt) F (psh Kt nt Xt) (min (nt + 1) 5) (M + 60 * k + 60) := h68
                            refine cw_top (nI ht7) rfl ?_
                            refine cw_iload (pc := 254) C dL_ticks_254 5 rfl ?_
                            refine cw_isub (pc := 256) C dL_ticks_256 (z := nI 0) ((pk_sub (by omega)).trans (congrArg nI (by omega))) ?_
                            refine cw_iconst (pc := 257) C dL_ticks_257 (nI 1) (by decide) ?_
                            refine cw_icmp_le (pc := 258) (tgt := 263) C dL_ticks_258 (by decide) (fun _ => ?_) (fun h => False.elim (by revert h; decide))
                            refine cw_aload_n (pc := 263) C dL_ticks_263 rfl 11 rfl ?_
                            refine cw_bipush (pc := 264) C dL_ticks_264 (nI 7) (by decide) ?_
                            refine cw_calli (pc := 266) C dL_ticks_266 (w_state l D Z A σ68 (tk0 Xt) F (psh Kt nt Xt) (min (nt + 1) 5) (M + 60 * k + 60) (nI 7) h68) (cwV 1 C.1.2.2.2.2 gL_ticks_X6_state rfl rfl rfl (by decide +kernel) ⟨Nat.le_of_ble_eq_true rfl, Nat.le_of_ble_eq_true rfl⟩) 0 rfl rfl rfl rfl (Nat.le_of_ble_eq_true rfl) (fun r69 σ69 hr69 => ?_)
                            rw [(saA_k (k := 7) (by omega)).trans (congrArg Sum.inl y46)] at hr69
                            obtain ⟨rfl, h69⟩ := hr69
                            have h69 : absP σ69 (tk0 Xt) F (psh Kt nt Xt) (min (nt + 1) 5) (M + 60 * k + 60) := h69
                            refine cw_top (nI ht7) rfl ?_
                            refine cw_iload (pc := 269) C dL_ticks_269 5 rfl ?_
                            refine cw_icmp_le (pc := 271) (tgt := 278) C dL_ticks_271 (by decide) (fun h271 => ?_) (fun h271 => ?_)
                            · -- 271 t
                              have h271 : ht7 ≤ ht7 := (nc_le (a := ht7) (b := ht7) (by omega) (by omega)).mp h271
                              refine cw_iconst (pc := 278) C dL_ticks_278 (nI 0) (by decide) ?_
                              refine cw_istore (pc := 279) C dL_ticks_279 (by decide) (lv' := [(14, .int (nI 0)), (13, .int (nI 1)), (12, .int (nI (hd - 1))), (11, .int (nI i)), (10, .int ((-5))), (9, .int (Xt 40)), (8, .int (nI ht7)), (7, .int (Xt 43)), (6, .int (nI hd)), (5, .int (nI to)), (4, .int (nI i)), (3, .int (v)), (0, .ref (A 0)), (1, .int (x)), (2, .int (nI k))]) rfl ?_
                              refine cw_aload_n (pc := 281) C dL_ticks_281 rfl 12 rfl ?_
                              refine cw_iconst (pc := 282) C dL_ticks_282 (nI 2) (by decide) ?_
                              refine cw_calli (pc := 283) C dL_ticks_283 (w_state l D Z A σ69 (tk0 Xt) F (psh Kt nt Xt) (min (nt + 1) 5) (M + 60 * k + 60) (nI 2) h69) (cwV 1 C.1.2.2.2.2 gL_ticks_X6_state rfl rfl rfl (by decide +kernel) ⟨Nat.le_of_ble_eq_true rfl, Nat.le_of_ble_eq_true rfl⟩) 0 rfl rfl rfl rfl (Nat.le_of_ble_eq_true rfl) (fun r70 σ70 hr70 => ?_)
                              rw [(saA_k (k := 2) (by omega)).trans (congrArg Sum.inl y41)] at hr70
                              obtain ⟨rfl, h70⟩ := hr70
                              have h70 : absP σ70 (tk0 Xt) F (psh Kt nt Xt) (min (nt + 1) 5) (M + 60 * k + 60) := h70
                              refine cw_top (nI (hd - 1)) rfl ?_
                              refine cw_iload (pc := 286) C dL_ticks_286 0 rfl ?_
                              refine cw_if_eq (pc := 288) (tgt := 296) C dL_ticks_288 (by decide) (fun _ => ?_) (fun h => False.elim (by revert h; decide))
                              refine cw_iload (pc := 296) C dL_ticks_296 2 rfl ?_
                              refine cw_icmp_ne (pc := 298) (tgt := 360) C dL_ticks_298 (by decide) (fun h298 => ?_) (fun h298 => ?_)
                              · -- 298 t
                                have h298 : ¬ (hd - 1) = (hd - 1) := (nc_ne (a := hd - 1) (b := hd - 1) (by omega) (by omega)).mp h298
                                exact absurd h298 (by omega)
                              · -- 298 f
                                have h298 : (hd - 1) = (hd - 1) := (nc_eq (a := hd - 1) (b := hd - 1) (by omega) (by omega)).mp h298
                                refine cw_iload (pc := 301) C dL_ticks_301 0 rfl ?_
                                refine cw_if_eq (pc := 303) (tgt := 336) C dL_ticks_303 (by decide) (fun _ => ?_) (fun h => False.elim (by revert h; decide))
                                refine cw_iload (pc := 336) C dL_ticks_336 3 rfl ?_
                                refine cw_iload (pc := 338) C dL_ticks_338 10 rfl ?_
                                refine cw_icmp_le (pc := 340) (tgt := 362) C dL_ticks_340 (by decide) (fun h340 => ?_) (fun h340 => ?_)
                                · -- 340 t
                                  have h340 : i ≤ i := (nc_le (a := i) (b := i) (by omega) (by omega)).mp h340
                                  refine cw_iload (pc := 362) C dL_ticks_362 10 rfl ?_
                                  refine cw_if_le (pc := 364) (tgt := 386) C dL_ticks_364 (by decide) (fun h364 => ?_) (fun h364 => ?_)
                                  · -- 364 t
                                    have h364 : i ≤ 0 := (nc_le (a := i) (b := 0) (by omega) (by omega)).mp h364
                                    exact absurd h364 (by omega)
                                  · -- 364 f
                                    have h364 : ¬ (i ≤ 0) := fun qq => h364 ((nc_le (a := i) (b := 0) (by omega) (by omega)).mpr qq)
                                    refine cw_iload (pc := 367) C dL_ticks_367 9 rfl ?_
                                    refine cw_iload (pc := 369) C dL_ticks_369 10 rfl ?_
                                    refine cw_icmp_ne (pc := 371) (tgt := 386) C dL_ticks_371 (by decide) (fun h371 => ?_) (fun h371 => ?_)
                                    · -- 371 t
                                      have h371 : ¬ to = i := (nc_ne (a := to) (b := i) (by omega) (by omega)).mp h371
                                      refine cw_iinc (pc := 386) C dL_ticks_386 14 rfl (nI (k + 1)) (nI_inc _ 1) (by decide) (lv' := [(2, .int (nI (k + 1))), (14, .int (nI 0)), (13, .int (nI 1)), (12, .int (nI (hd - 1))), (11, .int (nI i)), (10, .int ((-5))), (9, .int (Xt 40)), (8, .int (nI ht7)), (7, .int (Xt 43)), (6, .int (nI hd)), (5, .int (nI to)), (4, .int (nI i)), (3, .int (v)), (0, .ref (A 0)), (1, .int (x))]) rfl ?_
                                      refine cw_goto (pc := 389) (tgt := 2) C dL_ticks_389 (by decide) ?_
                                      refine cw_lv [13, 14, 0] rfl ?_
                                      exact ih2 (k + 1) (tk0 Xt) (psh Kt nt Xt) (min (nt + 1) 5) σ70 (by omega) (by omega) (by rw [show M + 60 * (k + 1) = M + 60 * k + 60 by omega]; exact h70)
                                    · -- 371 f
                                      have h371 : to = i := (nc_eq (a := to) (b := i) (by omega) (by omega)).mp h371
                                      exact absurd h371 (by omega)
                                · -- 340 f
                                  have h340 : ¬ (i ≤ i) := fun qq => h340 ((nc_le (a := i) (b := i) (by omega) (by omega)).mpr qq)
                                  exact absurd h340 (by omega)
                            · -- 271 f
                              have h271 : ¬ (ht7 ≤ ht7) := fun qq => h271 ((nc_le (a := ht7) (b := ht7) (by omega) (by omega)).mpr qq)
                              exact absurd h271 (by omega)
                      · -- 150 f
                        have h150 : ¬ (to ≤ i) := fun qq => h150 ((nc_le (a := to) (b := i) (by omega) (by omega)).mpr qq)
                        refine cw_iload (pc := 153) C dL_ticks_153 0 rfl ?_
                        refine cw_if_gt (pc := 155) (tgt := 163) C dL_ticks_155 (by decide) (fun h155 => ?_) (fun h155 => ?_)
                        · -- 155 t
                          have h155 : 0 < (hd - 1) := (nc_gt (a := hd - 1) (b := 0) (by omega) (by omega)).mp h155
                          exact absurd h155 (by omega)
                        · -- 155 f
                          have h155 : ¬ (0 < (hd - 1)) := fun qq => h155 ((nc_gt (a := hd - 1) (b := 0) (by omega) (by omega)).mpr qq)
                          refine cw_iload (pc := 158) C dL_ticks_158 2 rfl ?_
                          refine cw_if_ge (pc := 160) (tgt := 167) C dL_ticks_160 (by decide) (fun h => False.elim (by revert h; decide)) (fun _ => ?_)
                          refine cw_iconst (pc := 163) C dL_ticks_163 (nI 1) (by decide) ?_
                          refine cw_goto (pc := 164) (tgt := 168) C dL_ticks_164 (by decide) ?_
                          refine cw_istore (pc := 168) C dL_ticks_168 (by decide) (lv' := [(13, .int (nI 1)), (12, .int (nI (hd - 1))), (11, .int (nI i)), (10, .int ((-5))), (9, .int (Xt 40)), (8, .int (nI ht7)), (7, .int (Xt 43)), (6, .int (nI hd)), (5, .int (nI to)), (4, .int (nI i)), (3, .int (v)), (0, .ref (A 0)), (1, .int (x)), (2, .int (nI k))]) rfl ?_
                          refine cw_iload (pc := 170) C dL_ticks_170 2 rfl ?_
                          refine cw_iload (pc := 172) C dL_ticks_172 0 rfl ?_
                          refine cw_if_eq (pc := 174) (tgt := 182) C dL_ticks_174 (by decide) (fun h => False.elim (by revert h; decide)) (fun _ => ?_)
                          refine cw_iload (pc := 177) C dL_ticks_177 9 rfl ?_
                          refine cw_goto (pc := 179) (tgt := 184) C dL_ticks_179 (by decide) ?_
                          refine cw_icmp_ne (pc := 184) (tgt := 261) C dL_ticks_184 (by decide) (fun h184 => ?_) (fun h184 => ?_)
                          · -- 184 t
                            have h184 : ¬ i = i := (nc_ne (a := i) (b := i) (by omega) (by omega)).mp h184
                            exact absurd h184 (by omega)
                          · -- 184 f
                            have h184 : i = i := (nc_eq (a := i) (b := i) (by omega) (by omega)).mp h184
                            refine cw_aload_n (pc := 187) C dL_ticks_187 rfl 11 rfl ?_
                            refine cw_iconst (pc := 188) C dL_ticks_188 (nI 0) (by decide) ?_
                            refine cw_calli (pc := 189) C dL_ticks_189 (w_state l D Z A σ49 (tk0 Xt) F (psh Kt nt Xt) (min (nt + 1) 5) (M + 60 * k + 60) (nI 0) h49) (cwV 1 C.1.2.2.2.2 gL_ticks_X6_state rfl rfl rfl (by decide +kernel) ⟨Nat.le_of_ble_eq_true rfl, Nat.le_of_ble_eq_true rfl⟩) 0 rfl rfl rfl rfl (Nat.le_of_ble_eq_true rfl) (fun r71 σ71 hr71 => ?_)
                            rw [(saA_k (k := 0) (by omega)).trans (congrArg Sum.inl y39)] at hr71
                            obtain ⟨rfl, h71⟩ := hr71
                            have h71 : absP σ71 (tk0 Xt) F (psh Kt nt Xt) (min (nt + 1) 5) (M + 60 * k + 60) := h71
                            refine cw_top (nI i) rfl ?_
                            refine cw_iload (pc := 192) C dL_ticks_192 2 rfl ?_
                            refine cw_icmp_ne (pc := 194) (tgt := 261) C dL_ticks_194 (by decide) (fun h194 => ?_) (fun h194 => ?_)
                            · -- 194 t
                              have h194 : ¬ i = i := (nc_ne (a := i) (b := i) (by omega) (by omega)).mp h194
                              exact absurd h194 (by omega)
                            · -- 194 f
                              have h194 : i = i := (nc_eq (a := i) (b := i) (by omega) (by omega)).mp h194
                              refine cw_aload_n (pc := 197) C dL_ticks_197 rfl 11 rfl ?_
                              refine cw_iconst (pc := 198) C dL_ticks_198 (nI 1) (by decide) ?_
                              refine cw_calli (pc := 199) C dL_ticks_199 (w_state l D Z A σ71 (tk0 Xt) F (psh Kt nt Xt) (min (nt + 1) 5) (M + 60 * k + 60) (nI 1) h71) (cwV 1 C.1.2.2.2.2 gL_ticks_X6_state rfl rfl rfl (by decide +kernel) ⟨Nat.le_of_ble_eq_true rfl, Nat.le_of_ble_eq_true rfl⟩) 0 rfl rfl rfl rfl (Nat.le_of_ble_eq_true rfl) (fun r72 σ72 hr72 => ?_)
                              rw [(saA_k (k := 1) (by omega)).trans (congrArg Sum.inl htm)] at hr72
                              obtain ⟨rfl, h72⟩ := hr72
                              have h72 : absP σ72 (tk0 Xt) F (psh Kt nt Xt) (min (nt + 1) 5) (M + 60 * k + 60) := h72
                              refine cw_top (Xt 40 + nI 1) rfl ?_
                              refine cw_iload (pc := 202) C dL_ticks_202 4 rfl ?_
                              refine cw_iconst (pc := 204) C dL_ticks_204 (nI 1) (by decide) ?_
                              refine cw_iadd (pc := 205) C dL_ticks_205 (z := (Xt 40) + (nI 1)) rfl ?_
                              refine cw_icmp_ne (pc := 206) (tgt := 261) C dL_ticks_206 (by decide) (fun h206 => absurd rfl h206) (fun h206 => ?_)
                              refine cw_aload_n (pc := 209) C dL_ticks_209 rfl 11 rfl ?_
                              refine cw_iconst (pc := 210) C dL_ticks_210 (nI 4) (by decide) ?_
                              refine cw_calli (pc := 211) C dL_ticks_211 (w_state l D Z A σ72 (tk0 Xt) F (psh Kt nt Xt) (min (nt + 1) 5) (M + 60 * k + 60) (nI 4) h72) (cwV 1 C.1.2.2.2.2 gL_ticks_X6_state rfl rfl rfl (by decide +kernel) ⟨Nat.le_of_ble_eq_true rfl, Nat.le_of_ble_eq_true rfl⟩) 0 rfl rfl rfl rfl (Nat.le_of_ble_eq_true rfl) (fun r73 σ73 hr73 => ?_)
                              rw [(saA_k (k := 4) (by omega)).trans (congrArg Sum.inl y43)] at hr73
                              obtain ⟨rfl, h73⟩ := hr73
                              have h73 : absP σ73 (tk0 Xt) F (psh Kt nt Xt) (min (nt + 1) 5) (M + 60 * k + 60) := h73
                              refine cw_top (Xt 43) rfl ?_
                              refine cw_iload (pc := 214) C dL_ticks_214 6 rfl ?_
                              refine cw_iload (pc := 216) C dL_ticks_216 0 rfl ?_
                              refine cw_if_ne (pc := 218) (tgt := 226) C dL_ticks_218 (by decide) (fun _ => ?_) (fun h => False.elim (by revert h; decide))
                              refine cw_iconst (pc := 226) C dL_ticks_226 (nI 0) (by decide) ?_
                              refine cw_goto (pc := 227) (tgt := 232) C dL_ticks_227 (by decide) ?_
                              refine cw_iadd (pc := 232) C dL_ticks_232 (z := Xt 43) (by rw [nI_0, Int32.add_zero]) ?_
                              refine cw_icmp_ne (pc := 233) (tgt := 261) C dL_ticks_233 (by decide) (fun h233 => absurd rfl h233) (fun h233 => ?_)
                              refine cw_aload_n (pc := 236) C dL_ticks_236 rfl 11 rfl ?_
                              refine cw_bipush (pc := 237) C dL_ticks_237 (nI 7) (by decide) ?_
                              refine cw_calli (pc := 239) C dL_ticks_239 (w_state l D Z A σ73 (tk0 Xt) F (psh Kt nt Xt) (min (nt + 1) 5) (M + 60 * k + 60) (nI 7) h73) (cwV 1 C.1.2.2.2.2 gL_ticks_X6_state rfl rfl rfl (by decide +kernel) ⟨Nat.le_of_ble_eq_true rfl, Nat.le_of_ble_eq_true rfl⟩) 0 rfl rfl rfl rfl (Nat.le_of_ble_eq_true rfl) (fun r74 σ74 hr74 => ?_)
                              rw [(saA_k (k := 7) (by omega)).trans (congrArg Sum.inl y46)] at hr74
                              obtain ⟨rfl, h74⟩ := hr74
                              have h74 : absP σ74 (tk0 Xt) F (psh Kt nt Xt) (min (nt + 1) 5) (M + 60 * k + 60) := h74
                              refine cw_top (nI ht7) rfl ?_
                              refine cw_iload (pc := 242) C dL_ticks_242 5 rfl ?_
                              refine cw_isub (pc := 244) C dL_ticks_244 (z := nI 0) ((pk_sub (by omega)).trans (congrArg nI (by omega))) ?_
                              refine cw_if_lt (pc := 245) (tgt := 261) C dL_ticks_245 (by decide) (fun h => False.elim (by revert h; decide)) (fun _ => ?_)
                              refine cw_aload_n (pc := 248) C dL_ticks_248 rfl 11 rfl ?_
                              refine cw_bipush (pc := 249) C dL_ticks_249 (nI 7) (by decide) ?_
                              refine cw_calli (pc := 251) C dL_ticks_251 (w_state l D Z A σ74 (tk0 Xt) F (psh Kt nt Xt) (min (nt + 1) 5) (M + 60 * k + 60) (nI 7) h74) (cwV 1 C.1.2.2.2.2 gL_ticks_X6_state rfl rfl rfl (by decide +kernel) ⟨Nat.le_of_ble_eq_true rfl, Nat.le_of_ble_eq_true rfl⟩) 0 rfl rfl rfl rfl (Nat.le_of_ble_eq_true rfl) (fun r75 σ75 hr75 => ?_)
                              rw [(saA_k (k := 7) (by omega)).trans (congrArg Sum.inl y46)] at hr75
                              obtain ⟨rfl, h75⟩ := hr75
                              have h75 : absP σ75 (tk0 Xt) F (psh Kt nt Xt) (min (nt + 1) 5) (M + 60 * k + 60) := h75
                              refine cw_top (nI ht7) rfl ?_
                              refine cw_iload (pc := 254) C dL_ticks_254 5 rfl ?_
                              refine cw_isub (pc := 256) C dL_ticks_256 (z := nI 0) ((pk_sub (by omega)).trans (congrArg nI (by omega))) ?_
                              refine cw_iconst (pc := 257) C dL_ticks_257 (nI 1) (by decide) ?_
                              refine cw_icmp_le (pc := 258) (tgt := 263) C dL_ticks_258 (by decide) (fun _ => ?_) (fun h => False.elim (by revert h; decide))
                              refine cw_aload_n (pc := 263) C dL_ticks_263 rfl 11 rfl ?_
                              refine cw_bipush (pc := 264) C dL_ticks_264 (nI 7) (by decide) ?_
                              refine cw_calli (pc := 266) C dL_ticks_266 (w_state l D Z A σ75 (tk0 Xt) F (psh Kt nt Xt) (min (nt + 1) 5) (M + 60 * k + 60) (nI 7) h75) (cwV 1 C.1.2.2.2.2 gL_ticks_X6_state rfl rfl rfl (by decide +kernel) ⟨Nat.le_of_ble_eq_true rfl, Nat.le_of_ble_eq_true rfl⟩) 0 rfl rfl rfl rfl (Nat.le_of_ble_eq_true rfl) (fun r76 σ76 hr76 => ?_)
                              rw [(saA_k (k := 7) (by omega)).trans (congrArg Sum.inl y46)] at hr76
                              obtain ⟨rfl, h76⟩ := hr76
                              have h76 : absP σ76 (tk0 Xt) F (psh Kt nt Xt) (min (nt + 1) 5) (M + 60 * k + 60) := h76
                              refine cw_top (nI ht7) rfl ?_
                              refine cw_iload (pc := 269) C dL_ticks_269 5 rfl ?_
                              refine cw_icmp_le (pc := 271) (tgt := 278) C dL_ticks_271 (by decide) (fun h271 => ?_) (fun h271 => ?_)
                              · -- 271 t
                                have h271 : ht7 ≤ ht7 := (nc_le (a := ht7) (b := ht7) (by omega) (by omega)).mp h271
                                refine cw_iconst (pc := 278) C dL_ticks_278 (nI 0) (by decide) ?_
                                refine cw_istore (pc := 279) C dL_ticks_279 (by decide) (lv' := [(14, .int (nI 0)), (13, .int (nI 1)), (12, .int (nI (hd - 1))), (11, .int (nI i)), (10, .int ((-5))), (9, .int (Xt 40)), (8, .int (nI ht7)), (7, .int (Xt 43)), (6, .int (nI hd)), (5, .int (nI to)), (4, .int (nI i)), (3, .int (v)), (0, .ref (A 0)), (1, .int (x)), (2, .int (nI k))]) rfl ?_
                                refine cw_aload_n (pc := 281) C dL_ticks_281 rfl 12 rfl ?_
                                refine cw_iconst (pc := 282) C dL_ticks_282 (nI 2) (by decide) ?_
                                refine cw_calli (pc := 283) C dL_ticks_283 (w_state l D Z A σ76 (tk0 Xt) F (psh Kt nt Xt) (min (nt + 1) 5) (M + 60 * k + 60) (nI 2) h76) (cwV 1 C.1.2.2.2.2 gL_ticks_X6_state rfl rfl rfl (by decide +kernel) ⟨Nat.le_of_ble_eq_true rfl, Nat.le_of_ble_eq_true rfl⟩) 0 rfl rfl rfl rfl (Nat.le_of_ble_eq_true rfl) (fun r77 σ77 hr77 => ?_)
                                rw [(saA_k (k := 2) (by omega)).trans (congrArg Sum.inl y41)] at hr77
                                obtain ⟨rfl, h77⟩ := hr77
                                have h77 : absP σ77 (tk0 Xt) F (psh Kt nt Xt) (min (nt + 1) 5) (M + 60 * k + 60) := h77
                                refine cw_top (nI (hd - 1)) rfl ?_
                                refine cw_iload (pc := 286) C dL_ticks_286 0 rfl ?_
                                refine cw_if_eq (pc := 288) (tgt := 296) C dL_ticks_288 (by decide) (fun _ => ?_) (fun h => False.elim (by revert h; decide))
                                refine cw_iload (pc := 296) C dL_ticks_296 2 rfl ?_
                                refine cw_icmp_ne (pc := 298) (tgt := 360) C dL_ticks_298 (by decide) (fun h298 => ?_) (fun h298 => ?_)
                                · -- 298 t
                                  have h298 : ¬ (hd - 1) = (hd - 1) := (nc_ne (a := hd - 1) (b := hd - 1) (by omega) (by omega)).mp h298
                                  exact absurd h298 (by omega)
                                · -- 298 f
                                  have h298 : (hd - 1) = (hd - 1) := (nc_eq (a := hd - 1) (b := hd - 1) (by omega) (by omega)).mp h298
                                  refine cw_iload (pc := 301) C dL_ticks_301 0 rfl ?_
                                  refine cw_if_eq (pc := 303) (tgt := 336) C dL_ticks_303 (by decide) (fun _ => ?_) (fun h => False.elim (by revert h; decide))
                                  refine cw_iload (pc := 336) C dL_ticks_336 3 rfl ?_
                                  refine cw_iload (pc := 338) C dL_ticks_338 10 rfl ?_
                                  refine cw_icmp_le (pc := 340) (tgt := 362) C dL_ticks_340 (by decide) (fun h340 => ?_) (fun h340 => ?_)
                                  · -- 340 t
                                    have h340 : i ≤ i := (nc_le (a := i) (b := i) (by omega) (by omega)).mp h340
                                    refine cw_iload (pc := 362) C dL_ticks_362 10 rfl ?_
                                    refine cw_if_le (pc := 364) (tgt := 386) C dL_ticks_364 (by decide) (fun h364 => ?_) (fun h364 => ?_)
                                    · -- 364 t
                                      have h364 : i ≤ 0 := (nc_le (a := i) (b := 0) (by omega) (by omega)).mp h364
                                      exact absurd h364 (by omega)
                                    · -- 364 f
                                      have h364 : ¬ (i ≤ 0) := fun qq => h364 ((nc_le (a := i) (b := 0) (by omega) (by omega)).mpr qq)
                                      refine cw_iload (pc := 367) C dL_ticks_367 9 rfl ?_
                                      refine cw_iload (pc := 369) C dL_ticks_369 10 rfl ?_
                                      refine cw_icmp_ne (pc := 371) (tgt := 386) C dL_ticks_371 (by decide) (fun h371 => ?_) (fun h371 => ?_)
                                      · -- 371 t
                                        have h371 : ¬ to = i := (nc_ne (a := to) (b := i) (by omega) (by omega)).mp h371
                                        refine cw_iinc (pc := 386) C dL_ticks_386 14 rfl (nI (k + 1)) (nI_inc _ 1) (by decide) (lv' := [(2, .int (nI (k + 1))), (14, .int (nI 0)), (13, .int (nI 1)), (12, .int (nI (hd - 1))), (11, .int (nI i)), (10, .int ((-5))), (9, .int (Xt 40)), (8, .int (nI ht7)), (7, .int (Xt 43)), (6, .int (nI hd)), (5, .int (nI to)), (4, .int (nI i)), (3, .int (v)), (0, .ref (A 0)), (1, .int (x))]) rfl ?_
                                        refine cw_goto (pc := 389) (tgt := 2) C dL_ticks_389 (by decide) ?_
                                        refine cw_lv [13, 14, 0] rfl ?_
                                        exact ih2 (k + 1) (tk0 Xt) (psh Kt nt Xt) (min (nt + 1) 5) σ77 (by omega) (by omega) (by rw [show M + 60 * (k + 1) = M + 60 * k + 60 by omega]; exact h77)
                                      · -- 371 f
                                        have h371 : to = i := (nc_eq (a := to) (b := i) (by omega) (by omega)).mp h371
                                        exact absurd h371 (by omega)
                                  · -- 340 f
                                    have h340 : ¬ (i ≤ i) := fun qq => h340 ((nc_le (a := i) (b := i) (by omega) (by omega)).mpr qq)
                                    exact absurd h340 (by omega)
                              · -- 271 f
                                have h271 : ¬ (ht7 ≤ ht7) := fun qq => h271 ((nc_le (a := ht7) (b := ht7) (by omega) (by omega)).mpr qq)
                                exact absurd h271 (by omega)
          · -- case 4
            have yin : inN Y = to := inN_of y39 (by omega)
            rw [ht72] at y46
            have fi : fitN Xt i = true := hfi.resolve_left q0
            have fo : fitN Xt to = true := hft.resolve_left (by omega)
            have qn : ¬ i = to := by omega
            refine cw_iload (pc := 84) C dL_ticks_84 5 rfl ?_
            refine cw_if_le (pc := 86) (tgt := 108) C dL_ticks_86 (by decide) (fun h86 => ?_) (fun h86 => ?_)
            · -- 86 t
              have h86 : i ≤ 0 := (nc_le (a := i) (b := 0) (by omega) (by omega)).mp h86
              exact absurd h86 (by omega)
            · -- 86 f
              have h86 : ¬ (i ≤ 0) := fun qq => h86 ((nc_le (a := i) (b := 0) (by omega) (by omega)).mpr qq)
              refine cw_iload (pc := 89) C dL_ticks_89 4 rfl ?_
              refine cw_iload (pc := 91) C dL_ticks_91 5 rfl ?_
              refine cw_icmp_eq (pc := 93) (tgt := 108) C dL_ticks_93 (by decide) (fun h93 => ?_) (fun h93 => ?_)
              · -- 93 t
                have h93 : to = i := (nc_eq (a := to) (b := i) (by omega) (by omega)).mp h93
                exact absurd h93 (by omega)
              · -- 93 f
                have h93 : ¬ (to = i) := fun qq => h93 ((nc_eq (a := to) (b := i) (by omega) (by omega)).mpr qq)
                refine cw_aload_n (pc := 96) C dL_ticks_96 rfl 7 rfl ?_
                refine cw_iload (pc := 97) C dL_ticks_97 5 rfl ?_
                refine cw_iload (pc := 99) C dL_ticks_99 4 rfl ?_
                refine cw_iconst (pc := 101) C dL_ticks_101 (-1) (by decide) ?_
                refine cw_calli (pc := 102) C dL_ticks_102 (w_way l D Z A σ6 Xt F Kt nt (M + 60 * k) (nI i) (nI to) (-1) h6) (cwV 3 C.1.2.2.2.2 gL_ticks_X6_way rfl rfl rfl (by decide +kernel) ⟨Nat.le_of_ble_eq_true rfl, Nat.le_of_ble_eq_true rfl⟩) 0 rfl rfl rfl rfl (Nat.le_of_ble_eq_true rfl) (fun r78 σ78 hr78 => ?_)
                rw [wyA_some fi fo qn (by omega)] at hr78
                obtain ⟨rfl, h78⟩ := hr78
                have h78 : absP σ78 Xt F Kt nt (M + 60 * k) := h78
                refine cw_top (nI (wyN Xt i to)) rfl ?_
                refine cw_goto (pc := 105) (tgt := 109) C dL_ticks_105 (by decide) ?_
                refine cw_istore (pc := 109) C dL_ticks_109 (by decide) (lv' := [(10, .int (nI (wyN Xt i to))), (9, .int (Xt 40)), (8, .int (nI ht7)), (7, .int (Xt 43)), (6, .int (nI hd)), (5, .int (nI to)), (4, .int (nI i)), (3, .int (v)), (0, .ref (A 0)), (1, .int (x)), (2, .int (nI k))]) rfl ?_
                refine cw_aload_n (pc := 111) C dL_ticks_111 rfl 8 rfl ?_
                refine cw_iload_n (pc := 112) C dL_ticks_112 rfl 7 rfl ?_
                refine cw_iconst (pc := 113) C dL_ticks_113 (nI 1) (by decide) ?_
                refine cw_calli (pc := 114) C dL_ticks_114 (w_drives l D Z A σ78 Xt F Kt nt (M + 60 * k) v (nI 1) h78) (cwV 2 C.1.2.2.2.2 gL_ticks_X6_drives rfl rfl rfl (by decide +kernel) ⟨Nat.le_of_ble_eq_true rfl, Nat.le_of_ble_eq_true rfl⟩) 0 rfl rfl rfl rfl (Nat.le_of_ble_eq_true rfl) (fun r79 σ79 hr79 => ?_)
                obtain ⟨rfl, h79⟩ := chP_ok (v := nI to) (Y := Y) hr79 (hdr1.trans (congrArg nI yin)) (nI_pos' (by omega)) hdr2
                refine cw_istore (pc := 117) C dL_ticks_117 (by decide) (lv' := [(11, .int (nI to)), (10, .int (nI (wyN Xt i to))), (9, .int (Xt 40)), (8, .int (nI ht7)), (7, .int (Xt 43)), (6, .int (nI hd)), (5, .int (nI to)), (4, .int (nI i)), (3, .int (v)), (0, .ref (A 0)), (1, .int (x)), (2, .int (nI k))]) rfl ?_
                refine cw_iload (pc := 119) C dL_ticks_119 5 rfl ?_
                refine cw_if_le (pc := 121) (tgt := 131) C dL_ticks_121 (by decide) (fun h121 => ?_) (fun h121 => ?_)
                · -- 121 t
                  have h121 : hd ≤ 0 := (nc_le (a := hd) (b := 0) (by omega) (by omega)).mp h121
                  refine cw_iconst (pc := 131) C dL_ticks_131 (nI 0) (by decide) ?_
                  refine cw_istore (pc := 132) C dL_ticks_132 (by decide) (lv' := [(12, .int (nI 0)), (11, .int (nI to)), (10, .int (nI (wyN Xt i to))), (9, .int (Xt 40)), (8, .int (nI ht7)), (7, .int (Xt 43)), (6, .int (nI hd)), (5, .int (nI to)), (4, .int (nI i)), (3, .int (v)), (0, .ref (A 0)), (1, .int (x)), (2, .int (nI k))]) rfl ?_
                  refine cw_iload (pc := 134) C dL_ticks_134 8 rfl ?_
                  refine cw_if_le (pc := 136) (tgt := 167) C dL_ticks_136 (by decide) (fun h136 => ?_) (fun h136 => ?_)
                  · -- 136 t
                    have h136 : i ≤ 0 := (nc_le (a := i) (b := 0) (by omega) (by omega)).mp h136
                    exact absurd h136 (by omega)
                  · -- 136 f
                    have h136 : ¬ (i ≤ 0) := fun qq => h136 ((nc_le (a := i) (b := 0) (by omega) (by omega)).mpr qq)
                    refine cw_iload (pc := 139) C dL_ticks_139 7 rfl ?_
                    refine cw_iload (pc := 141) C dL_ticks_141 8 rfl ?_
                    refine cw_icmp_eq (pc := 143) (tgt := 163) C dL_ticks_143 (by decide) (fun h143 => ?_) (fun h143 => ?_)
                    · -- 143 t
                      have h143 : to = i := (nc_eq (a := to) (b := i) (by omega) (by omega)).mp h143
                      exact absurd h143 (by omega)
                    · -- 143 f
                      have h143 : ¬ (to = i) := fun qq => h143 ((nc_eq (a := to) (b := i) (by omega) (by omega)).mpr qq)
                      refine cw_iload (pc := 146) C dL_ticks_146 7 rfl ?_
                      refine cw_iload (pc := 148) C dL_ticks_148 8 rfl ?_
                      refine cw_icmp_le (pc := 150) (tgt := 158) C dL_ticks_150 (by decide) (fun h150 => ?_) (fun h150 => ?_)
                      · -- 150 t
                        have h150 : to ≤ i := (nc_le (a := to) (b := i) (by omega) (by omega)).mp h150
                        exact absurd h150 (by omega)
                      · -- 150 f
                        have h150 : ¬ (to ≤ i) := fun qq => h150 ((nc_le (a := to) (b := i) (by omega) (by omega)).mpr qq)
                        refine cw_iload (pc := 153) C dL_ticks_153 0 rfl ?_
                        refine cw_if_gt (pc := 155) (tgt := 163) C dL_ticks_155 (by decide) (fun h => False.elim (by revert h; decide)) (fun _ => ?_)
                        refine cw_iload (pc := 158) C dL_ticks_158 2 rfl ?_
                        refine cw_if_ge (pc := 160) (tgt := 167) C dL_ticks_160 (by decide) (fun h160 => ?_) (fun h160 => ?_)
                        · -- 160 t
                          have h160 : 0 ≤ (wyN Xt i to) := (nc_ge (a := wyN Xt i to) (b := 0) (by omega) (by omega)).mp h160
                          refine cw_iconst (pc := 167) C dL_ticks_167 (nI 0) (by decide) ?_
                          refine cw_istore (pc := 168) C dL_ticks_168 (by decide) (lv' := [(13, .int (nI 0)), (12, .int (nI 0)), (11, .int (nI to)), (10, .int (nI (wyN Xt i to))), (9, .int (Xt 40)), (8, .int (nI ht7)), (7, .int (Xt 43)), (6, .int (nI hd)), (5, .int (nI to)), (4, .int (nI i)), (3, .int (v)), (0, .ref (A 0)), (1, .int (x)), (2, .int (nI k))]) rfl ?_
                          refine cw_iload (pc := 170) C dL_ticks_170 2 rfl ?_
                          refine cw_iload (pc := 172) C dL_ticks_172 0 rfl ?_
                          refine cw_if_eq (pc := 174) (tgt := 182) C dL_ticks_174 (by decide) (fun _ => ?_) (fun h => False.elim (by revert h; decide))
                          refine cw_iload (pc := 182) C dL_ticks_182 8 rfl ?_
                          refine cw_icmp_ne (pc := 184) (tgt := 261) C dL_ticks_184 (by decide) (fun h184 => ?_) (fun h184 => ?_)
                          · -- 184 t
                            have h184 : ¬ to = to := (nc_ne (a := to) (b := to) (by omega) (by omega)).mp h184
                            exact absurd h184 (by omega)
                          · -- 184 f
                            have h184 : to = to := (nc_eq (a := to) (b := to) (by omega) (by omega)).mp h184
                            refine cw_aload_n (pc := 187) C dL_ticks_187 rfl 11 rfl ?_
                            refine cw_iconst (pc := 188) C dL_ticks_188 (nI 0) (by decide) ?_
                            refine cw_calli (pc := 189) C dL_ticks_189 (w_state l D Z A σ79 Y F (psh Kt nt Xt) (min (nt + 1) 5) (M + 60 * k + 60) (nI 0) h79) (cwV 1 C.1.2.2.2.2 gL_ticks_X6_state rfl rfl rfl (by decide +kernel) ⟨Nat.le_of_ble_eq_true rfl, Nat.le_of_ble_eq_true rfl⟩) 0 rfl rfl rfl rfl (Nat.le_of_ble_eq_true rfl) (fun r80 σ80 hr80 => ?_)
                            rw [(saA_k (k := 0) (by omega)).trans (congrArg Sum.inl y39)] at hr80
                            obtain ⟨rfl, h80⟩ := hr80
                            have h80 : absP σ80 Y F (psh Kt nt Xt) (min (nt + 1) 5) (M + 60 * k + 60) := h80
                            refine cw_top (nI to) rfl ?_
                            refine cw_iload (pc := 192) C dL_ticks_192 2 rfl ?_
                            refine cw_icmp_ne (pc := 194) (tgt := 261) C dL_ticks_194 (by decide) (fun h194 => ?_) (fun h194 => ?_)
                            · -- 194 t
                              have h194 : ¬ to = to := (nc_ne (a := to) (b := to) (by omega) (by omega)).mp h194
                              exact absurd h194 (by omega)
                            · -- 194 f
                              have h194 : to = to := (nc_eq (a := to) (b := to) (by omega) (by omega)).mp h194
                              refine cw_aload_n (pc := 197) C dL_ticks_197 rfl 11 rfl ?_
                              refine cw_iconst (pc := 198) C dL_ticks_198 (nI 1) (by decide) ?_
                              refine cw_calli (pc := 199) C dL_ticks_199 (w_state l D Z A σ80 Y F (psh Kt nt Xt) (min (nt + 1) 5) (M + 60 * k + 60) (nI 1) h80) (cwV 1 C.1.2.2.2.2 gL_ticks_X6_state rfl rfl rfl (by decide +kernel) ⟨Nat.le_of_ble_eq_true rfl, Nat.le_of_ble_eq_true rfl⟩) 0 rfl rfl rfl rfl (Nat.le_of_ble_eq_true rfl) (fun r81 σ81 hr81 => ?_)
                              rw [(saA_k (k := 1) (by omega)).trans (congrArg Sum.inl htm)] at hr81
                              obtain ⟨rfl, h81⟩ := hr81
                              have h81 : absP σ81 Y F (psh Kt nt Xt) (min (nt + 1) 5) (M + 60 * k + 60) := h81
                              refine cw_top (Xt 40 + nI 1) rfl ?_
                              refine cw_iload (pc := 202) C dL_ticks_202 4 rfl ?_
                              refine cw_iconst (pc := 204) C dL_ticks_204 (nI 1) (by decide) ?_
                              refine cw_iadd (pc := 205) C dL_ticks_205 (z := (Xt 40) + (nI 1)) rfl ?_
                              refine cw_icmp_ne (pc := 206) (tgt := 261) C dL_ticks_206 (by decide) (fun h206 => absurd rfl h206) (fun h206 => ?_)
                              refine cw_aload_n (pc := 209) C dL_ticks_209 rfl 11 rfl ?_
                              refine cw_iconst (pc := 210) C dL_ticks_210 (nI 4) (by decide) ?_
                              refine cw_calli (pc := 211) C dL_ticks_211 (w_state l D Z A σ81 Y F (psh Kt nt Xt) (min (nt + 1) 5) (M + 60 * k + 60) (nI 4) h81) (cwV 1 C.1.2.2.2.2 gL_ticks_X6_state rfl rfl rfl (by decide +kernel) ⟨Nat.le_of_ble_eq_true rfl, Nat.le_of_ble_eq_true rfl⟩) 0 rfl rfl rfl rfl (Nat.le_of_ble_eq_true rfl) (fun r82 σ82 hr82 => ?_)
                              rw [(saA_k (k := 4) (by omega)).trans (congrArg Sum.inl y43)] at hr82
                              obtain ⟨rfl, h82⟩ := hr82
                              have h82 : absP σ82 Y F (psh Kt nt Xt) (min (nt + 1) 5) (M + 60 * k + 60) := h82
                              refine cw_top (Xt 43 + nI (wyN Xt i to)) rfl ?_
                              refine cw_iload (pc := 214) C dL_ticks_214 6 rfl ?_
                              refine cw_iload (pc := 216) C dL_ticks_216 0 rfl ?_
                              refine cw_if_ne (pc := 218) (tgt := 226) C dL_ticks_218 (by decide) (fun h => False.elim (by revert h; decide)) (fun _ => ?_)
                              refine cw_iload (pc := 221) C dL_ticks_221 9 rfl ?_
                              refine cw_if_ne (pc := 223) (tgt := 230) C dL_ticks_223 (by decide) (fun h223 => ?_) (fun h223 => ?_)
                              · -- 223 t
                                have h223 : ¬ i = 0 := (nc_ne (a := i) (b := 0) (by omega) (by omega)).mp h223
                                refine cw_iload (pc := 230) C dL_ticks_230 3 rfl ?_
                                refine cw_iadd (pc := 232) C dL_ticks_232 (z := Xt 43 + nI (wyN Xt i to)) rfl ?_
                                refine cw_icmp_ne (pc := 233) (tgt := 261) C dL_ticks_233 (by decide) (fun h233 => absurd rfl h233) (fun h233 => ?_)
                                refine cw_aload_n (pc := 236) C dL_ticks_236 rfl 11 rfl ?_
                                refine cw_bipush (pc := 237) C dL_ticks_237 (nI 7) (by decide) ?_
                                refine cw_calli (pc := 239) C dL_ticks_239 (w_state l D Z A σ82 Y F (psh Kt nt Xt) (min (nt + 1) 5) (M + 60 * k + 60) (nI 7) h82) (cwV 1 C.1.2.2.2.2 gL_ticks_X6_state rfl rfl rfl (by decide +kernel) ⟨Nat.le_of_ble_eq_true rfl, Nat.le_of_ble_eq_true rfl⟩) 0 rfl rfl rfl rfl (Nat.le_of_ble_eq_true rfl) (fun r83 σ83 hr83 => ?_)
                                rw [(saA_k (k := 7) (by omega)).trans (congrArg Sum.inl y46)] at hr83
                                obtain ⟨rfl, h83⟩ := hr83
                                have h83 : absP σ83 Y F (psh Kt nt Xt) (min (nt + 1) 5) (M + 60 * k + 60) := h83
                                refine cw_top (nI ht7) rfl ?_
                                refine cw_iload (pc := 242) C dL_ticks_242 5 rfl ?_
                                refine cw_isub (pc := 244) C dL_ticks_244 (z := nI 0) ((pk_sub (by omega)).trans (congrArg nI (by omega))) ?_
                                refine cw_if_lt (pc := 245) (tgt := 261) C dL_ticks_245 (by decide) (fun h => False.elim (by revert h; decide)) (fun _ => ?_)
                                refine cw_aload_n (pc := 248) C dL_ticks_248 rfl 11 rfl ?_
                                refine cw_bipush (pc := 249) C dL_ticks_249 (nI 7) (by decide) ?_
                                refine cw_calli (pc := 251) C dL_ticks_251 (w_state l D Z A σ83 Y F (psh Kt nt Xt) (min (nt + 1) 5) (M + 60 * k + 60) (nI 7) h83) (cwV 1 C.1.2.2.2.2 gL_ticks_X6_state rfl rfl rfl (by decide +kernel) ⟨Nat.le_of_ble_eq_true rfl, Nat.le_of_ble_eq_true rfl⟩) 0 rfl rfl rfl rfl (Nat.le_of_ble_eq_true rfl) (fun r84 σ84 hr84 => ?_)
                                rw [(saA_k (k := 7) (by omega)).trans (congrArg Sum.inl y46)] at hr84
                                obtain ⟨rfl, h84⟩ := hr84
                                have h84 : absP σ84 Y F (psh Kt nt Xt) (min (nt + 1) 5) (M + 60 * k + 60) := h84
                                refine cw_top (nI ht7) rfl ?_
                                refine cw_iload (pc := 254) C dL_ticks_254 5 rfl ?_
                                refine cw_isub (pc := 256) C dL_ticks_256 (z := nI 0) ((pk_sub (by omega)).trans (congrArg nI (by omega))) ?_
                                refine cw_iconst (pc := 257) C dL_ticks_257 (nI 1) (by decide) ?_
                                refine cw_icmp_le (pc := 258) (tgt := 263) C dL_ticks_258 (by decide) (fun _ => ?_) (fun h => False.elim (by revert h; decide))
                                refine cw_aload_n (pc := 263) C dL_ticks_263 rfl 11 rfl ?_
                                refine cw_bipush (pc := 264) C dL_ticks_264 (nI 7) (by decide) ?_
                                refine cw_calli (pc := 266) C dL_ticks_266 (w_state l D Z A σ84 Y F (psh Kt nt Xt) (min (nt + 1) 5) (M + 60 * k + 60) (nI 7) h84) (cwV 1 C.1.2.2.2.2 gL_ticks_X6_state rfl rfl rfl (by decide +kernel) ⟨Nat.le_of_ble_eq_true rfl, Nat.le_of_ble_eq_true rfl⟩) 0 rfl rfl rfl rfl (Nat.le_of_ble_eq_true rfl) (fun r85 σ85 hr85 => ?_)
                                rw [(saA_k (k := 7) (by omega)).trans (congrArg Sum.inl y46)] at hr85
                                obtain ⟨rfl, h85⟩ := hr85
                                have h85 : absP σ85 Y F (psh Kt nt Xt) (min (nt + 1) 5) (M + 60 * k + 60) := h85
                                refine cw_top (nI ht7) rfl ?_
                                refine cw_iload (pc := 269) C dL_ticks_269 5 rfl ?_
                                refine cw_icmp_le (pc := 271) (tgt := 278) C dL_ticks_271 (by decide) (fun h271 => ?_) (fun h271 => ?_)
                                · -- 271 t
                                  have h271 : ht7 ≤ ht7 := (nc_le (a := ht7) (b := ht7) (by omega) (by omega)).mp h271
                                  refine cw_iconst (pc := 278) C dL_ticks_278 (nI 0) (by decide) ?_
                                  refine cw_istore (pc := 279) C dL_ticks_279 (by decide) (lv' := [(14, .int (nI 0)), (13, .int (nI 0)), (12, .int (nI 0)), (11, .int (nI to)), (10, .int (nI (wyN Xt i to))), (9, .int (Xt 40)), (8, .int (nI ht7)), (7, .int (Xt 43)), (6, .int (nI hd)), (5, .int (nI to)), (4, .int (nI i)), (3, .int (v)), (0, .ref (A 0)), (1, .int (x)), (2, .int (nI k))]) rfl ?_
                                  refine cw_aload_n (pc := 281) C dL_ticks_281 rfl 12 rfl ?_
                                  refine cw_iconst (pc := 282) C dL_ticks_282 (nI 2) (by decide) ?_
                                  refine cw_calli (pc := 283) C dL_ticks_283 (w_state l D Z A σ85 Y F (psh Kt nt Xt) (min (nt + 1) 5) (M + 60 * k + 60) (nI 2) h85) (cwV 1 C.1.2.2.2.2 gL_ticks_X6_state rfl rfl rfl (by decide +kernel) ⟨Nat.le_of_ble_eq_true rfl, Nat.le_of_ble_eq_true rfl⟩) 0 rfl rfl rfl rfl (Nat.le_of_ble_eq_true rfl) (fun r86 σ86 hr86 => ?_)
                                  rw [(saA_k (k := 2) (by omega)).trans (congrArg Sum.inl y41)] at hr86
                                  obtain ⟨rfl, h86⟩ := hr86
                                  have h86 : absP σ86 Y F (psh Kt nt Xt) (min (nt + 1) 5) (M + 60 * k + 60) := h86
                                  refine cw_top (nI 0) rfl ?_
                                  refine cw_iload (pc := 286) C dL_ticks_286 0 rfl ?_
                                  refine cw_if_eq (pc := 288) (tgt := 296) C dL_ticks_288 (by decide) (fun _ => ?_) (fun h => False.elim (by revert h; decide))
                                  refine cw_iload (pc := 296) C dL_ticks_296 2 rfl ?_
                                  refine cw_icmp_ne (pc := 298) (tgt := 360) C dL_ticks_298 (by decide) (fun h => False.elim (by revert h; decide)) (fun _ => ?_)
                                  refine cw_iload (pc := 301) C dL_ticks_301 0 rfl ?_
                                  refine cw_if_eq (pc := 303) (tgt := 336) C dL_ticks_303 (by decide) (fun _ => ?_) (fun h => False.elim (by revert h; decide))
                                  refine cw_iload (pc := 336) C dL_ticks_336 3 rfl ?_
                                  refine cw_iload (pc := 338) C dL_ticks_338 10 rfl ?_
                                  refine cw_icmp_le (pc := 340) (tgt := 362) C dL_ticks_340 (by decide) (fun h340 => ?_) (fun h340 => ?_)
                                  · -- 340 t
                                    have h340 : to ≤ i := (nc_le (a := to) (b := i) (by omega) (by omega)).mp h340
                                    exact absurd h340 (by omega)
                                  · -- 340 f
                                    have h340 : ¬ (to ≤ i) := fun qq => h340 ((nc_le (a := to) (b := i) (by omega) (by omega)).mpr qq)
                                    refine cw_iload (pc := 343) C dL_ticks_343 10 rfl ?_
                                    refine cw_if_le (pc := 345) (tgt := 362) C dL_ticks_345 (by decide) (fun h345 => ?_) (fun h345 => ?_)
                                    · -- 345 t
                                      have h345 : i ≤ 0 := (nc_le (a := i) (b := 0) (by omega) (by omega)).mp h345
                                      exact absurd h345 (by omega)
                                    · -- 345 f
                                      have h345 : ¬ (i ≤ 0) := fun qq => h345 ((nc_le (a := i) (b := 0) (by omega) (by omega)).mpr qq)
                                      refine cw_aload_n (pc := 348) C dL_ticks_348 rfl 12 rfl ?_
                                      refine cw_iconst (pc := 349) C dL_ticks_349 (nI 3) (by decide) ?_
                                      refine cw_calli (pc := 350) C dL_ticks_350 (w_state l D Z A σ86 Y F (psh Kt nt Xt) (min (nt + 1) 5) (M + 60 * k + 60) (nI 3) h86) (cwV 1 C.1.2.2.2.2 gL_ticks_X6_state rfl rfl rfl (by decide +kernel) ⟨Nat.le_of_ble_eq_true rfl, Nat.le_of_ble_eq_true rfl⟩) 0 rfl rfl rfl rfl (Nat.le_of_ble_eq_true rfl) (fun r87 σ87 hr87 => ?_)
                                      rw [(saA_k (k := 3) (by omega)).trans (congrArg Sum.inl y42)] at hr87
                                      obtain ⟨rfl, h87⟩ := hr87
                                      have h87 : absP σ87 Y F (psh Kt nt Xt) (min (nt + 1) 5) (M + 60 * k + 60) := h87
                                      refine cw_top (Xt 40 + nI 1) rfl ?_
                                      refine cw_iload (pc := 353) C dL_ticks_353 5 rfl ?_
                                      refine cw_iconst (pc := 355) C dL_ticks_355 (nI 1) (by decide) ?_
                                      refine cw_iadd (pc := 356) C dL_ticks_356 (z := (Xt 40) + (nI 1)) rfl ?_
                                      refine cw_icmp_eq (pc := 357) (tgt := 362) C dL_ticks_357 (by decide) (fun h357 => ?_) (fun h357 => absurd rfl h357)
                                      refine cw_iload (pc := 362) C dL_ticks_362 10 rfl ?_
                                      refine cw_if_le (pc := 364) (tgt := 386) C dL_ticks_364 (by decide) (fun h364 => ?_) (fun h364 => ?_)
                                      · -- 364 t
                                        have h364 : i ≤ 0 := (nc_le (a := i) (b := 0) (by omega) (by omega)).mp h364
                                        exact absurd h364 (by omega)
                                      · -- 364 f
                                        have h364 : ¬ (i ≤ 0) := fun qq => h364 ((nc_le (a := i) (b := 0) (by omega) (by omega)).mpr qq)
                                        refine cw_iload (pc := 367) C dL_ticks_367 9 rfl ?_
                                        refine cw_iload (pc := 369) C dL_ticks_369 10 rfl ?_
                                        refine cw_icmp_ne (pc := 371) (tgt := 386) C dL_ticks_371 (by decide) (fun h371 => ?_) (fun h371 => ?_)
                                        · -- 371 t
                                          have h371 : ¬ to = i := (nc_ne (a := to) (b := i) (by omega) (by omega)).mp h371
                                          refine cw_iinc (pc := 386) C dL_ticks_386 14 rfl (nI (k + 1)) (nI_inc _ 1) (by decide) (lv' := [(2, .int (nI (k + 1))), (14, .int (nI 0)), (13, .int (nI 0)), (12, .int (nI 0)), (11, .int (nI to)), (10, .int (nI (wyN Xt i to))), (9, .int (Xt 40)), (8, .int (nI ht7)), (7, .int (Xt 43)), (6, .int (nI hd)), (5, .int (nI to)), (4, .int (nI i)), (3, .int (v)), (0, .ref (A 0)), (1, .int (x))]) rfl ?_
                                          refine cw_goto (pc := 389) (tgt := 2) C dL_ticks_389 (by decide) ?_
                                          refine cw_lv [13, 14, 0] rfl ?_
                                          exact ih2 (k + 1) Y (psh Kt nt Xt) (min (nt + 1) 5) σ87 (by omega) (by omega) (by rw [show M + 60 * (k + 1) = M + 60 * k + 60 by omega]; exact h87)
                                        · -- 371 f
                                          have h371 : to = i := (nc_eq (a := to) (b := i) (by omega) (by omega)).mp h371
                                          exact absurd h371 (by omega)
                                · -- 271 f
                                  have h271 : ¬ (ht7 ≤ ht7) := fun qq => h271 ((nc_le (a := ht7) (b := ht7) (by omega) (by omega)).mpr qq)
                                  exact absurd h271 (by omega)
                              · -- 223 f
                                have h223 : i = 0 := (nc_eq (a := i) (b := 0) (by omega) (by omega)).mp h223
                                exact absurd h223 (by omega)
                        · -- 160 f
                          have h160 : ¬ (0 ≤ (wyN Xt i to)) := fun qq => h160 ((nc_ge (a := wyN Xt i to) (b := 0) (by omega) (by omega)).mpr qq)
                          exact absurd h160 (by omega)
                · -- 121 f
                  have h121 : ¬ (hd ≤ 0) := fun qq => h121 ((nc_le (a := hd) (b := 0) (by omega) (by omega)).mpr qq)
                  refine cw_iload (pc := 124) C dL_ticks_124 5 rfl ?_
                  refine cw_iconst (pc := 126) C dL_ticks_126 (nI 1) (by decide) ?_
                  refine cw_isub (pc := 127) C dL_ticks_127 (z := nI (hd - 1)) (pk_sub (by omega)) ?_
                  refine cw_goto (pc := 128) (tgt := 132) C dL_ticks_128 (by decide) ?_
                  refine cw_istore (pc := 132) C dL_ticks_132 (by decide) (lv' := [(12, .int (nI (hd - 1))), (11, .int (nI to)), (10, .int (nI (wyN Xt i to))), (9, .int (Xt 40)), (8, .int (nI ht7)), (7, .int (Xt 43)), (6, .int (nI hd)), (5, .int (nI to)), (4, .int (nI i)), (3, .int (v)), (0, .ref (A 0)), (1, .int (x)), (2, .int (nI k))]) rfl ?_
                  refine cw_iload (pc := 134) C dL_ticks_134 8 rfl ?_
                  refine cw_if_le (pc := 136) (tgt := 167) C dL_ticks_136 (by decide) (fun h136 => ?_) (fun h136 => ?_)
                  · -- 136 t
                    have h136 : i ≤ 0 := (nc_le (a := i) (b := 0) (by omega) (by omega)).mp h136
                    exact absurd h136 (by omega)
                  · -- 136 f
                    have h136 : ¬ (i ≤ 0) := fun qq => h136 ((nc_le (a := i) (b := 0) (by omega) (by omega)).mpr qq)
                    refine cw_iload (pc := 139) C dL_ticks_139 7 rfl ?_
                    refine cw_iload (pc := 141) C dL_ticks_141 8 rfl ?_
                    refine cw_icmp_eq (pc := 143) (tgt := 163) C dL_ticks_143 (by decide) (fun h143 => ?_) (fun h143 => ?_)
                    · -- 143 t
                      have h143 : to = i := (nc_eq (a := to) (b := i) (by omega) (by omega)).mp h143
                      exact absurd h143 (by omega)
                    · -- 143 f
                      have h143 : ¬ (to = i) := fun qq => h143 ((nc_eq (a := to) (b := i) (by omega) (by omega)).mpr qq)
                      refine cw_iload (pc := 146) C dL_ticks_146 7 rfl ?_
                      refine cw_iload (pc := 148) C dL_ticks_148 8 rfl ?_
                      refine cw_icmp_le (pc := 150) (tgt := 158) C dL_ticks_150 (by decide) (fun h150 => ?_) (fun h150 => ?_)
                      · -- 150 t
                        have h150 : to ≤ i := (nc_le (a := to) (b := i) (by omega) (by omega)).mp h150
                        exact absurd h150 (by omega)
                      · -- 150 f
                        have h150 : ¬ (to ≤ i) := fun qq => h150 ((nc_le (a := to) (b := i) (by omega) (by omega)).mpr qq)
                        refine cw_iload (pc := 153) C dL_ticks_153 0 rfl ?_
                        refine cw_if_gt (pc := 155) (tgt := 163) C dL_ticks_155 (by decide) (fun h155 => ?_) (fun h155 => ?_)
                        · -- 155 t
                          have h155 : 0 < (hd - 1) := (nc_gt (a := hd - 1) (b := 0) (by omega) (by omega)).mp h155
                          exact absurd h155 (by omega)
                        · -- 155 f
                          have h155 : ¬ (0 < (hd - 1)) := fun qq => h155 ((nc_gt (a := hd - 1) (b := 0) (by omega) (by omega)).mpr qq)
                          refine cw_iload (pc := 158) C dL_ticks_158 2 rfl ?_
                          refine cw_if_ge (pc := 160) (tgt := 167) C dL_ticks_160 (by decide) (fun h160 => ?_) (fun h160 => ?_)
                          · -- 160 t
                            have h160 : 0 ≤ (wyN Xt i to) := (nc_ge (a := wyN Xt i to) (b := 0) (by omega) (by omega)).mp h160
                            refine cw_iconst (pc := 167) C dL_ticks_167 (nI 0) (by decide) ?_
                            refine cw_istore (pc := 168) C dL_ticks_168 (by decide) (lv' := [(13, .int (nI 0)), (12, .int (nI (hd - 1))), (11, .int (nI to)), (10, .int (nI (wyN Xt i to))), (9, .int (Xt 40)), (8, .int (nI ht7)), (7, .int (Xt 43)), (6, .int (nI hd)), (5, .int (nI to)), (4, .int (nI i)), (3, .int (v)), (0, .ref (A 0)), (1, .int (x)), (2, .int (nI k))]) rfl ?_
                            refine cw_iload (pc := 170) C dL_ticks_170 2 rfl ?_
                            refine cw_iload (pc := 172) C dL_ticks_172 0 rfl ?_
                            refine cw_if_eq (pc := 174) (tgt := 182) C dL_ticks_174 (by decide) (fun _ => ?_) (fun h => False.elim (by revert h; decide))
                            refine cw_iload (pc := 182) C dL_ticks_182 8 rfl ?_
                            refine cw_icmp_ne (pc := 184) (tgt := 261) C dL_ticks_184 (by decide) (fun h184 => ?_) (fun h184 => ?_)
                            · -- 184 t
                              have h184 : ¬ to = to := (nc_ne (a := to) (b := to) (by omega) (by omega)).mp h184
                              exact absurd h184 (by omega)
                            · -- 184 f
                              have h184 : to = to := (nc_eq (a := to) (b := to) (by omega) (by omega)).mp h184
                              refine cw_aload_n (pc := 187) C dL_ticks_187 rfl 11 rfl ?_
                              refine cw_iconst (pc := 188) C dL_ticks_188 (nI 0) (by decide) ?_
                              refine cw_calli (pc := 189) C dL_ticks_189 (w_state l D Z A σ79 Y F (psh Kt nt Xt) (min (nt + 1) 5) (M + 60 * k + 60) (nI 0) h79) (cwV 1 C.1.2.2.2.2 gL_ticks_X6_state rfl rfl rfl (by decide +kernel) ⟨Nat.le_of_ble_eq_true rfl, Nat.le_of_ble_eq_true rfl⟩) 0 rfl rfl rfl rfl (Nat.le_of_ble_eq_true rfl) (fun r88 σ88 hr88 => ?_)
                              rw [(saA_k (k := 0) (by omega)).trans (congrArg Sum.inl y39)] at hr88
                              obtain ⟨rfl, h88⟩ := hr88
                              have h88 : absP σ88 Y F (psh Kt nt Xt) (min (nt + 1) 5) (M + 60 * k + 60) := h88
                              refine cw_top (nI to) rfl ?_
                              refine cw_iload (pc := 192) C dL_ticks_192 2 rfl ?_
                              refine cw_icmp_ne (pc := 194) (tgt := 261) C dL_ticks_194 (by decide) (fun h194 => ?_) (fun h194 => ?_)
                              · -- 194 t
                                have h194 : ¬ to = to := (nc_ne (a := to) (b := to) (by omega) (by omega)).mp h194
                                exact absurd h194 (by omega)
                              · -- 194 f
                                have h194 : to = to := (nc_eq (a := to) (b := to) (by omega) (by omega)).mp h194
                                refine cw_aload_n (pc := 197) C dL_ticks_197 rfl 11 rfl ?_
                                refine cw_iconst (pc := 198) C dL_ticks_198 (nI 1) (by decide) ?_
                                refine cw_calli (pc := 199) C dL_ticks_199 (w_state l D Z A σ88 Y F (psh Kt nt Xt) (min (nt + 1) 5) (M + 60 * k + 60) (nI 1) h88) (cwV 1 C.1.2.2.2.2 gL_ticks_X6_state rfl rfl rfl (by decide +kernel) ⟨Nat.le_of_ble_eq_true rfl, Nat.le_of_ble_eq_true rfl⟩) 0 rfl rfl rfl rfl (Nat.le_of_ble_eq_true rfl) (fun r89 σ89 hr89 => ?_)
                                rw [(saA_k (k := 1) (by omega)).trans (congrArg Sum.inl htm)] at hr89
                                obtain ⟨rfl, h89⟩ := hr89
                                have h89 : absP σ89 Y F (psh Kt nt Xt) (min (nt + 1) 5) (M + 60 * k + 60) := h89
                                refine cw_top (Xt 40 + nI 1) rfl ?_
                                refine cw_iload (pc := 202) C dL_ticks_202 4 rfl ?_
                                refine cw_iconst (pc := 204) C dL_ticks_204 (nI 1) (by decide) ?_
                                refine cw_iadd (pc := 205) C dL_ticks_205 (z := (Xt 40) + (nI 1)) rfl ?_
                                refine cw_icmp_ne (pc := 206) (tgt := 261) C dL_ticks_206 (by decide) (fun h206 => absurd rfl h206) (fun h206 => ?_)
                                refine cw_aload_n (pc := 209) C dL_ticks_209 rfl 11 rfl ?_
                                refine cw_iconst (pc := 210) C dL_ticks_210 (nI 4) (by decide) ?_
                                refine cw_calli (pc := 211) C dL_ticks_211 (w_state l D Z A σ89 Y F (psh Kt nt Xt) (min (nt + 1) 5) (M + 60 * k + 60) (nI 4) h89) (cwV 1 C.1.2.2.2.2 gL_ticks_X6_state rfl rfl rfl (by decide +kernel) ⟨Nat.le_of_ble_eq_true rfl, Nat.le_of_ble_eq_true rfl⟩) 0 rfl rfl rfl rfl (Nat.le_of_ble_eq_true rfl) (fun r90 σ90 hr90 => ?_)
                                rw [(saA_k (k := 4) (by omega)).trans (congrArg Sum.inl y43)] at hr90
                                obtain ⟨rfl, h90⟩ := hr90
                                have h90 : absP σ90 Y F (psh Kt nt Xt) (min (nt + 1) 5) (M + 60 * k + 60) := h90
                                refine cw_top (Xt 43 + nI (wyN Xt i to)) rfl ?_
                                refine cw_iload (pc := 214) C dL_ticks_214 6 rfl ?_
                                refine cw_iload (pc := 216) C dL_ticks_216 0 rfl ?_
                                refine cw_if_ne (pc := 218) (tgt := 226) C dL_ticks_218 (by decide) (fun h => False.elim (by revert h; decide)) (fun _ => ?_)
                                refine cw_iload (pc := 221) C dL_ticks_221 9 rfl ?_
                                refine cw_if_ne (pc := 223) (tgt := 230) C dL_ticks_223 (by decide) (fun h223 => ?_) (fun h223 => ?_)
                                · -- 223 t
                                  have h223 : ¬ i = 0 := (nc_ne (a := i) (b := 0) (by omega) (by omega)).mp h223
                                  refine cw_iload (pc := 230) C dL_ticks_230 3 rfl ?_
                                  refine cw_iadd (pc := 232) C dL_ticks_232 (z := Xt 43 + nI (wyN Xt i to)) rfl ?_
                                  refine cw_icmp_ne (pc := 233) (tgt := 261) C dL_ticks_233 (by decide) (fun h233 => absurd rfl h233) (fun h233 => ?_)
                                  refine cw_aload_n (pc := 236) C dL_ticks_236 rfl 11 rfl ?_
                                  refine cw_bipush (pc := 237) C dL_ticks_237 (nI 7) (by decide) ?_
                                  refine cw_calli (pc := 239) C dL_ticks_239 (w_state l D Z A σ90 Y F (psh Kt nt Xt) (min (nt + 1) 5) (M + 60 * k + 60) (nI 7) h90) (cwV 1 C.1.2.2.2.2 gL_ticks_X6_state rfl rfl rfl (by decide +kernel) ⟨Nat.le_of_ble_eq_true rfl, Nat.le_of_ble_eq_true rfl⟩) 0 rfl rfl rfl rfl (Nat.le_of_ble_eq_true rfl) (fun r91 σ91 hr91 => ?_)
                                  rw [(saA_k (k := 7) (by omega)).trans (congrArg Sum.inl y46)] at hr91
                                  obtain ⟨rfl, h91⟩ := hr91
                                  have h91 : absP σ91 Y F (psh Kt nt Xt) (min (nt + 1) 5) (M + 60 * k + 60) := h91
                                  refine cw_top (nI ht7) rfl ?_
                                  refine cw_iload (pc := 242) C dL_ticks_242 5 rfl ?_
                                  refine cw_isub (pc := 244) C dL_ticks_244 (z := nI 0) ((pk_sub (by omega)).trans (congrArg nI (by omega))) ?_
                                  refine cw_if_lt (pc := 245) (tgt := 261) C dL_ticks_245 (by decide) (fun h => False.elim (by revert h; decide)) (fun _ => ?_)
                                  refine cw_aload_n (pc := 248) C dL_ticks_248 rfl 11 rfl ?_
                                  refine cw_bipush (pc := 249) C dL_ticks_249 (nI 7) (by decide) ?_
                                  refine cw_calli (pc := 251) C dL_ticks_251 (w_state l D Z A σ91 Y F (psh Kt nt Xt) (min (nt + 1) 5) (M + 60 * k + 60) (nI 7) h91) (cwV 1 C.1.2.2.2.2 gL_ticks_X6_state rfl rfl rfl (by decide +kernel) ⟨Nat.le_of_ble_eq_true rfl, Nat.le_of_ble_eq_true rfl⟩) 0 rfl rfl rfl rfl (Nat.le_of_ble_eq_true rfl) (fun r92 σ92 hr92 => ?_)
                                  rw [(saA_k (k := 7) (by omega)).trans (congrArg Sum.inl y46)] at hr92
                                  obtain ⟨rfl, h92⟩ := hr92
                                  have h92 : absP σ92 Y F (psh Kt nt Xt) (min (nt + 1) 5) (M + 60 * k + 60) := h92
                                  refine cw_top (nI ht7) rfl ?_
                                  refine cw_iload (pc := 254) C dL_ticks_254 5 rfl ?_
                                  refine cw_isub (pc := 256) C dL_ticks_256 (z := nI 0) ((pk_sub (by omega)).trans (congrArg nI (by omega))) ?_
                                  refine cw_iconst (pc := 257) C dL_ticks_257 (nI 1) (by decide) ?_
                                  refine cw_icmp_le (pc := 258) (tgt := 263) C dL_ticks_258 (by decide) (fun _ => ?_) (fun h => False.elim (by revert h; decide))
                                  refine cw_aload_n (pc := 263) C dL_ticks_263 rfl 11 rfl ?_
                                  refine cw_bipush (pc := 264) C dL_ticks_264 (nI 7) (by decide) ?_
                                  refine cw_calli (pc := 266) C dL_ticks_266 (w_state l D Z A σ92 Y F (psh Kt nt Xt) (min (nt + 1) 5) (M + 60 * k + 60) (nI 7) h92) (cwV 1 C.1.2.2.2.2 gL_ticks_X6_state rfl rfl rfl (by decide +kernel) ⟨Nat.le_of_ble_eq_true rfl, Nat.le_of_ble_eq_true rfl⟩) 0 rfl rfl rfl rfl (Nat.le_of_ble_eq_true rfl) (fun r93 σ93 hr93 => ?_)
                                  rw [(saA_k (k := 7) (by omega)).trans (congrArg Sum.inl y46)] at hr93
                                  obtain ⟨rfl, h93⟩ := hr93
                                  have h93 : absP σ93 Y F (psh Kt nt Xt) (min (nt + 1) 5) (M + 60 * k + 60) := h93
                                  refine cw_top (nI ht7) rfl ?_
                                  refine cw_iload (pc := 269) C dL_ticks_269 5 rfl ?_
                                  refine cw_icmp_le (pc := 271) (tgt := 278) C dL_ticks_271 (by decide) (fun h271 => ?_) (fun h271 => ?_)
                                  · -- 271 t
                                    have h271 : ht7 ≤ ht7 := (nc_le (a := ht7) (b := ht7) (by omega) (by omega)).mp h271
                                    refine cw_iconst (pc := 278) C dL_ticks_278 (nI 0) (by decide) ?_
                                    refine cw_istore (pc := 279) C dL_ticks_279 (by decide) (lv' := [(14, .int (nI 0)), (13, .int (nI 0)), (12, .int (nI (hd - 1))), (11, .int (nI to)), (10, .int (nI (wyN Xt i to))), (9, .int (Xt 40)), (8, .int (nI ht7)), (7, .int (Xt 43)), (6, .int (nI hd)), (5, .int (nI to)), (4, .int (nI i)), (3, .int (v)), (0, .ref (A 0)), (1, .int (x)), (2, .int (nI k))]) rfl ?_
                                    refine cw_aload_n (pc := 281) C dL_ticks_281 rfl 12 rfl ?_
                                    refine cw_iconst (pc := 282) C dL_ticks_282 (nI 2) (by decide) ?_
                                    refine cw_calli (pc := 283) C dL_ticks_283 (w_state l D Z A σ93 Y F (psh Kt nt Xt) (min (nt + 1) 5) (M + 60 * k + 60) (nI 2) h93) (cwV 1 C.1.2.2.2.2 gL_ticks_X6_state rfl rfl rfl (by decide +kernel) ⟨Nat.le_of_ble_eq_true rfl, Nat.le_of_ble_eq_true rfl⟩) 0 rfl rfl rfl rfl (Nat.le_of_ble_eq_true rfl) (fun r94 σ94 hr94 => ?_)
                                    rw [(saA_k (k := 2) (by omega)).trans (congrArg Sum.inl y41)] at hr94
                                    obtain ⟨rfl, h94⟩ := hr94
                                    have h94 : absP σ94 Y F (psh Kt nt Xt) (min (nt + 1) 5) (M + 60 * k + 60) := h94
                                    refine cw_top (nI 0) rfl ?_
                                    refine cw_iload (pc := 286) C dL_ticks_286 0 rfl ?_
                                    refine cw_if_eq (pc := 288) (tgt := 296) C dL_ticks_288 (by decide) (fun _ => ?_) (fun h => False.elim (by revert h; decide))
                                    refine cw_iload (pc := 296) C dL_ticks_296 2 rfl ?_
                                    refine cw_icmp_ne (pc := 298) (tgt := 360) C dL_ticks_298 (by decide) (fun h298 => ?_) (fun h298 => ?_)
                                    · -- 298 t
                                      have h298 : ¬ 0 = (hd - 1) := (nc_ne (a := 0) (b := hd - 1) (by omega) (by omega)).mp h298
                                      exact absurd h298 (by omega)
                                    · -- 298 f
                                      have h298 : 0 = (hd - 1) := (nc_eq (a := 0) (b := hd - 1) (by omega) (by omega)).mp h298
                                      refine cw_iload (pc := 301) C dL_ticks_301 0 rfl ?_
                                      refine cw_if_eq (pc := 303) (tgt := 336) C dL_ticks_303 (by decide) (fun _ => ?_) (fun h => False.elim (by revert h; decide))
                                      refine cw_iload (pc := 336) C dL_ticks_336 3 rfl ?_
                                      refine cw_iload (pc := 338) C dL_ticks_338 10 rfl ?_
                                      refine cw_icmp_le (pc := 340) (tgt := 362) C dL_ticks_340 (by decide) (fun h340 => ?_) (fun h340 => ?_)
                                      · -- 340 t
                                        have h340 : to ≤ i := (nc_le (a := to) (b := i) (by omega) (by omega)).mp h340
                                        exact absurd h340 (by omega)
                                      · -- 340 f
                                        have h340 : ¬ (to ≤ i) := fun qq => h340 ((nc_le (a := to) (b := i) (by omega) (by omega)).mpr qq)
                                        refine cw_iload (pc := 343) C dL_ticks_343 10 rfl ?_
                                        refine cw_if_le (pc := 345) (tgt := 362) C dL_ticks_345 (by decide) (fun h345 => ?_) (fun h345 => ?_)
                                        · -- 345 t
                                          have h345 : i ≤ 0 := (nc_le (a := i) (b := 0) (by omega) (by omega)).mp h345
                                          exact absurd h345 (by omega)
                                        · -- 345 f
                                          have h345 : ¬ (i ≤ 0) := fun qq => h345 ((nc_le (a := i) (b := 0) (by omega) (by omega)).mpr qq)
                                          refine cw_aload_n (pc := 348) C dL_ticks_348 rfl 12 rfl ?_
                                          refine cw_iconst (pc := 349) C dL_ticks_349 (nI 3) (by decide) ?_
                                          refine cw_calli (pc := 350) C dL_ticks_350 (w_state l D Z A σ94 Y F (psh Kt nt Xt) (min (nt + 1) 5) (M + 60 * k + 60) (nI 3) h94) (cwV 1 C.1.2.2.2.2 gL_ticks_X6_state rfl rfl rfl (by decide +kernel) ⟨Nat.le_of_ble_eq_true rfl, Nat.le_of_ble_eq_true rfl⟩) 0 rfl rfl rfl rfl (Nat.le_of_ble_eq_true rfl) (fun r95 σ95 hr95 => ?_)
                                          rw [(saA_k (k := 3) (by omega)).trans (congrArg Sum.inl y42)] at hr95
                                          obtain ⟨rfl, h95⟩ := hr95
                                          have h95 : absP σ95 Y F (psh Kt nt Xt) (min (nt + 1) 5) (M + 60 * k + 60) := h95
                                          refine cw_top (Xt 40 + nI 1) rfl ?_
                                          refine cw_iload (pc := 353) C dL_ticks_353 5 rfl ?_
                                          refine cw_iconst (pc := 355) C dL_ticks_355 (nI 1) (by decide) ?_
                                          refine cw_iadd (pc := 356) C dL_ticks_356 (z := (Xt 40) + (nI 1)) rfl ?_
                                          refine cw_icmp_eq (pc := 357) (tgt := 362) C dL_ticks_357 (by decide) (fun h357 => ?_) (fun h357 => absurd rfl h357)
                                          refine cw_iload (pc := 362) C dL_ticks_362 10 rfl ?_
                                          refine cw_if_le (pc := 364) (tgt := 386) C dL_ticks_364 (by decide) (fun h364 => ?_) (fun h364 => ?_)
                                          · -- 364 t
                                            have h364 : i ≤ 0 := (nc_le (a := i) (b := 0) (by omega) (by omega)).mp h364
                                            exact absurd h364 (by omega)
                                          · -- 364 f
                                            have h364 : ¬ (i ≤ 0) := fun qq => h364 ((nc_le (a := i) (b := 0) (by omega) (by omega)).mpr qq)
                                            refine cw_iload (pc := 367) C dL_ticks_367 9 rfl ?_
                                            refine cw_iload (pc := 369) C dL_ticks_369 10 rfl ?_
                                            refine cw_icmp_ne (pc := 371) (tgt := 386) C dL_ticks_371 (by decide) (fun h371 => ?_) (fun h371 => ?_)
                                            · -- 371 t
                                              have h371 : ¬ to = i := (nc_ne (a := to) (b := i) (by omega) (by omega)).mp h371
                                              refine cw_iinc (pc := 386) C dL_ticks_386 14 rfl (nI (k + 1)) (nI_inc _ 1) (by decide) (lv' := [(2, .int (nI (k + 1))), (14, .int (nI 0)), (13, .int (nI 0)), (12, .int (nI (hd - 1))), (11, .int (nI to)), (10, .int (nI (wyN Xt i to))), (9, .int (Xt 40)), (8, .int (nI ht7)), (7, .int (Xt 43)), (6, .int (nI hd)), (5, .int (nI to)), (4, .int (nI i)), (3, .int (v)), (0, .ref (A 0)), (1, .int (x))]) rfl ?_
                                              refine cw_goto (pc := 389) (tgt := 2) C dL_ticks_389 (by decide) ?_
                                              refine cw_lv [13, 14, 0] rfl ?_
                                              exact ih2 (k + 1) Y (psh Kt nt Xt) (min (nt + 1) 5) σ95 (by omega) (by omega) (by rw [show M + 60 * (k + 1) = M + 60 * k + 60 by omega]; exact h95)
                                            · -- 371 f
                                              have h371 : to = i := (nc_eq (a := to) (b := i) (by omega) (by omega)).mp h371
                                              exact absurd h371 (by omega)
                                  · -- 271 f
                                    have h271 : ¬ (ht7 ≤ ht7) := fun qq => h271 ((nc_le (a := ht7) (b := ht7) (by omega) (by omega)).mpr qq)
                                    exact absurd h271 (by omega)
                                · -- 223 f
                                  have h223 : i = 0 := (nc_eq (a := i) (b := 0) (by omega) (by omega)).mp h223
                                  exact absurd h223 (by omega)
                          · -- 160 f
                            have h160 : ¬ (0 ≤ (wyN Xt i to)) := fun qq => h160 ((nc_ge (a := wyN Xt i to) (b := 0) (by omega) (by omega)).mpr qq)
                            exact absurd h160 (by omega)
          · -- case 5
            have yin : inN Y = to := inN_of y39 (by omega)
            rw [ht72] at y46
            have fi : fitN Xt i = true := hfi.resolve_left q0
            have fo : fitN Xt to = true := hft.resolve_left (by omega)
            have qn : ¬ i = to := by omega
            refine cw_iload (pc := 84) C dL_ticks_84 5 rfl ?_
            refine cw_if_le (pc := 86) (tgt := 108) C dL_ticks_86 (by decide) (fun h86 => ?_) (fun h86 => ?_)
            · -- 86 t
              have h86 : i ≤ 0 := (nc_le (a := i) (b := 0) (by omega) (by omega)).mp h86
              exact absurd h86 (by omega)
            · -- 86 f
              have h86 : ¬ (i ≤ 0) := fun qq => h86 ((nc_le (a := i) (b := 0) (by omega) (by omega)).mpr qq)
              refine cw_iload (pc := 89) C dL_ticks_89 4 rfl ?_
              refine cw_iload (pc := 91) C dL_ticks_91 5 rfl ?_
              refine cw_icmp_eq (pc := 93) (tgt := 108) C dL_ticks_93 (by decide) (fun h93 => ?_) (fun h93 => ?_)
              · -- 93 t
                have h93 : to = i := (nc_eq (a := to) (b := i) (by omega) (by omega)).mp h93
                exact absurd h93 (by omega)
              · -- 93 f
                have h93 : ¬ (to = i) := fun qq => h93 ((nc_eq (a := to) (b := i) (by omega) (by omega)).mpr qq)
                refine cw_aload_n (pc := 96) C dL_ticks_96 rfl 7 rfl ?_
                refine cw_iload (pc := 97) C dL_ticks_97 5 rfl ?_
                refine cw_iload (pc := 99) C dL_ticks_99 4 rfl ?_
                refine cw_iconst (pc := 101) C dL_ticks_101 (-1) (by decide) ?_
                refine cw_calli (pc := 102) C dL_ticks_102 (w_way l D Z A σ6 Xt F Kt nt (M + 60 * k) (nI i) (nI to) (-1) h6) (cwV 3 C.1.2.2.2.2 gL_ticks_X6_way rfl rfl rfl (by decide +kernel) ⟨Nat.le_of_ble_eq_true rfl, Nat.le_of_ble_eq_true rfl⟩) 0 rfl rfl rfl rfl (Nat.le_of_ble_eq_true rfl) (fun r96 σ96 hr96 => ?_)
                rw [wyA_some fi fo qn (by omega)] at hr96
                obtain ⟨rfl, h96⟩ := hr96
                have h96 : absP σ96 Xt F Kt nt (M + 60 * k) := h96
                refine cw_top (nI (wyN Xt i to)) rfl ?_
                refine cw_goto (pc := 105) (tgt := 109) C dL_ticks_105 (by decide) ?_
                refine cw_istore (pc := 109) C dL_ticks_109 (by decide) (lv' := [(10, .int (nI (wyN Xt i to))), (9, .int (Xt 40)), (8, .int (nI ht7)), (7, .int (Xt 43)), (6, .int (nI hd)), (5, .int (nI to)), (4, .int (nI i)), (3, .int (v)), (0, .ref (A 0)), (1, .int (x)), (2, .int (nI k))]) rfl ?_
                refine cw_aload_n (pc := 111) C dL_ticks_111 rfl 8 rfl ?_
                refine cw_iload_n (pc := 112) C dL_ticks_112 rfl 7 rfl ?_
                refine cw_iconst (pc := 113) C dL_ticks_113 (nI 1) (by decide) ?_
                refine cw_calli (pc := 114) C dL_ticks_114 (w_drives l D Z A σ96 Xt F Kt nt (M + 60 * k) v (nI 1) h96) (cwV 2 C.1.2.2.2.2 gL_ticks_X6_drives rfl rfl rfl (by decide +kernel) ⟨Nat.le_of_ble_eq_true rfl, Nat.le_of_ble_eq_true rfl⟩) 0 rfl rfl rfl rfl (Nat.le_of_ble_eq_true rfl) (fun r97 σ97 hr97 => ?_)
                obtain ⟨rfl, h97⟩ := chP_ok (v := nI to) (Y := Y) hr97 (hdr1.trans (congrArg nI yin)) (nI_pos' (by omega)) hdr2
                refine cw_istore (pc := 117) C dL_ticks_117 (by decide) (lv' := [(11, .int (nI to)), (10, .int (nI (wyN Xt i to))), (9, .int (Xt 40)), (8, .int (nI ht7)), (7, .int (Xt 43)), (6, .int (nI hd)), (5, .int (nI to)), (4, .int (nI i)), (3, .int (v)), (0, .ref (A 0)), (1, .int (x)), (2, .int (nI k))]) rfl ?_
                refine cw_iload (pc := 119) C dL_ticks_119 5 rfl ?_
                refine cw_if_le (pc := 121) (tgt := 131) C dL_ticks_121 (by decide) (fun h121 => ?_) (fun h121 => ?_)
                · -- 121 t
                  have h121 : hd ≤ 0 := (nc_le (a := hd) (b := 0) (by omega) (by omega)).mp h121
                  refine cw_iconst (pc := 131) C dL_ticks_131 (nI 0) (by decide) ?_
                  refine cw_istore (pc := 132) C dL_ticks_132 (by decide) (lv' := [(12, .int (nI 0)), (11, .int (nI to)), (10, .int (nI (wyN Xt i to))), (9, .int (Xt 40)), (8, .int (nI ht7)), (7, .int (Xt 43)), (6, .int (nI hd)), (5, .int (nI to)), (4, .int (nI i)), (3, .int (v)), (0, .ref (A 0)), (1, .int (x)), (2, .int (nI k))]) rfl ?_
                  refine cw_iload (pc := 134) C dL_ticks_134 8 rfl ?_
                  refine cw_if_le (pc := 136) (tgt := 167) C dL_ticks_136 (by decide) (fun h136 => ?_) (fun h136 => ?_)
                  · -- 136 t
                    have h136 : i ≤ 0 := (nc_le (a := i) (b := 0) (by omega) (by omega)).mp h136
                    exact absurd h136 (by omega)
                  · -- 136 f
                    have h136 : ¬ (i ≤ 0) := fun qq => h136 ((nc_le (a := i) (b := 0) (by omega) (by omega)).mpr qq)
                    refine cw_iload (pc := 139) C dL_ticks_139 7 rfl ?_
                    refine cw_iload (pc := 141) C dL_ticks_141 8 rfl ?_
                    refine cw_icmp_eq (pc := 143) (tgt := 163) C dL_ticks_143 (by decide) (fun h143 => ?_) (fun h143 => ?_)
                    · -- 143 t
                      have h143 : to = i := (nc_eq (a := to) (b := i) (by omega) (by omega)).mp h143
                      exact absurd h143 (by omega)
                    · -- 143 f
                      have h143 : ¬ (to = i) := fun qq => h143 ((nc_eq (a := to) (b := i) (by omega) (by omega)).mpr qq)
                      refine cw_iload (pc := 146) C dL_ticks_146 7 rfl ?_
                      refine cw_iload (pc := 148) C dL_ticks_148 8 rfl ?_
                      refine cw_icmp_le (pc := 150) (tgt := 158) C dL_ticks_150 (by decide) (fun h150 => ?_) (fun h150 => ?_)
                      · -- 150 t
                        have h150 : to ≤ i := (nc_le (a := to) (b := i) (by omega) (by omega)).mp h150
                        refine cw_iload (pc := 158) C dL_ticks_158 2 rfl ?_
                        refine cw_if_ge (pc := 160) (tgt := 167) C dL_ticks_160 (by decide) (fun h160 => ?_) (fun h160 => ?_)
                        · -- 160 t
                          have h160 : 0 ≤ (wyN Xt i to) := (nc_ge (a := wyN Xt i to) (b := 0) (by omega) (by omega)).mp h160
                          refine cw_iconst (pc := 167) C dL_ticks_167 (nI 0) (by decide) ?_
                          refine cw_istore (pc := 168) C dL_ticks_168 (by decide) (lv' := [(13, .int (nI 0)), (12, .int (nI 0)), (11, .int (nI to)), (10, .int (nI (wyN Xt i to))), (9, .int (Xt 40)), (8, .int (nI ht7)), (7, .int (Xt 43)), (6, .int (nI hd)), (5, .int (nI to)), (4, .int (nI i)), (3, .int (v)), (0, .ref (A 0)), (1, .int (x)), (2, .int (nI k))]) rfl ?_
                          refine cw_iload (pc := 170) C dL_ticks_170 2 rfl ?_
                          refine cw_iload (pc := 172) C dL_ticks_172 0 rfl ?_
                          refine cw_if_eq (pc := 174) (tgt := 182) C dL_ticks_174 (by decide) (fun _ => ?_) (fun h => False.elim (by revert h; decide))
                          refine cw_iload (pc := 182) C dL_ticks_182 8 rfl ?_
                          refine cw_icmp_ne (pc := 184) (tgt := 261) C dL_ticks_184 (by decide) (fun h184 => ?_) (fun h184 => ?_)
                          · -- 184 t
                            have h184 : ¬ to = to := (nc_ne (a := to) (b := to) (by omega) (by omega)).mp h184
                            exact absurd h184 (by omega)
                          · -- 184 f
                            have h184 : to = to := (nc_eq (a := to) (b := to) (by omega) (by omega)).mp h184
                            refine cw_aload_n (pc := 187) C dL_ticks_187 rfl 11 rfl ?_
                            refine cw_iconst (pc := 188) C dL_ticks_188 (nI 0) (by decide) ?_
                            refine cw_calli (pc := 189) C dL_ticks_189 (w_state l D Z A σ97 Y F (psh Kt nt Xt) (min (nt + 1) 5) (M + 60 * k + 60) (nI 0) h97) (cwV 1 C.1.2.2.2.2 gL_ticks_X6_state rfl rfl rfl (by decide +kernel) ⟨Nat.le_of_ble_eq_true rfl, Nat.le_of_ble_eq_true rfl⟩) 0 rfl rfl rfl rfl (Nat.le_of_ble_eq_true rfl) (fun r98 σ98 hr98 => ?_)
                            rw [(saA_k (k := 0) (by omega)).trans (congrArg Sum.inl y39)] at hr98
                            obtain ⟨rfl, h98⟩ := hr98
                            have h98 : absP σ98 Y F (psh Kt nt Xt) (min (nt + 1) 5) (M + 60 * k + 60) := h98
                            refine cw_top (nI to) rfl ?_
                            refine cw_iload (pc := 192) C dL_ticks_192 2 rfl ?_
                            refine cw_icmp_ne (pc := 194) (tgt := 261) C dL_ticks_194 (by decide) (fun h194 => ?_) (fun h194 => ?_)
                            · -- 194 t
                              have h194 : ¬ to = to := (nc_ne (a := to) (b := to) (by omega) (by omega)).mp h194
                              exact absurd h194 (by omega)
                            · -- 194 f
                              have h194 : to = to := (nc_eq (a := to) (b := to) (by omega) (by omega)).mp h194
                              refine cw_aload_n (pc := 197) C dL_ticks_197 rfl 11 rfl ?_
                              refine cw_iconst (pc := 198) C dL_ticks_198 (nI 1) (by decide) ?_
                              refine cw_calli (pc := 199) C dL_ticks_199 (w_state l D Z A σ98 Y F (psh Kt nt Xt) (min (nt + 1) 5) (M + 60 * k + 60) (nI 1) h98) (cwV 1 C.1.2.2.2.2 gL_ticks_X6_state rfl rfl rfl (by decide +kernel) ⟨Nat.le_of_ble_eq_true rfl, Nat.le_of_ble_eq_true rfl⟩) 0 rfl rfl rfl rfl (Nat.le_of_ble_eq_true rfl) (fun r99 σ99 hr99 => ?_)
                              rw [(saA_k (k := 1) (by omega)).trans (congrArg Sum.inl htm)] at hr99
                              obtain ⟨rfl, h99⟩ := hr99
                              have h99 : absP σ99 Y F (psh Kt nt Xt) (min (nt + 1) 5) (M + 60 * k + 60) := h99
                              refine cw_top (Xt 40 + nI 1) rfl ?_
                              refine cw_iload (pc := 202) C dL_ticks_202 4 rfl ?_
                              refine cw_iconst (pc := 204) C dL_ticks_204 (nI 1) (by decide) ?_
                              refine cw_iadd (pc := 205) C dL_ticks_205 (z := (Xt 40) + (nI 1)) rfl ?_
                              refine cw_icmp_ne (pc := 206) (tgt := 261) C dL_ticks_206 (by decide) (fun h206 => absurd rfl h206) (fun h206 => ?_)
                              refine cw_aload_n (pc := 209) C dL_ticks_209 rfl 11 rfl ?_
                              refine cw_iconst (pc := 210) C dL_ticks_210 (nI 4) (by decide) ?_
                              refine cw_calli (pc := 211) C dL_ticks_211 (w_state l D Z A σ99 Y F (psh Kt nt Xt) (min (nt + 1) 5) (M + 60 * k + 60) (nI 4) h99) (cwV 1 C.1.2.2.2.2 gL_ticks_X6_state rfl rfl rfl (by decide +kernel) ⟨Nat.le_of_ble_eq_true rfl, Nat.le_of_ble_eq_true rfl⟩) 0 rfl rfl rfl rfl (Nat.le_of_ble_eq_true rfl) (fun r100 σ100 hr100 => ?_)
                              rw [(saA_k (k := 4) (by omega)).trans (congrArg Sum.inl y43)] at hr100
                              obtain ⟨rfl, h100⟩ := hr100
                              have h100 : absP σ100 Y F (psh Kt nt Xt) (min (nt + 1) 5) (M + 60 * k + 60) := h100
                              refine cw_top (Xt 43 + nI (wyN Xt i to)) rfl ?_
                              refine cw_iload (pc := 214) C dL_ticks_214 6 rfl ?_
                              refine cw_iload (pc := 216) C dL_ticks_216 0 rfl ?_
                              refine cw_if_ne (pc := 218) (tgt := 226) C dL_ticks_218 (by decide) (fun h => False.elim (by revert h; decide)) (fun _ => ?_)
                              refine cw_iload (pc := 221) C dL_ticks_221 9 rfl ?_
                              refine cw_if_ne (pc := 223) (tgt := 230) C dL_ticks_223 (by decide) (fun h223 => ?_) (fun h223 => ?_)
                              · -- 223 t
                                have h223 : ¬ i = 0 := (nc_ne (a := i) (b := 0) (by omega) (by omega)).mp h223
                                refine cw_iload (pc := 230) C dL_ticks_230 3 rfl ?_
                                refine cw_iadd (pc := 232) C dL_ticks_232 (z := Xt 43 + nI (wyN Xt i to)) rfl ?_
                                refine cw_icmp_ne (pc := 233) (tgt := 261) C dL_ticks_233 (by decide) (fun h233 => absurd rfl h233) (fun h233 => ?_)
                                refine cw_aload_n (pc := 236) C dL_ticks_236 rfl 11 rfl ?_
                                refine cw_bipush (pc := 237) C dL_ticks_237 (nI 7) (by decide) ?_
                                refine cw_calli (pc := 239) C dL_ticks_239 (w_state l D Z A σ100 Y F (psh Kt nt Xt) (min (nt + 1) 5) (M + 60 * k + 60) (nI 7) h100) (cwV 1 C.1.2.2.2.2 gL_ticks_X6_state rfl rfl rfl (by decide +kernel) ⟨Nat.le_of_ble_eq_true rfl, Nat.le_of_ble_eq_true rfl⟩) 0 rfl rfl rfl rfl (Nat.le_of_ble_eq_true rfl) (fun r101 σ101 hr101 => ?_)
                                rw [(saA_k (k := 7) (by omega)).trans (congrArg Sum.inl y46)] at hr101
                                obtain ⟨rfl, h101⟩ := hr101
                                have h101 : absP σ101 Y F (psh Kt nt Xt) (min (nt + 1) 5) (M + 60 * k + 60) := h101
                                refine cw_top (nI ht7) rfl ?_
                                refine cw_iload (pc := 242) C dL_ticks_242 5 rfl ?_
                                refine cw_isub (pc := 244) C dL_ticks_244 (z := nI 0) ((pk_sub (by omega)).trans (congrArg nI (by omega))) ?_
                                refine cw_if_lt (pc := 245) (tgt := 261) C dL_ticks_245 (by decide) (fun h => False.elim (by revert h; decide)) (fun _ => ?_)
                                refine cw_aload_n (pc := 248) C dL_ticks_248 rfl 11 rfl ?_
                                refine cw_bipush (pc := 249) C dL_ticks_249 (nI 7) (by decide) ?_
                                refine cw_calli (pc := 251) C dL_ticks_251 (w_state l D Z A σ101 Y F (psh Kt nt Xt) (min (nt + 1) 5) (M + 60 * k + 60) (nI 7) h101) (cwV 1 C.1.2.2.2.2 gL_ticks_X6_state rfl rfl rfl (by decide +kernel) ⟨Nat.le_of_ble_eq_true rfl, Nat.le_of_ble_eq_true rfl⟩) 0 rfl rfl rfl rfl (Nat.le_of_ble_eq_true rfl) (fun r102 σ102 hr102 => ?_)
                                rw [(saA_k (k := 7) (by omega)).trans (congrArg Sum.inl y46)] at hr102
                                obtain ⟨rfl, h102⟩ := hr102
                                have h102 : absP σ102 Y F (psh Kt nt Xt) (min (nt + 1) 5) (M + 60 * k + 60) := h102
                                refine cw_top (nI ht7) rfl ?_
                                refine cw_iload (pc := 254) C dL_ticks_254 5 rfl ?_
                                refine cw_isub (pc := 256) C dL_ticks_256 (z := nI 0) ((pk_sub (by omega)).trans (congrArg nI (by omega))) ?_
                                refine cw_iconst (pc := 257) C dL_ticks_257 (nI 1) (by decide) ?_
                                refine cw_icmp_le (pc := 258) (tgt := 263) C dL_ticks_258 (by decide) (fun _ => ?_) (fun h => False.elim (by revert h; decide))
                                refine cw_aload_n (pc := 263) C dL_ticks_263 rfl 11 rfl ?_
                                refine cw_bipush (pc := 264) C dL_ticks_264 (nI 7) (by decide) ?_
                                refine cw_calli (pc := 266) C dL_ticks_266 (w_state l D Z A σ102 Y F (psh Kt nt Xt) (min (nt + 1) 5) (M + 60 * k + 60) (nI 7) h102) (cwV 1 C.1.2.2.2.2 gL_ticks_X6_state rfl rfl rfl (by decide +kernel) ⟨Nat.le_of_ble_eq_true rfl, Nat.le_of_ble_eq_true rfl⟩) 0 rfl rfl rfl rfl (Nat.le_of_ble_eq_true rfl) (fun r103 σ103 hr103 => ?_)
                                rw [(saA_k (k := 7) (by omega)).trans (congrArg Sum.inl y46)] at hr103
                                obtain ⟨rfl, h103⟩ := hr103
                                have h103 : absP σ103 Y F (psh Kt nt Xt) (min (nt + 1) 5) (M + 60 * k + 60) := h103
                                refine cw_top (nI ht7) rfl ?_
                                refine cw_iload (pc := 269) C dL_ticks_269 5 rfl ?_
                                refine cw_icmp_le (pc := 271) (tgt := 278) C dL_ticks_271 (by decide) (fun h271 => ?_) (fun h271 => ?_)
                                · -- 271 t
                                  have h271 : ht7 ≤ ht7 := (nc_le (a := ht7) (b := ht7) (by omega) (by omega)).mp h271
                                  refine cw_iconst (pc := 278) C dL_ticks_278 (nI 0) (by decide) ?_
                                  refine cw_istore (pc := 279) C dL_ticks_279 (by decide) (lv' := [(14, .int (nI 0)), (13, .int (nI 0)), (12, .int (nI 0)), (11, .int (nI to)), (10, .int (nI (wyN Xt i to))), (9, .int (Xt 40)), (8, .int (nI ht7)), (7, .int (Xt 43)), (6, .int (nI hd)), (5, .int (nI to)), (4, .int (nI i)), (3, .int (v)), (0, .ref (A 0)), (1, .int (x)), (2, .int (nI k))]) rfl ?_
                                  refine cw_aload_n (pc := 281) C dL_ticks_281 rfl 12 rfl ?_
                                  refine cw_iconst (pc := 282) C dL_ticks_282 (nI 2) (by decide) ?_
                                  refine cw_calli (pc := 283) C dL_ticks_283 (w_state l D Z A σ103 Y F (psh Kt nt Xt) (min (nt + 1) 5) (M + 60 * k + 60) (nI 2) h103) (cwV 1 C.1.2.2.2.2 gL_ticks_X6_state rfl rfl rfl (by decide +kernel) ⟨Nat.le_of_ble_eq_true rfl, Nat.le_of_ble_eq_true rfl⟩) 0 rfl rfl rfl rfl (Nat.le_of_ble_eq_true rfl) (fun r104 σ104 hr104 => ?_)
                                  rw [(saA_k (k := 2) (by omega)).trans (congrArg Sum.inl y41)] at hr104
                                  obtain ⟨rfl, h104⟩ := hr104
                                  have h104 : absP σ104 Y F (psh Kt nt Xt) (min (nt + 1) 5) (M + 60 * k + 60) := h104
                                  refine cw_top (nI (hd - 1)) rfl ?_
                                  refine cw_iload (pc := 286) C dL_ticks_286 0 rfl ?_
                                  refine cw_if_eq (pc := 288) (tgt := 296) C dL_ticks_288 (by decide) (fun _ => ?_) (fun h => False.elim (by revert h; decide))
                                  refine cw_iload (pc := 296) C dL_ticks_296 2 rfl ?_
                                  refine cw_icmp_ne (pc := 298) (tgt := 360) C dL_ticks_298 (by decide) (fun h298 => ?_) (fun h298 => ?_)
                                  · -- 298 t
                                    have h298 : ¬ (hd - 1) = 0 := (nc_ne (a := hd - 1) (b := 0) (by omega) (by omega)).mp h298
                                    exact absurd h298 (by omega)
                                  · -- 298 f
                                    have h298 : (hd - 1) = 0 := (nc_eq (a := hd - 1) (b := 0) (by omega) (by omega)).mp h298
                                    refine cw_iload (pc := 301) C dL_ticks_301 0 rfl ?_
                                    refine cw_if_eq (pc := 303) (tgt := 336) C dL_ticks_303 (by decide) (fun _ => ?_) (fun h => False.elim (by revert h; decide))
                                    refine cw_iload (pc := 336) C dL_ticks_336 3 rfl ?_
                                    refine cw_iload (pc := 338) C dL_ticks_338 10 rfl ?_
                                    refine cw_icmp_le (pc := 340) (tgt := 362) C dL_ticks_340 (by decide) (fun h340 => ?_) (fun h340 => ?_)
                                    · -- 340 t
                                      have h340 : to ≤ i := (nc_le (a := to) (b := i) (by omega) (by omega)).mp h340
                                      refine cw_iload (pc := 362) C dL_ticks_362 10 rfl ?_
                                      refine cw_if_le (pc := 364) (tgt := 386) C dL_ticks_364 (by decide) (fun h364 => ?_) (fun h364 => ?_)
                                      · -- 364 t
                                        have h364 : i ≤ 0 := (nc_le (a := i) (b := 0) (by omega) (by omega)).mp h364
                                        exact absurd h364 (by omega)
                                      · -- 364 f
                                        have h364 : ¬ (i ≤ 0) := fun qq => h364 ((nc_le (a := i) (b := 0) (by omega) (by omega)).mpr qq)
                                        refine cw_iload (pc := 367) C dL_ticks_367 9 rfl ?_
                                        refine cw_iload (pc := 369) C dL_ticks_369 10 rfl ?_
                                        refine cw_icmp_ne (pc := 371) (tgt := 386) C dL_ticks_371 (by decide) (fun h371 => ?_) (fun h371 => ?_)
                                        · -- 371 t
                                          have h371 : ¬ to = i := (nc_ne (a := to) (b := i) (by omega) (by omega)).mp h371
                                          refine cw_iinc (pc := 386) C dL_ticks_386 14 rfl (nI (k + 1)) (nI_inc _ 1) (by decide) (lv' := [(2, .int (nI (k + 1))), (14, .int (nI 0)), (13, .int (nI 0)), (12, .int (nI 0)), (11, .int (nI to)), (10, .int (nI (wyN Xt i to))), (9, .int (Xt 40)), (8, .int (nI ht7)), (7, .int (Xt 43)), (6, .int (nI hd)), (5, .int (nI to)), (4, .int (nI i)), (3, .int (v)), (0, .ref (A 0)), (1, .int (x))]) rfl ?_
                                          refine cw_goto (pc := 389) (tgt := 2) C dL_ticks_389 (by decide) ?_
                                          refine cw_lv [13, 14, 0] rfl ?_
                                          exact ih2 (k + 1) Y (psh Kt nt Xt) (min (nt + 1) 5) σ104 (by omega) (by omega) (by rw [show M + 60 * (k + 1) = M + 60 * k + 60 by omega]; exact h104)
                                        · -- 371 f
                                          have h371 : to = i := (nc_eq (a := to) (b := i) (by omega) (by omega)).mp h371
                                          exact absurd h371 (by omega)
                                    · -- 340 f
                                      have h340 : ¬ (to ≤ i) := fun qq => h340 ((nc_le (a := to) (b := i) (by omega) (by omega)).mpr qq)
                                      exact absurd h340 (by omega)
                                · -- 271 f
                                  have h271 : ¬ (ht7 ≤ ht7) := fun qq => h271 ((nc_le (a := ht7) (b := ht7) (by omega) (by omega)).mpr qq)
                                  exact absurd h271 (by omega)
                              · -- 223 f
                                have h223 : i = 0 := (nc_eq (a := i) (b := 0) (by omega) (by omega)).mp h223
                                exact absurd h223 (by omega)
                        · -- 160 f
                          have h160 : ¬ (0 ≤ (wyN Xt i to)) := fun qq => h160 ((nc_ge (a := wyN Xt i to) (b := 0) (by omega) (by omega)).mpr qq)
                          exact absurd h160 (by omega)
                      · -- 150 f
                        have h150 : ¬ (to ≤ i) := fun qq => h150 ((nc_le (a := to) (b := i) (by omega) (by omega)).mpr qq)
                        exact absurd h150 (by omega)
                · -- 121 f
                  have h121 : ¬ (hd ≤ 0) := fun qq => h121 ((nc_le (a := hd) (b := 0) (by omega) (by omega)).mpr qq)
                  refine cw_iload (pc := 124) C dL_ticks_124 5 rfl ?_
                  refine cw_iconst (pc := 126) C dL_ticks_126 (nI 1) (by decide) ?_
                  refine cw_isub (pc := 127) C dL_ticks_127 (z := nI (hd - 1)) (pk_sub (by omega)) ?_
                  refine cw_goto (pc := 128) (tgt := 132) C dL_ticks_128 (by decide) ?_
                  refine cw_istore (pc := 132) C dL_ticks_132 (by decide) (lv' := [(12, .int (nI (hd - 1))), (11, .int (nI to)), (10, .int (nI (wyN Xt i to))), (9, .int (Xt 40)), (8, .int (nI ht7)), (7, .int (Xt 43)), (6, .int (nI hd)), (5, .int (nI to)), (4, .int (nI i)), (3, .int (v)), (0, .ref (A 0)), (1, .int (x)), (2, .int (nI k))]) rfl ?_
                  refine cw_iload (pc := 134) C dL_ticks_134 8 rfl ?_
                  refine cw_if_le (pc := 136) (tgt := 167) C dL_ticks_136 (by decide) (fun h136 => ?_) (fun h136 => ?_)
                  · -- 136 t
                    have h136 : i ≤ 0 := (nc_le (a := i) (b := 0) (by omega) (by omega)).mp h136
                    exact absurd h136 (by omega)
                  · -- 136 f
                    have h136 : ¬ (i ≤ 0) := fun qq => h136 ((nc_le (a := i) (b := 0) (by omega) (by omega)).mpr qq)
                    refine cw_iload (pc := 139) C dL_ticks_139 7 rfl ?_
                    refine cw_iload (pc := 141) C dL_ticks_141 8 rfl ?_
                    refine cw_icmp_eq (pc := 143) (tgt := 163) C dL_ticks_143 (by decide) (fun h143 => ?_) (fun h143 => ?_)
                    · -- 143 t
                      have h143 : to = i := (nc_eq (a := to) (b := i) (by omega) (by omega)).mp h143
                      exact absurd h143 (by omega)
                    · -- 143 f
                      have h143 : ¬ (to = i) := fun qq => h143 ((nc_eq (a := to) (b := i) (by omega) (by omega)).mpr qq)
                      refine cw_iload (pc := 146) C dL_ticks_146 7 rfl ?_
                      refine cw_iload (pc := 148) C dL_ticks_148 8 rfl ?_
                      refine cw_icmp_le (pc := 150) (tgt := 158) C dL_ticks_150 (by decide) (fun h150 => ?_) (fun h150 => ?_)
                      · -- 150 t
                        have h150 : to ≤ i := (nc_le (a := to) (b := i) (by omega) (by omega)).mp h150
                        refine cw_iload (pc := 158) C dL_ticks_158 2 rfl ?_
                        refine cw_if_ge (pc := 160) (tgt := 167) C dL_ticks_160 (by decide) (fun h160 => ?_) (fun h160 => ?_)
                        · -- 160 t
                          have h160 : 0 ≤ (wyN Xt i to) := (nc_ge (a := wyN Xt i to) (b := 0) (by omega) (by omega)).mp h160
                          refine cw_iconst (pc := 167) C dL_ticks_167 (nI 0) (by decide) ?_
                          refine cw_istore (pc := 168) C dL_ticks_168 (by decide) (lv' := [(13, .int (nI 0)), (12, .int (nI (hd - 1))), (11, .int (nI to)), (10, .int (nI (wyN Xt i to))), (9, .int (Xt 40)), (8, .int (nI ht7)), (7, .int (Xt 43)), (6, .int (nI hd)), (5, .int (nI to)), (4, .int (nI i)), (3, .int (v)), (0, .ref (A 0)), (1, .int (x)), (2, .int (nI k))]) rfl ?_
                          refine cw_iload (pc := 170) C dL_ticks_170 2 rfl ?_
                          refine cw_iload (pc := 172) C dL_ticks_172 0 rfl ?_
                          refine cw_if_eq (pc := 174) (tgt := 182) C dL_ticks_174 (by decide) (fun _ => ?_) (fun h => False.elim (by revert h; decide))
                          refine cw_iload (pc := 182) C dL_ticks_182 8 rfl ?_
                          refine cw_icmp_ne (pc := 184) (tgt := 261) C dL_ticks_184 (by decide) (fun h184 => ?_) (fun h184 => ?_)
                          · -- 184 t
                            have h184 : ¬ to = to := (nc_ne (a := to) (b := to) (by omega) (by omega)).mp h184
                            exact absurd h184 (by omega)
                          · -- 184 f
                            have h184 : to = to := (nc_eq (a := to) (b := to) (by omega) (by omega)).mp h184
                            refine cw_aload_n (pc := 187) C dL_ticks_187 rfl 11 rfl ?_
                            refine cw_iconst (pc := 188) C dL_ticks_188 (nI 0) (by decide) ?_
                            refine cw_calli (pc := 189) C dL_ticks_189 (w_state l D Z A σ97 Y F (psh Kt nt Xt) (min (nt + 1) 5) (M + 60 * k + 60) (nI 0) h97) (cwV 1 C.1.2.2.2.2 gL_ticks_X6_state rfl rfl rfl (by decide +kernel) ⟨Nat.le_of_ble_eq_true rfl, Nat.le_of_ble_eq_true rfl⟩) 0 rfl rfl rfl rfl (Nat.le_of_ble_eq_true rfl) (fun r105 σ105 hr105 => ?_)
                            rw [(saA_k (k := 0) (by omega)).trans (congrArg Sum.inl y39)] at hr105
                            obtain ⟨rfl, h105⟩ := hr105
                            have h105 : absP σ105 Y F (psh Kt nt Xt) (min (nt + 1) 5) (M + 60 * k + 60) := h105
                            refine cw_top (nI to) rfl ?_
                            refine cw_iload (pc := 192) C dL_ticks_192 2 rfl ?_
                            refine cw_icmp_ne (pc := 194) (tgt := 261) C dL_ticks_194 (by decide) (fun h194 => ?_) (fun h194 => ?_)
                            · -- 194 t
                              have h194 : ¬ to = to := (nc_ne (a := to) (b := to) (by omega) (by omega)).mp h194
                              exact absurd h194 (by omega)
                            · -- 194 f
                              have h194 : to = to := (nc_eq (a := to) (b := to) (by omega) (by omega)).mp h194
                              refine cw_aload_n (pc := 197) C dL_ticks_197 rfl 11 rfl ?_
                              refine cw_iconst (pc := 198) C dL_ticks_198 (nI 1) (by decide) ?_
                              refine cw_calli (pc := 199) C dL_ticks_199 (w_state l D Z A σ105 Y F (psh Kt nt Xt) (min (nt + 1) 5) (M + 60 * k + 60) (nI 1) h105) (cwV 1 C.1.2.2.2.2 gL_ticks_X6_state rfl rfl rfl (by decide +kernel) ⟨Nat.le_of_ble_eq_true rfl, Nat.le_of_ble_eq_true rfl⟩) 0 rfl rfl rfl rfl (Nat.le_of_ble_eq_true rfl) (fun r106 σ106 hr106 => ?_)
                              rw [(saA_k (k := 1) (by omega)).trans (congrArg Sum.inl htm)] at hr106
                              obtain ⟨rfl, h106⟩ := hr106
                              have h106 : absP σ106 Y F (psh Kt nt Xt) (min (nt + 1) 5) (M + 60 * k + 60) := h106
                              refine cw_top (Xt 40 + nI 1) rfl ?_
                              refine cw_iload (pc := 202) C dL_ticks_202 4 rfl ?_
                              refine cw_iconst (pc := 204) C dL_ticks_204 (nI 1) (by decide) ?_
                              refine cw_iadd (pc := 205) C dL_ticks_205 (z := (Xt 40) + (nI 1)) rfl ?_
                              refine cw_icmp_ne (pc := 206) (tgt := 261) C dL_ticks_206 (by decide) (fun h206 => absurd rfl h206) (fun h206 => ?_)
                              refine cw_aload_n (pc := 209) C dL_ticks_209 rfl 11 rfl ?_
                              refine cw_iconst (pc := 210) C dL_ticks_210 (nI 4) (by decide) ?_
                              refine cw_calli (pc := 211) C dL_ticks_211 (w_state l D Z A σ106 Y F (psh Kt nt Xt) (min (nt + 1) 5) (M + 60 * k + 60) (nI 4) h106) (cwV 1 C.1.2.2.2.2 gL_ticks_X6_state rfl rfl rfl (by decide +kernel) ⟨Nat.le_of_ble_eq_true rfl, Nat.le_of_ble_eq_true rfl⟩) 0 rfl rfl rfl rfl (Nat.le_of_ble_eq_true rfl) (fun r107 σ107 hr107 => ?_)
                              rw [(saA_k (k := 4) (by omega)).trans (congrArg Sum.inl y43)] at hr107
                              obtain ⟨rfl, h107⟩ := hr107
                              have h107 : absP σ107 Y F (psh Kt nt Xt) (min (nt + 1) 5) (M + 60 * k + 60) := h107
                              refine cw_top (Xt 43 + nI (wyN Xt i to)) rfl ?_
                              refine cw_iload (pc := 214) C dL_ticks_214 6 rfl ?_
                              refine cw_iload (pc := 216) C dL_ticks_216 0 rfl ?_
                              refine cw_if_ne (pc := 218) (tgt := 226) C dL_ticks_218 (by decide) (fun h => False.elim (by revert h; decide)) (fun _ => ?_)
                              refine cw_iload (pc := 221) C dL_ticks_221 9 rfl ?_
                              refine cw_if_ne (pc := 223) (tgt := 230) C dL_ticks_223 (by decide) (fun h223 => ?_) (fun h223 => ?_)
                              · -- 223 t
                                have h223 : ¬ i = 0 := (nc_ne (a := i) (b := 0) (by omega) (by omega)).mp h223
                                refine cw_iload (pc := 230) C dL_ticks_230 3 rfl ?_
                                refine cw_iadd (pc := 232) C dL_ticks_232 (z := Xt 43 + nI (wyN Xt i to)) rfl ?_
                                refine cw_icmp_ne (pc := 233) (tgt := 261) C dL_ticks_233 (by decide) (fun h233 => absurd rfl h233) (fun h233 => ?_)
                                refine cw_aload_n (pc := 236) C dL_ticks_236 rfl 11 rfl ?_
                                refine cw_bipush (pc := 237) C dL_ticks_237 (nI 7) (by decide) ?_
                                refine cw_calli (pc := 239) C dL_ticks_239 (w_state l D Z A σ107 Y F (psh Kt nt Xt) (min (nt + 1) 5) (M + 60 * k + 60) (nI 7) h107) (cwV 1 C.1.2.2.2.2 gL_ticks_X6_state rfl rfl rfl (by decide +kernel) ⟨Nat.le_of_ble_eq_true rfl, Nat.le_of_ble_eq_true rfl⟩) 0 rfl rfl rfl rfl (Nat.le_of_ble_eq_true rfl) (fun r108 σ108 hr108 => ?_)
                                rw [(saA_k (k := 7) (by omega)).trans (congrArg Sum.inl y46)] at hr108
                                obtain ⟨rfl, h108⟩ := hr108
                                have h108 : absP σ108 Y F (psh Kt nt Xt) (min (nt + 1) 5) (M + 60 * k + 60) := h108
                                refine cw_top (nI ht7) rfl ?_
                                refine cw_iload (pc := 242) C dL_ticks_242 5 rfl ?_
                                refine cw_isub (pc := 244) C dL_ticks_244 (z := nI 0) ((pk_sub (by omega)).trans (congrArg nI (by omega))) ?_
                                refine cw_if_lt (pc := 245) (tgt := 261) C dL_ticks_245 (by decide) (fun h => False.elim (by revert h; decide)) (fun _ => ?_)
                                refine cw_aload_n (pc := 248) C dL_ticks_248 rfl 11 rfl ?_
                                refine cw_bipush (pc := 249) C dL_ticks_249 (nI 7) (by decide) ?_
                                refine cw_calli (pc := 251) C dL_ticks_251 (w_state l D Z A σ108 Y F (psh Kt nt Xt) (min (nt + 1) 5) (M + 60 * k + 60) (nI 7) h108) (cwV 1 C.1.2.2.2.2 gL_ticks_X6_state rfl rfl rfl (by decide +kernel) ⟨Nat.le_of_ble_eq_true rfl, Nat.le_of_ble_eq_true rfl⟩) 0 rfl rfl rfl rfl (Nat.le_of_ble_eq_true rfl) (fun r109 σ109 hr109 => ?_)
                                rw [(saA_k (k := 7) (by omega)).trans (congrArg Sum.inl y46)] at hr109
                                obtain ⟨rfl, h109⟩ := hr109
                                have h109 : absP σ109 Y F (psh Kt nt Xt) (min (nt + 1) 5) (M + 60 * k + 60) := h109
                                refine cw_top (nI ht7) rfl ?_
                                refine cw_iload (pc := 254) C dL_ticks_254 5 rfl ?_
                                refine cw_isub (pc := 256) C dL_ticks_256 (z := nI 0) ((pk_sub (by omega)).trans (congrArg nI (by omega))) ?_
                                refine cw_iconst (pc := 257) C dL_ticks_257 (nI 1) (by decide) ?_
                                refine cw_icmp_le (pc := 258) (tgt := 263) C dL_ticks_258 (by decide) (fun _ => ?_) (fun h => False.elim (by revert h; decide))
                                refine cw_aload_n (pc := 263) C dL_ticks_263 rfl 11 rfl ?_
                                refine cw_bipush (pc := 264) C dL_ticks_264 (nI 7) (by decide) ?_
                                refine cw_calli (pc := 266) C dL_ticks_266 (w_state l D Z A σ109 Y F (psh Kt nt Xt) (min (nt + 1) 5) (M + 60 * k + 60) (nI 7) h109) (cwV 1 C.1.2.2.2.2 gL_ticks_X6_state rfl rfl rfl (by decide +kernel) ⟨Nat.le_of_ble_eq_true rfl, Nat.le_of_ble_eq_true rfl⟩) 0 rfl rfl rfl rfl (Nat.le_of_ble_eq_true rfl) (fun r110 σ110 hr110 => ?_)
                                rw [(saA_k (k := 7) (by omega)).trans (congrArg Sum.inl y46)] at hr110
                                obtain ⟨rfl, h110⟩ := hr110
                                have h110 : absP σ110 Y F (psh Kt nt Xt) (min (nt + 1) 5) (M + 60 * k + 60) := h110
                                refine cw_top (nI ht7) rfl ?_
                                refine cw_iload (pc := 269) C dL_ticks_269 5 rfl ?_
                                refine cw_icmp_le (pc := 271) (tgt := 278) C dL_ticks_271 (by decide) (fun h271 => ?_) (fun h271 => ?_)
                                · -- 271 t
                                  have h271 : ht7 ≤ ht7 := (nc_le (a := ht7) (b := ht7) (by omega) (by omega)).mp h271
                                  refine cw_iconst (pc := 278) C dL_ticks_278 (nI 0) (by decide) ?_
                                  refine cw_istore (pc := 279) C dL_ticks_279 (by decide) (lv' := [(14, .int (nI 0)), (13, .int (nI 0)), (12, .int (nI (hd - 1))), (11, .int (nI to)), (10, .int (nI (wyN Xt i to))), (9, .int (Xt 40)), (8, .int (nI ht7)), (7, .int (Xt 43)), (6, .int (nI hd)), (5, .int (nI to)), (4, .int (nI i)), (3, .int (v)), (0, .ref (A 0)), (1, .int (x)), (2, .int (nI k))]) rfl ?_
                                  refine cw_aload_n (pc := 281) C dL_ticks_281 rfl 12 rfl ?_
                                  refine cw_iconst (pc := 282) C dL_ticks_282 (nI 2) (by decide) ?_
                                  refine cw_calli (pc := 283) C dL_ticks_283 (w_state l D Z A σ110 Y F (psh Kt nt Xt) (min (nt + 1) 5) (M + 60 * k + 60) (nI 2) h110) (cwV 1 C.1.2.2.2.2 gL_ticks_X6_state rfl rfl rfl (by decide +kernel) ⟨Nat.le_of_ble_eq_true rfl, Nat.le_of_ble_eq_true rfl⟩) 0 rfl rfl rfl rfl (Nat.le_of_ble_eq_true rfl) (fun r111 σ111 hr111 => ?_)
                                  rw [(saA_k (k := 2) (by omega)).trans (congrArg Sum.inl y41)] at hr111
                                  obtain ⟨rfl, h111⟩ := hr111
                                  have h111 : absP σ111 Y F (psh Kt nt Xt) (min (nt + 1) 5) (M + 60 * k + 60) := h111
                                  refine cw_top (nI (hd - 1)) rfl ?_
                                  refine cw_iload (pc := 286) C dL_ticks_286 0 rfl ?_
                                  refine cw_if_eq (pc := 288) (tgt := 296) C dL_ticks_288 (by decide) (fun _ => ?_) (fun h => False.elim (by revert h; decide))
                                  refine cw_iload (pc := 296) C dL_ticks_296 2 rfl ?_
                                  refine cw_icmp_ne (pc := 298) (tgt := 360) C dL_ticks_298 (by decide) (fun h298 => ?_) (fun h298 => ?_)
                                  · -- 298 t
                                    have h298 : ¬ (hd - 1) = (hd - 1) := (nc_ne (a := hd - 1) (b := hd - 1) (by omega) (by omega)).mp h298
                                    exact absurd h298 (by omega)
                                  · -- 298 f
                                    have h298 : (hd - 1) = (hd - 1) := (nc_eq (a := hd - 1) (b := hd - 1) (by omega) (by omega)).mp h298
                                    refine cw_iload (pc := 301) C dL_ticks_301 0 rfl ?_
                                    refine cw_if_eq (pc := 303) (tgt := 336) C dL_ticks_303 (by decide) (fun _ => ?_) (fun h => False.elim (by revert h; decide))
                                    refine cw_iload (pc := 336) C dL_ticks_336 3 rfl ?_
                                    refine cw_iload (pc := 338) C dL_ticks_338 10 rfl ?_
                                    refine cw_icmp_le (pc := 340) (tgt := 362) C dL_ticks_340 (by decide) (fun h340 => ?_) (fun h340 => ?_)
                                    · -- 340 t
                                      have h340 : to ≤ i := (nc_le (a := to) (b := i) (by omega) (by omega)).mp h340
                                      refine cw_iload (pc := 362) C dL_ticks_362 10 rfl ?_
                                      refine cw_if_le (pc := 364) (tgt := 386) C dL_ticks_364 (by decide) (fun h364 => ?_) (fun h364 => ?_)
                                      · -- 364 t
                                        have h364 : i ≤ 0 := (nc_le (a := i) (b := 0) (by omega) (by omega)).mp h364
                                        exact absurd h364 (by omega)
                                      · -- 364 f
                                        have h364 : ¬ (i ≤ 0) := fun qq => h364 ((nc_le (a := i) (b := 0) (by omega) (by omega)).mpr qq)
                                        refine cw_iload (pc := 367) C dL_ticks_367 9 rfl ?_
                                        refine cw_iload (pc := 369) C dL_ticks_369 10 rfl ?_
                                        refine cw_icmp_ne (pc := 371) (tgt := 386) C dL_ticks_371 (by decide) (fun h371 => ?_) (fun h371 => ?_)
                                        · -- 371 t
                                          have h371 : ¬ to = i := (nc_ne (a := to) (b := i) (by omega) (by omega)).mp h371
                                          refine cw_iinc (pc := 386) C dL_ticks_386 14 rfl (nI (k + 1)) (nI_inc _ 1) (by decide) (lv' := [(2, .int (nI (k + 1))), (14, .int (nI 0)), (13, .int (nI 0)), (12, .int (nI (hd - 1))), (11, .int (nI to)), (10, .int (nI (wyN Xt i to))), (9, .int (Xt 40)), (8, .int (nI ht7)), (7, .int (Xt 43)), (6, .int (nI hd)), (5, .int (nI to)), (4, .int (nI i)), (3, .int (v)), (0, .ref (A 0)), (1, .int (x))]) rfl ?_
                                          refine cw_goto (pc := 389) (tgt := 2) C dL_ticks_389 (by decide) ?_
                                          refine cw_lv [13, 14, 0] rfl ?_
                                          exact ih2 (k + 1) Y (psh Kt nt Xt) (min (nt + 1) 5) σ111 (by omega) (by omega) (by rw [show M + 60 * (k + 1) = M + 60 * k + 60 by omega]; exact h111)
                                        · -- 371 f
                                          have h371 : to = i := (nc_eq (a := to) (b := i) (by omega) (by omega)).mp h371
                                          exact absurd h371 (by omega)
                                    · -- 340 f
                                      have h340 : ¬ (to ≤ i) := fun qq => h340 ((nc_le (a := to) (b := i) (by omega) (by omega)).mpr qq)
                                      exact absurd h340 (by omega)
                                · -- 271 f
                                  have h271 : ¬ (ht7 ≤ ht7) := fun qq => h271 ((nc_le (a := ht7) (b := ht7) (by omega) (by omega)).mpr qq)
                                  exact absurd h271 (by omega)
                              · -- 223 f
                                have h223 : i = 0 := (nc_eq (a := i) (b := 0) (by omega) (by omega)).mp h223
                                exact absurd h223 (by omega)
                        · -- 160 f
                          have h160 : ¬ (0 ≤ (wyN Xt i to)) := fun qq => h160 ((nc_ge (a := wyN Xt i to) (b := 0) (by omega) (by omega)).mpr qq)
                          exact absurd h160 (by omega)
                      · -- 150 f
                        have h150 : ¬ (to ≤ i) := fun qq => h150 ((nc_le (a := to) (b := i) (by omega) (by omega)).mpr qq)
                        exact absurd h150 (by omega)
          · -- case 6
            have yin : inN Y = to := inN_of y39 (by omega)
            rw [ht72, nI_add] at y46
            have fi : fitN Xt i = true := hfi.resolve_left q0
            have fo : fitN Xt to = true := hft.resolve_left (by omega)
            have qn : ¬ i = to := by omega
            refine cw_iload (pc := 84) C dL_ticks_84 5 rfl ?_
            refine cw_if_le (pc := 86) (tgt := 108) C dL_ticks_86 (by decide) (fun h86 => ?_) (fun h86 => ?_)
            · -- 86 t
              have h86 : i ≤ 0 := (nc_le (a := i) (b := 0) (by omega) (by omega)).mp h86
              exact absurd h86 (by omega)
            · -- 86 f
              have h86 : ¬ (i ≤ 0) := fun qq => h86 ((nc_le (a := i) (b := 0) (by omega) (by omega)).mpr qq)
              refine cw_iload (pc := 89) C dL_ticks_89 4 rfl ?_
              refine cw_iload (pc := 91) C dL_ticks_91 5 rfl ?_
              refine cw_icmp_eq (pc := 93) (tgt := 108) C dL_ticks_93 (by decide) (fun h93 => ?_) (fun h93 => ?_)
              · -- 93 t
                have h93 : to = i := (nc_eq (a := to) (b := i) (by omega) (by omega)).mp h93
                exact absurd h93 (by omega)
              · -- 93 f
                have h93 : ¬ (to = i) := fun qq => h93 ((nc_eq (a := to) (b := i) (by omega) (by omega)).mpr qq)
                refine cw_aload_n (pc := 96) C dL_ticks_96 rfl 7 rfl ?_
                refine cw_iload (pc := 97) C dL_ticks_97 5 rfl ?_
                refine cw_iload (pc := 99) C dL_ticks_99 4 rfl ?_
                refine cw_iconst (pc := 101) C dL_ticks_101 (-1) (by decide) ?_
                refine cw_calli (pc := 102) C dL_ticks_102 (w_way l D Z A σ6 Xt F Kt nt (M + 60 * k) (nI i) (nI to) (-1) h6) (cwV 3 C.1.2.2.2.2 gL_ticks_X6_way rfl rfl rfl (by decide +kernel) ⟨Nat.le_of_ble_eq_true rfl, Nat.le_of_ble_eq_true rfl⟩) 0 rfl rfl rfl rfl (Nat.le_of_ble_eq_true rfl) (fun r112 σ112 hr112 => ?_)
                rw [wyA_some fi fo qn (by omega)] at hr112
                obtain ⟨rfl, h112⟩ := hr112
                have h112 : absP σ112 Xt F Kt nt (M + 60 * k) := h112
                refine cw_top (nI (wyN Xt i to)) rfl ?_
                refine cw_goto (pc := 105) (tgt := 109) C dL_ticks_105 (by decide) ?_
                refine cw_istore (pc := 109) C dL_ticks_109 (by decide) (lv' := [(10, .int (nI (wyN Xt i to))), (9, .int (Xt 40)), (8, .int (nI ht7)), (7, .int (Xt 43)), (6, .int (nI hd)), (5, .int (nI to)), (4, .int (nI i)), (3, .int (v)), (0, .ref (A 0)), (1, .int (x)), (2, .int (nI k))]) rfl ?_
                refine cw_aload_n (pc := 111) C dL_ticks_111 rfl 8 rfl ?_
                refine cw_iload_n (pc := 112) C dL_ticks_112 rfl 7 rfl ?_
                refine cw_iconst (pc := 113) C dL_ticks_113 (nI 1) (by decide) ?_
                refine cw_calli (pc := 114) C dL_ticks_114 (w_drives l D Z A σ112 Xt F Kt nt (M + 60 * k) v (nI 1) h112) (cwV 2 C.1.2.2.2.2 gL_ticks_X6_drives rfl rfl rfl (by decide +kernel) ⟨Nat.le_of_ble_eq_true rfl, Nat.le_of_ble_eq_true rfl⟩) 0 rfl rfl rfl rfl (Nat.le_of_ble_eq_true rfl) (fun r113 σ113 hr113 => ?_)
                obtain ⟨rfl, h113⟩ := chP_ok (v := nI to) (Y := Y) hr113 (hdr1.trans (congrArg nI yin)) (nI_pos' (by omega)) hdr2
                refine cw_istore (pc := 117) C dL_ticks_117 (by decide) (lv' := [(11, .int (nI to)), (10, .int (nI (wyN Xt i to))), (9, .int (Xt 40)), (8, .int (nI ht7)), (7, .int (Xt 43)), (6, .int (nI hd)), (5, .int (nI to)), (4, .int (nI i)), (3, .int (v)), (0, .ref (A 0)), (1, .int (x)), (2, .int (nI k))]) rfl ?_
                refine cw_iload (pc := 119) C dL_ticks_119 5 rfl ?_
                refine cw_if_le (pc := 121) (tgt := 131) C dL_ticks_121 (by decide) (fun h121 => ?_) (fun h121 => ?_)
                · -- 121 t
                  have h121 : hd ≤ 0 := (nc_le (a := hd) (b := 0) (by omega) (by omega)).mp h121
                  refine cw_iconst (pc := 131) C dL_ticks_131 (nI 0) (by decide) ?_
                  refine cw_istore (pc := 132) C dL_ticks_132 (by decide) (lv' := [(12, .int (nI 0)), (11, .int (nI to)), (10, .int (nI (wyN Xt i to))), (9, .int (Xt 40)), (8, .int (nI ht7)), (7, .int (Xt 43)), (6, .int (nI hd)), (5, .int (nI to)), (4, .int (nI i)), (3, .int (v)), (0, .ref (A 0)), (1, .int (x)), (2, .int (nI k))]) rfl ?_
                  refine cw_iload (pc := 134) C dL_ticks_134 8 rfl ?_
                  refine cw_if_le (pc := 136) (tgt := 167) C dL_ticks_136 (by decide) (fun h136 => ?_) (fun h136 => ?_)
                  · -- 136 t
                    have h136 : i ≤ 0 := (nc_le (a := i) (b := 0) (by omega) (by omega)).mp h136
                    exact absurd h136 (by omega)
                  · -- 136 f
                    have h136 : ¬ (i ≤ 0) := fun qq => h136 ((nc_le (a := i) (b := 0) (by omega) (by omega)).mpr qq)
                    refine cw_iload (pc := 139) C dL_ticks_139 7 rfl ?_
                    refine cw_iload (pc := 141) C dL_ticks_141 8 rfl ?_
                    refine cw_icmp_eq (pc := 143) (tgt := 163) C dL_ticks_143 (by decide) (fun h143 => ?_) (fun h143 => ?_)
                    · -- 143 t
                      have h143 : to = i := (nc_eq (a := to) (b := i) (by omega) (by omega)).mp h143
                      exact absurd h143 (by omega)
                    · -- 143 f
                      have h143 : ¬ (to = i) := fun qq => h143 ((nc_eq (a := to) (b := i) (by omega) (by omega)).mpr qq)
                      refine cw_iload (pc := 146) C dL_ticks_146 7 rfl ?_
                      refine cw_iload (pc := 148) C dL_ticks_148 8 rfl ?_
                      refine cw_icmp_le (pc := 150) (tgt := 158) C dL_ticks_150 (by decide) (fun h150 => ?_) (fun h150 => ?_)
                      · -- 150 t
                        have h150 : to ≤ i := (nc_le (a := to) (b := i) (by omega) (by omega)).mp h150
                        refine cw_iload (pc := 158) C dL_ticks_158 2 rfl ?_
                        refine cw_if_ge (pc := 160) (tgt := 167) C dL_ticks_160 (by decide) (fun h160 => ?_) (fun h160 => ?_)
                        · -- 160 t
                          have h160 : 0 ≤ (wyN Xt i to) := (nc_ge (a := wyN Xt i to) (b := 0) (by omega) (by omega)).mp h160
                          refine cw_iconst (pc := 167) C dL_ticks_167 (nI 0) (by decide) ?_
                          refine cw_istore (pc := 168) C dL_ticks_168 (by decide) (lv' := [(13, .int (nI 0)), (12, .int (nI 0)), (11, .int (nI to)), (10, .int (nI (wyN Xt i to))), (9, .int (Xt 40)), (8, .int (nI ht7)), (7, .int (Xt 43)), (6, .int (nI hd)), (5, .int (nI to)), (4, .int (nI i)), (3, .int (v)), (0, .ref (A 0)), (1, .int (x)), (2, .int (nI k))]) rfl ?_
                          refine cw_iload (pc := 170) C dL_ticks_170 2 rfl ?_
                          refine cw_iload (pc := 172) C dL_ticks_172 0 rfl ?_
                          refine cw_if_eq (pc := 174) (tgt := 182) C dL_ticks_174 (by decide) (fun _ => ?_) (fun h => False.elim (by revert h; decide))
                          refine cw_iload (pc := 182) C dL_ticks_182 8 rfl ?_
                          refine cw_icmp_ne (pc := 184) (tgt := 261) C dL_ticks_184 (by decide) (fun h184 => ?_) (fun h184 => ?_)
                          · -- 184 t
                            have h184 : ¬ to = to := (nc_ne (a := to) (b := to) (by omega) (by omega)).mp h184
                            exact absurd h184 (by omega)
                          · -- 184 f
                            have h184 : to = to := (nc_eq (a := to) (b := to) (by omega) (by omega)).mp h184
                            refine cw_aload_n (pc := 187) C dL_ticks_187 rfl 11 rfl ?_
                            refine cw_iconst (pc := 188) C dL_ticks_188 (nI 0) (by decide) ?_
                            refine cw_calli (pc := 189) C dL_ticks_189 (w_state l D Z A σ113 Y F (psh Kt nt Xt) (min (nt + 1) 5) (M + 60 * k + 60) (nI 0) h113) (cwV 1 C.1.2.2.2.2 gL_ticks_X6_state rfl rfl rfl (by decide +kernel) ⟨Nat.le_of_ble_eq_true rfl, Nat.le_of_ble_eq_true rfl⟩) 0 rfl rfl rfl rfl (Nat.le_of_ble_eq_true rfl) (fun r114 σ114 hr114 => ?_)
                            rw [(saA_k (k := 0) (by omega)).trans (congrArg Sum.inl y39)] at hr114
                            obtain ⟨rfl, h114⟩ := hr114
                            have h114 : absP σ114 Y F (psh Kt nt Xt) (min (nt + 1) 5) (M + 60 * k + 60) := h114
                            refine cw_top (nI to) rfl ?_
                            refine cw_iload (pc := 192) C dL_ticks_192 2 rfl ?_
                            refine cw_icmp_ne (pc := 194) (tgt := 261) C dL_ticks_194 (by decide) (fun h194 => ?_) (fun h194 => ?_)
                            · -- 194 t
                              have h194 : ¬ to = to := (nc_ne (a := to) (b := to) (by omega) (by omega)).mp h194
                              exact absurd h194 (by omega)
                            · -- 194 f
                              have h194 : to = to := (nc_eq (a := to) (b := to) (by omega) (by omega)).mp h194
                              refine cw_aload_n (pc := 197) C dL_ticks_197 rfl 11 rfl ?_
                              refine cw_iconst (pc := 198) C dL_ticks_198 (nI 1) (by decide) ?_
                              refine cw_calli (pc := 199) C dL_ticks_199 (w_state l D Z A σ114 Y F (psh Kt nt Xt) (min (nt + 1) 5) (M + 60 * k + 60) (nI 1) h114) (cwV 1 C.1.2.2.2.2 gL_ticks_X6_state rfl rfl rfl (by decide +kernel) ⟨Nat.le_of_ble_eq_true rfl, Nat.le_of_ble_eq_true rfl⟩) 0 rfl rfl rfl rfl (Nat.le_of_ble_eq_true rfl) (fun r115 σ115 hr115 => ?_)
                              rw [(saA_k (k := 1) (by omega)).trans (congrArg Sum.inl htm)] at hr115
                              obtain ⟨rfl, h115⟩ := hr115
                              have h115 : absP σ115 Y F (psh Kt nt Xt) (min (nt + 1) 5) (M + 60 * k + 60) := h115
                              refine cw_top (Xt 40 + nI 1) rfl ?_
                              refine cw_iload (pc := 202) C dL_ticks_202 4 rfl ?_
                              refine cw_iconst (pc := 204) C dL_ticks_204 (nI 1) (by decide) ?_
                              refine cw_iadd (pc := 205) C dL_ticks_205 (z := (Xt 40) + (nI 1)) rfl ?_
                              refine cw_icmp_ne (pc := 206) (tgt := 261) C dL_ticks_206 (by decide) (fun h206 => absurd rfl h206) (fun h206 => ?_)
                              refine cw_aload_n (pc := 209) C dL_ticks_209 rfl 11 rfl ?_
                              refine cw_iconst (pc := 210) C dL_ticks_210 (nI 4) (by decide) ?_
                              refine cw_calli (pc := 211) C dL_ticks_211 (w_state l D Z A σ115 Y F (psh Kt nt Xt) (min (nt + 1) 5) (M + 60 * k + 60) (nI 4) h115) (cwV 1 C.1.2.2.2.2 gL_ticks_X6_state rfl rfl rfl (by decide +kernel) ⟨Nat.le_of_ble_eq_true rfl, Nat.le_of_ble_eq_true rfl⟩) 0 rfl rfl rfl rfl (Nat.le_of_ble_eq_true rfl) (fun r116 σ116 hr116 => ?_)
                              rw [(saA_k (k := 4) (by omega)).trans (congrArg Sum.inl y43)] at hr116
                              obtain ⟨rfl, h116⟩ := hr116
                              have h116 : absP σ116 Y F (psh Kt nt Xt) (min (nt + 1) 5) (M + 60 * k + 60) := h116
                              refine cw_top (Xt 43 + nI (wyN Xt i to)) rfl ?_
                              refine cw_iload (pc := 214) C dL_ticks_214 6 rfl ?_
                              refine cw_iload (pc := 216) C dL_ticks_216 0 rfl ?_
                              refine cw_if_ne (pc := 218) (tgt := 226) C dL_ticks_218 (by decide) (fun h => False.elim (by revert h; decide)) (fun _ => ?_)
                              refine cw_iload (pc := 221) C dL_ticks_221 9 rfl ?_
                              refine cw_if_ne (pc := 223) (tgt := 230) C dL_ticks_223 (by decide) (fun h223 => ?_) (fun h223 => ?_)
                              · -- 223 t
                                have h223 : ¬ i = 0 := (nc_ne (a := i) (b := 0) (by omega) (by omega)).mp h223
                                refine cw_iload (pc := 230) C dL_ticks_230 3 rfl ?_
                                refine cw_iadd (pc := 232) C dL_ticks_232 (z := Xt 43 + nI (wyN Xt i to)) rfl ?_
                                refine cw_icmp_ne (pc := 233) (tgt := 261) C dL_ticks_233 (by decide) (fun h233 => absurd rfl h233) (fun h233 => ?_)
                                refine cw_aload_n (pc := 236) C dL_ticks_236 rfl 11 rfl ?_
                                refine cw_bipush (pc := 237) C dL_ticks_237 (nI 7) (by decide) ?_
                                refine cw_calli (pc := 239) C dL_ticks_239 (w_state l D Z A σ116 Y F (psh Kt nt Xt) (min (nt + 1) 5) (M + 60 * k + 60) (nI 7) h116) (cwV 1 C.1.2.2.2.2 gL_ticks_X6_state rfl rfl rfl (by decide +kernel) ⟨Nat.le_of_ble_eq_true rfl, Nat.le_of_ble_eq_true rfl⟩) 0 rfl rfl rfl rfl (Nat.le_of_ble_eq_true rfl) (fun r117 σ117 hr117 => ?_)
                                rw [(saA_k (k := 7) (by omega)).trans (congrArg Sum.inl y46)] at hr117
                                obtain ⟨rfl, h117⟩ := hr117
                                have h117 : absP σ117 Y F (psh Kt nt Xt) (min (nt + 1) 5) (M + 60 * k + 60) := h117
                                refine cw_top (nI (ht7 + 1)) rfl ?_
                                refine cw_iload (pc := 242) C dL_ticks_242 5 rfl ?_
                                refine cw_isub (pc := 244) C dL_ticks_244 (z := nI 1) ((pk_sub (by omega)).trans (congrArg nI (by omega))) ?_
                                refine cw_if_lt (pc := 245) (tgt := 261) C dL_ticks_245 (by decide) (fun h => False.elim (by revert h; decide)) (fun _ => ?_)
                                refine cw_aload_n (pc := 248) C dL_ticks_248 rfl 11 rfl ?_
                                refine cw_bipush (pc := 249) C dL_ticks_249 (nI 7) (by decide) ?_
                                refine cw_calli (pc := 251) C dL_ticks_251 (w_state l D Z A σ117 Y F (psh Kt nt Xt) (min (nt + 1) 5) (M + 60 * k + 60) (nI 7) h117) (cwV 1 C.1.2.2.2.2 gL_ticks_X6_state rfl rfl rfl (by decide +kernel) ⟨Nat.le_of_ble_eq_true rfl, Nat.le_of_ble_eq_true rfl⟩) 0 rfl rfl rfl rfl (Nat.le_of_ble_eq_true rfl) (fun r118 σ118 hr118 => ?_)
                                rw [(saA_k (k := 7) (by omega)).trans (congrArg Sum.inl y46)] at hr118
                                obtain ⟨rfl, h118⟩ := hr118
                                have h118 : absP σ118 Y F (psh Kt nt Xt) (min (nt + 1) 5) (M + 60 * k + 60) := h118
                                refine cw_top (nI (ht7 + 1)) rfl ?_
                                refine cw_iload (pc := 254) C dL_ticks_254 5 rfl ?_
                                refine cw_isub (pc := 256) C dL_ticks_256 (z := nI 1) ((pk_sub (by omega)).trans (congrArg nI (by omega))) ?_
                                refine cw_iconst (pc := 257) C dL_ticks_257 (nI 1) (by decide) ?_
                                refine cw_icmp_le (pc := 258) (tgt := 263) C dL_ticks_258 (by decide) (fun _ => ?_) (fun h => False.elim (by revert h; decide))
                                refine cw_aload_n (pc := 263) C dL_ticks_263 rfl 11 rfl ?_
                                refine cw_bipush (pc := 264) C dL_ticks_264 (nI 7) (by decide) ?_
                                refine cw_calli (pc := 266) C dL_ticks_266 (w_state l D Z A σ118 Y F (psh Kt nt Xt) (min (nt + 1) 5) (M + 60 * k + 60) (nI 7) h118) (cwV 1 C.1.2.2.2.2 gL_ticks_X6_state rfl rfl rfl (by decide +kernel) ⟨Nat.le_of_ble_eq_true rfl, Nat.le_of_ble_eq_true rfl⟩) 0 rfl rfl rfl rfl (Nat.le_of_ble_eq_true rfl) (fun r119 σ119 hr119 => ?_)
                                rw [(saA_k (k := 7) (by omega)).trans (congrArg Sum.inl y46)] at hr119
                                obtain ⟨rfl, h119⟩ := hr119
                                have h119 : absP σ119 Y F (psh Kt nt Xt) (min (nt + 1) 5) (M + 60 * k + 60) := h119
                                refine cw_top (nI (ht7 + 1)) rfl ?_
                                refine cw_iload (pc := 269) C dL_ticks_269 5 rfl ?_
                                refine cw_icmp_le (pc := 271) (tgt := 278) C dL_ticks_271 (by decide) (fun h271 => ?_) (fun h271 => ?_)
                                · -- 271 t
                                  have h271 : (ht7 + 1) ≤ ht7 := (nc_le (a := ht7 + 1) (b := ht7) (by omega) (by omega)).mp h271
                                  exact absurd h271 (by omega)
                                · -- 271 f
                                  have h271 : ¬ ((ht7 + 1) ≤ ht7) := fun qq => h271 ((nc_le (a := ht7 + 1) (b := ht7) (by omega) (by omega)).mpr qq)
                                  refine cw_iconst (pc := 274) C dL_ticks_274 (nI 1) (by decide) ?_
                                  refine cw_goto (pc := 275) (tgt := 279) C dL_ticks_275 (by decide) ?_
                                  refine cw_istore (pc := 279) C dL_ticks_279 (by decide) (lv' := [(14, .int (nI 1)), (13, .int (nI 0)), (12, .int (nI 0)), (11, .int (nI to)), (10, .int (nI (wyN Xt i to))), (9, .int (Xt 40)), (8, .int (nI ht7)), (7, .int (Xt 43)), (6, .int (nI hd)), (5, .int (nI to)), (4, .int (nI i)), (3, .int (v)), (0, .ref (A 0)), (1, .int (x)), (2, .int (nI k))]) rfl ?_
                                  refine cw_aload_n (pc := 281) C dL_ticks_281 rfl 12 rfl ?_
                                  refine cw_iconst (pc := 282) C dL_ticks_282 (nI 2) (by decide) ?_
                                  refine cw_calli (pc := 283) C dL_ticks_283 (w_state l D Z A σ119 Y F (psh Kt nt Xt) (min (nt + 1) 5) (M + 60 * k + 60) (nI 2) h119) (cwV 1 C.1.2.2.2.2 gL_ticks_X6_state rfl rfl rfl (by decide +kernel) ⟨Nat.le_of_ble_eq_true rfl, Nat.le_of_ble_eq_true rfl⟩) 0 rfl rfl rfl rfl (Nat.le_of_ble_eq_true rfl) (fun r120 σ120 hr120 => ?_)
                                  rw [(saA_k (k := 2) (by omega)).trans (congrArg Sum.inl y41)] at hr120
                                  obtain ⟨rfl, h120⟩ := hr120
                                  have h120 : absP σ120 Y F (psh Kt nt Xt) (min (nt + 1) 5) (M + 60 * k + 60) := h120
                                  refine cw_top (nI 10) rfl ?_
                                  refine cw_iload (pc := 286) C dL_ticks_286 0 rfl ?_
                                  refine cw_if_eq (pc := 288) (tgt := 296) C dL_ticks_288 (by decide) (fun h => False.elim (by revert h; decide)) (fun _ => ?_)
                                  refine cw_bipush (pc := 291) C dL_ticks_291 (nI 10) (by decide) ?_
                                  refine cw_goto (pc := 293) (tgt := 298) C dL_ticks_293 (by decide) ?_
                                  refine cw_icmp_ne (pc := 298) (tgt := 360) C dL_ticks_298 (by decide) (fun h => False.elim (by revert h; decide)) (fun _ => ?_)
                                  refine cw_iload (pc := 301) C dL_ticks_301 0 rfl ?_
                                  refine cw_if_eq (pc := 303) (tgt := 336) C dL_ticks_303 (by decide) (fun h => False.elim (by revert h; decide)) (fun _ => ?_)
                                  refine cw_iload (pc := 306) C dL_ticks_306 3 rfl ?_
                                  refine cw_iload (pc := 308) C dL_ticks_308 10 rfl ?_
                                  refine cw_icmp_ge (pc := 310) (tgt := 360) C dL_ticks_310 (by decide) (fun h310 => ?_) (fun h310 => ?_)
                                  · -- 310 t
                                    have h310 : i ≤ to := (nc_ge (a := to) (b := i) (by omega) (by omega)).mp h310
                                    exact absurd h310 (by omega)
                                  · -- 310 f
                                    have h310 : ¬ (i ≤ to) := fun qq => h310 ((nc_ge (a := to) (b := i) (by omega) (by omega)).mpr qq)
                                    refine cw_aload_n (pc := 313) C dL_ticks_313 rfl 12 rfl ?_
                                    refine cw_iconst (pc := 314) C dL_ticks_314 (nI 3) (by decide) ?_
                                    refine cw_calli (pc := 315) C dL_ticks_315 (w_state l D Z A σ120 Y F (psh Kt nt Xt) (min (nt + 1) 5) (M + 60 * k + 60) (nI 3) h120) (cwV 1 C.1.2.2.2.2 gL_ticks_X6_state rfl rfl rfl (by decide +kernel) ⟨Nat.le_of_ble_eq_true rfl, Nat.le_of_ble_eq_true rfl⟩) 0 rfl rfl rfl rfl (Nat.le_of_ble_eq_true rfl) (fun r121 σ121 hr121 => ?_)
                                    rw [(saA_k (k := 3) (by omega)).trans (congrArg Sum.inl y42)] at hr121
                                    obtain ⟨rfl, h121⟩ := hr121
                                    have h121 : absP σ121 Y F (psh Kt nt Xt) (min (nt + 1) 5) (M + 60 * k + 60) := h121
                                    refine cw_top (Xt 42) rfl ?_
                                    refine cw_iconst (pc := 318) C dL_ticks_318 (-1) (by decide) ?_
                                    refine cw_icmp_eq (pc := 319) (tgt := 360) C dL_ticks_319 (by decide) (fun h319 => ?_) (fun h319 => ?_)
                                    · -- 319 t
                                      exact absurd h319 u1
                                    · -- 319 f
                                      refine cw_iload (pc := 322) C dL_ticks_322 5 rfl ?_
                                      refine cw_iconst (pc := 324) C dL_ticks_324 (nI 1) (by decide) ?_
                                      refine cw_iadd (pc := 325) C dL_ticks_325 (z := (Xt 40) + (nI 1)) rfl ?_
                                      refine cw_aload_n (pc := 326) C dL_ticks_326 rfl 12 rfl ?_
                                      refine cw_iconst (pc := 327) C dL_ticks_327 (nI 3) (by decide) ?_
                                      refine cw_calli (pc := 328) C dL_ticks_328 (w_state l D Z A σ121 Y F (psh Kt nt Xt) (min (nt + 1) 5) (M + 60 * k + 60) (nI 3) h121) (cwV 1 C.1.2.2.2.2 gL_ticks_X6_state rfl rfl rfl (by decide +kernel) ⟨Nat.le_of_ble_eq_true rfl, Nat.le_of_ble_eq_true rfl⟩) 0 rfl rfl rfl rfl (Nat.le_of_ble_eq_true rfl) (fun r122 σ122 hr122 => ?_)
                                      rw [(saA_k (k := 3) (by omega)).trans (congrArg Sum.inl y42)] at hr122
                                      obtain ⟨rfl, h122⟩ := hr122
                                      have h122 : absP σ122 Y F (psh Kt nt Xt) (min (nt + 1) 5) (M + 60 * k + 60) := h122
                                      refine cw_top (Xt 42) rfl ?_
                                      refine cw_isub (pc := 331) C dL_ticks_331 (z := ((Xt 40) + (nI 1)) - (Xt 42)) rfl ?_
                                      refine cw_iconst (pc := 332) C dL_ticks_332 (nI 5) (by decide) ?_
                                      refine cw_icmp_gt (pc := 333) (tgt := 360) C dL_ticks_333 (by decide) (fun h333 => ?_) (fun h333 => ?_)
                                      · -- 333 t
                                        exact absurd h333 u2
                                      · -- 333 f
                                        refine cw_iload (pc := 336) C dL_ticks_336 3 rfl ?_
                                        refine cw_iload (pc := 338) C dL_ticks_338 10 rfl ?_
                                        refine cw_icmp_le (pc := 340) (tgt := 362) C dL_ticks_340 (by decide) (fun h340 => ?_) (fun h340 => ?_)
                                        · -- 340 t
                                          have h340 : to ≤ i := (nc_le (a := to) (b := i) (by omega) (by omega)).mp h340
                                          refine cw_iload (pc := 362) C dL_ticks_362 10 rfl ?_
                                          refine cw_if_le (pc := 364) (tgt := 386) C dL_ticks_364 (by decide) (fun h364 => ?_) (fun h364 => ?_)
                                          · -- 364 t
                                            have h364 : i ≤ 0 := (nc_le (a := i) (b := 0) (by omega) (by omega)).mp h364
                                            exact absurd h364 (by omega)
                                          · -- 364 f
                                            have h364 : ¬ (i ≤ 0) := fun qq => h364 ((nc_le (a := i) (b := 0) (by omega) (by omega)).mpr qq)
                                            refine cw_iload (pc := 367) C dL_ticks_367 9 rfl ?_
                                            refine cw_iload (pc := 369) C dL_ticks_369 10 rfl ?_
                                            refine cw_icmp_ne (pc := 371) (tgt := 386) C dL_ticks_371 (by decide) (fun h371 => ?_) (fun h371 => ?_)
                                            · -- 371 t
                                              have h371 : ¬ to = i := (nc_ne (a := to) (b := i) (by omega) (by omega)).mp h371
                                              refine cw_iinc (pc := 386) C dL_ticks_386 14 rfl (nI (k + 1)) (nI_inc _ 1) (by decide) (lv' := [(2, .int (nI (k + 1))), (14, .int (nI 1)), (13, .int (nI 0)), (12, .int (nI 0)), (11, .int (nI to)), (10, .int (nI (wyN Xt i to))), (9, .int (Xt 40)), (8, .int (nI ht7)), (7, .int (Xt 43)), (6, .int (nI hd)), (5, .int (nI to)), (4, .int (nI i)), (3, .int (v)), (0, .ref (A 0)), (1, .int (x))]) rfl ?_
                                              refine cw_goto (pc := 389) (tgt := 2) C dL_ticks_389 (by decide) ?_
                                              refine cw_lv [13, 14, 0] rfl ?_
                                              exact ih2 (k + 1) Y (psh Kt nt Xt) (min (nt + 1) 5) σ122 (by omega) (by omega) (by rw [show M + 60 * (k + 1) = M + 60 * k + 60 by omega]; exact h122)
                                            · -- 371 f
                                              have h371 : to = i := (nc_eq (a := to) (b := i) (by omega) (by omega)).mp h371
                                              exact absurd h371 (by omega)
                                        · -- 340 f
                                          have h340 : ¬ (to ≤ i) := fun qq => h340 ((nc_le (a := to) (b := i) (by omega) (by omega)).mpr qq)
                                          exact absurd h340 (by omega)
                              · -- 223 f
                                have h223 : i = 0 := (nc_eq (a := i) (b := 0) (by omega) (by omega)).mp h223
                                exact absurd h223 (by omega)
                        · -- 160 f
                          have h160 : ¬ (0 ≤ (wyN Xt i to)) := fun qq => h160 ((nc_ge (a := wyN Xt i to) (b := 0) (by omega) (by omega)).mpr qq)
                          exact absurd h160 (by omega)
                      · -- 150 f
                        have h150 : ¬ (to ≤ i) := fun qq => h150 ((nc_le (a := to) (b := i) (by omega) (by omega)).mpr qq)
                        exact absurd h150 (by omega)
                · -- 121 f
                  have h121 : ¬ (hd ≤ 0) := fun qq => h121 ((nc_le (a := hd) (b := 0) (by omega) (by omega)).mpr qq)
                  refine cw_iload (pc := 124) C dL_ticks_124 5 rfl ?_
                  refine cw_iconst (pc := 126) C dL_ticks_126 (nI 1) (by decide) ?_
                  refine cw_isub (pc := 127) C dL_ticks_127 (z := nI (hd - 1)) (pk_sub (by omega)) ?_
                  refine cw_goto (pc := 128) (tgt := 132) C dL_ticks_128 (by decide) ?_
                  refine cw_istore (pc := 132) C dL_ticks_132 (by decide) (lv' := [(12, .int (nI (hd - 1))), (11, .int (nI to)), (10, .int (nI (wyN Xt i to))), (9, .int (Xt 40)), (8, .int (nI ht7)), (7, .int (Xt 43)), (6, .int (nI hd)), (5, .int (nI to)), (4, .int (nI i)), (3, .int (v)), (0, .ref (A 0)), (1, .int (x)), (2, .int (nI k))]) rfl ?_
                  refine cw_iload (pc := 134) C dL_ticks_134 8 rfl ?_
                  refine cw_if_le (pc := 136) (tgt := 167) C dL_ticks_136 (by decide) (fun h136 => ?_) (fun h136 => ?_)
                  · -- 136 t
                    have h136 : i ≤ 0 := (nc_le (a := i) (b := 0) (by omega) (by omega)).mp h136
                    exact absurd h136 (by omega)
                  · -- 136 f
                    have h136 : ¬ (i ≤ 0) := fun qq => h136 ((nc_le (a := i) (b := 0) (by omega) (by omega)).mpr qq)
                    refine cw_iload (pc := 139) C dL_ticks_139 7 rfl ?_
                    refine cw_iload (pc := 141) C dL_ticks_141 8 rfl ?_
                    refine cw_icmp_eq (pc := 143) (tgt := 163) C dL_ticks_143 (by decide) (fun h143 => ?_) (fun h143 => ?_)
                    · -- 143 t
                      have h143 : to = i := (nc_eq (a := to) (b := i) (by omega) (by omega)).mp h143
                      exact absurd h143 (by omega)
                    · -- 143 f
                      have h143 : ¬ (to = i) := fun qq => h143 ((nc_eq (a := to) (b := i) (by omega) (by omega)).mpr qq)
                      refine cw_iload (pc := 146) C dL_ticks_146 7 rfl ?_
                      refine cw_iload (pc := 148) C dL_ticks_148 8 rfl ?_
                      refine cw_icmp_le (pc := 150) (tgt := 158) C dL_ticks_150 (by decide) (fun h150 => ?_) (fun h150 => ?_)
                      · -- 150 t
                        have h150 : to ≤ i := (nc_le (a := to) (b := i) (by omega) (by omega)).mp h150
                        refine cw_iload (pc := 158) C dL_ticks_158 2 rfl ?_
                        refine cw_if_ge (pc := 160) (tgt := 167) C dL_ticks_160 (by decide) (fun h160 => ?_) (fun h160 => ?_)
                        · -- 160 t
                          have h160 : 0 ≤ (wyN Xt i to) := (nc_ge (a := wyN Xt i to) (b := 0) (by omega) (by omega)).mp h160
                          refine cw_iconst (pc := 167) C dL_ticks_167 (nI 0) (by decide) ?_
                          refine cw_istore (pc := 168) C dL_ticks_168 (by decide) (lv' := [(13, .int (nI 0)), (12, .int (nI (hd - 1))), (11, .int (nI to)), (10, .int (nI (wyN Xt i to))), (9, .int (Xt 40)), (8, .int (nI ht7)), (7, .int (Xt 43)), (6, .int (nI hd)), (5, .int (nI to)), (4, .int (nI i)), (3, .int (v)), (0, .ref (A 0)), (1, .int (x)), (2, .int (nI k))]) rfl ?_
                          refine cw_iload (pc := 170) C dL_ticks_170 2 rfl ?_
                          refine cw_iload (pc := 172) C dL_ticks_172 0 rfl ?_
                          refine cw_if_eq (pc := 174) (tgt := 182) C dL_ticks_174 (by decide) (fun _ => ?_) (fun h => False.elim (by revert h; decide))
                          refine cw_iload (pc := 182) C dL_ticks_182 8 rfl ?_
                          refine cw_icmp_ne (pc := 184) (tgt := 261) C dL_ticks_184 (by decide) (fun h184 => ?_) (fun h184 => ?_)
                          · -- 184 t
                            have h184 : ¬ to = to := (nc_ne (a := to) (b := to) (by omega) (by omega)).mp h184
                            exact absurd h184 (by omega)
                          · -- 184 f
                            have h184 : to = to := (nc_eq (a := to) (b := to) (by omega) (by omega)).mp h184
                            refine cw_aload_n (pc := 187) C dL_ticks_187 rfl 11 rfl ?_
                            refine cw_iconst (pc := 188) C dL_ticks_188 (nI 0) (by decide) ?_
                            refine cw_calli (pc := 189) C dL_ticks_189 (w_state l D Z A σ113 Y F (psh Kt nt Xt) (min (nt + 1) 5) (M + 60 * k + 60) (nI 0) h113) (cwV 1 C.1.2.2.2.2 gL_ticks_X6_state rfl rfl rfl (by decide +kernel) ⟨Nat.le_of_ble_eq_true rfl, Nat.le_of_ble_eq_true rfl⟩) 0 rfl rfl rfl rfl (Nat.le_of_ble_eq_true rfl) (fun r123 σ123 hr123 => ?_)
                            rw [(saA_k (k := 0) (by omega)).trans (congrArg Sum.inl y39)] at hr123
                            obtain ⟨rfl, h123⟩ := hr123
                            have h123 : absP σ123 Y F (psh Kt nt Xt) (min (nt + 1) 5) (M + 60 * k + 60) := h123
                            refine cw_top (nI to) rfl ?_
                            refine cw_iload (pc := 192) C dL_ticks_192 2 rfl ?_
                            refine cw_icmp_ne (pc := 194) (tgt := 261) C dL_ticks_194 (by decide) (fun h194 => ?_) (fun h194 => ?_)
                            · -- 194 t
                              have h194 : ¬ to = to := (nc_ne (a := to) (b := to) (by omega) (by omega)).mp h194
                              exact absurd h194 (by omega)
                            · -- 194 f
                              have h194 : to = to := (nc_eq (a := to) (b := to) (by omega) (by omega)).mp h194
                              refine cw_aload_n (pc := 197) C dL_ticks_197 rfl 11 rfl ?_
                              refine cw_iconst (pc := 198) C dL_ticks_198 (nI 1) (by decide) ?_
                              refine cw_calli (pc := 199) C dL_ticks_199 (w_state l D Z A σ123 Y F (psh Kt nt Xt) (min (nt + 1) 5) (M + 60 * k + 60) (nI 1) h123) (cwV 1 C.1.2.2.2.2 gL_ticks_X6_state rfl rfl rfl (by decide +kernel) ⟨Nat.le_of_ble_eq_true rfl, Nat.le_of_ble_eq_true rfl⟩) 0 rfl rfl rfl rfl (Nat.le_of_ble_eq_true rfl) (fun r124 σ124 hr124 => ?_)
                              rw [(saA_k (k := 1) (by omega)).trans (congrArg Sum.inl htm)] at hr124
                              obtain ⟨rfl, h124⟩ := hr124
                              have h124 : absP σ124 Y F (psh Kt nt Xt) (min (nt + 1) 5) (M + 60 * k + 60) := h124
                              refine cw_top (Xt 40 + nI 1) rfl ?_
                              refine cw_iload (pc := 202) C dL_ticks_202 4 rfl ?_
                              refine cw_iconst (pc := 204) C dL_ticks_204 (nI 1) (by decide) ?_
                              refine cw_iadd (pc := 205) C dL_ticks_205 (z := (Xt 40) + (nI 1)) rfl ?_
                              refine cw_icmp_ne (pc := 206) (tgt := 261) C dL_ticks_206 (by decide) (fun h206 => absurd rfl h206) (fun h206 => ?_)
                              refine cw_aload_n (pc := 209) C dL_ticks_209 rfl 11 rfl ?_
                              refine cw_iconst (pc := 210) C dL_ticks_210 (nI 4) (by decide) ?_
                              refine cw_calli (pc := 211) C dL_ticks_211 (w_state l D Z A σ124 Y F (psh Kt nt Xt) (min (nt + 1) 5) (M + 60 * k + 60) (nI 4) h124) (cwV 1 C.1.2.2.2.2 gL_ticks_X6_state rfl rfl rfl (by decide +kernel) ⟨Nat.le_of_ble_eq_true rfl, Nat.le_of_ble_eq_true rfl⟩) 0 rfl rfl rfl rfl (Nat.le_of_ble_eq_true rfl) (fun r125 σ125 hr125 => ?_)
                              rw [(saA_k (k := 4) (by omega)).trans (congrArg Sum.inl y43)] at hr125
                              obtain ⟨rfl, h125⟩ := hr125
                              have h125 : absP σ125 Y F (psh Kt nt Xt) (min (nt + 1) 5) (M + 60 * k + 60) := h125
                              refine cw_top (Xt 43 + nI (wyN Xt i to)) rfl ?_
                              refine cw_iload (pc := 214) C dL_ticks_214 6 rfl ?_
                              refine cw_iload (pc := 216) C dL_ticks_216 0 rfl ?_
                              refine cw_if_ne (pc := 218) (tgt := 226) C dL_ticks_218 (by decide) (fun h => False.elim (by revert h; decide)) (fun _ => ?_)
                              refine cw_iload (pc := 221) C dL_ticks_221 9 rfl ?_
                              refine cw_if_ne (pc := 223) (tgt := 230) C dL_ticks_223 (by decide) (fun h223 => ?_) (fun h223 => ?_)
                              · -- 223 t
                                have h223 : ¬ i = 0 := (nc_ne (a := i) (b := 0) (by omega) (by omega)).mp h223
                                refine cw_iload (pc := 230) C dL_ticks_230 3 rfl ?_
                                refine cw_iadd (pc := 232) C dL_ticks_232 (z := Xt 43 + nI (wyN Xt i to)) rfl ?_
                                refine cw_icmp_ne (pc := 233) (tgt := 261) C dL_ticks_233 (by decide) (fun h233 => absurd rfl h233) (fun h233 => ?_)
                                refine cw_aload_n (pc := 236) C dL_ticks_236 rfl 11 rfl ?_
                                refine cw_bipush (pc := 237) C dL_ticks_237 (nI 7) (by decide) ?_
                                refine cw_calli (pc := 239) C dL_ticks_239 (w_state l D Z A σ125 Y F (psh Kt nt Xt) (min (nt + 1) 5) (M + 60 * k + 60) (nI 7) h125) (cwV 1 C.1.2.2.2.2 gL_ticks_X6_state rfl rfl rfl (by decide +kernel) ⟨Nat.le_of_ble_eq_true rfl, Nat.le_of_ble_eq_true rfl⟩) 0 rfl rfl rfl rfl (Nat.le_of_ble_eq_true rfl) (fun r126 σ126 hr126 => ?_)
                                rw [(saA_k (k := 7) (by omega)).trans (congrArg Sum.inl y46)] at hr126
                                obtain ⟨rfl, h126⟩ := hr126
                                have h126 : absP σ126 Y F (psh Kt nt Xt) (min (nt + 1) 5) (M + 60 * k + 60) := h126
                                refine cw_top (nI (ht7 + 1)) rfl ?_
                                refine cw_iload (pc := 242) C dL_ticks_242 5 rfl ?_
                                refine cw_isub (pc := 244) C dL_ticks_244 (z := nI 1) ((pk_sub (by omega)).trans (congrArg nI (by omega))) ?_
                                refine cw_if_lt (pc := 245) (tgt := 261) C dL_ticks_245 (by decide) (fun h => False.elim (by revert h; decide)) (fun _ => ?_)
                                refine cw_aload_n (pc := 248) C dL_ticks_248 rfl 11 rfl ?_
                                refine cw_bipush (pc := 249) C dL_ticks_249 (nI 7) (by decide) ?_
                                refine cw_calli (pc := 251) C dL_ticks_251 (w_state l D Z A σ126 Y F (psh Kt nt Xt) (min (nt + 1) 5) (M + 60 * k + 60) (nI 7) h126) (cwV 1 C.1.2.2.2.2 gL_ticks_X6_state rfl rfl rfl (by decide +kernel) ⟨Nat.le_of_ble_eq_true rfl, Nat.le_of_ble_eq_true rfl⟩) 0 rfl rfl rfl rfl (Nat.le_of_ble_eq_true rfl) (fun r127 σ127 hr127 => ?_)
                                rw [(saA_k (k := 7) (by omega)).trans (congrArg Sum.inl y46)] at hr127
                                obtain ⟨rfl, h127⟩ := hr127
                                have h127 : absP σ127 Y F (psh Kt nt Xt) (min (nt + 1) 5) (M + 60 * k + 60) := h127
                                refine cw_top (nI (ht7 + 1)) rfl ?_
                                refine cw_iload (pc := 254) C dL_ticks_254 5 rfl ?_
                                refine cw_isub (pc := 256) C dL_ticks_256 (z := nI 1) ((pk_sub (by omega)).trans (congrArg nI (by omega))) ?_
                                refine cw_iconst (pc := 257) C dL_ticks_257 (nI 1) (by decide) ?_
                                refine cw_icmp_le (pc := 258) (tgt := 263) C dL_ticks_258 (by decide) (fun _ => ?_) (fun h => False.elim (by revert h; decide))
                                refine cw_aload_n (pc := 263) C dL_ticks_263 rfl 11 rfl ?_
                                refine cw_bipush (pc := 264) C dL_ticks_264 (nI 7) (by decide) ?_
                                refine cw_calli (pc := 266) C dL_ticks_266 (w_state l D Z A σ127 Y F (psh Kt nt Xt) (min (nt + 1) 5) (M + 60 * k + 60) (nI 7) h127) (cwV 1 C.1.2.2.2.2 gL_ticks_X6_state rfl rfl rfl (by decide +kernel) ⟨Nat.le_of_ble_eq_true rfl, Nat.le_of_ble_eq_true rfl⟩) 0 rfl rfl rfl rfl (Nat.le_of_ble_eq_true rfl) (fun r128 σ128 hr128 => ?_)
                                rw [(saA_k (k := 7) (by omega)).trans (congrArg Sum.inl y46)] at hr128
                                obtain ⟨rfl, h128⟩ := hr128
                                have h128 : absP σ128 Y F (psh Kt nt Xt) (min (nt + 1) 5) (M + 60 * k + 60) := h128
                                refine cw_top (nI (ht7 + 1)) rfl ?_
                                refine cw_iload (pc := 269) C dL_ticks_269 5 rfl ?_
                                refine cw_icmp_le (pc := 271) (tgt := 278) C dL_ticks_271 (by decide) (fun h271 => ?_) (fun h271 => ?_)
                                · -- 271 t
                                  have h271 : (ht7 + 1) ≤ ht7 := (nc_le (a := ht7 + 1) (b := ht7) (by omega) (by omega)).mp h271
                                  exact absurd h271 (by omega)
                                · -- 271 f
                                  have h271 : ¬ ((ht7 + 1) ≤ ht7) := fun qq => h271 ((nc_le (a := ht7 + 1) (b := ht7) (by omega) (by omega)).mpr qq)
                                  refine cw_iconst (pc := 274) C dL_ticks_274 (nI 1) (by decide) ?_
                                  refine cw_goto (pc := 275) (tgt := 279) C dL_ticks_275 (by decide) ?_
                                  refine cw_istore (pc := 279) C dL_ticks_279 (by decide) (lv' := [(14, .int (nI 1)), (13, .int (nI 0)), (12, .int (nI (hd - 1))), (11, .int (nI to)), (10, .int (nI (wyN Xt i to))), (9, .int (Xt 40)), (8, .int (nI ht7)), (7, .int (Xt 43)), (6, .int (nI hd)), (5, .int (nI to)), (4, .int (nI i)), (3, .int (v)), (0, .ref (A 0)), (1, .int (x)), (2, .int (nI k))]) rfl ?_
                                  refine cw_aload_n (pc := 281) C dL_ticks_281 rfl 12 rfl ?_
                                  refine cw_iconst (pc := 282) C dL_ticks_282 (nI 2) (by decide) ?_
                                  refine cw_calli (pc := 283) C dL_ticks_283 (w_state l D Z A σ128 Y F (psh Kt nt Xt) (min (nt + 1) 5) (M + 60 * k + 60) (nI 2) h128) (cwV 1 C.1.2.2.2.2 gL_ticks_X6_state rfl rfl rfl (by decide +kernel) ⟨Nat.le_of_ble_eq_true rfl, Nat.le_of_ble_eq_true rfl⟩) 0 rfl rfl rfl rfl (Nat.le_of_ble_eq_true rfl) (fun r129 σ129 hr129 => ?_)
                                  rw [(saA_k (k := 2) (by omega)).trans (congrArg Sum.inl y41)] at hr129
                                  obtain ⟨rfl, h129⟩ := hr129
                                  have h129 : absP σ129 Y F (psh Kt nt Xt) (min (nt + 1) 5) (M + 60 * k + 60) := h129
                                  refine cw_top (nI 10) rfl ?_
                                  refine cw_iload (pc := 286) C dL_ticks_286 0 rfl ?_
                                  refine cw_if_eq (pc := 288) (tgt := 296) C dL_ticks_288 (by decide) (fun h => False.elim (by revert h; decide)) (fun _ => ?_)
                                  refine cw_bipush (pc := 291) C dL_ticks_291 (nI 10) (by decide) ?_
                                  refine cw_goto (pc := 293) (tgt := 298) C dL_ticks_293 (by decide) ?_
                                  refine cw_icmp_ne (pc := 298) (tgt := 360) C dL_ticks_298 (by decide) (fun h => False.elim (by revert h; decide)) (fun _ => ?_)
                                  refine cw_iload (pc := 301) C dL_ticks_301 0 rfl ?_
                                  refine cw_if_eq (pc := 303) (tgt := 336) C dL_ticks_303 (by decide) (fun h => False.elim (by revert h; decide)) (fun _ => ?_)
                                  refine cw_iload (pc := 306) C dL_ticks_306 3 rfl ?_
                                  refine cw_iload (pc := 308) C dL_ticks_308 10 rfl ?_
                                  refine cw_icmp_ge (pc := 310) (tgt := 360) C dL_ticks_310 (by decide) (fun h310 => ?_) (fun h310 => ?_)
                                  · -- 310 t
                                    have h310 : i ≤ to := (nc_ge (a := to) (b := i) (by omega) (by omega)).mp h310
                                    exact absurd h310 (by omega)
                                  · -- 310 f
                                    have h310 : ¬ (i ≤ to) := fun qq => h310 ((nc_ge (a := to) (b := i) (by omega) (by omega)).mpr qq)
                                    refine cw_aload_n (pc := 313) C dL_ticks_313 rfl 12 rfl ?_
                                    refine cw_iconst (pc := 314) C dL_ticks_314 (nI 3) (by decide) ?_
                                    refine cw_calli (pc := 315) C dL_ticks_315 (w_state l D Z A σ129 Y F (psh Kt nt Xt) (min (nt + 1) 5) (M + 60 * k + 60) (nI 3) h129) (cwV 1 C.1.2.2.2.2 gL_ticks_X6_state rfl rfl rfl (by decide +kernel) ⟨Nat.le_of_ble_eq_true rfl, Nat.le_of_ble_eq_true rfl⟩) 0 rfl rfl rfl rfl (Nat.le_of_ble_eq_true rfl) (fun r130 σ130 hr130 => ?_)
                                    rw [(saA_k (k := 3) (by omega)).trans (congrArg Sum.inl y42)] at hr130
                                    obtain ⟨rfl, h130⟩ := hr130
                                    have h130 : absP σ130 Y F (psh Kt nt Xt) (min (nt + 1) 5) (M + 60 * k + 60) := h130
                                    refine cw_top (Xt 42) rfl ?_
                                    refine cw_iconst (pc := 318) C dL_ticks_318 (-1) (by decide) ?_
                                    refine cw_icmp_eq (pc := 319) (tgt := 360) C dL_ticks_319 (by decide) (fun h319 => ?_) (fun h319 => ?_)
                                    · -- 319 t
                                      exact absurd h319 u1
                                    · -- 319 f
                                      refine cw_iload (pc := 322) C dL_ticks_322 5 rfl ?_
                                      refine cw_iconst (pc := 324) C dL_ticks_324 (nI 1) (by decide) ?_
                                      refine cw_iadd (pc := 325) C dL_ticks_325 (z := (Xt 40) + (nI 1)) rfl ?_
                                      refine cw_aload_n (pc := 326) C dL_ticks_326 rfl 12 rfl ?_
                                      refine cw_iconst (pc := 327) C dL_ticks_327 (nI 3) (by decide) ?_
                                      refine cw_calli (pc := 328) C dL_ticks_328 (w_state l D Z A σ130 Y F (psh Kt nt Xt) (min (nt + 1) 5) (M + 60 * k + 60) (nI 3) h130) (cwV 1 C.1.2.2.2.2 gL_ticks_X6_state rfl rfl rfl (by decide +kernel) ⟨Nat.le_of_ble_eq_true rfl, Nat.le_of_ble_eq_true rfl⟩) 0 rfl rfl rfl rfl (Nat.le_of_ble_eq_true rfl) (fun r131 σ131 hr131 => ?_)
                                      rw [(saA_k (k := 3) (by omega)).trans (congrArg Sum.inl y42)] at hr131
                                      obtain ⟨rfl, h131⟩ := hr131
                                      have h131 : absP σ131 Y F (psh Kt nt Xt) (min (nt + 1) 5) (M + 60 * k + 60) := h131
                                      refine cw_top (Xt 42) rfl ?_
                                      refine cw_isub (pc := 331) C dL_ticks_331 (z := ((Xt 40) + (nI 1)) - (Xt 42)) rfl ?_
                                      refine cw_iconst (pc := 332) C dL_ticks_332 (nI 5) (by decide) ?_
                                      refine cw_icmp_gt (pc := 333) (tgt := 360) C dL_ticks_333 (by decide) (fun h333 => ?_) (fun h333 => ?_)
                                      · -- 333 t
                                        exact absurd h333 u2
                                      · -- 333 f
                                        refine cw_iload (pc := 336) C dL_ticks_336 3 rfl ?_
                                        refine cw_iload (pc := 338) C dL_ticks_338 10 rfl ?_
                                        refine cw_icmp_le (pc := 340) (tgt := 362) C dL_ticks_340 (by decide) (fun h340 => ?_) (fun h340 => ?_)
                                        · -- 340 t
                                          have h340 : to ≤ i := (nc_le (a := to) (b := i) (by omega) (by omega)).mp h340
                                          refine cw_iload (pc := 362) C dL_ticks_362 10 rfl ?_
                                          refine cw_if_le (pc := 364) (tgt := 386) C dL_ticks_364 (by decide) (fun h364 => ?_) (fun h364 => ?_)
                                          · -- 364 t
                                            have h364 : i ≤ 0 := (nc_le (a := i) (b := 0) (by omega) (by omega)).mp h364
                                            exact absurd h364 (by omega)
                                          · -- 364 f
                                            have h364 : ¬ (i ≤ 0) := fun qq => h364 ((nc_le (a := i) (b := 0) (by omega) (by omega)).mpr qq)
                                            refine cw_iload (pc := 367) C dL_ticks_367 9 rfl ?_
                                            refine cw_iload (pc := 369) C dL_ticks_369 10 rfl ?_
                                            refine cw_icmp_ne (pc := 371) (tgt := 386) C dL_ticks_371 (by decide) (fun h371 => ?_) (fun h371 => ?_)
                                            · -- 371 t
                                              have h371 : ¬ to = i := (nc_ne (a := to) (b := i) (by omega) (by omega)).mp h371
                                              refine cw_iinc (pc := 386) C dL_ticks_386 14 rfl (nI (k + 1)) (nI_inc _ 1) (by decide) (lv' := [(2, .int (nI (k + 1))), (14, .int (nI 1)), (13, .int (nI 0)), (12, .int (nI (hd - 1))), (11, .int (nI to)), (10, .int (nI (wyN Xt i to))), (9, .int (Xt 40)), (8, .int (nI ht7)), (7, .int (Xt 43)), (6, .int (nI hd)), (5, .int (nI to)), (4, .int (nI i)), (3, .int (v)), (0, .ref (A 0)), (1, .int (x))]) rfl ?_
                                              refine cw_goto (pc := 389) (tgt := 2) C dL_ticks_389 (by decide) ?_
                                              refine cw_lv [13, 14, 0] rfl ?_
                                              exact ih2 (k + 1) Y (psh Kt nt Xt) (min (nt + 1) 5) σ131 (by omega) (by omega) (by rw [show M + 60 * (k + 1) = M + 60 * k + 60 by omega]; exact h131)
                                            · -- 371 f
                                              have h371 : to = i := (nc_eq (a := to) (b := i) (by omega) (by omega)).mp h371
                                              exact absurd h371 (by omega)
                                        · -- 340 f
                                          have h340 : ¬ (to ≤ i) := fun qq => h340 ((nc_le (a := to) (b := i) (by omega) (by omega)).mpr qq)
                                          exact absurd h340 (by omega)
                              · -- 223 f
                                have h223 : i = 0 := (nc_eq (a := i) (b := 0) (by omega) (by omega)).mp h223
                                exact absurd h223 (by omega)
                        · -- 160 f
                          have h160 : ¬ (0 ≤ (wyN Xt i to)) := fun qq => h160 ((nc_ge (a := wyN Xt i to) (b := 0) (by omega) (by omega)).mpr qq)
                          exact absurd h160 (by omega)
                      · -- 150 f
                        have h150 : ¬ (to ≤ i) := fun qq => h150 ((nc_le (a := to) (b := i) (by omega) (by omega)).mpr qq)
                        exact absurd h150 (by omega)
        refine cw_iload_n (pc := 8) C dL_ticks_8 rfl 2 rfl ?_
        refine cw_iconst (pc := 9) C dL_ticks_9 (nI 2) (by decide) ?_
        refine cw_irem (pc := 10) C dL_ticks_10 (by decide) (z := nI (k % 2)) (pk_rem (by omega) (by omega) (by omega)) ?_
        refine cw_if_ne (pc := 11) (tgt := 28) C dL_ticks_11 (by decide) (fun h11 => ?_) (fun h11 => ?_)
        · -- 11 t
          have h11 : ¬ (k % 2) = 0 := (nc_ne (a := k % 2) (b := 0) (by omega) (by omega)).mp h11
          refine cw_iload_n (pc := 28) C dL_ticks_28 rfl 2 rfl ?_
          refine cw_iconst (pc := 29) C dL_ticks_29 (nI 3) (by decide) ?_
          refine cw_icmp_ne (pc := 30) (tgt := 37) C dL_ticks_30 (by decide) (fun h30 => ?_) (fun h30 => ?_)
          · -- 30 t
            have h30 : ¬ k = 3 := (nc_ne (a := k) (b := 3) (by omega) (by omega)).mp h30
            refine cw_sipush (pc := 37) C dL_ticks_37 (nI 300) (by decide) ?_
            refine cw_lv [0, 1, 2] rfl ?_
            exact L40 (nI 300) σt (by decide) ht
          · -- 30 f
            have h30 : k = 3 := (nc_eq (a := k) (b := 3) (by omega) (by omega)).mp h30
            refine cw_iconst (pc := 33) C dL_ticks_33 (nI 0) (by decide) ?_
            refine cw_goto (pc := 34) (tgt := 40) C dL_ticks_34 (by decide) ?_
            refine cw_lv [0, 1, 2] rfl ?_
            exact L40 (nI 0) σt (by decide) ht
        · -- 11 f
          have h11 : (k % 2) = 0 := (nc_eq (a := k % 2) (b := 0) (by omega) (by omega)).mp h11
          refine cw_iload_n (pc := 14) C dL_ticks_14 rfl 1 rfl ?_
          refine cw_iconst (pc := 15) C dL_ticks_15 (nI 3) (by decide) ?_
          refine cw_iload_n (pc := 16) C dL_ticks_16 rfl 2 rfl ?_
          refine cw_imul (pc := 17) C dL_ticks_17 (z := nI (3 * k)) (pk_mul _ _) ?_
          refine cw_ishr (pc := 18) C dL_ticks_18 (z := x >>> ((nI (3 * k)) &&& 31)) rfl ?_
          refine cw_sipush (pc := 19) C dL_ticks_19 (nI 200) (by decide) ?_
          refine cw_calls (pc := 22) C dL_ticks_22 (c_L_low l D Z A σt (x >>> ((nI (3 * k)) &&& 31)) 200 (by decide)) (va_cwS 2 C.1.2.2.2.2 gL_ticks_L_low rfl rfl rfl (by decide +kernel) ⟨Nat.le_of_ble_eq_true rfl, Nat.le_of_ble_eq_true rfl⟩) rfl rfl (Nat.le_of_ble_eq_true rfl) (cw_pure (v := lowI (x >>> ((nI (3 * k)) &&& 31)) 200) (fun _ _ h => h) ?_)
          refine cw_goto (pc := 25) (tgt := 40) C dL_ticks_25 (by decide) ?_
          refine cw_lv [0, 1, 2] rfl ?_
          exact L40 (lowI (x >>> ((nI (3 * k)) &&& 31)) 200) σt (lowI_within _ (by decide) (by decide)) ht
  refine cw_lv [1, 2, 0] rfl ?_
  exact L2 7 0 X K nn σ (by omega) (by omega) h
