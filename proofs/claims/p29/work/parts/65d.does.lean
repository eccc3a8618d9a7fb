set_option maxHeartbeats 4000000 in
set_option maxRecDepth 100000 in
theorem c_L_does (l : Launch) (D : va_G) (Z : CZ) (A : Nat → Nat) (σ : St) (X F : Nat → Int32) (K : Nat → Nat → Int32) (nn M : Nat) (x : Int32) (y : Int32) (z : Int32) (h : absP σ X F K nn M) : CTi l yL_does wsL_does 8 188 D Z (wC Z A) σ [.ref (A 0), .int (x), .int (y), .int (z)] (fun r σ' => ∃ (o : Nat) (a b : Int32), o < 10 ∧ chP σ' X F K nn M o a b r) := by
  refine CTi.mk (cc := cL_does) (nL := 7) (own := RL) rfl (by decide) rfl (Nat.le_of_ble_eq_true rfl) ?_
  intro p0 e0 s0 m0 g0 b0 t0 c0 A0 Q C hret
  refine cw_lv (lv' := [(0, .ref (A 0)), (1, .int (x)), (2, .int (y)), (3, .int (z))]) [0, 1, 2, 3] rfl ?_
  have L14 : ∀ (od : Bool) (σa : St) (hσa : absP σa X F K nn M), CW p0 l e0 (rmC 8 188) s0 m0 g0 b0 t0 c0 D A0 7 (wC Z A) Q σa 14 [(0, .ref (A 0)), (1, .int (x)), (2, .int (y)), (3, .int (z))] [.int (bI od)] := by
    intro od σa hσa
    refine cw_istore (pc := 14) C dL_does_14 (by decide) (lv' := [(4, .int (bI od)), (0, .ref (A 0)), (1, .int (x)), (2, .int (y)), (3, .int (z))]) rfl ?_
    have L38 : ∀ (gv : Int32) (σb : St) (hσb : absP σb X F K nn M), CW p0 l e0 (rmC 8 188) s0 m0 g0 b0 t0 c0 D A0 7 (wC Z A) Q σb 38 [(0, .ref (A 0)), (1, .int (x)), (2, .int (y)), (3, .int (z)), (4, .int (bI od))] [.int (gv)] := by
      intro gv σb hσb
      refine cw_istore (pc := 38) C dL_does_38 (by decide) (lv' := [(5, .int (gv)), (0, .ref (A 0)), (1, .int (x)), (2, .int (y)), (3, .int (z)), (4, .int (bI od))]) rfl ?_
      have L59 : ∀ (kv : Int32) (σc : St) (hσc : absP σc X F K nn M), CW p0 l e0 (rmC 8 188) s0 m0 g0 b0 t0 c0 D A0 7 (wC Z A) Q σc 59 [(0, .ref (A 0)), (1, .int (x)), (2, .int (y)), (3, .int (z)), (4, .int (bI od)), (5, .int (gv))] [.int (kv)] := by
        intro kv σc hσc
        refine cw_istore (pc := 59) C dL_does_59 (by decide) (lv' := [(6, .int (kv)), (0, .ref (A 0)), (1, .int (x)), (2, .int (y)), (3, .int (z)), (4, .int (bI od)), (5, .int (gv))]) rfl ?_
        refine cw_iload_n (pc := 61) C dL_does_61 rfl 2 rfl ?_
        refine cw_bipush (pc := 62) C dL_does_62 (nI 15) (by decide) ?_
        refine cw_iand (pc := 64) C dL_does_64 (z := x &&& (nI 15)) rfl ?_
        by_cases q65_0 : x &&& (nI 15) = nI 0
        · -- case 0
          refine cw_top (nI 0) q65_0 ?_
          refine cw_tableIn (pc := 65) (off := 63) (tgt := 128) C dL_does_65 (by decide) (by decide) (by decide +kernel) (by decide) ?_
          refine cw_aload_n (pc := 128) C dL_does_128 rfl 1 rfl ?_
          refine cw_iload (pc := 129) C dL_does_129 6 rfl ?_
          refine cw_iload (pc := 131) C dL_does_131 5 rfl ?_
          refine cw_if_eq (pc := 133) (tgt := 140) C dL_does_133 (by decide) (fun h133 => ?_) (fun h133 => ?_)
          · -- 133 t
            have h133 := bI_z h133
            refine cw_iload_n (pc := 140) C dL_does_140 rfl 4 rfl ?_
            refine cw_bipush (pc := 141) C dL_does_141 (nI 32) (by decide) ?_
            refine cw_calls (pc := 143) C dL_does_143 (c_L_low l D Z A σc z 32 (by decide)) (va_cwS 2 C.1.2.2.2.2 gL_does_L_low rfl rfl rfl (by decide +kernel) ⟨Nat.le_of_ble_eq_true rfl, Nat.le_of_ble_eq_true rfl⟩) rfl rfl (Nat.le_of_ble_eq_true rfl) (cw_pure (v := lowI z 32) (fun _ _ h => h) ?_)
            refine cw_calli (pc := 146) C dL_does_146 (w_gear l D Z A σc X F K nn M gv (lowI z 32) hσc) (cwV 2 C.1.2.2.2.2 gL_does_X6_gear rfl rfl rfl (by decide +kernel) ⟨Nat.le_of_ble_eq_true rfl, Nat.le_of_ble_eq_true rfl⟩) 0 rfl rfl rfl rfl (Nat.le_of_ble_eq_true rfl) (fun r1 σ1 hr1 => ?_)
            refine hret r1 σ1 _ _ dL_does_149 ?_
            clear hret
            exact ⟨0, _, _, by omega, hr1⟩
          · -- 133 f
            have h133 := bI_nz h133
            refine cw_iload_n (pc := 136) C dL_does_136 rfl 4 rfl ?_
            refine cw_goto (pc := 137) (tgt := 146) C dL_does_137 (by decide) ?_
            refine cw_calli (pc := 146) C dL_does_146 (w_gear l D Z A σc X F K nn M gv z hσc) (cwV 2 C.1.2.2.2.2 gL_does_X6_gear rfl rfl rfl (by decide +kernel) ⟨Nat.le_of_ble_eq_true rfl, Nat.le_of_ble_eq_true rfl⟩) 0 rfl rfl rfl rfl (Nat.le_of_ble_eq_true rfl) (fun r2 σ2 hr2 => ?_)
            refine hret r2 σ2 _ _ dL_does_149 ?_
            clear hret
            exact ⟨0, _, _, by omega, hr2⟩
        by_cases q65_1 : x &&& (nI 15) = nI 1
        · -- case 1
          refine cw_top (nI 1) q65_1 ?_
          refine cw_tableIn (pc := 65) (off := 63) (tgt := 128) C dL_does_65 (by decide) (by decide) (by decide +kernel) (by decide) ?_
          refine cw_aload_n (pc := 128) C dL_does_128 rfl 1 rfl ?_
          refine cw_iload (pc := 129) C dL_does_129 6 rfl ?_
          refine cw_iload (pc := 131) C dL_does_131 5 rfl ?_
          refine cw_if_eq (pc := 133) (tgt := 140) C dL_does_133 (by decide) (fun h133 => ?_) (fun h133 => ?_)
          · -- 133 t
            have h133 := bI_z h133
            refine cw_iload_n (pc := 140) C dL_does_140 rfl 4 rfl ?_
            refine cw_bipush (pc := 141) C dL_does_141 (nI 32) (by decide) ?_
            refine cw_calls (pc := 143) C dL_does_143 (c_L_low l D Z A σc z 32 (by decide)) (va_cwS 2 C.1.2.2.2.2 gL_does_L_low rfl rfl rfl (by decide +kernel) ⟨Nat.le_of_ble_eq_true rfl, Nat.le_of_ble_eq_true rfl⟩) rfl rfl (Nat.le_of_ble_eq_true rfl) (cw_pure (v := lowI z 32) (fun _ _ h => h) ?_)
            refine cw_calli (pc := 146) C dL_does_146 (w_gear l D Z A σc X F K nn M gv (lowI z 32) hσc) (cwV 2 C.1.2.2.2.2 gL_does_X6_gear rfl rfl rfl (by decide +kernel) ⟨Nat.le_of_ble_eq_true rfl, Nat.le_of_ble_eq_true rfl⟩) 0 rfl rfl rfl rfl (Nat.le_of_ble_eq_true rfl) (fun r3 σ3 hr3 => ?_)
            refine hret r3 σ3 _ _ dL_does_149 ?_
            clear hret
            exact ⟨0, _, _, by omega, hr3⟩
          · -- 133 f
            have h133 := bI_nz h133
            refine cw_iload_n (pc := 136) C dL_does_136 rfl 4 rfl ?_
            refine cw_goto (pc := 137) (tgt := 146) C dL_does_137 (by decide) ?_
            refine cw_calli (pc := 146) C dL_does_146 (w_gear l D Z A σc X F K nn M gv z hσc) (cwV 2 C.1.2.2.2.2 gL_does_X6_gear rfl rfl rfl (by decide +kernel) ⟨Nat.le_of_ble_eq_true rfl, Nat.le_of_ble_eq_true rfl⟩) 0 rfl rfl rfl rfl (Nat.le_of_ble_eq_true rfl) (fun r4 σ4 hr4 => ?_)
            refine hret r4 σ4 _ _ dL_does_149 ?_
            clear hret
            exact ⟨0, _, _, by omega, hr4⟩
        by_cases q65_2 : x &&& (nI 15) = nI 2
        · -- case 2
          refine cw_top (nI 2) q65_2 ?_
          refine cw_tableIn (pc := 65) (off := 63) (tgt := 128) C dL_does_65 (by decide) (by decide) (by decide +kernel) (by decide) ?_
          refine cw_aload_n (pc := 128) C dL_does_128 rfl 1 rfl ?_
          refine cw_iload (pc := 129) C dL_does_129 6 rfl ?_
          refine cw_iload (pc := 131) C dL_does_131 5 rfl ?_
          refine cw_if_eq (pc := 133) (tgt := 140) C dL_does_133 (by decide) (fun h133 => ?_) (fun h133 => ?_)
          · -- 133 t
            have h133 := bI_z h133
            refine cw_iload_n (pc := 140) C dL_does_140 rfl 4 rfl ?_
            refine cw_bipush (pc := 141) C dL_does_141 (nI 32) (by decide) ?_
            refine cw_calls (pc := 143) C dL_does_143 (c_L_low l D Z A σc z 32 (by decide)) (va_cwS 2 C.1.2.2.2.2 gL_does_L_low rfl rfl rfl (by decide +kernel) ⟨Nat.le_of_ble_eq_true rfl, Nat.le_of_ble_eq_true rfl⟩) rfl rfl (Nat.le_of_ble_eq_true rfl) (cw_pure (v := lowI z 32) (fun _ _ h => h) ?_)
            refine cw_calli (pc := 146) C dL_does_146 (w_gear l D Z A σc X F K nn M gv (lowI z 32) hσc) (cwV 2 C.1.2.2.2.2 gL_does_X6_gear rfl rfl rfl (by decide +kernel) ⟨Nat.le_of_ble_eq_true rfl, Nat.le_of_ble_eq_true rfl⟩) 0 rfl rfl rfl rfl (Nat.le_of_ble_eq_true rfl) (fun r5 σ5 hr5 => ?_)
            refine hret r5 σ5 _ _ dL_does_149 ?_
            clear hret
            exact ⟨0, _, _, by omega, hr5⟩
          · -- 133 f
            have h133 := bI_nz h133
            refine cw_iload_n (pc := 136) C dL_does_136 rfl 4 rfl ?_
            refine cw_goto (pc := 137) (tgt := 146) C dL_does_137 (by decide) ?_
            refine cw_calli (pc := 146) C dL_does_146 (w_gear l D Z A σc X F K nn M gv z hσc) (cwV 2 C.1.2.2.2.2 gL_does_X6_gear rfl rfl rfl (by decide +kernel) ⟨Nat.le_of_ble_eq_true rfl, Nat.le_of_ble_eq_true rfl⟩) 0 rfl rfl rfl rfl (Nat.le_of_ble_eq_true rfl) (fun r6 σ6 hr6 => ?_)
            refine hret r6 σ6 _ _ dL_does_149 ?_
            clear hret
            exact ⟨0, _, _, by omega, hr6⟩
        by_cases q65_3 : x &&& (nI 15) = nI 3
        · -- case 3
          refine cw_top (nI 3) q65_3 ?_
          refine cw_tableIn (pc := 65) (off := 63) (tgt := 128) C dL_does_65 (by decide) (by decide) (by decide +kernel) (by decide) ?_
          refine cw_aload_n (pc := 128) C dL_does_128 rfl 1 rfl ?_
          refine cw_iload (pc := 129) C dL_does_129 6 rfl ?_
          refine cw_iload (pc := 131) C dL_does_131 5 rfl ?_
          refine cw_if_eq (pc := 133) (tgt := 140) C dL_does_133 (by decide) (fun h133 => ?_) (fun h133 => ?_)
          · -- 133 t
            have h133 := bI_z h133
            refine cw_iload_n (pc := 140) C dL_does_140 rfl 4 rfl ?_
            refine cw_bipush (pc := 141) C dL_does_141 (nI 32) (by decide) ?_
            refine cw_calls (pc := 143) C dL_does_143 (c_L_low l D Z A σc z 32 (by decide)) (va_cwS 2 C.1.2.2.2.2 gL_does_L_low rfl rfl rfl (by decide +kernel) ⟨Nat.le_of_ble_eq_true rfl, Nat.le_of_ble_eq_true rfl⟩) rfl rfl (Nat.le_of_ble_eq_true rfl) (cw_pure (v := lowI z 32) (fun _ _ h => h) ?_)
            refine cw_calli (pc := 146) C dL_does_146 (w_gear l D Z A σc X F K nn M gv (lowI z 32) hσc) (cwV 2 C.1.2.2.2.2 gL_does_X6_gear rfl rfl rfl (by decide +kernel) ⟨Nat.le_of_ble_eq_true rfl, Nat.le_of_ble_eq_true rfl⟩) 0 rfl rfl rfl rfl (Nat.le_of_ble_eq_true rfl) (fun r7 σ7 hr7 => ?_)
            refine hret r7 σ7 _ _ dL_does_149 ?_
            clear hret
            exact ⟨0, _, _, by omega, hr7⟩
          · -- 133 f
            have h133 := bI_nz h133
            refine cw_iload_n (pc := 136) C dL_does_136 rfl 4 rfl ?_
            refine cw_goto (pc := 137) (tgt := 146) C dL_does_137 (by decide) ?_
            refine cw_calli (pc := 146) C dL_does_146 (w_gear l D Z A σc X F K nn M gv z hσc) (cwV 2 C.1.2.2.2.2 gL_does_X6_gear rfl rfl rfl (by decide +kernel) ⟨Nat.le_of_ble_eq_true rfl, Nat.le_of_ble_eq_true rfl⟩) 0 rfl rfl rfl rfl (Nat.le_of_ble_eq_true rfl) (fun r8 σ8 hr8 => ?_)
            refine hret r8 σ8 _ _ dL_does_149 ?_
            clear hret
            exact ⟨0, _, _, by omega, hr8⟩
        by_cases q65_4 : x &&& (nI 15) = nI 4
        · -- case 4
          refine cw_top (nI 4) q65_4 ?_
          refine cw_tableIn (pc := 65) (off := 85) (tgt := 150) C dL_does_65 (by decide) (by decide) (by decide +kernel) (by decide) ?_
          refine cw_aload_n (pc := 150) C dL_does_150 rfl 1 rfl ?_
          refine cw_iload (pc := 151) C dL_does_151 0 rfl ?_
          refine cw_iload (pc := 153) C dL_does_153 5 rfl ?_
          refine cw_if_eq (pc := 155) (tgt := 162) C dL_does_155 (by decide) (fun h155 => ?_) (fun h155 => ?_)
          · -- 155 t
            have h155 := bI_z h155
            refine cw_iload_n (pc := 162) C dL_does_162 rfl 4 rfl ?_
            refine cw_iconst (pc := 163) C dL_does_163 (nI 3) (by decide) ?_
            refine cw_calls (pc := 164) C dL_does_164 (c_L_low l D Z A σc z 3 (by decide)) (va_cwS 2 C.1.2.2.2.2 gL_does_L_low rfl rfl rfl (by decide +kernel) ⟨Nat.le_of_ble_eq_true rfl, Nat.le_of_ble_eq_true rfl⟩) rfl rfl (Nat.le_of_ble_eq_true rfl) (cw_pure (v := lowI z 3) (fun _ _ h => h) ?_)
            refine cw_calli (pc := 167) C dL_does_167 (w_fails l D Z A σc X F K nn M kv (lowI z 3) hσc) (cwV 2 C.1.2.2.2.2 gL_does_X6_fails rfl rfl rfl (by decide +kernel) ⟨Nat.le_of_ble_eq_true rfl, Nat.le_of_ble_eq_true rfl⟩) 0 rfl rfl rfl rfl (Nat.le_of_ble_eq_true rfl) (fun r9 σ9 hr9 => ?_)
            refine hret r9 σ9 _ _ dL_does_170 ?_
            clear hret
            exact ⟨1, _, _, by omega, hr9⟩
          · -- 155 f
            have h155 := bI_nz h155
            refine cw_iload_n (pc := 158) C dL_does_158 rfl 4 rfl ?_
            refine cw_goto (pc := 159) (tgt := 167) C dL_does_159 (by decide) ?_
            refine cw_calli (pc := 167) C dL_does_167 (w_fails l D Z A σc X F K nn M kv z hσc) (cwV 2 C.1.2.2.2.2 gL_does_X6_fails rfl rfl rfl (by decide +kernel) ⟨Nat.le_of_ble_eq_true rfl, Nat.le_of_ble_eq_true rfl⟩) 0 rfl rfl rfl rfl (Nat.le_of_ble_eq_true rfl) (fun r10 σ10 hr10 => ?_)
            refine hret r10 σ10 _ _ dL_does_170 ?_
            clear hret
            exact ⟨1, _, _, by omega, hr10⟩
        by_cases q65_5 : x &&& (nI 15) = nI 5
        · -- case 5
          refine cw_top (nI 5) q65_5 ?_
          refine cw_tableIn (pc := 65) (off := 106) (tgt := 171) C dL_does_65 (by decide) (by decide) (by decide +kernel) (by decide) ?_
          refine cw_aload_n (pc := 171) C dL_does_171 rfl 1 rfl ?_
          refine cw_iload (pc := 172) C dL_does_172 0 rfl ?_
          refine cw_iload (pc := 174) C dL_does_174 5 rfl ?_
          refine cw_if_eq (pc := 176) (tgt := 183) C dL_does_176 (by decide) (fun h176 => ?_) (fun h176 => ?_)
          · -- 176 t
            have h176 := bI_z h176
            refine cw_iconst (pc := 183) C dL_does_183 (nI 1) (by decide) ?_
            refine cw_iload_n (pc := 184) C dL_does_184 rfl 4 rfl ?_
            refine cw_bipush (pc := 185) C dL_does_185 (nI 20) (by decide) ?_
            refine cw_calls (pc := 187) C dL_does_187 (c_L_low l D Z A σc z 20 (by decide)) (va_cwS 2 C.1.2.2.2.2 gL_does_L_low rfl rfl rfl (by decide +kernel) ⟨Nat.le_of_ble_eq_true rfl, Nat.le_of_ble_eq_true rfl⟩) rfl rfl (Nat.le_of_ble_eq_true rfl) (cw_pure (v := lowI z 20) (fun _ _ h => h) ?_)
            refine cw_iadd (pc := 190) C dL_does_190 (z := (nI 1) + (lowI z 20)) rfl ?_
            refine cw_calli (pc := 191) C dL_does_191 (w_trues l D Z A σc X F K nn M kv ((nI 1) + (lowI z 20)) hσc) (cwV 2 C.1.2.2.2.2 gL_does_X6_trues rfl rfl rfl (by decide +kernel) ⟨Nat.le_of_ble_eq_true rfl, Nat.le_of_ble_eq_true rfl⟩) 0 rfl rfl rfl rfl (Nat.le_of_ble_eq_true rfl) (fun r11 σ11 hr11 => ?_)
            refine hret r11 σ11 _ _ dL_does_194 ?_
            clear hret
            exact ⟨2, _, _, by omega, hr11⟩
          · -- 176 f
            have h176 := bI_nz h176
            refine cw_iload_n (pc := 179) C dL_does_179 rfl 4 rfl ?_
            refine cw_goto (pc := 180) (tgt := 191) C dL_does_180 (by decide) ?_
            refine cw_calli (pc := 191) C dL_does_191 (w_trues l D Z A σc X F K nn M kv z hσc) (cwV 2 C.1.2.2.2.2 gL_does_X6_trues rfl rfl rfl (by decide +kernel) ⟨Nat.le_of_ble_eq_true rfl, Nat.le_of_ble_eq_true rfl⟩) 0 rfl rfl rfl rfl (Nat.le_of_ble_eq_true rfl) (fun r12 σ12 hr12 => ?_)
            refine hret r12 σ12 _ _ dL_does_194 ?_
            clear hret
            exact ⟨2, _, _, by omega, hr12⟩
        by_cases q65_6 : x &&& (nI 15) = nI 6
        · -- case 6
          refine cw_top (nI 6) q65_6 ?_
          refine cw_tableIn (pc := 65) (off := 130) (tgt := 195) C dL_does_65 (by decide) (by decide) (by decide +kernel) (by decide) ?_
          refine cw_aload_n (pc := 195) C dL_does_195 rfl 1 rfl ?_
          refine cw_iload (pc := 196) C dL_does_196 6 rfl ?_
          refine cw_iload (pc := 198) C dL_does_198 5 rfl ?_
          refine cw_if_eq (pc := 200) (tgt := 207) C dL_does_200 (by decide) (fun h200 => ?_) (fun h200 => ?_)
          · -- 200 t
            have h200 := bI_z h200
            refine cw_iload_n (pc := 207) C dL_does_207 rfl 4 rfl ?_
            refine cw_sipush (pc := 208) C dL_does_208 (nI 200) (by decide) ?_
            refine cw_calls (pc := 211) C dL_does_211 (c_L_low l D Z A σc z 200 (by decide)) (va_cwS 2 C.1.2.2.2.2 gL_does_L_low rfl rfl rfl (by decide +kernel) ⟨Nat.le_of_ble_eq_true rfl, Nat.le_of_ble_eq_true rfl⟩) rfl rfl (Nat.le_of_ble_eq_true rfl) (cw_pure (v := lowI z 200) (fun _ _ h => h) ?_)
            refine cw_calli (pc := 214) C dL_does_214 (w_up l D Z A σc X F K nn M gv (lowI z 200) hσc) (cwV 2 C.1.2.2.2.2 gL_does_X6_up rfl rfl rfl (by decide +kernel) ⟨Nat.le_of_ble_eq_true rfl, Nat.le_of_ble_eq_true rfl⟩) 0 rfl rfl rfl rfl (Nat.le_of_ble_eq_true rfl) (fun r13 σ13 hr13 => ?_)
            refine hret r13 σ13 _ _ dL_does_217 ?_
            clear hret
            exact ⟨3, _, _, by omega, hr13⟩
          · -- 200 f
            have h200 := bI_nz h200
            refine cw_iload_n (pc := 203) C dL_does_203 rfl 4 rfl ?_
            refine cw_goto (pc := 204) (tgt := 214) C dL_does_204 (by decide) ?_
            refine cw_calli (pc := 214) C dL_does_214 (w_up l D Z A σc X F K nn M gv z hσc) (cwV 2 C.1.2.2.2.2 gL_does_X6_up rfl rfl rfl (by decide +kernel) ⟨Nat.le_of_ble_eq_true rfl, Nat.le_of_ble_eq_true rfl⟩) 0 rfl rfl rfl rfl (Nat.le_of_ble_eq_true rfl) (fun r14 σ14 hr14 => ?_)
            refine hret r14 σ14 _ _ dL_does_217 ?_
            clear hret
            exact ⟨3, _, _, by omega, hr14⟩
        by_cases q65_7 : x &&& (nI 15) = nI 7
        · -- case 7
          refine cw_top (nI 7) q65_7 ?_
          refine cw_tableIn (pc := 65) (off := 153) (tgt := 218) C dL_does_65 (by decide) (by decide) (by decide +kernel) (by decide) ?_
          refine cw_aload_n (pc := 218) C dL_does_218 rfl 1 rfl ?_
          refine cw_iload (pc := 219) C dL_does_219 6 rfl ?_
          refine cw_iload (pc := 221) C dL_does_221 5 rfl ?_
          refine cw_if_eq (pc := 223) (tgt := 230) C dL_does_223 (by decide) (fun h223 => ?_) (fun h223 => ?_)
          · -- 223 t
            have h223 := bI_z h223
            refine cw_iload_n (pc := 230) C dL_does_230 rfl 4 rfl ?_
            refine cw_sipush (pc := 231) C dL_does_231 (nI 200) (by decide) ?_
            refine cw_calls (pc := 234) C dL_does_234 (c_L_low l D Z A σc z 200 (by decide)) (va_cwS 2 C.1.2.2.2.2 gL_does_L_low rfl rfl rfl (by decide +kernel) ⟨Nat.le_of_ble_eq_true rfl, Nat.le_of_ble_eq_true rfl⟩) rfl rfl (Nat.le_of_ble_eq_true rfl) (cw_pure (v := lowI z 200) (fun _ _ h => h) ?_)
            refine cw_calli (pc := 237) C dL_does_237 (w_down l D Z A σc X F K nn M gv (lowI z 200) hσc) (cwV 2 C.1.2.2.2.2 gL_does_X6_down rfl rfl rfl (by decide +kernel) ⟨Nat.le_of_ble_eq_true rfl, Nat.le_of_ble_eq_true rfl⟩) 0 rfl rfl rfl rfl (Nat.le_of_ble_eq_true rfl) (fun r15 σ15 hr15 => ?_)
            refine hret r15 σ15 _ _ dL_does_240 ?_
            clear hret
            exact ⟨4, _, _, by omega, hr15⟩
          · -- 223 f
            have h223 := bI_nz h223
            refine cw_iload_n (pc := 226) C dL_does_226 rfl 4 rfl ?_
            refine cw_goto (pc := 227) (tgt := 237) C dL_does_227 (by decide) ?_
            refine cw_calli (pc := 237) C dL_does_237 (w_down l D Z A σc X F K nn M gv z hσc) (cwV 2 C.1.2.2.2.2 gL_does_X6_down rfl rfl rfl (by decide +kernel) ⟨Nat.le_of_ble_eq_true rfl, Nat.le_of_ble_eq_true rfl⟩) 0 rfl rfl rfl rfl (Nat.le_of_ble_eq_true rfl) (fun r16 σ16 hr16 => ?_)
            refine hret r16 σ16 _ _ dL_does_240 ?_
            clear hret
            exact ⟨4, _, _, by omega, hr16⟩
        by_cases q65_8 : x &&& (nI 15) = nI 8
        · -- case 8
          refine cw_top (nI 8) q65_8 ?_
          refine cw_tableIn (pc := 65) (off := 176) (tgt := 241) C dL_does_65 (by decide) (by decide) (by decide +kernel) (by decide) ?_
          refine cw_aload_n (pc := 241) C dL_does_241 rfl 1 rfl ?_
          refine cw_iload (pc := 242) C dL_does_242 5 rfl ?_
          refine cw_if_eq (pc := 244) (tgt := 251) C dL_does_244 (by decide) (fun h244 => ?_) (fun h244 => ?_)
          · -- 244 t
            have h244 := bI_z h244
            refine cw_iload_n (pc := 251) C dL_does_251 rfl 4 rfl ?_
            refine cw_bipush (pc := 252) C dL_does_252 (nI 7) (by decide) ?_
            refine cw_calls (pc := 254) C dL_does_254 (c_L_low l D Z A σc z 7 (by decide)) (va_cwS 2 C.1.2.2.2.2 gL_does_L_low rfl rfl rfl (by decide +kernel) ⟨Nat.le_of_ble_eq_true rfl, Nat.le_of_ble_eq_true rfl⟩) rfl rfl (Nat.le_of_ble_eq_true rfl) (cw_pure (v := lowI z 7) (fun _ _ h => h) ?_)
            refine cw_iconst (pc := 257) C dL_does_257 (nI 3) (by decide) ?_
            refine cw_isub (pc := 258) C dL_does_258 (z := (lowI z 7) - (nI 3)) rfl ?_
            refine cw_calli (pc := 259) C dL_does_259 (w_slope l D Z A σc X F K nn M ((lowI z 7) - (nI 3)) hσc) (cwV 1 C.1.2.2.2.2 gL_does_X6_slope rfl rfl rfl (by decide +kernel) ⟨Nat.le_of_ble_eq_true rfl, Nat.le_of_ble_eq_true rfl⟩) 0 rfl rfl rfl rfl (Nat.le_of_ble_eq_true rfl) (fun r17 σ17 hr17 => ?_)
            refine hret r17 σ17 _ _ dL_does_262 ?_
            clear hret
            exact ⟨5, _, _, by omega, hr17⟩
          · -- 244 f
            have h244 := bI_nz h244
            refine cw_iload_n (pc := 247) C dL_does_247 rfl 4 rfl ?_
            refine cw_goto (pc := 248) (tgt := 259) C dL_does_248 (by decide) ?_
            refine cw_calli (pc := 259) C dL_does_259 (w_slope l D Z A σc X F K nn M z hσc) (cwV 1 C.1.2.2.2.2 gL_does_X6_slope rfl rfl rfl (by decide +kernel) ⟨Nat.le_of_ble_eq_true rfl, Nat.le_of_ble_eq_true rfl⟩) 0 rfl rfl rfl rfl (Nat.le_of_ble_eq_true rfl) (fun r18 σ18 hr18 => ?_)
            refine hret r18 σ18 _ _ dL_does_262 ?_
            clear hret
            exact ⟨5, _, _, by omega, hr18⟩
        by_cases q65_9 : x &&& (nI 15) = nI 9
        · -- case 9
          refine cw_top (nI 9) q65_9 ?_
          refine cw_tableIn (pc := 65) (off := 198) (tgt := 263) C dL_does_65 (by decide) (by decide) (by decide +kernel) (by decide) ?_
          refine cw_aload_n (pc := 263) C dL_does_263 rfl 1 rfl ?_
          refine cw_iload (pc := 264) C dL_does_264 5 rfl ?_
          refine cw_if_eq (pc := 266) (tgt := 273) C dL_does_266 (by decide) (fun h266 => ?_) (fun h266 => ?_)
          · -- 266 t
            have h266 := bI_z h266
            refine cw_iload_n (pc := 273) C dL_does_273 rfl 4 rfl ?_
            refine cw_iconst (pc := 274) C dL_does_274 (nI 4) (by decide) ?_
            refine cw_calls (pc := 275) C dL_does_275 (c_L_low l D Z A σc z 4 (by decide)) (va_cwS 2 C.1.2.2.2.2 gL_does_L_low rfl rfl rfl (by decide +kernel) ⟨Nat.le_of_ble_eq_true rfl, Nat.le_of_ble_eq_true rfl⟩) rfl rfl (Nat.le_of_ble_eq_true rfl) (cw_pure (v := lowI z 4) (fun _ _ h => h) ?_)
            refine cw_calli (pc := 278) C dL_does_278 (w_driver l D Z A σc X F K nn M (lowI z 4) hσc) (cwV 1 C.1.2.2.2.2 gL_does_X6_driver rfl rfl rfl (by decide +kernel) ⟨Nat.le_of_ble_eq_true rfl, Nat.le_of_ble_eq_true rfl⟩) 0 rfl rfl rfl rfl (Nat.le_of_ble_eq_true rfl) (fun r19 σ19 hr19 => ?_)
            refine hret r19 σ19 _ _ dL_does_281 ?_
            clear hret
            exact ⟨6, _, _, by omega, hr19⟩
          · -- 266 f
            have h266 := bI_nz h266
            refine cw_iload_n (pc := 269) C dL_does_269 rfl 4 rfl ?_
            refine cw_goto (pc := 270) (tgt := 278) C dL_does_270 (by decide) ?_
            refine cw_calli (pc := 278) C dL_does_278 (w_driver l D Z A σc X F K nn M z hσc) (cwV 1 C.1.2.2.2.2 gL_does_X6_driver rfl rfl rfl (by decide +kernel) ⟨Nat.le_of_ble_eq_true rfl, Nat.le_of_ble_eq_true rfl⟩) 0 rfl rfl rfl rfl (Nat.le_of_ble_eq_true rfl) (fun r20 σ20 hr20 => ?_)
            refine hret r20 σ20 _ _ dL_does_281 ?_
            clear hret
            exact ⟨6, _, _, by omega, hr20⟩
        by_cases q65_10 : x &&& (nI 15) = nI 10
        · -- case 10
          refine cw_top (nI 10) q65_10 ?_
          refine cw_tableIn (pc := 65) (off := 217) (tgt := 282) C dL_does_65 (by decide) (by decide) (by decide +kernel) (by decide) ?_
          refine cw_aload_n (pc := 282) C dL_does_282 rfl 1 rfl ?_
          refine cw_iload_n (pc := 283) C dL_does_283 rfl 2 rfl ?_
          refine cw_bipush (pc := 284) C dL_does_284 (nI 8) (by decide) ?_
          refine cw_ishr (pc := 286) C dL_does_286 (z := x >>> ((nI 8) &&& 31)) rfl ?_
          refine cw_bipush (pc := 287) C dL_does_287 (nI 15) (by decide) ?_
          refine cw_iand (pc := 289) C dL_does_289 (z := (x >>> ((nI 8) &&& 31)) &&& (nI 15)) rfl ?_
          refine cw_if_ne (pc := 290) (tgt := 297) C dL_does_290 (by decide) (fun h290 => ?_) (fun h290 => ?_)
          · -- 290 t
            refine cw_iload_n (pc := 297) C dL_does_297 rfl 3 rfl ?_
            refine cw_iconst (pc := 298) C dL_does_298 (nI 1) (by decide) ?_
            refine cw_iand (pc := 299) C dL_does_299 (z := y &&& (nI 1)) rfl ?_
            refine cw_iload (pc := 300) C dL_does_300 5 rfl ?_
            refine cw_if_eq (pc := 302) (tgt := 309) C dL_does_302 (by decide) (fun h302 => ?_) (fun h302 => ?_)
            · -- 302 t
              have h302 := bI_z h302
              refine cw_iconst (pc := 309) C dL_does_309 (nI 1) (by decide) ?_
              refine cw_iload_n (pc := 310) C dL_does_310 rfl 4 rfl ?_
              refine cw_bipush (pc := 311) C dL_does_311 (nI 12) (by decide) ?_
              refine cw_calls (pc := 313) C dL_does_313 (c_L_low l D Z A σc z 12 (by decide)) (va_cwS 2 C.1.2.2.2.2 gL_does_L_low rfl rfl rfl (by decide +kernel) ⟨Nat.le_of_ble_eq_true rfl, Nat.le_of_ble_eq_true rfl⟩) rfl rfl (Nat.le_of_ble_eq_true rfl) (cw_pure (v := lowI z 12) (fun _ _ h => h) ?_)
              refine cw_iadd (pc := 316) C dL_does_316 (z := (nI 1) + (lowI z 12)) rfl ?_
              refine cw_calli (pc := 317) C dL_does_317 (w_sets l D Z A σc X F K nn M (y &&& (nI 1)) ((nI 1) + (lowI z 12)) hσc) (cwV 2 C.1.2.2.2.2 gL_does_X6_sets rfl rfl rfl (by decide +kernel) ⟨Nat.le_of_ble_eq_true rfl, Nat.le_of_ble_eq_true rfl⟩) 0 rfl rfl rfl rfl (Nat.le_of_ble_eq_true rfl) (fun r21 σ21 hr21 => ?_)
              refine hret r21 σ21 _ _ dL_does_320 ?_
              clear hret
              exact ⟨8, _, _, by omega, hr21⟩
            · -- 302 f
              have h302 := bI_nz h302
              refine cw_iload_n (pc := 305) C dL_does_305 rfl 4 rfl ?_
              refine cw_goto (pc := 306) (tgt := 317) C dL_does_306 (by decide) ?_
              refine cw_calli (pc := 317) C dL_does_317 (w_sets l D Z A σc X F K nn M (y &&& (nI 1)) z hσc) (cwV 2 C.1.2.2.2.2 gL_does_X6_sets rfl rfl rfl (by decide +kernel) ⟨Nat.le_of_ble_eq_true rfl, Nat.le_of_ble_eq_true rfl⟩) 0 rfl rfl rfl rfl (Nat.le_of_ble_eq_true rfl) (fun r22 σ22 hr22 => ?_)
              refine hret r22 σ22 _ _ dL_does_320 ?_
              clear hret
              exact ⟨8, _, _, by omega, hr22⟩
          · -- 290 f
            refine cw_iload_n (pc := 293) C dL_does_293 rfl 3 rfl ?_
            refine cw_goto (pc := 294) (tgt := 300) C dL_does_294 (by decide) ?_
            refine cw_iload (pc := 300) C dL_does_300 5 rfl ?_
            refine cw_if_eq (pc := 302) (tgt := 309) C dL_does_302 (by decide) (fun h302 => ?_) (fun h302 => ?_)
            · -- 302 t
              have h302 := bI_z h302
              refine cw_iconst (pc := 309) C dL_does_309 (nI 1) (by decide) ?_
              refine cw_iload_n (pc := 310) C dL_does_310 rfl 4 rfl ?_
              refine cw_bipush (pc := 311) C dL_does_311 (nI 12) (by decide) ?_
              refine cw_calls (pc := 313) C dL_does_313 (c_L_low l D Z A σc z 12 (by decide)) (va_cwS 2 C.1.2.2.2.2 gL_does_L_low rfl rfl rfl (by decide +kernel) ⟨Nat.le_of_ble_eq_true rfl, Nat.le_of_ble_eq_true rfl⟩) rfl rfl (Nat.le_of_ble_eq_true rfl) (cw_pure (v := lowI z 12) (fun _ _ h => h) ?_)
              refine cw_iadd (pc := 316) C dL_does_316 (z := (nI 1) + (lowI z 12)) rfl ?_
              refine cw_calli (pc := 317) C dL_does_317 (w_sets l D Z A σc X F K nn M y ((nI 1) + (lowI z 12)) hσc) (cwV 2 C.1.2.2.2.2 gL_does_X6_sets rfl rfl rfl (by decide +kernel) ⟨Nat.le_of_ble_eq_true rfl, Nat.le_of_ble_eq_true rfl⟩) 0 rfl rfl rfl rfl (Nat.le_of_ble_eq_true rfl) (fun r23 σ23 hr23 => ?_)
              refine hret r23 σ23 _ _ dL_does_320 ?_
              clear hret
              exact ⟨8, _, _, by omega, hr23⟩
            · -- 302 f
              have h302 := bI_nz h302
              refine cw_iload_n (pc := 305) C dL_does_305 rfl 4 rfl ?_
              refine cw_goto (pc := 306) (tgt := 317) C dL_does_306 (by decide) ?_
              refine cw_calli (pc := 317) C dL_does_317 (w_sets l D Z A σc X F K nn M y z hσc) (cwV 2 C.1.2.2.2.2 gL_does_X6_sets rfl rfl rfl (by decide +kernel) ⟨Nat.le_of_ble_eq_true rfl, Nat.le_of_ble_eq_true rfl⟩) 0 rfl rfl rfl rfl (Nat.le_of_ble_eq_true rfl) (fun r24 σ24 hr24 => ?_)
              refine hret r24 σ24 _ _ dL_does_320 ?_
              clear hret
              exact ⟨8, _, _, by omega, hr24⟩
        by_cases q65_11 : x &&& (nI 15) = nI 11
        · -- case 11
          refine cw_top (nI 11) q65_11 ?_
          refine cw_tableIn (pc := 65) (off := 256) (tgt := 321) C dL_does_65 (by decide) (by decide) (by decide +kernel) (by decide) ?_
          refine cw_aload_n (pc := 321) C dL_does_321 rfl 1 rfl ?_
          refine cw_iload_n (pc := 322) C dL_does_322 rfl 2 rfl ?_
          refine cw_bipush (pc := 323) C dL_does_323 (nI 8) (by decide) ?_
          refine cw_ishr (pc := 325) C dL_does_325 (z := x >>> ((nI 8) &&& 31)) rfl ?_
          refine cw_bipush (pc := 326) C dL_does_326 (nI 15) (by decide) ?_
          refine cw_iand (pc := 328) C dL_does_328 (z := (x >>> ((nI 8) &&& 31)) &&& (nI 15)) rfl ?_
          refine cw_if_ne (pc := 329) (tgt := 336) C dL_does_329 (by decide) (fun h329 => ?_) (fun h329 => ?_)
          · -- 329 t
            refine cw_iload_n (pc := 336) C dL_does_336 rfl 3 rfl ?_
            refine cw_bipush (pc := 337) C dL_does_337 (nI 8) (by decide) ?_
            refine cw_calls (pc := 339) C dL_does_339 (c_L_low l D Z A σc y 8 (by decide)) (va_cwS 2 C.1.2.2.2.2 gL_does_L_low rfl rfl rfl (by decide +kernel) ⟨Nat.le_of_ble_eq_true rfl, Nat.le_of_ble_eq_true rfl⟩) rfl rfl (Nat.le_of_ble_eq_true rfl) (cw_pure (v := lowI y 8) (fun _ _ h => h) ?_)
            refine cw_calli (pc := 342) C dL_does_342 (w_puts l D Z A σc X F K nn M (lowI y 8) hσc) (cwV 1 C.1.2.2.2.2 gL_does_X6_puts rfl rfl rfl (by decide +kernel) ⟨Nat.le_of_ble_eq_true rfl, Nat.le_of_ble_eq_true rfl⟩) 0 rfl rfl rfl rfl (Nat.le_of_ble_eq_true rfl) (fun r25 σ25 hr25 => ?_)
            refine hret r25 σ25 _ _ dL_does_345 ?_
            clear hret
            exact ⟨9, _, _, by omega, hr25⟩
          · -- 329 f
            refine cw_iload_n (pc := 332) C dL_does_332 rfl 3 rfl ?_
            refine cw_goto (pc := 333) (tgt := 342) C dL_does_333 (by decide) ?_
            refine cw_calli (pc := 342) C dL_does_342 (w_puts l D Z A σc X F K nn M y hσc) (cwV 1 C.1.2.2.2.2 gL_does_X6_puts rfl rfl rfl (by decide +kernel) ⟨Nat.le_of_ble_eq_true rfl, Nat.le_of_ble_eq_true rfl⟩) 0 rfl rfl rfl rfl (Nat.le_of_ble_eq_true rfl) (fun r26 σ26 hr26 => ?_)
            refine hret r26 σ26 _ _ dL_does_345 ?_
            clear hret
            exact ⟨9, _, _, by omega, hr26⟩
        refine cw_tableOut (pc := 65) (tgt := 346) C dL_does_65 (tsw_out (lo := 0) (n := 12) (fun k hk => by rcases (show k = 0 ∨ k = 1 ∨ k = 2 ∨ k = 3 ∨ k = 4 ∨ k = 5 ∨ k = 6 ∨ k = 7 ∨ k = 8 ∨ k = 9 ∨ k = 10 ∨ k = 11 by omega) with rfl | rfl | rfl | rfl | rfl | rfl | rfl | rfl | rfl | rfl | rfl | rfl <;> assumption)) (by decide) ?_
        refine cw_aload_n (pc := 346) C dL_does_346 rfl 1 rfl ?_
        refine cw_iload (pc := 347) C dL_does_347 5 rfl ?_
        refine cw_if_eq (pc := 349) (tgt := 356) C dL_does_349 (by decide) (fun h349 => ?_) (fun h349 => ?_)
        · -- 349 t
          have h349 := bI_z h349
          refine cw_iload_n (pc := 356) C dL_does_356 rfl 4 rfl ?_
          refine cw_sipush (pc := 357) C dL_does_357 (nI 220) (by decide) ?_
          refine cw_calls (pc := 360) C dL_does_360 (c_L_low l D Z A σc z 220 (by decide)) (va_cwS 2 C.1.2.2.2.2 gL_does_L_low rfl rfl rfl (by decide +kernel) ⟨Nat.le_of_ble_eq_true rfl, Nat.le_of_ble_eq_true rfl⟩) rfl rfl (Nat.le_of_ble_eq_true rfl) (cw_pure (v := lowI z 220) (fun _ _ h => h) ?_)
          refine cw_iload_n (pc := 363) C dL_does_363 rfl 2 rfl ?_
          refine cw_bipush (pc := 364) C dL_does_364 (nI 8) (by decide) ?_
          refine cw_ishr (pc := 366) C dL_does_366 (z := x >>> ((nI 8) &&& 31)) rfl ?_
          refine cw_bipush (pc := 367) C dL_does_367 (nI 15) (by decide) ?_
          refine cw_iand (pc := 369) C dL_does_369 (z := (x >>> ((nI 8) &&& 31)) &&& (nI 15)) rfl ?_
          refine cw_if_ne (pc := 370) (tgt := 377) C dL_does_370 (by decide) (fun h370 => ?_) (fun h370 => ?_)
          · -- 370 t
            refine cw_iconst (pc := 377) C dL_does_377 (nI 1) (by decide) ?_
            refine cw_iload_n (pc := 378) C dL_does_378 rfl 3 rfl ?_
            refine cw_bipush (pc := 379) C dL_does_379 (nI 9) (by decide) ?_
            refine cw_calls (pc := 381) C dL_does_381 (c_L_low l D Z A σc y 9 (by decide)) (va_cwS 2 C.1.2.2.2.2 gL_does_L_low rfl rfl rfl (by decide +kernel) ⟨Nat.le_of_ble_eq_true rfl, Nat.le_of_ble_eq_true rfl⟩) rfl rfl (Nat.le_of_ble_eq_true rfl) (cw_pure (v := lowI y 9) (fun _ _ h => h) ?_)
            refine cw_iadd (pc := 384) C dL_does_384 (z := (nI 1) + (lowI y 9)) rfl ?_
            refine cw_calli (pc := 385) C dL_does_385 (w_drives l D Z A σc X F K nn M (lowI z 220) ((nI 1) + (lowI y 9)) hσc) (cwV 2 C.1.2.2.2.2 gL_does_X6_drives rfl rfl rfl (by decide +kernel) ⟨Nat.le_of_ble_eq_true rfl, Nat.le_of_ble_eq_true rfl⟩) 0 rfl rfl rfl rfl (Nat.le_of_ble_eq_true rfl) (fun r27 σ27 hr27 => ?_)
            refine hret r27 σ27 _ _ dL_does_388 ?_
            clear hret
            exact ⟨7, _, _, by omega, hr27⟩
          · -- 370 f
            refine cw_iload_n (pc := 373) C dL_does_373 rfl 3 rfl ?_
            refine cw_goto (pc := 374) (tgt := 385) C dL_does_374 (by decide) ?_
            refine cw_calli (pc := 385) C dL_does_385 (w_drives l D Z A σc X F K nn M (lowI z 220) y hσc) (cwV 2 C.1.2.2.2.2 gL_does_X6_drives rfl rfl rfl (by decide +kernel) ⟨Nat.le_of_ble_eq_true rfl, Nat.le_of_ble_eq_true rfl⟩) 0 rfl rfl rfl rfl (Nat.le_of_ble_eq_true rfl) (fun r28 σ28 hr28 => ?_)
            refine hret r28 σ28 _ _ dL_does_388 ?_
            clear hret
            exact ⟨7, _, _, by omega, hr28⟩
        · -- 349 f
          have h349 := bI_nz h349
          refine cw_iload_n (pc := 352) C dL_does_352 rfl 4 rfl ?_
          refine cw_goto (pc := 353) (tgt := 363) C dL_does_353 (by decide) ?_
          refine cw_iload_n (pc := 363) C dL_does_363 rfl 2 rfl ?_
          refine cw_bipush (pc := 364) C dL_does_364 (nI 8) (by decide) ?_
          refine cw_ishr (pc := 366) C dL_does_366 (z := x >>> ((nI 8) &&& 31)) rfl ?_
          refine cw_bipush (pc := 367) C dL_does_367 (nI 15) (by decide) ?_
          refine cw_iand (pc := 369) C dL_does_369 (z := (x >>> ((nI 8) &&& 31)) &&& (nI 15)) rfl ?_
          refine cw_if_ne (pc := 370) (tgt := 377) C dL_does_370 (by decide) (fun h370 => ?_) (fun h370 => ?_)
          · -- 370 t
            refine cw_iconst (pc := 377) C dL_does_377 (nI 1) (by decide) ?_
            refine cw_iload_n (pc := 378) C dL_does_378 rfl 3 rfl ?_
            refine cw_bipush (pc := 379) C dL_does_379 (nI 9) (by decide) ?_
            refine cw_calls (pc := 381) C dL_does_381 (c_L_low l D Z A σc y 9 (by decide)) (va_cwS 2 C.1.2.2.2.2 gL_does_L_low rfl rfl rfl (by decide +kernel) ⟨Nat.le_of_ble_eq_true rfl, Nat.le_of_ble_eq_true rfl⟩) rfl rfl (Nat.le_of_ble_eq_true rfl) (cw_pure (v := lowI y 9) (fun _ _ h => h) ?_)
            refine cw_iadd (pc := 384) C dL_does_384 (z := (nI 1) + (lowI y 9)) rfl ?_
            refine cw_calli (pc := 385) C dL_does_385 (w_drives l D Z A σc X F K nn M z ((nI 1) + (lowI y 9)) hσc) (cwV 2 C.1.2.2.2.2 gL_does_X6_drives rfl rfl rfl (by decide +kernel) ⟨Nat.le_of_ble_eq_true rfl, Nat.le_of_ble_eq_true rfl⟩) 0 rfl rfl rfl rfl (Nat.le_of_ble_eq_true rfl) (fun r29 σ29 hr29 => ?_)
            refine hret r29 σ29 _ _ dL_does_388 ?_
            clear hret
            exact ⟨7, _, _, by omega, hr29⟩
          · -- 370 f
            refine cw_iload_n (pc := 373) C dL_does_373 rfl 3 rfl ?_
            refine cw_goto (pc := 374) (tgt := 385) C dL_does_374 (by decide) ?_
            refine cw_calli (pc := 385) C dL_does_385 (w_drives l D Z A σc X F K nn M z y hσc) (cwV 2 C.1.2.2.2.2 gL_does_X6_drives rfl rfl rfl (by decide +kernel) ⟨Nat.le_of_ble_eq_true rfl, Nat.le_of_ble_eq_true rfl⟩) 0 rfl rfl rfl rfl (Nat.le_of_ble_eq_true rfl) (fun r30 σ30 hr30 => ?_)
            refine hret r30 σ30 _ _ dL_does_388 ?_
            clear hret
            exact ⟨7, _, _, by omega, hr30⟩
      refine cw_iload_n (pc := 40) C dL_does_40 rfl 2 rfl ?_
      refine cw_bipush (pc := 41) C dL_does_41 (nI 8) (by decide) ?_
      refine cw_ishr (pc := 43) C dL_does_43 (z := x >>> ((nI 8) &&& 31)) rfl ?_
      refine cw_bipush (pc := 44) C dL_does_44 (nI 15) (by decide) ?_
      refine cw_iand (pc := 46) C dL_does_46 (z := (x >>> ((nI 8) &&& 31)) &&& (nI 15)) rfl ?_
      refine cw_if_ne (pc := 47) (tgt := 54) C dL_does_47 (by decide) (fun h47 => ?_) (fun h47 => ?_)
      · -- 47 t
        refine cw_iload_n (pc := 54) C dL_does_54 rfl 3 rfl ?_
        refine cw_iconst (pc := 55) C dL_does_55 (nI 5) (by decide) ?_
        refine cw_calls (pc := 56) C dL_does_56 (c_L_low l D Z A σb y 5 (by decide)) (va_cwS 2 C.1.2.2.2.2 gL_does_L_low rfl rfl rfl (by decide +kernel) ⟨Nat.le_of_ble_eq_true rfl, Nat.le_of_ble_eq_true rfl⟩) rfl rfl (Nat.le_of_ble_eq_true rfl) (cw_pure (v := lowI y 5) (fun _ _ h => h) ?_)
        refine cw_lv [1, 2, 3, 4, 5, 0] rfl ?_
        exact L59 (lowI y 5) σb hσb
      · -- 47 f
        refine cw_iload_n (pc := 50) C dL_does_50 rfl 3 rfl ?_
        refine cw_goto (pc := 51) (tgt := 59) C dL_does_51 (by decide) ?_
        refine cw_lv [1, 2, 3, 4, 5, 0] rfl ?_
        exact L59 y σb hσb
    refine cw_iload_n (pc := 16) C dL_does_16 rfl 2 rfl ?_
    refine cw_bipush (pc := 17) C dL_does_17 (nI 8) (by decide) ?_
    refine cw_ishr (pc := 19) C dL_does_19 (z := x >>> ((nI 8) &&& 31)) rfl ?_
    refine cw_bipush (pc := 20) C dL_does_20 (nI 15) (by decide) ?_
    refine cw_iand (pc := 22) C dL_does_22 (z := (x >>> ((nI 8) &&& 31)) &&& (nI 15)) rfl ?_
    refine cw_if_ne (pc := 23) (tgt := 30) C dL_does_23 (by decide) (fun h23 => ?_) (fun h23 => ?_)
    · -- 23 t
      refine cw_iconst (pc := 30) C dL_does_30 (nI 1) (by decide) ?_
      refine cw_iload_n (pc := 31) C dL_does_31 rfl 3 rfl ?_
      refine cw_bipush (pc := 32) C dL_does_32 (nI 7) (by decide) ?_
      refine cw_calls (pc := 34) C dL_does_34 (c_L_low l D Z A σa y 7 (by decide)) (va_cwS 2 C.1.2.2.2.2 gL_does_L_low rfl rfl rfl (by decide +kernel) ⟨Nat.le_of_ble_eq_true rfl, Nat.le_of_ble_eq_true rfl⟩) rfl rfl (Nat.le_of_ble_eq_true rfl) (cw_pure (v := lowI y 7) (fun _ _ h => h) ?_)
      refine cw_iadd (pc := 37) C dL_does_37 (z := (nI 1) + (lowI y 7)) rfl ?_
      refine cw_lv [1, 2, 3, 4, 0] rfl ?_
      exact L38 ((nI 1) + (lowI y 7)) σa hσa
    · -- 23 f
      refine cw_iload_n (pc := 26) C dL_does_26 rfl 3 rfl ?_
      refine cw_goto (pc := 27) (tgt := 38) C dL_does_27 (by decide) ?_
      refine cw_lv [1, 2, 3, 4, 0] rfl ?_
      exact L38 y σa hσa
  refine cw_iload_n (pc := 0) C dL_does_0 rfl 1 rfl ?_
  refine cw_iconst (pc := 1) C dL_does_1 (nI 4) (by decide) ?_
  refine cw_ishr (pc := 2) C dL_does_2 (z := x >>> ((nI 4) &&& 31)) rfl ?_
  refine cw_bipush (pc := 3) C dL_does_3 (nI 15) (by decide) ?_
  refine cw_iand (pc := 5) C dL_does_5 (z := (x >>> ((nI 4) &&& 31)) &&& (nI 15)) rfl ?_
  refine cw_if_ne (pc := 6) (tgt := 13) C dL_does_6 (by decide) (fun h6 => ?_) (fun h6 => ?_)
  · -- 6 t
    refine cw_iconst (pc := 13) C dL_does_13 (nI 0) (by decide) ?_
    refine cw_lv [0, 1, 2, 3] rfl ?_
    exact L14 false σ h
  · -- 6 f
    refine cw_iconst (pc := 9) C dL_does_9 (nI 1) (by decide) ?_
    refine cw_goto (pc := 10) (tgt := 14) C dL_does_10 (by decide) ?_
    refine cw_lv [0, 1, 2, 3] rfl ?_
    exact L14 true σ h
set_option maxHeartbeats 4000000 in
set_option maxRecDepth 100000 in
theorem c_L_refused (l : Launch) (D : va_G) (Z : CZ) (A : Nat → Nat) (σ : St) (X F : Nat → Int32) (K : Nat → Nat → Int32) (nn M : Nat) (x : Int32) (y : Int32) (h : absP σ X F K nn M) : CTz l yL_refused wsL_refused 8 188 D Z (wC Z A) σ [.ref (A 0), .int (x), .int (y)] (fun z σ' => z = true ∧ absP σ' X (cF F 25) K nn M) := by
  refine CTz.mk (cc := cL_refused) (nL := 8) (own := RL) rfl (by decide) rfl (Nat.le_of_ble_eq_true rfl) ?_
  intro p0 e0 s0 m0 g0 b0 t0 c0 A0 Q C hret
  obtain ⟨-, ⟨hOK, -, hnn, -, -⟩, -, -⟩ := id h
  refine cw_lv (lv' := [(0, .ref (A 0)), (1, .int (x)), (2, .int (y))]) [0, 1, 2] rfl ?_
  refine cw_aload_n (pc := 0) C dL_refused_0 rfl 0 rfl ?_
  refine cw_callsl (pc := 1) C dL_refused_1 (c_L_whole l D Z A σ X F K nn M h) (va_cwS 1 C.1.2.2.2.2 gL_refused_L_whole rfl rfl rfl (by decide +kernel) ⟨Nat.le_of_ble_eq_true rfl, Nat.le_of_ble_eq_true rfl⟩) rfl rfl (Nat.le_of_ble_eq_true rfl) (fun r1 σ1 hr1 => ?_)
  obtain ⟨rfl, h1⟩ := hr1
  refine cw_lstore_n (pc := 4) C dL_refused_4 rfl (by decide) (lv' := [(3, .long (whF X)), (0, .ref (A 0)), (1, .int (x)), (2, .int (y))]) rfl ?_
  refine cw_aload_n (pc := 5) C dL_refused_5 rfl 1 rfl ?_
  refine cw_iconst (pc := 6) C dL_refused_6 (nI 0) (by decide) ?_
  refine cw_calli (pc := 7) C dL_refused_7 (w_told l D Z A σ1 X F K nn M (nI 0) h1) (cwV 1 C.1.2.2.2.2 gL_refused_X6_told rfl rfl rfl (by decide +kernel) ⟨Nat.le_of_ble_eq_true rfl, Nat.le_of_ble_eq_true rfl⟩) 0 rfl rfl rfl rfl (Nat.le_of_ble_eq_true rfl) (fun r2 σ2 hr2 => ?_)
  rw [show toA F nn 0 (nI 0) = .inl (F 0) from rfl] at hr2
  obtain ⟨rfl, h2⟩ := hr2
  have h2 : absP σ2 X F K nn M := h2
  refine cw_top (F 0) rfl ?_
  refine cw_istore (pc := 10) C dL_refused_10 (by decide) (lv' := [(5, .int (F 0)), (3, .long (whF X)), (0, .ref (A 0)), (1, .int (x)), (2, .int (y))]) rfl ?_
  refine cw_aload_n (pc := 12) C dL_refused_12 rfl 2 rfl ?_
  refine cw_iconst (pc := 13) C dL_refused_13 (nI 4) (by decide) ?_
  refine cw_calli (pc := 14) C dL_refused_14 (w_told l D Z A σ2 X F K nn M (nI 4) h2) (cwV 1 C.1.2.2.2.2 gL_refused_X6_told rfl rfl rfl (by decide +kernel) ⟨Nat.le_of_ble_eq_true rfl, Nat.le_of_ble_eq_true rfl⟩) 0 rfl rfl rfl rfl (Nat.le_of_ble_eq_true rfl) (fun r3 σ3 hr3 => ?_)
  rw [show toA F nn 0 (nI 4) = .inl (nI nn) from rfl] at hr3
  obtain ⟨rfl, h3⟩ := hr3
  have h3 : absP σ3 X F K nn M := h3
  refine cw_top (nI nn) rfl ?_
  refine cw_istore (pc := 17) C dL_refused_17 (by decide) (lv' := [(6, .int (nI nn)), (5, .int (F 0)), (3, .long (whF X)), (0, .ref (A 0)), (1, .int (x)), (2, .int (y))]) rfl ?_
  refine cw_aload_n (pc := 19) C dL_refused_19 rfl 3 rfl ?_
  refine cw_iconst (pc := 20) C dL_refused_20 (nI 0) (by decide) ?_
  refine cw_iconst (pc := 21) C dL_refused_21 (nI 0) (by decide) ?_
  refine cw_calli (pc := 22) C dL_refused_22 (w_gear l D Z A σ3 X F K nn M (nI 0) (nI 0) h3) (cwV 2 C.1.2.2.2.2 gL_refused_X6_gear rfl rfl rfl (by decide +kernel) ⟨Nat.le_of_ble_eq_true rfl, Nat.le_of_ble_eq_true rfl⟩) 0 rfl rfl rfl rfl (Nat.le_of_ble_eq_true rfl) (fun r4 σ4 hr4 => ?_)
  obtain ⟨rfl, h4⟩ := chP_bad hr4 (bad_gear1 X)
  have h4 : absP σ4 X (cF F 1) K nn M := h4
  refine cw_bipush (pc := 25) C dL_refused_25 (-2) (by decide) ?_
  refine cw_icmp_ne (pc := 27) (tgt := 316) C dL_refused_27 (by decide) (fun h => False.elim (by revert h; decide)) (fun _ => ?_)
  refine cw_aload_n (pc := 30) C dL_refused_30 rfl 3 rfl ?_
  refine cw_iconst (pc := 31) C dL_refused_31 (nI 1) (by decide) ?_
  refine cw_iload_n (pc := 32) C dL_refused_32 rfl 4 rfl ?_
  refine cw_bipush (pc := 33) C dL_refused_33 (nI 32) (by decide) ?_
  refine cw_ior (pc := 35) C dL_refused_35 (z := x ||| (nI 32)) rfl ?_
  refine cw_calli (pc := 36) C dL_refused_36 (w_gear l D Z A σ4 X (cF F 1) K nn M (nI 1) (x ||| (nI 32)) h4) (cwV 2 C.1.2.2.2.2 gL_refused_X6_gear rfl rfl rfl (by decide +kernel) ⟨Nat.le_of_ble_eq_true rfl, Nat.le_of_ble_eq_true rfl⟩) 0 rfl rfl rfl rfl (Nat.le_of_ble_eq_true rfl) (fun r5 σ5 hr5 => ?_)
  obtain ⟨rfl, h5⟩ := chP_bad hr5 (bad_gear2 X x)
  have h5 : absP σ5 X (cF F 2) K nn M := h5
  refine cw_bipush (pc := 39) C dL_refused_39 (-2) (by decide) ?_
  refine cw_icmp_ne (pc := 41) (tgt := 316) C dL_refused_41 (by decide) (fun h => False.elim (by revert h; decide)) (fun _ => ?_)
  refine cw_aload_n (pc := 44) C dL_refused_44 rfl 3 rfl ?_
  refine cw_iconst (pc := 45) C dL_refused_45 (nI 5) (by decide) ?_
  refine cw_iconst (pc := 46) C dL_refused_46 (nI 0) (by decide) ?_
  refine cw_calli (pc := 47) C dL_refused_47 (w_fails l D Z A σ5 X (cF F 2) K nn M (nI 5) (nI 0) h5) (cwV 2 C.1.2.2.2.2 gL_refused_X6_fails rfl rfl rfl (by decide +kernel) ⟨Nat.le_of_ble_eq_true rfl, Nat.le_of_ble_eq_true rfl⟩) 0 rfl rfl rfl rfl (Nat.le_of_ble_eq_true rfl) (fun r6 σ6 hr6 => ?_)
  obtain ⟨rfl, h6⟩ := chP_bad hr6 (bad_fails1 X)
  have h6 : absP σ6 X (cF F 3) K nn M := h6
  refine cw_bipush (pc := 50) C dL_refused_50 (-2) (by decide) ?_
  refine cw_icmp_ne (pc := 52) (tgt := 316) C dL_refused_52 (by decide) (fun h => False.elim (by revert h; decide)) (fun _ => ?_)
  refine cw_aload_n (pc := 55) C dL_refused_55 rfl 3 rfl ?_
  refine cw_iconst (pc := 56) C dL_refused_56 (nI 0) (by decide) ?_
  refine cw_iload_n (pc := 57) C dL_refused_57 rfl 4 rfl ?_
  refine cw_iconst (pc := 58) C dL_refused_58 (nI 4) (by decide) ?_
  refine cw_ior (pc := 59) C dL_refused_59 (z := x ||| (nI 4)) rfl ?_
  refine cw_calli (pc := 60) C dL_refused_60 (w_fails l D Z A σ6 X (cF F 3) K nn M (nI 0) (x ||| (nI 4)) h6) (cwV 2 C.1.2.2.2.2 gL_refused_X6_fails rfl rfl rfl (by decide +kernel) ⟨Nat.le_of_ble_eq_true rfl, Nat.le_of_ble_eq_true rfl⟩) 0 rfl rfl rfl rfl (Nat.le_of_ble_eq_true rfl) (fun r7 σ7 hr7 => ?_)
  obtain ⟨rfl, h7⟩ := chP_bad hr7 (bad_fails2 X x)
  have h7 : absP σ7 X (cF F 4) K nn M := h7
  refine cw_bipush (pc := 63) C dL_refused_63 (-2) (by decide) ?_
  refine cw_icmp_ne (pc := 65) (tgt := 316) C dL_refused_65 (by decide) (fun h => False.elim (by revert h; decide)) (fun _ => ?_)
  refine cw_aload_n (pc := 68) C dL_refused_68 rfl 3 rfl ?_
  refine cw_iconst (pc := 69) C dL_refused_69 (nI 0) (by decide) ?_
  refine cw_iconst (pc := 70) C dL_refused_70 (nI 0) (by decide) ?_
  refine cw_calli (pc := 71) C dL_refused_71 (w_trues l D Z A σ7 X (cF F 4) K nn M (nI 0) (nI 0) h7) (cwV 2 C.1.2.2.2.2 gL_refused_X6_trues rfl rfl rfl (by decide +kernel) ⟨Nat.le_of_ble_eq_true rfl, Nat.le_of_ble_eq_true rfl⟩) 0 rfl rfl rfl rfl (Nat.le_of_ble_eq_true rfl) (fun r8 σ8 hr8 => ?_)
  obtain ⟨rfl, h8⟩ := chP_bad hr8 (bad_trues X)
  have h8 : absP σ8 X (cF F 5) K nn M := h8
  refine cw_bipush (pc := 74) C dL_refused_74 (-2) (by decide) ?_
  refine cw_icmp_ne (pc := 76) (tgt := 316) C dL_refused_76 (by decide) (fun h => False.elim (by revert h; decide)) (fun _ => ?_)
  refine cw_aload_n (pc := 79) C dL_refused_79 rfl 3 rfl ?_
  refine cw_bipush (pc := 80) C dL_refused_80 (nI 8) (by decide) ?_
  refine cw_iconst (pc := 82) C dL_refused_82 (nI 0) (by decide) ?_
  refine cw_calli (pc := 83) C dL_refused_83 (w_up l D Z A σ8 X (cF F 5) K nn M (nI 8) (nI 0) h8) (cwV 2 C.1.2.2.2.2 gL_refused_X6_up rfl rfl rfl (by decide +kernel) ⟨Nat.le_of_ble_eq_true rfl, Nat.le_of_ble_eq_true rfl⟩) 0 rfl rfl rfl rfl (Nat.le_of_ble_eq_true rfl) (fun r9 σ9 hr9 => ?_)
  obtain ⟨rfl, h9⟩ := chP_bad hr9 (bad_up X)
  have h9 : absP σ9 X (cF F 6) K nn M := h9
  refine cw_bipush (pc := 86) C dL_refused_86 (-2) (by decide) ?_
  refine cw_icmp_ne (pc := 88) (tgt := 316) C dL_refused_88 (by decide) (fun h => False.elim (by revert h; decide)) (fun _ => ?_)
  refine cw_aload_n (pc := 91) C dL_refused_91 rfl 3 rfl ?_
  refine cw_iconst (pc := 92) C dL_refused_92 (nI 1) (by decide) ?_
  refine cw_sipush (pc := 93) C dL_refused_93 (nI 301) (by decide) ?_
  refine cw_calli (pc := 96) C dL_refused_96 (w_down l D Z A σ9 X (cF F 6) K nn M (nI 1) (nI 301) h9) (cwV 2 C.1.2.2.2.2 gL_refused_X6_down rfl rfl rfl (by decide +kernel) ⟨Nat.le_of_ble_eq_true rfl, Nat.le_of_ble_eq_true rfl⟩) 0 rfl rfl rfl rfl (Nat.le_of_ble_eq_true rfl) (fun r10 σ10 hr10 => ?_)
  obtain ⟨rfl, h10⟩ := chP_bad hr10 (bad_down X)
  have h10 : absP σ10 X (cF F 7) K nn M := h10
  refine cw_bipush (pc := 99) C dL_refused_99 (-2) (by decide) ?_
  refine cw_icmp_ne (pc := 101) (tgt := 316) C dL_refused_101 (by decide) (fun h => False.elim (by revert h; decide)) (fun _ => ?_)
  refine cw_aload_n (pc := 104) C dL_refused_104 rfl 3 rfl ?_
  refine cw_bipush (pc := 105) C dL_refused_105 (-4) (by decide) ?_
  refine cw_calli (pc := 107) C dL_refused_107 (w_slope l D Z A σ10 X (cF F 7) K nn M (-4) h10) (cwV 1 C.1.2.2.2.2 gL_refused_X6_slope rfl rfl rfl (by decide +kernel) ⟨Nat.le_of_ble_eq_true rfl, Nat.le_of_ble_eq_true rfl⟩) 0 rfl rfl rfl rfl (Nat.le_of_ble_eq_true rfl) (fun r11 σ11 hr11 => ?_)
  obtain ⟨rfl, h11⟩ := chP_bad hr11 (bad_slope X)
  have h11 : absP σ11 X (cF F 8) K nn M := h11
  refine cw_bipush (pc := 110) C dL_refused_110 (-2) (by decide) ?_
  refine cw_icmp_ne (pc := 112) (tgt := 316) C dL_refused_112 (by decide) (fun h => False.elim (by revert h; decide)) (fun _ => ?_)
  refine cw_aload_n (pc := 115) C dL_refused_115 rfl 3 rfl ?_
  refine cw_iload_n (pc := 116) C dL_refused_116 rfl 5 rfl ?_
  refine cw_iconst (pc := 117) C dL_refused_117 (nI 4) (by decide) ?_
  refine cw_ior (pc := 118) C dL_refused_118 (z := y ||| (nI 4)) rfl ?_
  refine cw_calli (pc := 119) C dL_refused_119 (w_driver l D Z A σ11 X (cF F 8) K nn M (y ||| (nI 4)) h11) (cwV 1 C.1.2.2.2.2 gL_refused_X6_driver rfl rfl rfl (by decide +kernel) ⟨Nat.le_of_ble_eq_true rfl, Nat.le_of_ble_eq_true rfl⟩) 0 rfl rfl rfl rfl (Nat.le_of_ble_eq_true rfl) (fun r12 σ12 hr12 => ?_)
  obtain ⟨rfl, h12⟩ := chP_bad hr12 (bad_driver X y)
  have h12 : absP σ12 X (cF F 9) K nn M := h12
  refine cw_bipush (pc := 122) C dL_refused_122 (-2) (by decide) ?_
  refine cw_icmp_ne (pc := 124) (tgt := 316) C dL_refused_124 (by decide) (fun h => False.elim (by revert h; decide)) (fun _ => ?_)
  refine cw_aload_n (pc := 127) C dL_refused_127 rfl 3 rfl ?_
  refine cw_iconst (pc := 128) C dL_refused_128 (nI 0) (by decide) ?_
  refine cw_iconst (pc := 129) C dL_refused_129 (nI 0) (by decide) ?_
  refine cw_calli (pc := 130) C dL_refused_130 (w_sets l D Z A σ12 X (cF F 9) K nn M (nI 0) (nI 0) h12) (cwV 2 C.1.2.2.2.2 gL_refused_X6_sets rfl rfl rfl (by decide +kernel) ⟨Nat.le_of_ble_eq_true rfl, Nat.le_of_ble_eq_true rfl⟩) 0 rfl rfl rfl rfl (Nat.le_of_ble_eq_true rfl) (fun r13 σ13 hr13 => ?_)
  obtain ⟨rfl, h13⟩ := chP_bad hr13 (bad_sets1 X)
  have h13 : absP σ13 X (cF F 10) K nn M := h13
  refine cw_bipush (pc := 133) C dL_refused_133 (-2) (by decide) ?_
  refine cw_icmp_ne (pc := 135) (tgt := 316) C dL_refused_135 (by decide) (fun h => False.elim (by revert h; decide)) (fun _ => ?_)
  refine cw_aload_n (pc := 138) C dL_refused_138 rfl 3 rfl ?_
  refine cw_iload_n (pc := 139) C dL_refused_139 rfl 4 rfl ?_
  refine cw_iconst (pc := 140) C dL_refused_140 (nI 2) (by decide) ?_
  refine cw_ior (pc := 141) C dL_refused_141 (z := x ||| (nI 2)) rfl ?_
  refine cw_iconst (pc := 142) C dL_refused_142 (nI 1) (by decide) ?_
  refine cw_calli (pc := 143) C dL_refused_143 (w_sets l D Z A σ13 X (cF F 10) K nn M (x ||| (nI 2)) (nI 1) h13) (cwV 2 C.1.2.2.2.2 gL_refused_X6_sets rfl rfl rfl (by decide +kernel) ⟨Nat.le_of_ble_eq_true rfl, Nat.le_of_ble_eq_true rfl⟩) 0 rfl rfl rfl rfl (Nat.le_of_ble_eq_true rfl) (fun r14 σ14 hr14 => ?_)
  obtain ⟨rfl, h14⟩ := chP_bad hr14 (bad_sets2 X x)
  have h14 : absP σ14 X (cF F 11) K nn M := h14
  refine cw_bipush (pc := 146) C dL_refused_146 (-2) (by decide) ?_
  refine cw_icmp_ne (pc := 148) (tgt := 316) C dL_refused_148 (by decide) (fun h => False.elim (by revert h; decide)) (fun _ => ?_)
  refine cw_aload_n (pc := 151) C dL_refused_151 rfl 3 rfl ?_
  refine cw_iconst (pc := 152) C dL_refused_152 (nI 0) (by decide) ?_
  refine cw_iconst (pc := 153) C dL_refused_153 (nI 0) (by decide) ?_
  refine cw_calli (pc := 154) C dL_refused_154 (w_of l D Z A σ14 X (cF F 11) K nn M (nI 0) (nI 0) h14) (cwV 2 C.1.2.2.2.2 gL_refused_X6_of rfl rfl rfl (by decide +kernel) ⟨Nat.le_of_ble_eq_true rfl, Nat.le_of_ble_eq_true rfl⟩) 0 rfl rfl rfl rfl (Nat.le_of_ble_eq_true rfl) (fun r15 σ15 hr15 => ?_)
  rw [bad_of X] at hr15
  obtain ⟨rfl, h15⟩ := hr15
  have h15 : absP σ15 X (cF F 12) K nn M := h15
  refine cw_top (-2) rfl ?_
  refine cw_bipush (pc := 157) C dL_refused_157 (-2) (by decide) ?_
  refine cw_icmp_ne (pc := 159) (tgt := 316) C dL_refused_159 (by decide) (fun h => False.elim (by revert h; decide)) (fun _ => ?_)
  refine cw_aload_n (pc := 162) C dL_refused_162 rfl 3 rfl ?_
  refine cw_iconst (pc := 163) C dL_refused_163 (-1) (by decide) ?_
  refine cw_iconst (pc := 164) C dL_refused_164 (nI 0) (by decide) ?_
  refine cw_calli (pc := 165) C dL_refused_165 (w_clutch l D Z A σ15 X (cF F 12) K nn M (-1) (nI 0) h15) (cwV 2 C.1.2.2.2.2 gL_refused_X6_clutch rfl rfl rfl (by decide +kernel) ⟨Nat.le_of_ble_eq_true rfl, Nat.le_of_ble_eq_true rfl⟩) 0 rfl rfl rfl rfl (Nat.le_of_ble_eq_true rfl) (fun r16 σ16 hr16 => ?_)
  rw [bad_clutch X] at hr16
  obtain ⟨rfl, h16⟩ := hr16
  have h16 : absP σ16 X (cF F 13) K nn M := h16
  refine cw_top (-2) rfl ?_
  refine cw_bipush (pc := 168) C dL_refused_168 (-2) (by decide) ?_
  refine cw_icmp_ne (pc := 170) (tgt := 316) C dL_refused_170 (by decide) (fun h => False.elim (by revert h; decide)) (fun _ => ?_)
  refine cw_aload_n (pc := 173) C dL_refused_173 rfl 3 rfl ?_
  refine cw_iload_n (pc := 174) C dL_refused_174 rfl 5 rfl ?_
  refine cw_bipush (pc := 175) C dL_refused_175 (nI 32) (by decide) ?_
  refine cw_ior (pc := 177) C dL_refused_177 (z := y ||| (nI 32)) rfl ?_
  refine cw_calli (pc := 178) C dL_refused_178 (w_ties l D Z A σ16 X (cF F 13) K nn M (y ||| (nI 32)) h16) (cwV 1 C.1.2.2.2.2 gL_refused_X6_ties rfl rfl rfl (by decide +kernel) ⟨Nat.le_of_ble_eq_true rfl, Nat.le_of_ble_eq_true rfl⟩) 0 rfl rfl rfl rfl (Nat.le_of_ble_eq_true rfl) (fun r17 σ17 hr17 => ?_)
  rw [bad_ties X y] at hr17
  obtain ⟨rfl, h17⟩ := hr17
  have h17 : absP σ17 X (cF F 14) K nn M := h17
  refine cw_top (-2) rfl ?_
  refine cw_bipush (pc := 181) C dL_refused_181 (-2) (by decide) ?_
  refine cw_icmp_ne (pc := 183) (tgt := 316) C dL_refused_183 (by decide) (fun h => False.elim (by revert h; decide)) (fun _ => ?_)
  refine cw_aload_n (pc := 186) C dL_refused_186 rfl 3 rfl ?_
  refine cw_iconst (pc := 187) C dL_refused_187 (nI 1) (by decide) ?_
  refine cw_iconst (pc := 188) C dL_refused_188 (nI 1) (by decide) ?_
  refine cw_iconst (pc := 189) C dL_refused_189 (nI 0) (by decide) ?_
  refine cw_calli (pc := 190) C dL_refused_190 (w_simple l D Z A σ17 X (cF F 14) K nn M (nI 1) (nI 1) (nI 0) h17) (cwV 3 C.1.2.2.2.2 gL_refused_X6_simple rfl rfl rfl (by decide +kernel) ⟨Nat.le_of_ble_eq_true rfl, Nat.le_of_ble_eq_true rfl⟩) 0 rfl rfl rfl rfl (Nat.le_of_ble_eq_true rfl) (fun r18 σ18 hr18 => ?_)
  rw [bad_simple X] at hr18
  obtain ⟨rfl, h18⟩ := hr18
  have h18 : absP σ18 X (cF F 15) K nn M := h18
  refine cw_top (-2) rfl ?_
  refine cw_bipush (pc := 193) C dL_refused_193 (-2) (by decide) ?_
  refine cw_icmp_ne (pc := 195) (tgt := 316) C dL_refused_195 (by decide) (fun h => False.elim (by revert h; decide)) (fun _ => ?_)
  refine cw_aload_n (pc := 198) C dL_refused_198 rfl 3 rfl ?_
  refine cw_iconst (pc := 199) C dL_refused_199 (nI 1) (by decide) ?_
  refine cw_iconst (pc := 200) C dL_refused_200 (nI 2) (by decide) ?_
  refine cw_bipush (pc := 201) C dL_refused_201 (-2) (by decide) ?_
  refine cw_calli (pc := 203) C dL_refused_203 (w_way l D Z A σ18 X (cF F 15) K nn M (nI 1) (nI 2) (-2) h18) (cwV 3 C.1.2.2.2.2 gL_refused_X6_way rfl rfl rfl (by decide +kernel) ⟨Nat.le_of_ble_eq_true rfl, Nat.le_of_ble_eq_true rfl⟩) 0 rfl rfl rfl rfl (Nat.le_of_ble_eq_true rfl) (fun r19 σ19 hr19 => ?_)
  rw [bad_way X] at hr19
  obtain ⟨rfl, h19⟩ := hr19
  have h19 : absP σ19 X (cF F 16) K nn M := h19
  refine cw_top (-2) rfl ?_
  refine cw_bipush (pc := 206) C dL_refused_206 (-2) (by decide) ?_
  refine cw_icmp_ne (pc := 208) (tgt := 316) C dL_refused_208 (by decide) (fun h => False.elim (by revert h; decide)) (fun _ => ?_)
  refine cw_aload_n (pc := 211) C dL_refused_211 rfl 3 rfl ?_
  refine cw_iconst (pc := 212) C dL_refused_212 (nI 1) (by decide) ?_
  refine cw_iconst (pc := 213) C dL_refused_213 (nI 2) (by decide) ?_
  refine cw_bipush (pc := 214) C dL_refused_214 (nI 41) (by decide) ?_
  refine cw_calli (pc := 216) C dL_refused_216 (w_over l D Z A σ19 X (cF F 16) K nn M (nI 1) (nI 2) (nI 41) h19) (cwV 3 C.1.2.2.2.2 gL_refused_X6_over rfl rfl rfl (by decide +kernel) ⟨Nat.le_of_ble_eq_true rfl, Nat.le_of_ble_eq_true rfl⟩) 0 rfl rfl rfl rfl (Nat.le_of_ble_eq_true rfl) (fun r20 σ20 hr20 => ?_)
  rw [bad_over X] at hr20
  obtain ⟨rfl, h20⟩ := hr20
  have h20 : absP σ20 X (cF F 17) K nn M := h20
  refine cw_top (-2) rfl ?_
  refine cw_bipush (pc := 219) C dL_refused_219 (-2) (by decide) ?_
  refine cw_icmp_ne (pc := 221) (tgt := 316) C dL_refused_221 (by decide) (fun h => False.elim (by revert h; decide)) (fun _ => ?_)
  refine cw_aload_n (pc := 224) C dL_refused_224 rfl 3 rfl ?_
  refine cw_iconst (pc := 225) C dL_refused_225 (nI 1) (by decide) ?_
  refine cw_iconst (pc := 226) C dL_refused_226 (nI 2) (by decide) ?_
  refine cw_iconst (pc := 227) C dL_refused_227 (nI 2) (by decide) ?_
  refine cw_calli (pc := 228) C dL_refused_228 (w_worst l D Z A σ20 X (cF F 17) K nn M (nI 1) (nI 2) (nI 2) h20) (cwV 3 C.1.2.2.2.2 gL_refused_X6_worst rfl rfl rfl (by decide +kernel) ⟨Nat.le_of_ble_eq_true rfl, Nat.le_of_ble_eq_true rfl⟩) 0 rfl rfl rfl rfl (Nat.le_of_ble_eq_true rfl) (fun r21 σ21 hr21 => ?_)
  rw [bad_worst X] at hr21
  obtain ⟨rfl, h21⟩ := hr21
  have h21 : absP σ21 X (cF F 18) K nn M := h21
  refine cw_top (-2) rfl ?_
  refine cw_bipush (pc := 231) C dL_refused_231 (-2) (by decide) ?_
  refine cw_icmp_ne (pc := 233) (tgt := 316) C dL_refused_233 (by decide) (fun h => False.elim (by revert h; decide)) (fun _ => ?_)
  refine cw_aload_n (pc := 236) C dL_refused_236 rfl 3 rfl ?_
  refine cw_iconst (pc := 237) C dL_refused_237 (-1) (by decide) ?_
  refine cw_calli (pc := 238) C dL_refused_238 (w_want l D Z A σ21 X (cF F 18) K nn M (-1) h21) (cwV 1 C.1.2.2.2.2 gL_refused_X6_want rfl rfl rfl (by decide +kernel) ⟨Nat.le_of_ble_eq_true rfl, Nat.le_of_ble_eq_true rfl⟩) 0 rfl rfl rfl rfl (Nat.le_of_ble_eq_true rfl) (fun r22 σ22 hr22 => ?_)
  rw [bad_want X] at hr22
  obtain ⟨rfl, h22⟩ := hr22
  have h22 : absP σ22 X (cF F 19) K nn M := h22
  refine cw_top (-2) rfl ?_
  refine cw_bipush (pc := 241) C dL_refused_241 (-2) (by decide) ?_
  refine cw_icmp_ne (pc := 243) (tgt := 316) C dL_refused_243 (by decide) (fun h => False.elim (by revert h; decide)) (fun _ => ?_)
  refine cw_aload_n (pc := 246) C dL_refused_246 rfl 3 rfl ?_
  refine cw_iconst (pc := 247) C dL_refused_247 (nI 0) (by decide) ?_
  refine cw_iconst (pc := 248) C dL_refused_248 (nI 0) (by decide) ?_
  refine cw_calli (pc := 249) C dL_refused_249 (w_drives l D Z A σ22 X (cF F 19) K nn M (nI 0) (nI 0) h22) (cwV 2 C.1.2.2.2.2 gL_refused_X6_drives rfl rfl rfl (by decide +kernel) ⟨Nat.le_of_ble_eq_true rfl, Nat.le_of_ble_eq_true rfl⟩) 0 rfl rfl rfl rfl (Nat.le_of_ble_eq_true rfl) (fun r23 σ23 hr23 => ?_)
  obtain ⟨rfl, h23⟩ := chP_bad hr23 (bad_drives X)
  have h23 : absP σ23 X (cF F 20) K nn M := h23
  refine cw_bipush (pc := 252) C dL_refused_252 (-2) (by decide) ?_
  refine cw_icmp_ne (pc := 254) (tgt := 316) C dL_refused_254 (by decide) (fun h => False.elim (by revert h; decide)) (fun _ => ?_)
  refine cw_aload_n (pc := 257) C dL_refused_257 rfl 3 rfl ?_
  refine cw_bipush (pc := 258) C dL_refused_258 (nI 8) (by decide) ?_
  refine cw_calli (pc := 260) C dL_refused_260 (w_puts l D Z A σ23 X (cF F 20) K nn M (nI 8) h23) (cwV 1 C.1.2.2.2.2 gL_refused_X6_puts rfl rfl rfl (by decide +kernel) ⟨Nat.le_of_ble_eq_true rfl, Nat.le_of_ble_eq_true rfl⟩) 0 rfl rfl rfl rfl (Nat.le_of_ble_eq_true rfl) (fun r24 σ24 hr24 => ?_)
  obtain ⟨rfl, h24⟩ := chP_bad hr24 (bad_puts X)
  have h24 : absP σ24 X (cF F 21) K nn M := h24
  refine cw_bipush (pc := 263) C dL_refused_263 (-2) (by decide) ?_
  refine cw_icmp_ne (pc := 265) (tgt := 316) C dL_refused_265 (by decide) (fun h => False.elim (by revert h; decide)) (fun _ => ?_)
  refine cw_aload_n (pc := 268) C dL_refused_268 rfl 3 rfl ?_
  refine cw_bipush (pc := 269) C dL_refused_269 (nI 13) (by decide) ?_
  refine cw_calli (pc := 271) C dL_refused_271 (w_state l D Z A σ24 X (cF F 21) K nn M (nI 13) h24) (cwV 1 C.1.2.2.2.2 gL_refused_X6_state rfl rfl rfl (by decide +kernel) ⟨Nat.le_of_ble_eq_true rfl, Nat.le_of_ble_eq_true rfl⟩) 0 rfl rfl rfl rfl (Nat.le_of_ble_eq_true rfl) (fun r25 σ25 hr25 => ?_)
  rw [bad_state X] at hr25
  obtain ⟨rfl, h25⟩ := hr25
  have h25 : absP σ25 X (cF F 22) K nn M := h25
  refine cw_top (-2) rfl ?_
  refine cw_bipush (pc := 274) C dL_refused_274 (-2) (by decide) ?_
  refine cw_icmp_ne (pc := 276) (tgt := 316) C dL_refused_276 (by decide) (fun h => False.elim (by revert h; decide)) (fun _ => ?_)
  refine cw_aload_n (pc := 279) C dL_refused_279 rfl 3 rfl ?_
  refine cw_iconst (pc := 280) C dL_refused_280 (nI 2) (by decide) ?_
  refine cw_calli (pc := 281) C dL_refused_281 (w_why l D Z A σ25 X (cF F 22) K nn M (nI 2) h25) (cwV 1 C.1.2.2.2.2 gL_refused_X6_why rfl rfl rfl (by decide +kernel) ⟨Nat.le_of_ble_eq_true rfl, Nat.le_of_ble_eq_true rfl⟩) 0 rfl rfl rfl rfl (Nat.le_of_ble_eq_true rfl) (fun r26 σ26 hr26 => ?_)
  rw [bad_why] at hr26
  obtain ⟨rfl, h26⟩ := hr26
  have h26 : absP σ26 X (cF F 23) K nn M := h26
  refine cw_top (-2) rfl ?_
  refine cw_bipush (pc := 284) C dL_refused_284 (-2) (by decide) ?_
  refine cw_icmp_ne (pc := 286) (tgt := 316) C dL_refused_286 (by decide) (fun h => False.elim (by revert h; decide)) (fun _ => ?_)
  refine cw_aload_n (pc := 289) C dL_refused_289 rfl 3 rfl ?_
  refine cw_iconst (pc := 290) C dL_refused_290 (-1) (by decide) ?_
  refine cw_calli (pc := 291) C dL_refused_291 (w_type l D Z A σ26 X (cF F 23) K nn M (-1) h26 (by decide)) (cwV 1 C.1.2.2.2.2 gL_refused_X6_type rfl rfl rfl (by decide +kernel) ⟨Nat.le_of_ble_eq_true rfl, Nat.le_of_ble_eq_true rfl⟩) 0 rfl rfl rfl rfl (Nat.le_of_ble_eq_true rfl) (fun r27 σ27 hr27 => ?_)
  rw [bad_type] at hr27
  obtain ⟨rfl, h27⟩ := hr27
  have h27 : absP σ27 X (cF F 24) K nn M := h27
  refine cw_top (-2) rfl ?_
  refine cw_bipush (pc := 294) C dL_refused_294 (-2) (by decide) ?_
  refine cw_icmp_ne (pc := 296) (tgt := 316) C dL_refused_296 (by decide) (fun h => False.elim (by revert h; decide)) (fun _ => ?_)
  refine cw_aload_n (pc := 299) C dL_refused_299 rfl 3 rfl ?_
  refine cw_iload_n (pc := 300) C dL_refused_300 rfl 5 rfl ?_
  refine cw_bipush (pc := 301) C dL_refused_301 (nI 8) (by decide) ?_
  refine cw_ior (pc := 303) C dL_refused_303 (z := y ||| (nI 8)) rfl ?_
  refine cw_calli (pc := 304) C dL_refused_304 (w_told l D Z A σ27 X (cF F 24) K nn M (y ||| (nI 8)) h27) (cwV 1 C.1.2.2.2.2 gL_refused_X6_told rfl rfl rfl (by decide +kernel) ⟨Nat.le_of_ble_eq_true rfl, Nat.le_of_ble_eq_true rfl⟩) 0 rfl rfl rfl rfl (Nat.le_of_ble_eq_true rfl) (fun r28 σ28 hr28 => ?_)
  rw [bad_told _ nn y] at hr28
  obtain ⟨rfl, h28⟩ := hr28
  have h28 : absP σ28 X (cF F 25) K nn M := h28
  refine cw_top (-2) rfl ?_
  refine cw_bipush (pc := 307) C dL_refused_307 (-2) (by decide) ?_
  refine cw_icmp_ne (pc := 309) (tgt := 316) C dL_refused_309 (by decide) (fun h => False.elim (by revert h; decide)) (fun _ => ?_)
  refine cw_iconst (pc := 312) C dL_refused_312 (nI 1) (by decide) ?_
  refine cw_goto (pc := 313) (tgt := 317) C dL_refused_313 (by decide) ?_
  refine cw_istore (pc := 317) C dL_refused_317 (by decide) (lv' := [(7, .int (nI 1)), (6, .int (nI nn)), (5, .int (F 0)), (3, .long (whF X)), (0, .ref (A 0)), (1, .int (x)), (2, .int (y))]) rfl ?_
  refine cw_iload (pc := 319) C dL_refused_319 0 rfl ?_
  refine cw_if_eq (pc := 321) (tgt := 360) C dL_refused_321 (by decide) (fun h => False.elim (by revert h; decide)) (fun _ => ?_)
  refine cw_aload_n (pc := 324) C dL_refused_324 rfl 4 rfl ?_
  refine cw_iconst (pc := 325) C dL_refused_325 (nI 0) (by decide) ?_
  refine cw_calli (pc := 326) C dL_refused_326 (w_told l D Z A σ28 X (cF F 25) K nn M (nI 0) h28) (cwV 1 C.1.2.2.2.2 gL_refused_X6_told rfl rfl rfl (by decide +kernel) ⟨Nat.le_of_ble_eq_true rfl, Nat.le_of_ble_eq_true rfl⟩) 0 rfl rfl rfl rfl (Nat.le_of_ble_eq_true rfl) (fun r29 σ29 hr29 => ?_)
  rw [show toA (cF F 25) nn 0 (nI 0) = .inl (F 0 + nI 25) from congrArg Sum.inl (cF_0 F 25)] at hr29
  obtain ⟨rfl, h29⟩ := hr29
  have h29 : absP σ29 X (cF F 25) K nn M := h29
  refine cw_top (F 0 + nI 25) rfl ?_
  refine cw_iload (pc := 329) C dL_refused_329 2 rfl ?_
  refine cw_bipush (pc := 331) C dL_refused_331 (nI 25) (by decide) ?_
  refine cw_iadd (pc := 333) C dL_refused_333 (z := (F 0) + (nI 25)) rfl ?_
  refine cw_icmp_ne (pc := 334) (tgt := 360) C dL_refused_334 (by decide) (fun h334 => absurd rfl h334) (fun h334 => ?_)
  refine cw_aload_n (pc := 337) C dL_refused_337 rfl 4 rfl ?_
  refine cw_iconst (pc := 338) C dL_refused_338 (nI 4) (by decide) ?_
  refine cw_calli (pc := 339) C dL_refused_339 (w_told l D Z A σ29 X (cF F 25) K nn M (nI 4) h29) (cwV 1 C.1.2.2.2.2 gL_refused_X6_told rfl rfl rfl (by decide +kernel) ⟨Nat.le_of_ble_eq_true rfl, Nat.le_of_ble_eq_true rfl⟩) 0 rfl rfl rfl rfl (Nat.le_of_ble_eq_true rfl) (fun r30 σ30 hr30 => ?_)
  rw [show toA (cF F 25) nn 0 (nI 4) = .inl (nI nn) from rfl] at hr30
  obtain ⟨rfl, h30⟩ := hr30
  have h30 : absP σ30 X (cF F 25) K nn M := h30
  refine cw_top (nI nn) rfl ?_
  refine cw_iload (pc := 342) C dL_refused_342 1 rfl ?_
  refine cw_icmp_ne (pc := 344) (tgt := 360) C dL_refused_344 (by decide) (fun h344 => ?_) (fun h344 => ?_)
  · -- 344 t
    have h344 : ¬ nn = nn := (nc_ne (a := nn) (b := nn) (by omega) (by omega)).mp h344
    exact absurd rfl h344
  · -- 344 f
    have h344 : nn = nn := (nc_eq (a := nn) (b := nn) (by omega) (by omega)).mp h344
    refine cw_aload_n (pc := 347) C dL_refused_347 rfl 4 rfl ?_
    refine cw_callsl (pc := 348) C dL_refused_348 (c_L_whole l D Z A σ30 X (cF F 25) K nn M h30) (va_cwS 1 C.1.2.2.2.2 gL_refused_L_whole rfl rfl rfl (by decide +kernel) ⟨Nat.le_of_ble_eq_true rfl, Nat.le_of_ble_eq_true rfl⟩) rfl rfl (Nat.le_of_ble_eq_true rfl) (fun r31 σ31 hr31 => ?_)
    obtain ⟨rfl, h31⟩ := hr31
    refine cw_lload_n (pc := 351) C dL_refused_351 rfl 3 rfl ?_
    refine cw_lcmp (pc := 352) C dL_refused_352 ?_
    refine cw_top (nI 0) (cmp_same _) ?_
    refine cw_if_ne (pc := 353) (tgt := 360) C dL_refused_353 (by decide) (fun h => False.elim (by revert h; decide)) (fun _ => ?_)
    refine cw_iconst (pc := 356) C dL_refused_356 (nI 1) (by decide) ?_
    refine cw_goto (pc := 357) (tgt := 361) C dL_refused_357 (by decide) ?_
    refine hret true σ31 _ _ dL_refused_361 ?_
    clear hret
    exact ⟨rfl, h31⟩
