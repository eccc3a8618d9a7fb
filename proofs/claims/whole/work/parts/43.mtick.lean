set_option maxHeartbeats 4000000 in
set_option maxRecDepth 100000 in
theorem c_X7_tick (l : Launch) (D : va_G) (Z : CZ) (A : Nat → Nat) (σ : St) (X : Nat → Int32)  (v : Int32) (hT : σ 1 = mrow X) (hO : rowOK X) : CTv l yX7_tick wsX7_tick 4 95 D Z (wM Z A) σ [.ref (A 0), .int (v)] (fun σ' => ∃ (nr : Int32) (fa ra : Nat → Int32), σ' = up2 (up2 (up2 (up2 σ 0 (upd (σ 0) 15 nr)) 1 (mrow (tickS X v))) 9 fa) 10 ra) := by
  refine CTv.mk (cc := cX7_tick) (nL := 5) (own := RX7) rfl (by decide) rfl (Nat.le_of_ble_eq_true rfl) ?_
  intro p0 e0 s0 m0 g0 b0 t0 c0 A0 Q C hret
  obtain ⟨a, ha, h41⟩ := hO.2.2.2.2.2.2.1
  refine cw_lv (lv' := [(0, .ref (A 0)), (1, .int (v))]) [0, 1] rfl ?_
  refine cw_aload_n (pc := 0) C dX7_tick_0 rfl 0 rfl ?_
  refine cw_get (pc := 1) C dX7_tick_1 0 (v := .ref (A 1)) rfl rfl 0 rfl (fun _ h => List.mem_cons_of_mem _ (List.mem_append_right _ h)) (by decide) (List.mem_of_getElem? (i := 1) rfl) ?_
  refine cw_bipush (pc := 4) C dX7_tick_4 (nI 44) (by decide) ?_
  refine cw_dup2 (pc := 6) C dX7_tick_6 rfl rfl ?_
  refine cw_iald2 (pc := 7) C dX7_tick_7 1 1 (wM_g1 Z A) (f := σ 1) rfl 44 rfl (by decide) (by decide) ?_
  refine cw_top (X 40) (mr hT (by omega) (by omega) rfl) ?_
  refine cw_iconst (pc := 8) C dX7_tick_8 (nI 1) (by decide) ?_
  refine cw_iadd (pc := 9) C dX7_tick_9 (z := (X 40) + (nI 1)) rfl ?_
  refine cw_iast2 (pc := 10) C dX7_tick_10 1 1 (wM_g1 Z A) (wM_s1 Z A) (f := σ 1) rfl 44 rfl (by decide) (by decide) (up2 σ 1 (upd (σ 1) 44 ((X 40) + (nI 1)))) rfl ?_
  refine cw_aload_n (pc := 11) C dX7_tick_11 rfl 0 rfl ?_
  refine cw_get (pc := 12) C dX7_tick_12 0 (v := .ref (A 1)) rfl rfl 0 rfl (fun _ h => List.mem_cons_of_mem _ (List.mem_append_right _ h)) (by decide) (List.mem_of_getElem? (i := 1) rfl) ?_
  refine cw_bipush (pc := 15) C dX7_tick_15 (nI 45) (by decide) ?_
  refine cw_aload_n (pc := 17) C dX7_tick_17 rfl 0 rfl ?_
  refine cw_get (pc := 18) C dX7_tick_18 0 (v := .ref (A 1)) rfl rfl 0 rfl (fun _ h => List.mem_cons_of_mem _ (List.mem_append_right _ h)) (by decide) (List.mem_of_getElem? (i := 1) rfl) ?_
  refine cw_bipush (pc := 21) C dX7_tick_21 (nI 45) (by decide) ?_
  refine cw_iald2 (pc := 23) C dX7_tick_23 1 1 (wM_g1 Z A) (f := upd (σ 1) 44 ((X 40) + (nI 1))) (up2_eq _ _ _) 45 rfl (by decide) (by decide) ?_
  refine cw_top (nI a) ((upd_ne (by decide)).trans ((mr hT (by omega) (by omega) rfl).trans h41)) ?_
  refine cw_if_le (pc := 24) (tgt := 39) C dX7_tick_24 (by decide) (fun h24 => ?_) (fun h24 => ?_)
  · -- 24 t
    have h24 : a ≤ 0 := (nc_le (a := a) (b := 0) (by omega) (by omega)).mp h24
    refine cw_iconst (pc := 39) C dX7_tick_39 (nI 0) (by decide) ?_
    refine cw_iast2 (pc := 40) C dX7_tick_40 1 1 (wM_g1 Z A) (wM_s1 Z A) (f := upd (σ 1) 44 ((X 40) + (nI 1))) (up2_eq _ _ _) 45 rfl (by decide) (by decide) (up2 σ 1 (upd (upd (σ 1) 44 ((X 40) + (nI 1))) 45 (nI 0))) (up2_up2 _ 1 _ _) ?_
    refine cw_eq (σ' := up2 σ 1 (mrow (tk0 X))) (congrArg (fun qz => up2 σ 1 qz) (mtk_a hT h41 h24)) ?_
    have hO0 := tk0_ok hO
    have hgo := tickS_eq X v
    generalize hY : tk0 X = Y at hO0 hgo ⊢
    obtain ⟨hi7, hi39, hif⟩ := rowOK_in hO0
    generalize hiN : inN Y = i at hgo hi7 hi39 hif
    refine cw_aload_n (pc := 41) C dX7_tick_41 rfl 0 rfl ?_
    refine cw_get (pc := 42) C dX7_tick_42 0 (v := .ref (A 1)) rfl rfl 0 rfl (fun _ h => List.mem_cons_of_mem _ (List.mem_append_right _ h)) (by decide) (List.mem_of_getElem? (i := 1) rfl) ?_
    refine cw_bipush (pc := 45) C dX7_tick_45 (nI 43) (by decide) ?_
    refine cw_iald2 (pc := 47) C dX7_tick_47 1 1 (wM_g1 Z A) (f := mrow Y) (up2_eq _ _ _) 43 rfl (by decide) (by decide) ?_
    refine cw_top (nI i) ((mrow_at (by decide) (by decide)).trans hi39) ?_
    refine cw_istore_n (pc := 48) C dX7_tick_48 rfl (by decide) (lv' := [(2, .int (nI i)), (0, .ref (A 0)), (1, .int (v))]) rfl ?_
    refine cw_aload_n (pc := 49) C dX7_tick_49 rfl 1 rfl ?_
    refine cw_iload_n (pc := 50) C dX7_tick_50 rfl 2 rfl ?_
    have hf1 : (up2 σ 1 (mrow Y)) 1 = mrow Y := (up2_eq _ _ _)
    refine cw_calli (pc := 51) C dX7_tick_51 (c_X7_wantAt l D Z A (up2 σ 1 (mrow Y)) Y i v hf1 hi7 hi39) (cwV 1 C.1.2.2.2.2 gX7_tick_X7_wantAt rfl rfl rfl (by decide +kernel) ⟨Nat.le_of_ble_eq_true rfl, Nat.le_of_ble_eq_true rfl⟩) 0 rfl rfl rfl rfl (Nat.le_of_ble_eq_true rfl) (cw_pure (v := nI (wntS Y i v)) (fun _ _ h => h) ?_)
    have hwf := wntS_fit Y i v
    have hwl := wntS_le (X := Y) (v := v) hi7
    generalize hw : wntS Y i v = w at hwf hwl hgo ⊢
    refine cw_istore_n (pc := 54) C dX7_tick_54 rfl (by decide) (lv' := [(3, .int (nI w)), (2, .int (nI i)), (0, .ref (A 0)), (1, .int (v))]) rfl ?_
    refine cw_iload_n (pc := 55) C dX7_tick_55 rfl 1 rfl ?_
    refine cw_if_eq (pc := 56) (tgt := 64) C dX7_tick_56 (by decide) (fun h56 => ?_) (fun h56 => ?_)
    · -- 56 t
      have h56 : i = 0 := (nc_eq (a := i) (b := 0) (by omega) (by omega)).mp h56
      have h56 : i = 0 := by omega
      refine cw_aload_n (pc := 64) C dX7_tick_64 rfl 2 rfl ?_
      refine cw_get (pc := 65) C dX7_tick_65 0 (v := .ref (A 1)) rfl rfl 0 rfl (fun _ h => List.mem_cons_of_mem _ (List.mem_append_right _ h)) (by decide) (List.mem_of_getElem? (i := 1) rfl) ?_
      refine cw_bipush (pc := 68) C dX7_tick_68 (nI 43) (by decide) ?_
      refine cw_iload_n (pc := 70) C dX7_tick_70 rfl 0 rfl ?_
      refine cw_iast2 (pc := 71) C dX7_tick_71 1 1 (wM_g1 Z A) (wM_s1 Z A) (f := mrow Y) (up2_eq _ _ _) 43 rfl (by decide) (by decide) (up2 σ 1 (upd (mrow Y) 43 (nI w))) (up2_up2 _ 1 _ _) ?_
      refine hret (up2 σ 1 (upd (mrow Y) 43 (nI w))) _ _ dX7_tick_72 ?_
      clear hret
      refine ⟨σ 0 15, σ 9, σ 10, ?_⟩
      rw [← up4_self, ← hgo]
      exact congrArg (up2 σ 1) (mgo_in hi39 (Or.inl h56))
    · -- 56 f
      have h56 : ¬ (i = 0) := fun qq => h56 ((nc_eq (a := i) (b := 0) (by omega) (by omega)).mpr qq)
      refine cw_iload_n (pc := 59) C dX7_tick_59 rfl 0 rfl ?_
      refine cw_iload_n (pc := 60) C dX7_tick_60 rfl 1 rfl ?_
      refine cw_icmp_ne (pc := 61) (tgt := 73) C dX7_tick_61 (by decide) (fun h61 => ?_) (fun h61 => ?_)
      · -- 61 t
        have h61 : ¬ w = i := (nc_ne (a := w) (b := i) (by omega) (by omega)).mp h61
        refine cw_iload_n (pc := 73) C dX7_tick_73 rfl 0 rfl ?_
        refine cw_iload_n (pc := 74) C dX7_tick_74 rfl 1 rfl ?_
        refine cw_icmp_le (pc := 75) (tgt := 89) C dX7_tick_75 (by decide) (fun h75 => ?_) (fun h75 => ?_)
        · -- 75 t
          have h75 : w ≤ i := (nc_le (a := w) (b := i) (by omega) (by omega)).mp h75
          refine cw_aload_n (pc := 89) C dX7_tick_89 rfl 2 rfl ?_
          refine cw_iload_n (pc := 90) C dX7_tick_90 rfl 1 rfl ?_
          refine cw_iload_n (pc := 91) C dX7_tick_91 rfl 0 rfl ?_
          have hfw : fitN Y w = true := hwf.resolve_left h61
          have hf1 : (up2 σ 1 (mrow Y)) 1 = mrow Y := (up2_eq _ _ _)
          refine cw_callv (pc := 92) C dX7_tick_92 (c_X7_findWay l D Z A (up2 σ 1 (mrow Y)) Y i w hf1 hO0.1 (by omega) hi7 hfw) (cwV 2 C.1.2.2.2.2 gX7_tick_X7_findWay rfl rfl rfl (by decide +kernel) ⟨Nat.le_of_ble_eq_true rfl, Nat.le_of_ble_eq_true rfl⟩) 0 rfl rfl rfl rfl (Nat.le_of_ble_eq_true rfl) (fun σ1 hr => ?_)
          obtain ⟨fa, ra, hr, hra⟩ := hr
          subst hr
          rw [goS, if_neg (fun q => q.elim h61 (fun q => absurd q.1.2 (by omega))), if_neg h56] at hgo
          have hN6 : wyN Y i w ≤ 6 := wayN_le _ _ _ _
          have hW7 : ∀ j, wyG Y i w j ≤ 7 := fun j => wayG_le _ _ _ hi7 j
          have hW0 : wyG Y i w 0 = i := rfl
          have hsim : ∀ j, j < wyN Y i w → simN Y (wyG Y i w j) (wyG Y i w (j + 1)) = true := fun j hj => go_sim hfw hj
          have hend := wyG_end (X := Y) (i := i) (to := w)
          generalize hNN : wyN Y i w = N at hgo hra hN6 hsim hend ⊢
          generalize hWW : wyG Y i w = W at hgo hra hW7 hW0 hsim hend
          refine cw_eq (σ' := up2 (up2 (up2 (up2 σ 0 (upd (σ 0) 15 (nI N))) 1 (mrow Y)) 9 fa) 10 ra) (up4_ord σ (mrow Y) (nI N) fa ra) ?_
          refine cw_aload_n (pc := 95) C dX7_tick_95 rfl 2 rfl ?_
          refine cw_get (pc := 96) C dX7_tick_96 0 (v := .int ((upd (σ 0) 15 (nI N)) 15)) rfl rfl 15 rfl (fun _ h => List.mem_cons_of_mem _ (List.mem_append_right _ h)) (by decide) (List.mem_of_getElem? (i := 2) rfl) ?_
          refine cw_top (nI N) (upd_same _ _ _) ?_
          refine cw_if_ne (pc := 99) (tgt := 103) C dX7_tick_99 (by decide) (fun h99 => ?_) (fun h99 => ?_)
          · -- 99 t
            have h99 : ¬ N = 0 := (nc_ne (a := N) (b := 0) (by omega) (by omega)).mp h99
            refine cw_eq (σ' := up2 (up2 (up2 (up2 σ 0 (upd (σ 0) 15 (nI N))) 1 (mrow (upd (shfS W Y 0) 39 (nI i)))) 9 fa) 10 ra) (congrArg (fun qz => up2 (up2 (up2 (up2 σ 0 (upd (σ 0) 15 (nI N))) 1 qz) 9 fa) 10 ra) (mst_0 hi39)) ?_
            refine cw_iconst (pc := 103) C dX7_tick_103 (nI 0) (by decide) ?_
            refine cw_istore (pc := 104) C dX7_tick_104 (by decide) (lv' := [(4, .int (nI 0)), (3, .int (nI w)), (2, .int (nI i)), (0, .ref (A 0)), (1, .int (v))]) rfl ?_
            have L106 : ∀ (n106 : Nat) (j : Nat) (hj : j ≤ N) (hm : N < j + n106), CW p0 l e0 (rmC 4 95) s0 m0 g0 b0 t0 c0 D A0 5 (wM Z A) Q (up2 (up2 (up2 (up2 σ 0 (upd (σ 0) 15 (nI N))) 1 (mrow (upd (shfS W Y j) 39 (nI i)))) 9 fa) 10 ra) 106 [(0, .ref (A 0)), (1, .int (v)), (2, .int (nI i)), (3, .int (nI w)), (4, .int (nI j))] [] := by
              intro n106
              induction n106 with
              | zero => intro j hj hm; exact absurd hm (by omega)
              | succ n106 ih106 =>
                intro j hj hm
                refine cw_iload (pc := 106) C dX7_tick_106 4 rfl ?_
                refine cw_aload_n (pc := 108) C dX7_tick_108 rfl 0 rfl ?_
                refine cw_get (pc := 109) C dX7_tick_109 0 (v := .int ((upd (σ 0) 15 (nI N)) 15)) rfl rfl 15 rfl (fun _ h => List.mem_cons_of_mem _ (List.mem_append_right _ h)) (by decide) (List.mem_of_getElem? (i := 2) rfl) ?_
                refine cw_top (nI N) (upd_same _ _ _) ?_
                refine cw_icmp_ge (pc := 112) (tgt := 150) C dX7_tick_112 (by decide) (fun h112 => ?_) (fun h112 => ?_)
                · -- 112 t
                  have h112 : N ≤ j := (nc_ge (a := j) (b := N) (by omega) (by omega)).mp h112
                  have hjN : j = N := by omega
                  refine cw_aload_n (pc := 150) C dX7_tick_150 rfl 0 rfl ?_
                  refine cw_get (pc := 151) C dX7_tick_151 0 (v := .ref (A 1)) rfl rfl 0 rfl (fun _ h => List.mem_cons_of_mem _ (List.mem_append_right _ h)) (by decide) (List.mem_of_getElem? (i := 1) rfl) ?_
                  refine cw_bipush (pc := 154) C dX7_tick_154 (nI 43) (by decide) ?_
                  refine cw_iload_n (pc := 156) C dX7_tick_156 rfl 3 rfl ?_
                  refine cw_iast2 (pc := 157) C dX7_tick_157 1 1 (wM_g1 Z A) (wM_s1 Z A) (f := mrow (upd (shfS W Y j) 39 (nI i))) ((up2_ne _ _ (by decide)).trans ((up2_ne _ _ (by decide)).trans (up2_eq _ _ _))) 43 rfl (by decide) (by decide) (up2 (up2 (up2 (up2 σ 0 (upd (σ 0) 15 (nI N))) 1 (upd (mrow (upd (shfS W Y j) 39 (nI i))) 43 (nI w))) 9 fa) 10 ra) ((up2_comm _ _ _ (by decide)).trans (congrArg (fun qz => up2 qz 10 ra) ((up2_comm _ _ _ (by decide)).trans (congrArg (fun qz => up2 qz 9 fa) (up2_up2 _ 1 _ _))))) ?_
                  refine cw_eq (σ' := up2 (up2 (up2 (up2 σ 0 (upd (σ 0) 15 (nI N))) 1 (mrow (shfS W Y j))) 9 fa) 10 ra) (congrArg (fun qz => up2 (up2 (up2 (up2 σ 0 (upd (σ 0) 15 (nI N))) 1 qz) 9 fa) 10 ra) (mst_end (S := shfS W Y j) (i := i) (w := w) ((shfS_in (hi39.trans (congrArg nI hW0.symm)) j).trans (congrArg nI (by rw [hjN]; exact hend h99))))) ?_
                  refine cw_iload_n (pc := 158) C dX7_tick_158 rfl 3 rfl ?_
                  refine cw_iload_n (pc := 159) C dX7_tick_159 rfl 2 rfl ?_
                  refine cw_icmp_le (pc := 160) (tgt := 180) C dX7_tick_160 (by decide) (fun h160 => ?_) (fun h160 => ?_)
                  · -- 160 t
                    have h160 : w ≤ i := (nc_le (a := w) (b := i) (by omega) (by omega)).mp h160
                    refine cw_aload_n (pc := 180) C dX7_tick_180 rfl 0 rfl ?_
                    refine cw_get (pc := 181) C dX7_tick_181 0 (v := .ref (A 1)) rfl rfl 0 rfl (fun _ h => List.mem_cons_of_mem _ (List.mem_append_right _ h)) (by decide) (List.mem_of_getElem? (i := 1) rfl) ?_
                    refine cw_bipush (pc := 184) C dX7_tick_184 (nI 46) (by decide) ?_
                    refine cw_iald2 (pc := 186) C dX7_tick_186 1 1 (wM_g1 Z A) (f := mrow (shfS W Y j)) ((up2_ne _ _ (by decide)).trans ((up2_ne _ _ (by decide)).trans (up2_eq _ _ _))) 46 rfl (by decide) (by decide) ?_
                    refine cw_top (shfS W Y j 42) (mrow_at (by decide) (by decide)) ?_
                    refine cw_iconst (pc := 187) C dX7_tick_187 (-1) (by decide) ?_
                    refine cw_icmp_eq (pc := 188) (tgt := 230) C dX7_tick_188 (by decide) (fun h188 => ?_) (fun h188 => ?_)
                    · -- 188 t
                      refine hret (up2 (up2 (up2 (up2 σ 0 (upd (σ 0) 15 (nI N))) 1 (mrow (shfS W Y j))) 9 fa) 10 ra) _ _ dX7_tick_230 ?_
                      clear hret
                      refine ⟨nI N, fa, ra, ?_⟩
                      rw [if_neg h99, ← hjN] at hgo
                      rw [← hgo]
                      exact congrArg (fun qz => up2 (up2 (up2 (up2 σ 0 (upd (σ 0) 15 (nI N))) 1 qz) 9 fa) 10 ra) (mnote_no (by omega) (Or.inl h188))
                    · -- 188 f
                      refine cw_aload_n (pc := 191) C dX7_tick_191 rfl 0 rfl ?_
                      refine cw_get (pc := 192) C dX7_tick_192 0 (v := .ref (A 1)) rfl rfl 0 rfl (fun _ h => List.mem_cons_of_mem _ (List.mem_append_right _ h)) (by decide) (List.mem_of_getElem? (i := 1) rfl) ?_
                      refine cw_bipush (pc := 195) C dX7_tick_195 (nI 44) (by decide) ?_
                      refine cw_iald2 (pc := 197) C dX7_tick_197 1 1 (wM_g1 Z A) (f := mrow (shfS W Y j)) ((up2_ne _ _ (by decide)).trans ((up2_ne _ _ (by decide)).trans (up2_eq _ _ _))) 44 rfl (by decide) (by decide) ?_
                      refine cw_top (shfS W Y j 40) (mrow_at (by decide) (by decide)) ?_
                      refine cw_aload_n (pc := 198) C dX7_tick_198 rfl 0 rfl ?_
                      refine cw_get (pc := 199) C dX7_tick_199 0 (v := .ref (A 1)) rfl rfl 0 rfl (fun _ h => List.mem_cons_of_mem _ (List.mem_append_right _ h)) (by decide) (List.mem_of_getElem? (i := 1) rfl) ?_
                      refine cw_bipush (pc := 202) C dX7_tick_202 (nI 46) (by decide) ?_
                      refine cw_iald2 (pc := 204) C dX7_tick_204 1 1 (wM_g1 Z A) (f := mrow (shfS W Y j)) ((up2_ne _ _ (by decide)).trans ((up2_ne _ _ (by decide)).trans (up2_eq _ _ _))) 46 rfl (by decide) (by decide) ?_
                      refine cw_top (shfS W Y j 42) (mrow_at (by decide) (by decide)) ?_
                      refine cw_isub (pc := 205) C dX7_tick_205 (z := (shfS W Y j 40) - (shfS W Y j 42)) rfl ?_
                      refine cw_iconst (pc := 206) C dX7_tick_206 (nI 5) (by decide) ?_
                      refine cw_icmp_gt (pc := 207) (tgt := 230) C dX7_tick_207 (by decide) (fun h207 => ?_) (fun h207 => ?_)
                      · -- 207 t
                        refine hret (up2 (up2 (up2 (up2 σ 0 (upd (σ 0) 15 (nI N))) 1 (mrow (shfS W Y j))) 9 fa) 10 ra) _ _ dX7_tick_230 ?_
                        clear hret
                        refine ⟨nI N, fa, ra, ?_⟩
                        rw [if_neg h99, ← hjN] at hgo
                        rw [← hgo]
                        exact congrArg (fun qz => up2 (up2 (up2 (up2 σ 0 (upd (σ 0) 15 (nI N))) 1 qz) 9 fa) 10 ra) (mnote_no (by omega) (Or.inr h207))
                      · -- 207 f
                        refine cw_aload_n (pc := 210) C dX7_tick_210 rfl 0 rfl ?_
                        refine cw_get (pc := 211) C dX7_tick_211 0 (v := .ref (A 1)) rfl rfl 0 rfl (fun _ h => List.mem_cons_of_mem _ (List.mem_append_right _ h)) (by decide) (List.mem_of_getElem? (i := 1) rfl) ?_
                        refine cw_bipush (pc := 214) C dX7_tick_214 (nI 50) (by decide) ?_
                        refine cw_dup2 (pc := 216) C dX7_tick_216 rfl rfl ?_
                        refine cw_iald2 (pc := 217) C dX7_tick_217 1 1 (wM_g1 Z A) (f := mrow (shfS W Y j)) ((up2_ne _ _ (by decide)).trans ((up2_ne _ _ (by decide)).trans (up2_eq _ _ _))) 50 rfl (by decide) (by decide) ?_
                        refine cw_top (shfS W Y j 46) (mrow_at (by decide) (by decide)) ?_
                        refine cw_iconst (pc := 218) C dX7_tick_218 (nI 1) (by decide) ?_
                        refine cw_iadd (pc := 219) C dX7_tick_219 (z := (shfS W Y j 46) + (nI 1)) rfl ?_
                        refine cw_iast2 (pc := 220) C dX7_tick_220 1 1 (wM_g1 Z A) (wM_s1 Z A) (f := mrow (shfS W Y j)) ((up2_ne _ _ (by decide)).trans ((up2_ne _ _ (by decide)).trans (up2_eq _ _ _))) 50 rfl (by decide) (by decide) (up2 (up2 (up2 (up2 σ 0 (upd (σ 0) 15 (nI N))) 1 (upd (mrow (shfS W Y j)) 50 ((shfS W Y j 46) + (nI 1)))) 9 fa) 10 ra) ((up2_comm _ _ _ (by decide)).trans (congrArg (fun qz => up2 qz 10 ra) ((up2_comm _ _ _ (by decide)).trans (congrArg (fun qz => up2 qz 9 fa) (up2_up2 _ 1 _ _))))) ?_
                        refine cw_aload_n (pc := 221) C dX7_tick_221 rfl 0 rfl ?_
                        refine cw_get (pc := 222) C dX7_tick_222 0 (v := .ref (A 1)) rfl rfl 0 rfl (fun _ h => List.mem_cons_of_mem _ (List.mem_append_right _ h)) (by decide) (List.mem_of_getElem? (i := 1) rfl) ?_
                        refine cw_bipush (pc := 225) C dX7_tick_225 (nI 45) (by decide) ?_
                        refine cw_bipush (pc := 227) C dX7_tick_227 (nI 10) (by decide) ?_
                        refine cw_iast2 (pc := 229) C dX7_tick_229 1 1 (wM_g1 Z A) (wM_s1 Z A) (f := upd (mrow (shfS W Y j)) 50 ((shfS W Y j 46) + (nI 1))) ((up2_ne _ _ (by decide)).trans ((up2_ne _ _ (by decide)).trans (up2_eq _ _ _))) 45 rfl (by decide) (by decide) (up2 (up2 (up2 (up2 σ 0 (upd (σ 0) 15 (nI N))) 1 (upd (upd (mrow (shfS W Y j)) 50 ((shfS W Y j 46) + (nI 1))) 45 (nI 10))) 9 fa) 10 ra) ((up2_comm _ _ _ (by decide)).trans (congrArg (fun qz => up2 qz 10 ra) ((up2_comm _ _ _ (by decide)).trans (congrArg (fun qz => up2 qz 9 fa) (up2_up2 _ 1 _ _))))) ?_
                        refine hret (up2 (up2 (up2 (up2 σ 0 (upd (σ 0) 15 (nI N))) 1 (upd (upd (mrow (shfS W Y j)) 50 ((shfS W Y j 46) + (nI 1))) 45 (nI 10))) 9 fa) 10 ra) _ _ dX7_tick_230 ?_
                        clear hret
                        refine ⟨nI N, fa, ra, ?_⟩
                        rw [if_neg h99, ← hjN] at hgo
                        rw [← hgo]
                        exact congrArg (fun qz => up2 (up2 (up2 (up2 σ 0 (upd (σ 0) 15 (nI N))) 1 qz) 9 fa) 10 ra) (mnote_dn (by omega) h188 h207)
                  · -- 160 f
                    have h160 : ¬ (w ≤ i) := fun qq => h160 ((nc_le (a := w) (b := i) (by omega) (by omega)).mpr qq)
                    refine cw_aload_n (pc := 163) C dX7_tick_163 rfl 0 rfl ?_
                    refine cw_get (pc := 164) C dX7_tick_164 0 (v := .ref (A 1)) rfl rfl 0 rfl (fun _ h => List.mem_cons_of_mem _ (List.mem_append_right _ h)) (by decide) (List.mem_of_getElem? (i := 1) rfl) ?_
                    refine cw_bipush (pc := 167) C dX7_tick_167 (nI 46) (by decide) ?_
                    refine cw_aload_n (pc := 169) C dX7_tick_169 rfl 0 rfl ?_
                    refine cw_get (pc := 170) C dX7_tick_170 0 (v := .ref (A 1)) rfl rfl 0 rfl (fun _ h => List.mem_cons_of_mem _ (List.mem_append_right _ h)) (by decide) (List.mem_of_getElem? (i := 1) rfl) ?_
                    refine cw_bipush (pc := 173) C dX7_tick_173 (nI 44) (by decide) ?_
                    refine cw_iald2 (pc := 175) C dX7_tick_175 1 1 (wM_g1 Z A) (f := mrow (shfS W Y j)) ((up2_ne _ _ (by decide)).trans ((up2_ne _ _ (by decide)).trans (up2_eq _ _ _))) 44 rfl (by decide) (by decide) ?_
                    refine cw_top (shfS W Y j 40) (mrow_at (by decide) (by decide)) ?_
                    refine cw_iast2 (pc := 176) C dX7_tick_176 1 1 (wM_g1 Z A) (wM_s1 Z A) (f := mrow (shfS W Y j)) ((up2_ne _ _ (by decide)).trans ((up2_ne _ _ (by decide)).trans (up2_eq _ _ _))) 46 rfl (by decide) (by decide) (up2 (up2 (up2 (up2 σ 0 (upd (σ 0) 15 (nI N))) 1 (upd (mrow (shfS W Y j)) 46 (shfS W Y j 40))) 9 fa) 10 ra) ((up2_comm _ _ _ (by decide)).trans (congrArg (fun qz => up2 qz 10 ra) ((up2_comm _ _ _ (by decide)).trans (congrArg (fun qz => up2 qz 9 fa) (up2_up2 _ 1 _ _))))) ?_
                    refine cw_goto (pc := 177) (tgt := 230) C dX7_tick_177 (by decide) ?_
                    refine hret (up2 (up2 (up2 (up2 σ 0 (upd (σ 0) 15 (nI N))) 1 (upd (mrow (shfS W Y j)) 46 (shfS W Y j 40))) 9 fa) 10 ra) _ _ dX7_tick_230 ?_
                    clear hret
                    refine ⟨nI N, fa, ra, ?_⟩
                    rw [if_neg h99, ← hjN] at hgo
                    rw [← hgo]
                    exact congrArg (fun qz => up2 (up2 (up2 (up2 σ 0 (upd (σ 0) 15 (nI N))) 1 qz) 9 fa) 10 ra) (mnote_up (by omega))
                · -- 112 f
                  have h112 : ¬ (N ≤ j) := fun qq => h112 ((nc_ge (a := j) (b := N) (by omega) (by omega)).mpr qq)
                  refine cw_aload_n (pc := 115) C dX7_tick_115 rfl 0 rfl ?_
                  refine cw_iload (pc := 116) C dX7_tick_116 4 rfl ?_
                  refine cw_if_ne (pc := 118) (tgt := 125) C dX7_tick_118 (by decide) (fun h118 => ?_) (fun h118 => ?_)
                  · -- 118 t
                    have h118 : ¬ j = 0 := (nc_ne (a := j) (b := 0) (by omega) (by omega)).mp h118
                    refine cw_aload_n (pc := 125) C dX7_tick_125 rfl 0 rfl ?_
                    refine cw_get (pc := 126) C dX7_tick_126 0 (v := .ref (A 10)) rfl rfl 14 rfl (fun _ h => List.mem_cons_of_mem _ (List.mem_append_right _ h)) (by decide) (List.mem_of_getElem? (i := 3) rfl) ?_
                    refine cw_iload (pc := 129) C dX7_tick_129 4 rfl ?_
                    refine cw_iconst (pc := 131) C dX7_tick_131 (nI 1) (by decide) ?_
                    refine cw_isub (pc := 132) C dX7_tick_132 (z := nI (j - 1)) (pk_sub (by omega)) ?_
                    refine cw_iald2 (pc := 133) C dX7_tick_133 10 10 (wM_g10 Z A) (f := ra) (up2_eq _ _ _) (j - 1) rfl (by omega) (by decide) ?_
                    refine cw_top (nI (W j)) ((hra (j - 1) (by omega)).trans (congrArg (fun z => nI (W z)) (by omega))) ?_
                    refine cw_aload_n (pc := 134) C dX7_tick_134 rfl 0 rfl ?_
                    refine cw_get (pc := 135) C dX7_tick_135 0 (v := .ref (A 10)) rfl rfl 14 rfl (fun _ h => List.mem_cons_of_mem _ (List.mem_append_right _ h)) (by decide) (List.mem_of_getElem? (i := 3) rfl) ?_
                    refine cw_iload (pc := 138) C dX7_tick_138 4 rfl ?_
                    refine cw_iald2 (pc := 140) C dX7_tick_140 10 10 (wM_g10 Z A) (f := ra) (up2_eq _ _ _) j rfl (by omega) (by decide) ?_
                    refine cw_top (nI (W (j + 1))) (hra j (by omega)) ?_
                    have hwj := hW7 j
                    have hwj1 := hW7 (j + 1)
                    have hf1 : (up2 (up2 (up2 (up2 σ 0 (upd (σ 0) 15 (nI N))) 1 (mrow (upd (shfS W Y j) 39 (nI i)))) 9 fa) 10 ra) 1 = mrow (upd (shfS W Y j) 39 (nI i)) := ((up2_ne _ _ (by decide)).trans ((up2_ne _ _ (by decide)).trans (up2_eq _ _ _)))
                    refine cw_callv (pc := 141) C dX7_tick_141 (c_X7_shift l D Z A (up2 (up2 (up2 (up2 σ 0 (upd (σ 0) 15 (nI N))) 1 (mrow (upd (shfS W Y j) 39 (nI i)))) 9 fa) 10 ra) (upd (shfS W Y j) 39 (nI i)) (W j) (W (j + 1)) hf1 (mst_ok hO0 hi7 hif hsim j (by omega)) hwj hwj1 (by rw [sameG_sim (mst_same W Y i j) hwj hwj1]; exact hsim j (by omega))) (cwV 2 C.1.2.2.2.2 gX7_tick_X7_shift rfl rfl rfl (by decide +kernel) ⟨Nat.le_of_ble_eq_true rfl, Nat.le_of_ble_eq_true rfl⟩) 0 rfl rfl rfl rfl (Nat.le_of_ble_eq_true rfl) (fun σ1 hr => ?_)
                    subst hr
                    refine cw_eq (σ' := up2 (up2 (up2 (up2 σ 0 (upd (σ 0) 15 (nI N))) 1 (mrow (upd (shfS W Y (j + 1)) 39 (nI i)))) 9 fa) 10 ra) (((up2_comm _ _ _ (by decide)).trans (congrArg (fun qz => up2 qz 10 ra) ((up2_comm _ _ _ (by decide)).trans (congrArg (fun qz => up2 qz 9 fa) (up2_up2 _ 1 _ _))))).trans (congrArg (fun qz => up2 (up2 (up2 (up2 σ 0 (upd (σ 0) 15 (nI N))) 1 qz) 9 fa) 10 ra) (congrArg mrow (mst_step hW7 i j)))) ?_
                    refine cw_iinc (pc := 144) C dX7_tick_144 4 rfl (nI (j + 1)) (nI_inc _ 1) (by decide) (lv' := [(4, .int (nI (j + 1))), (0, .ref (A 0)), (1, .int (v)), (2, .int (nI i)), (3, .int (nI w))]) rfl ?_
                    refine cw_goto (pc := 147) (tgt := 106) C dX7_tick_147 (by decide) ?_
                    refine cw_lv [1, 2, 3, 4, 0] rfl ?_
                    exact ih106 (j + 1) (by omega) (by omega)
                  · -- 118 f
                    have h118 : j = 0 := (nc_eq (a := j) (b := 0) (by omega) (by omega)).mp h118
                    refine cw_iload_n (pc := 121) C dX7_tick_121 rfl 2 rfl ?_
                    refine cw_top (nI (W j)) (congrArg nI (by rw [h118, hW0])) ?_
                    refine cw_goto (pc := 122) (tgt := 134) C dX7_tick_122 (by decide) ?_
                    refine cw_aload_n (pc := 134) C dX7_tick_134 rfl 0 rfl ?_
                    refine cw_get (pc := 135) C dX7_tick_135 0 (v := .ref (A 10)) rfl rfl 14 rfl (fun _ h => List.mem_cons_of_mem _ (List.mem_append_right _ h)) (by decide) (List.mem_of_getElem? (i := 3) rfl) ?_
                    refine cw_iload (pc := 138) C dX7_tick_138 4 rfl ?_
                    refine cw_iald2 (pc := 140) C dX7_tick_140 10 10 (wM_g10 Z A) (f := ra) (up2_eq _ _ _) j rfl (by omega) (by decide) ?_
                    refine cw_top (nI (W (j + 1))) (hra j (by omega)) ?_
                    have hwj := hW7 j
                    have hwj1 := hW7 (j + 1)
                    have hf1 : (up2 (up2 (up2 (up2 σ 0 (upd (σ 0) 15 (nI N))) 1 (mrow (upd (shfS W Y j) 39 (nI i)))) 9 fa) 10 ra) 1 = mrow (upd (shfS W Y j) 39 (nI i)) := ((up2_ne _ _ (by decide)).trans ((up2_ne _ _ (by decide)).trans (up2_eq _ _ _)))
                    refine cw_callv (pc := 141) C dX7_tick_141 (c_X7_shift l D Z A (up2 (up2 (up2 (up2 σ 0 (upd (σ 0) 15 (nI N))) 1 (mrow (upd (shfS W Y j) 39 (nI i)))) 9 fa) 10 ra) (upd (shfS W Y j) 39 (nI i)) (W j) (W (j + 1)) hf1 (mst_ok hO0 hi7 hif hsim j (by omega)) hwj hwj1 (by rw [sameG_sim (mst_same W Y i j) hwj hwj1]; exact hsim j (by omega))) (cwV 2 C.1.2.2.2.2 gX7_tick_X7_shift rfl rfl rfl (by decide +kernel) ⟨Nat.le_of_ble_eq_true rfl, Nat.le_of_ble_eq_true rfl⟩) 0 rfl rfl rfl rfl (Nat.le_of_ble_eq_true rfl) (fun σ1 hr => ?_)
                    subst hr
                    refine cw_eq (σ' := up2 (up2 (up2 (up2 σ 0 (upd (σ 0) 15 (nI N))) 1 (mrow (upd (shfS W Y (j + 1)) 39 (nI i)))) 9 fa) 10 ra) (((up2_comm _ _ _ (by decide)).trans (congrArg (fun qz => up2 qz 10 ra) ((up2_comm _ _ _ (by decide)).trans (congrArg (fun qz => up2 qz 9 fa) (up2_up2 _ 1 _ _))))).trans (congrArg (fun qz => up2 (up2 (up2 (up2 σ 0 (upd (σ 0) 15 (nI N))) 1 qz) 9 fa) 10 ra) (congrArg mrow (mst_step hW7 i j)))) ?_
                    refine cw_iinc (pc := 144) C dX7_tick_144 4 rfl (nI (j + 1)) (nI_inc _ 1) (by decide) (lv' := [(4, .int (nI (j + 1))), (0, .ref (A 0)), (1, .int (v)), (2, .int (nI i)), (3, .int (nI w))]) rfl ?_
                    refine cw_goto (pc := 147) (tgt := 106) C dX7_tick_147 (by decide) ?_
                    refine cw_lv [1, 2, 3, 4, 0] rfl ?_
                    exact ih106 (j + 1) (by omega) (by omega)
            refine cw_lv [3, 4, 2, 1, 0] rfl ?_
            exact L106 (N + 1) 0 (by omega) (by omega)
          · -- 99 f
            have h99 : N = 0 := (nc_eq (a := N) (b := 0) (by omega) (by omega)).mp h99
            refine hret (up2 (up2 (up2 (up2 σ 0 (upd (σ 0) 15 (nI N))) 1 (mrow Y)) 9 fa) 10 ra) _ _ dX7_tick_102 ?_
            clear hret
            refine ⟨nI N, fa, ra, ?_⟩
            rw [if_pos h99] at hgo
            rw [← hgo]
        · -- 75 f
          have h75 : ¬ (w ≤ i) := fun qq => h75 ((nc_le (a := w) (b := i) (by omega) (by omega)).mpr qq)
          refine cw_aload_n (pc := 78) C dX7_tick_78 rfl 2 rfl ?_
          refine cw_get (pc := 79) C dX7_tick_79 0 (v := .ref (A 1)) rfl rfl 0 rfl (fun _ h => List.mem_cons_of_mem _ (List.mem_append_right _ h)) (by decide) (List.mem_of_getElem? (i := 1) rfl) ?_
          refine cw_bipush (pc := 82) C dX7_tick_82 (nI 45) (by decide) ?_
          refine cw_iald2 (pc := 84) C dX7_tick_84 1 1 (wM_g1 Z A) (f := mrow Y) (up2_eq _ _ _) 45 rfl (by decide) (by decide) ?_
          refine cw_top (Y 41) (mrow_at (by decide) (by decide)) ?_
          refine cw_if_le (pc := 85) (tgt := 89) C dX7_tick_85 (by decide) (fun h85 => ?_) (fun h85 => ?_)
          · -- 85 t
            refine cw_aload_n (pc := 89) C dX7_tick_89 rfl 2 rfl ?_
            refine cw_iload_n (pc := 90) C dX7_tick_90 rfl 1 rfl ?_
            refine cw_iload_n (pc := 91) C dX7_tick_91 rfl 0 rfl ?_
            have hfw : fitN Y w = true := hwf.resolve_left h61
            have hf1 : (up2 σ 1 (mrow Y)) 1 = mrow Y := (up2_eq _ _ _)
            refine cw_callv (pc := 92) C dX7_tick_92 (c_X7_findWay l D Z A (up2 σ 1 (mrow Y)) Y i w hf1 hO0.1 (by omega) hi7 hfw) (cwV 2 C.1.2.2.2.2 gX7_tick_X7_findWay rfl rfl rfl (by decide +kernel) ⟨Nat.le_of_ble_eq_true rfl, Nat.le_of_ble_eq_true rfl⟩) 0 rfl rfl rfl rfl (Nat.le_of_ble_eq_true rfl) (fun σ1 hr => ?_)
            obtain ⟨fa, ra, hr, hra⟩ := hr
            subst hr
            rw [goS, if_neg (fun q => q.elim h61 (fun q => absurd q.2 (Int32.not_lt.mpr h85))), if_neg h56] at hgo
            have hN6 : wyN Y i w ≤ 6 := wayN_le _ _ _ _
            have hW7 : ∀ j, wyG Y i w j ≤ 7 := fun j => wayG_le _ _ _ hi7 j
            have hW0 : wyG Y i w 0 = i := rfl
            have hsim : ∀ j, j < wyN Y i w → simN Y (wyG Y i w j) (wyG Y i w (j + 1)) = true := fun j hj => go_sim hfw hj
            have hend := wyG_end (X := Y) (i := i) (to := w)
            generalize hNN : wyN Y i w = N at hgo hra hN6 hsim hend ⊢
            generalize hWW : wyG Y i w = W at hgo hra hW7 hW0 hsim hend
            refine cw_eq (σ' := up2 (up2 (up2 (up2 σ 0 (upd (σ 0) 15 (nI N))) 1 (mrow Y)) 9 fa) 10 ra) (up4_ord σ (mrow Y) (nI N) fa ra) ?_
            refine cw_aload_n (pc := 95) C dX7_tick_95 rfl 2 rfl ?_
            refine cw_get (pc := 96) C dX7_tick_96 0 (v := .int ((upd (σ 0) 15 (nI N)) 15)) rfl rfl 15 rfl (fun _ h => List.mem_cons_of_mem _ (List.mem_append_right _ h)) (by decide) (List.mem_of_getElem? (i := 2) rfl) ?_
            refine cw_top (nI N) (upd_same _ _ _) ?_
            refine cw_if_ne (pc := 99) (tgt := 103) C dX7_tick_99 (by decide) (fun h99 => ?_) (fun h99 => ?_)
            · -- 99 t
              have h99 : ¬ N = 0 := (nc_ne (a := N) (b := 0) (by omega) (by omega)).mp h99
              refine cw_eq (σ' := up2 (up2 (up2 (up2 σ 0 (upd (σ 0) 15 (nI N))) 1 (mrow (upd (shfS W Y 0) 39 (nI i)))) 9 fa) 10 ra) (congrArg (fun qz => up2 (up2 (up2 (up2 σ 0 (upd (σ 0) 15 (nI N))) 1 qz) 9 fa) 10 ra) (mst_0 hi39)) ?_
              refine cw_iconst (pc := 103) C dX7_tick_103 (nI 0) (by decide) ?_
              refine cw_istore (pc := 104) C dX7_tick_104 (by decide) (lv' := [(4, .int (nI 0)), (3, .int (nI w)), (2, .int (nI i)), (0, .ref (A 0)), (1, .int (v))]) rfl ?_
              have L106 : ∀ (n106 : Nat) (j : Nat) (hj : j ≤ N) (hm : N < j + n106), CW p0 l e0 (rmC 4 95) s0 m0 g0 b0 t0 c0 D A0 5 (wM Z A) Q (up2 (up2 (up2 (up2 σ 0 (upd (σ 0) 15 (nI N))) 1 (mrow (upd (shfS W Y j) 39 (nI i)))) 9 fa) 10 ra) 106 [(0, .ref (A 0)), (1, .int (v)), (2, .int (nI i)), (3, .int (nI w)), (4, .int (nI j))] [] := by
                intro n106
                induction n106 with
                | zero => intro j hj hm; exact absurd hm (by omega)
                | succ n106 ih106 =>
                  intro j hj hm
                  refine cw_iload (pc := 106) C dX7_tick_106 4 rfl ?_
                  refine cw_aload_n (pc := 108) C dX7_tick_108 rfl 0 rfl ?_
                  refine cw_get (pc := 109) C dX7_tick_109 0 (v := .int ((upd (σ 0) 15 (nI N)) 15)) rfl rfl 15 rfl (fun _ h => List.mem_cons_of_mem _ (List.mem_append_right _ h)) (by decide) (List.mem_of_getElem? (i := 2) rfl) ?_
                  refine cw_top (nI N) (upd_same _ _ _) ?_
                  refine cw_icmp_ge (pc := 112) (tgt := 150) C dX7_tick_112 (by decide) (fun h112 => ?_) (fun h112 => ?_)
                  · -- 112 t
                    have h112 : N ≤ j := (nc_ge (a := j) (b := N) (by omega) (by omega)).mp h112
                    have hjN : j = N := by omega
                    refine cw_aload_n (pc := 150) C dX7_tick_150 rfl 0 rfl ?_
                    refine cw_get (pc := 151) C dX7_tick_151 0 (v := .ref (A 1)) rfl rfl 0 rfl (fun _ h => List.mem_cons_of_mem _ (List.mem_append_right _ h)) (by decide) (List.mem_of_getElem? (i := 1) rfl) ?_
                    refine cw_bipush (pc := 154) C dX7_tick_154 (nI 43) (by decide) ?_
                    refine cw_iload_n (pc := 156) C dX7_tick_156 rfl 3 rfl ?_
                    refine cw_iast2 (pc := 157) C dX7_tick_157 1 1 (wM_g1 Z A) (wM_s1 Z A) (f := mrow (upd (shfS W Y j) 39 (nI i))) ((up2_ne _ _ (by decide)).trans ((up2_ne _ _ (by decide)).trans (up2_eq _ _ _))) 43 rfl (by decide) (by decide) (up2 (up2 (up2 (up2 σ 0 (upd (σ 0) 15 (nI N))) 1 (upd (mrow (upd (shfS W Y j) 39 (nI i))) 43 (nI w))) 9 fa) 10 ra) ((up2_comm _ _ _ (by decide)).trans (congrArg (fun qz => up2 qz 10 ra) ((up2_comm _ _ _ (by decide)).trans (congrArg (fun qz => up2 qz 9 fa) (up2_up2 _ 1 _ _))))) ?_
                    refine cw_eq (σ' := up2 (up2 (up2 (up2 σ 0 (upd (σ 0) 15 (nI N))) 1 (mrow (shfS W Y j))) 9 fa) 10 ra) (congrArg (fun qz => up2 (up2 (up2 (up2 σ 0 (upd (σ 0) 15 (nI N))) 1 qz) 9 fa) 10 ra) (mst_end (S := shfS W Y j) (i := i) (w := w) ((shfS_in (hi39.trans (congrArg nI hW0.symm)) j).trans (congrArg nI (by rw [hjN]; exact hend h99))))) ?_
                    refine cw_iload_n (pc := 158) C dX7_tick_158 rfl 3 rfl ?_
                    refine cw_iload_n (pc := 159) C dX7_tick_159 rfl 2 rfl ?_
                    refine cw_icmp_le (pc := 160) (tgt := 180) C dX7_tick_160 (by decide) (fun h160 => ?_) (fun h160 => ?_)
                    · -- 160 t
                      have h160 : w ≤ i := (nc_le (a := w) (b := i) (by omega) (by omega)).mp h160
                      refine cw_aload_n (pc := 180) C dX7_tick_180 rfl 0 rfl ?_
                      refine cw_get (pc := 181) C dX7_tick_181 0 (v := .ref (A 1)) rfl rfl 0 rfl (fun _ h => List.mem_cons_of_mem _ (List.mem_append_right _ h)) (by decide) (List.mem_of_getElem? (i := 1) rfl) ?_
                      refine cw_bipush (pc := 184) C dX7_tick_184 (nI 46) (by decide) ?_
                      refine cw_iald2 (pc := 186) C dX7_tick_186 1 1 (wM_g1 Z A) (f := mrow (shfS W Y j)) ((up2_ne _ _ (by decide)).trans ((up2_ne _ _ (by decide)).trans (up2_eq _ _ _))) 46 rfl (by decide) (by decide) ?_
                      refine cw_top (shfS W Y j 42) (mrow_at (by decide) (by decide)) ?_
                      refine cw_iconst (pc := 187) C dX7_tick_187 (-1) (by decide) ?_
                      refine cw_icmp_eq (pc := 188) (tgt := 230) C dX7_tick_188 (by decide) (fun h188 => ?_) (fun h188 => ?_)
                      · -- 188 t
                        refine hret (up2 (up2 (up2 (up2 σ 0 (upd (σ 0) 15 (nI N))) 1 (mrow (shfS W Y j))) 9 fa) 10 ra) _ _ dX7_tick_230 ?_
                        clear hret
                        refine ⟨nI N, fa, ra, ?_⟩
                        rw [if_neg h99, ← hjN] at hgo
                        rw [← hgo]
                        exact congrArg (fun qz => up2 (up2 (up2 (up2 σ 0 (upd (σ 0) 15 (nI N))) 1 qz) 9 fa) 10 ra) (mnote_no (by omega) (Or.inl h188))
                      · -- 188 f
                        refine cw_aload_n (pc := 191) C dX7_tick_191 rfl 0 rfl ?_
                        refine cw_get (pc := 192) C dX7_tick_192 0 (v := .ref (A 1)) rfl rfl 0 rfl (fun _ h => List.mem_cons_of_mem _ (List.mem_append_right _ h)) (by decide) (List.mem_of_getElem? (i := 1) rfl) ?_
                        refine cw_bipush (pc := 195) C dX7_tick_195 (nI 44) (by decide) ?_
                        refine cw_iald2 (pc := 197) C dX7_tick_197 1 1 (wM_g1 Z A) (f := mrow (shfS W Y j)) ((up2_ne _ _ (by decide)).trans ((up2_ne _ _ (by decide)).trans (up2_eq _ _ _))) 44 rfl (by decide) (by decide) ?_
                        refine cw_top (shfS W Y j 40) (mrow_at (by decide) (by decide)) ?_
                        refine cw_aload_n (pc := 198) C dX7_tick_198 rfl 0 rfl ?_
                        refine cw_get (pc := 199) C dX7_tick_199 0 (v := .ref (A 1)) rfl rfl 0 rfl (fun _ h => List.mem_cons_of_mem _ (List.mem_append_right _ h)) (by decide) (List.mem_of_getElem? (i := 1) rfl) ?_
                        refine cw_bipush (pc := 202) C dX7_tick_202 (nI 46) (by decide) ?_
                        refine cw_iald2 (pc := 204) C dX7_tick_204 1 1 (wM_g1 Z A) (f := mrow (shfS W Y j)) ((up2_ne _ _ (by decide)).trans ((up2_ne _ _ (by decide)).trans (up2_eq _ _ _))) 46 rfl (by decide) (by decide) ?_
                        refine cw_top (shfS W Y j 42) (mrow_at (by decide) (by decide)) ?_
                        refine cw_isub (pc := 205) C dX7_tick_205 (z := (shfS W Y j 40) - (shfS W Y j 42)) rfl ?_
                        refine cw_iconst (pc := 206) C dX7_tick_206 (nI 5) (by decide) ?_
                        refine cw_icmp_gt (pc := 207) (tgt := 230) C dX7_tick_207 (by decide) (fun h207 => ?_) (fun h207 => ?_)
                        · -- 207 t
                          refine hret (up2 (up2 (up2 (up2 σ 0 (upd (σ 0) 15 (nI N))) 1 (mrow (shfS W Y j))) 9 fa) 10 ra) _ _ dX7_tick_230 ?_
                          clear hret
                          refine ⟨nI N, fa, ra, ?_⟩
                          rw [if_neg h99, ← hjN] at hgo
                          rw [← hgo]
                          exact congrArg (fun qz => up2 (up2 (up2 (up2 σ 0 (upd (σ 0) 15 (nI N))) 1 qz) 9 fa) 10 ra) (mnote_no (by omega) (Or.inr h207))
                        · -- 207 f
                          refine cw_aload_n (pc := 210) C dX7_tick_210 rfl 0 rfl ?_
                          refine cw_get (pc := 211) C dX7_tick_211 0 (v := .ref (A 1)) rfl rfl 0 rfl (fun _ h => List.mem_cons_of_mem _ (List.mem_append_right _ h)) (by decide) (List.mem_of_getElem? (i := 1) rfl) ?_
                          refine cw_bipush (pc := 214) C dX7_tick_214 (nI 50) (by decide) ?_
                          refine cw_dup2 (pc := 216) C dX7_tick_216 rfl rfl ?_
                          refine cw_iald2 (pc := 217) C dX7_tick_217 1 1 (wM_g1 Z A) (f := mrow (shfS W Y j)) ((up2_ne _ _ (by decide)).trans ((up2_ne _ _ (by decide)).trans (up2_eq _ _ _))) 50 rfl (by decide) (by decide) ?_
                          refine cw_top (shfS W Y j 46) (mrow_at (by decide) (by decide)) ?_
                          refine cw_iconst (pc := 218) C dX7_tick_218 (nI 1) (by decide) ?_
                          refine cw_iadd (pc := 219) C dX7_tick_219 (z := (shfS W Y j 46) + (nI 1)) rfl ?_
                          refine cw_iast2 (pc := 220) C dX7_tick_220 1 1 (wM_g1 Z A) (wM_s1 Z A) (f := mrow (shfS W Y j)) ((up2_ne _ _ (by decide)).trans ((up2_ne _ _ (by decide)).trans (up2_eq _ _ _))) 50 rfl (by decide) (by decide) (up2 (up2 (up2 (up2 σ 0 (upd (σ 0) 15 (nI N))) 1 (upd (mrow (shfS W Y j)) 50 ((shfS W Y j 46) + (nI 1)))) 9 fa) 10 ra) ((up2_comm _ _ _ (by decide)).trans (congrArg (fun qz => up2 qz 10 ra) ((up2_comm _ _ _ (by decide)).trans (congrArg (fun qz => up2 qz 9 fa) (up2_up2 _ 1 _ _))))) ?_
                          refine cw_aload_n (pc := 221) C dX7_tick_221 rfl 0 rfl ?_
                          refine cw_get (pc := 222) C dX7_tick_222 0 (v := .ref (A 1)) rfl rfl 0 rfl (fun _ h => List.mem_cons_of_mem _ (List.mem_append_right _ h)) (by decide) (List.mem_of_getElem? (i := 1) rfl) ?_
                          refine cw_bipush (pc := 225) C dX7_tick_225 (nI 45) (by decide) ?_
                          refine cw_bipush (pc := 227) C dX7_tick_227 (nI 10) (by decide) ?_
                          refine cw_iast2 (pc := 229) C dX7_tick_229 1 1 (wM_g1 Z A) (wM_s1 Z A) (f := upd (mrow (shfS W Y j)) 50 ((shfS W Y j 46) + (nI 1))) ((up2_ne _ _ (by decide)).trans ((up2_ne _ _ (by decide)).trans (up2_eq _ _ _))) 45 rfl (by decide) (by decide) (up2 (up2 (up2 (up2 σ 0 (upd (σ 0) 15 (nI N))) 1 (upd (upd (mrow (shfS W Y j)) 50 ((shfS W Y j 46) + (nI 1))) 45 (nI 10))) 9 fa) 10 ra) ((up2_comm _ _ _ (by decide)).trans (congrArg (fun qz => up2 qz 10 ra) ((up2_comm _ _ _ (by decide)).trans (congrArg (fun qz => up2 qz 9 fa) (up2_up2 _ 1 _ _))))) ?_
                          refine hret (up2 (up2 (up2 (up2 σ 0 (upd (σ 0) 15 (nI N))) 1 (upd (upd (mrow (shfS W Y j)) 50 ((shfS W Y j 46) + (nI 1))) 45 (nI 10))) 9 fa) 10 ra) _ _ dX7_tick_230 ?_
                          clear hret
                          refine ⟨nI N, fa, ra, ?_⟩
                          rw [if_neg h99, ← hjN] at hgo
                          rw [← hgo]
                          exact congrArg (fun qz => up2 (up2 (up2 (up2 σ 0 (upd (σ 0) 15 (nI N))) 1 qz) 9 fa) 10 ra) (mnote_dn (by omega) h188 h207)
                    · -- 160 f
                      have h160 : ¬ (w ≤ i) := fun qq => h160 ((nc_le (a := w) (b := i) (by omega) (by omega)).mpr qq)
                      refine cw_aload_n (pc := 163) C dX7_tick_163 rfl 0 rfl ?_
                      refine cw_get (pc := 164) C dX7_tick_164 0 (v := .ref (A 1)) rfl rfl 0 rfl (fun _ h => List.mem_cons_of_mem _ (List.mem_append_right _ h)) (by decide) (List.mem_of_getElem? (i := 1) rfl) ?_
                      refine cw_bipush (pc := 167) C dX7_tick_167 (nI 46) (by decide) ?_
                      refine cw_aload_n (pc := 169) C dX7_tick_169 rfl 0 rfl ?_
                      refine cw_get (pc := 170) C dX7_tick_170 0 (v := .ref (A 1)) rfl rfl 0 rfl (fun _ h => List.mem_cons_of_mem _ (List.mem_append_right _ h)) (by decide) (List.mem_of_getElem? (i := 1) rfl) ?_
                      refine cw_bipush (pc := 173) C dX7_tick_173 (nI 44) (by decide) ?_
                      refine cw_iald2 (pc := 175) C dX7_tick_175 1 1 (wM_g1 Z A) (f := mrow (shfS W Y j)) ((up2_ne _ _ (by decide)).trans ((up2_ne _ _ (by decide)).trans (up2_eq _ _ _))) 44 rfl (by decide) (by decide) ?_
                      refine cw_top (shfS W Y j 40) (mrow_at (by decide) (by decide)) ?_
                      refine cw_iast2 (pc := 176) C dX7_tick_176 1 1 (wM_g1 Z A) (wM_s1 Z A) (f := mrow (shfS W Y j)) ((up2_ne _ _ (by decide)).trans ((up2_ne _ _ (by decide)).trans (up2_eq _ _ _))) 46 rfl (by decide) (by decide) (up2 (up2 (up2 (up2 σ 0 (upd (σ 0) 15 (nI N))) 1 (upd (mrow (shfS W Y j)) 46 (shfS W Y j 40))) 9 fa) 10 ra) ((up2_comm _ _ _ (by decide)).trans (congrArg (fun qz => up2 qz 10 ra) ((up2_comm _ _ _ (by decide)).trans (congrArg (fun qz => up2 qz 9 fa) (up2_up2 _ 1 _ _))))) ?_
                      refine cw_goto (pc := 177) (tgt := 230) C dX7_tick_177 (by decide) ?_
                      refine hret (up2 (up2 (up2 (up2 σ 0 (upd (σ 0) 15 (nI N))) 1 (upd (mrow (shfS W Y j)) 46 (shfS W Y j 40))) 9 fa) 10 ra) _ _ dX7_tick_230 ?_
                      clear hret
                      refine ⟨nI N, fa, ra, ?_⟩
                      rw [if_neg h99, ← hjN] at hgo
                      rw [← hgo]
                      exact congrArg (fun qz => up2 (up2 (up2 (up2 σ 0 (upd (σ 0) 15 (nI N))) 1 qz) 9 fa) 10 ra) (mnote_up (by omega))
                  · -- 112 f
                    have h112 : ¬ (N ≤ j) := fun qq => h112 ((nc_ge (a := j) (b := N) (by omega) (by omega)).mpr qq)
                    refine cw_aload_n (pc := 115) C dX7_tick_115 rfl 0 rfl ?_
                    refine cw_iload (pc := 116) C dX7_tick_116 4 rfl ?_
                    refine cw_if_ne (pc := 118) (tgt := 125) C dX7_tick_118 (by decide) (fun h118 => ?_) (fun h118 => ?_)
                    · -- 118 t
                      have h118 : ¬ j = 0 := (nc_ne (a := j) (b := 0) (by omega) (by omega)).mp h118
                      refine cw_aload_n (pc := 125) C dX7_tick_125 rfl 0 rfl ?_
                      refine cw_get (pc := 126) C dX7_tick_126 0 (v := .ref (A 10)) rfl rfl 14 rfl (fun _ h => List.mem_cons_of_mem _ (List.mem_append_right _ h)) (by decide) (List.mem_of_getElem? (i := 3) rfl) ?_
                      refine cw_iload (pc := 129) C dX7_tick_129 4 rfl ?_
                      refine cw_iconst (pc := 131) C dX7_tick_131 (nI 1) (by decide) ?_
                      refine cw_isub (pc := 132) C dX7_tick_132 (z := nI (j - 1)) (pk_sub (by omega)) ?_
                      refine cw_iald2 (pc := 133) C dX7_tick_133 10 10 (wM_g10 Z A) (f := ra) (up2_eq _ _ _) (j - 1) rfl (by omega) (by decide) ?_
                      refine cw_top (nI (W j)) ((hra (j - 1) (by omega)).trans (congrArg (fun z => nI (W z)) (by omega))) ?_
                      refine cw_aload_n (pc := 134) C dX7_tick_134 rfl 0 rfl ?_
                      refine cw_get (pc := 135) C dX7_tick_135 0 (v := .ref (A 10)) rfl rfl 14 rfl (fun _ h => List.mem_cons_of_mem _ (List.mem_append_right _ h)) (by decide) (List.mem_of_getElem? (i := 3) rfl) ?_
                      refine cw_iload (pc := 138) C dX7_tick_138 4 rfl ?_
                      refine cw_iald2 (pc := 140) C dX7_tick_140 10 10 (wM_g10 Z A) (f := ra) (up2_eq _ _ _) j rfl (by omega) (by decide) ?_
                      refine cw_top (nI (W (j + 1))) (hra j (by omega)) ?_
                      have hwj := hW7 j
                      have hwj1 := hW7 (j + 1)
                      have hf1 : (up2 (up2 (up2 (up2 σ 0 (upd (σ 0) 15 (nI N))) 1 (mrow (upd (shfS W Y j) 39 (nI i)))) 9 fa) 10 ra) 1 = mrow (upd (shfS W Y j) 39 (nI i)) := ((up2_ne _ _ (by decide)).trans ((up2_ne _ _ (by decide)).trans (up2_eq _ _ _)))
                      refine cw_callv (pc := 141) C dX7_tick_141 (c_X7_shift l D Z A (up2 (up2 (up2 (up2 σ 0 (upd (σ 0) 15 (nI N))) 1 (mrow (upd (shfS W Y j) 39 (nI i)))) 9 fa) 10 ra) (upd (shfS W Y j) 39 (nI i)) (W j) (W (j + 1)) hf1 (mst_ok hO0 hi7 hif hsim j (by omega)) hwj hwj1 (by rw [sameG_sim (mst_same W Y i j) hwj hwj1]; exact hsim j (by omega))) (cwV 2 C.1.2.2.2.2 gX7_tick_X7_shift rfl rfl rfl (by decide +kernel) ⟨Nat.le_of_ble_eq_true rfl, Nat.le_of_ble_eq_true rfl⟩) 0 rfl rfl rfl rfl (Nat.le_of_ble_eq_true rfl) (fun σ1 hr => ?_)
                      subst hr
                      refine cw_eq (σ' := up2 (up2 (up2 (up2 σ 0 (upd (σ 0) 15 (nI N))) 1 (mrow (upd (shfS W Y (j + 1)) 39 (nI i)))) 9 fa) 10 ra) (((up2_comm _ _ _ (by decide)).trans (congrArg (fun qz => up2 qz 10 ra) ((up2_comm _ _ _ (by decide)).trans (congrArg (fun qz => up2 qz 9 fa) (up2_up2 _ 1 _ _))))).trans (congrArg (fun qz => up2 (up2 (up2 (up2 σ 0 (upd (σ 0) 15 (nI N))) 1 qz) 9 fa) 10 ra) (congrArg mrow (mst_step hW7 i j)))) ?_
                      refine cw_iinc (pc := 144) C dX7_tick_144 4 rfl (nI (j + 1)) (nI_inc _ 1) (by decide) (lv' := [(4, .int (nI (j + 1))), (0, .ref (A 0)), (1, .int (v)), (2, .int (nI i)), (3, .int (nI w))]) rfl ?_
                      refine cw_goto (pc := 147) (tgt := 106) C dX7_tick_147 (by decide) ?_
                      refine cw_lv [1, 2, 3, 4, 0] rfl ?_
                      exact ih106 (j + 1) (by omega) (by omega)
                    · -- 118 f
                      have h118 : j = 0 := (nc_eq (a := j) (b := 0) (by omega) (by omega)).mp h118
                      refine cw_iload_n (pc := 121) C dX7_tick_121 rfl 2 rfl ?_
                      refine cw_top (nI (W j)) (congrArg nI (by rw [h118, hW0])) ?_
                      refine cw_goto (pc := 122) (tgt := 134) C dX7_tick_122 (by decide) ?_
                      refine cw_aload_n (pc := 134) C dX7_tick_134 rfl 0 rfl ?_
                      refine cw_get (pc := 135) C dX7_tick_135 0 (v := .ref (A 10)) rfl rfl 14 rfl (fun _ h => List.mem_cons_of_mem _ (List.mem_append_right _ h)) (by decide) (List.mem_of_getElem? (i := 3) rfl) ?_
                      refine cw_iload (pc := 138) C dX7_tick_138 4 rfl ?_
                      refine cw_iald2 (pc := 140) C dX7_tick_140 10 10 (wM_g10 Z A) (f := ra) (up2_eq _ _ _) j rfl (by omega) (by decide) ?_
                      refine cw_top (nI (W (j + 1))) (hra j (by omega)) ?_
                      have hwj := hW7 j
                      have hwj1 := hW7 (j + 1)
                      have hf1 : (up2 (up2 (up2 (up2 σ 0 (upd (σ 0) 15 (nI N))) 1 (mrow (upd (shfS W Y j) 39 (nI i)))) 9 fa) 10 ra) 1 = mrow (upd (shfS W Y j) 39 (nI i)) := ((up2_ne _ _ (by decide)).trans ((up2_ne _ _ (by decide)).trans (up2_eq _ _ _)))
                      refine cw_callv (pc := 141) C dX7_tick_141 (c_X7_shift l D Z A (up2 (up2 (up2 (up2 σ 0 (upd (σ 0) 15 (nI N))) 1 (mrow (upd (shfS W Y j) 39 (nI i)))) 9 fa) 10 ra) (upd (shfS W Y j) 39 (nI i)) (W j) (W (j + 1)) hf1 (mst_ok hO0 hi7 hif hsim j (by omega)) hwj hwj1 (by rw [sameG_sim (mst_same W Y i j) hwj hwj1]; exact hsim j (by omega))) (cwV 2 C.1.2.2.2.2 gX7_tick_X7_shift rfl rfl rfl (by decide +kernel) ⟨Nat.le_of_ble_eq_true rfl, Nat.le_of_ble_eq_true rfl⟩) 0 rfl rfl rfl rfl (Nat.le_of_ble_eq_true rfl) (fun σ1 hr => ?_)
                      subst hr
                      refine cw_eq (σ' := up2 (up2 (up2 (up2 σ 0 (upd (σ 0) 15 (nI N))) 1 (mrow (upd (shfS W Y (j + 1)) 39 (nI i)))) 9 fa) 10 ra) (((up2_comm _ _ _ (by decide)).trans (congrArg (fun qz => up2 qz 10 ra) ((up2_comm _ _ _ (by decide)).trans (congrArg (fun qz => up2 qz 9 fa) (up2_up2 _ 1 _ _))))).trans (congrArg (fun qz => up2 (up2 (up2 (up2 σ 0 (upd (σ 0) 15 (nI N))) 1 qz) 9 fa) 10 ra) (congrArg mrow (mst_step hW7 i j)))) ?_
                      refine cw_iinc (pc := 144) C dX7_tick_144 4 rfl (nI (j + 1)) (nI_inc _ 1) (by decide) (lv' := [(4, .int (nI (j + 1))), (0, .ref (A 0)), (1, .int (v)), (2, .int (nI i)), (3, .int (nI w))]) rfl ?_
                      refine cw_goto (pc := 147) (tgt := 106) C dX7_tick_147 (by decide) ?_
                      refine cw_lv [1, 2, 3, 4, 0] rfl ?_
                      exact ih106 (j + 1) (by omega) (by omega)
              refine cw_lv [3, 4, 2, 1, 0] rfl ?_
              exact L106 (N + 1) 0 (by omega) (by omega)
            · -- 99 f
              have h99 : N = 0 := (nc_eq (a := N) (b := 0) (by omega) (by omega)).mp h99
              refine hret (up2 (up2 (up2 (up2 σ 0 (upd (σ 0) 15 (nI N))) 1 (mrow Y)) 9 fa) 10 ra) _ _ dX7_tick_102 ?_
              clear hret
              refine ⟨nI N, fa, ra, ?_⟩
              rw [if_pos h99] at hgo
              rw [← hgo]
          · -- 85 f
            refine hret (up2 σ 1 (mrow Y)) _ _ dX7_tick_88 ?_
            clear hret
            refine ⟨σ 0 15, σ 9, σ 10, ?_⟩
            rw [← up4_self, ← hgo]
            exact congrArg (up2 σ 1) (mgo_hold h56 (by omega) (Int32.not_le.mp h85))
      · -- 61 f
        have h61 : w = i := (nc_eq (a := w) (b := i) (by omega) (by omega)).mp h61
        refine cw_aload_n (pc := 64) C dX7_tick_64 rfl 2 rfl ?_
        refine cw_get (pc := 65) C dX7_tick_65 0 (v := .ref (A 1)) rfl rfl 0 rfl (fun _ h => List.mem_cons_of_mem _ (List.mem_append_right _ h)) (by decide) (List.mem_of_getElem? (i := 1) rfl) ?_
        refine cw_bipush (pc := 68) C dX7_tick_68 (nI 43) (by decide) ?_
        refine cw_iload_n (pc := 70) C dX7_tick_70 rfl 0 rfl ?_
        refine cw_iast2 (pc := 71) C dX7_tick_71 1 1 (wM_g1 Z A) (wM_s1 Z A) (f := mrow Y) (up2_eq _ _ _) 43 rfl (by decide) (by decide) (up2 σ 1 (upd (mrow Y) 43 (nI w))) (up2_up2 _ 1 _ _) ?_
        refine hret (up2 σ 1 (upd (mrow Y) 43 (nI w))) _ _ dX7_tick_72 ?_
        clear hret
        refine ⟨σ 0 15, σ 9, σ 10, ?_⟩
        rw [← up4_self, ← hgo]
        exact congrArg (up2 σ 1) (mgo_in hi39 (Or.inr h61))
  · -- 24 f
    have h24 : ¬ (a ≤ 0) := fun qq => h24 ((nc_le (a := a) (b := 0) (by omega) (by omega)).mpr qq)
    refine cw_aload_n (pc := 27) C dX7_tick_27 rfl 0 rfl ?_
    refine cw_get (pc := 28) C dX7_tick_28 0 (v := .ref (A 1)) rfl rfl 0 rfl (fun _ h => List.mem_cons_of_mem _ (List.mem_append_right _ h)) (by decide) (List.mem_of_getElem? (i := 1) rfl) ?_
    refine cw_bipush (pc := 31) C dX7_tick_31 (nI 45) (by decide) ?_
    refine cw_iald2 (pc := 33) C dX7_tick_33 1 1 (wM_g1 Z A) (f := upd (σ 1) 44 ((X 40) + (nI 1))) (up2_eq _ _ _) 45 rfl (by decide) (by decide) ?_
    refine cw_top (nI a) ((upd_ne (by decide)).trans ((mr hT (by omega) (by omega) rfl).trans h41)) ?_
    refine cw_iconst (pc := 34) C dX7_tick_34 (nI 1) (by decide) ?_
    refine cw_isub (pc := 35) C dX7_tick_35 (z := nI (a - 1)) (pk_sub (by omega)) ?_
    refine cw_goto (pc := 36) (tgt := 40) C dX7_tick_36 (by decide) ?_
    refine cw_iast2 (pc := 40) C dX7_tick_40 1 1 (wM_g1 Z A) (wM_s1 Z A) (f := upd (σ 1) 44 ((X 40) + (nI 1))) (up2_eq _ _ _) 45 rfl (by decide) (by decide) (up2 σ 1 (upd (upd (σ 1) 44 ((X 40) + (nI 1))) 45 (nI (a - 1)))) (up2_up2 _ 1 _ _) ?_
    refine cw_eq (σ' := up2 σ 1 (mrow (tk0 X))) (congrArg (fun qz => up2 σ 1 qz) (mtk_b hT h41 ha h24)) ?_
    have hO0 := tk0_ok hO
    have hgo := tickS_eq X v
    generalize hY : tk0 X = Y at hO0 hgo ⊢
    obtain ⟨hi7, hi39, hif⟩ := rowOK_in hO0
    generalize hiN : inN Y = i at hgo hi7 hi39 hif
    refine cw_aload_n (pc := 41) C dX7_tick_41 rfl 0 rfl ?_
    refine cw_get (pc := 42) C dX7_tick_42 0 (v := .ref (A 1)) rfl rfl 0 rfl (fun _ h => List.mem_cons_of_mem _ (List.mem_append_right _ h)) (by decide) (List.mem_of_getElem? (i := 1) rfl) ?_
    refine cw_bipush (pc := 45) C dX7_tick_45 (nI 43) (by decide) ?_
    refine cw_iald2 (pc := 47) C dX7_tick_47 1 1 (wM_g1 Z A) (f := mrow Y) (up2_eq _ _ _) 43 rfl (by decide) (by decide) ?_
    refine cw_top (nI i) ((mrow_at (by decide) (by decide)).trans hi39) ?_
    refine cw_istore_n (pc := 48) C dX7_tick_48 rfl (by decide) (lv' := [(2, .int (nI i)), (0, .ref (A 0)), (1, .int (v))]) rfl ?_
    refine cw_aload_n (pc := 49) C dX7_tick_49 rfl 1 rfl ?_
    refine cw_iload_n (pc := 50) C dX7_tick_50 rfl 2 rfl ?_
    have hf1 : (up2 σ 1 (mrow Y)) 1 = mrow Y := (up2_eq _ _ _)
    refine cw_calli (pc := 51) C dX7_tick_51 (c_X7_wantAt l D Z A (up2 σ 1 (mrow Y)) Y i v hf1 hi7 hi39) (cwV 1 C.1.2.2.2.2 gX7_tick_X7_wantAt rfl rfl rfl (by decide +kernel) ⟨Nat.le_of_ble_eq_true rfl, Nat.le_of_ble_eq_true rfl⟩) 0 rfl rfl rfl rfl (Nat.le_of_ble_eq_true rfl) (cw_pure (v := nI (wntS Y i v)) (fun _ _ h => h) ?_)
    have hwf := wntS_fit Y i v
    have hwl := wntS_le (X := Y) (v := v) hi7
    generalize hw : wntS Y i v = w at hwf hwl hgo ⊢
    refine cw_istore_n (pc := 54) C dX7_tick_54 rfl (by decide) (lv' := [(3, .int (nI w)), (2, .int (nI i)), (0, .ref (A 0)), (1, .int (v))]) rfl ?_
    refine cw_iload_n (pc := 55) C dX7_tick_55 rfl 1 rfl ?_
    refine cw_if_eq (pc := 56) (tgt := 64) C dX7_tick_56 (by decide) (fun h56 => ?_) (fun h56 => ?_)
    · -- 56 t
      have h56 : i = 0 := (nc_eq (a := i) (b := 0) (by omega) (by omega)).mp h56
      have h56 : i = 0 := by omega
      refine cw_aload_n (pc := 64) C dX7_tick_64 rfl 2 rfl ?_
      refine cw_get (pc := 65) C dX7_tick_65 0 (v := .ref (A 1)) rfl rfl 0 rfl (fun _ h => List.mem_cons_of_mem _ (List.mem_append_right _ h)) (by decide) (List.mem_of_getElem? (i := 1) rfl) ?_
      refine cw_bipush (pc := 68) C dX7_tick_68 (nI 43) (by decide) ?_
      refine cw_iload_n (pc := 70) C dX7_tick_70 rfl 0 rfl ?_
      refine cw_iast2 (pc := 71) C dX7_tick_71 1 1 (wM_g1 Z A) (wM_s1 Z A) (f := mrow Y) (up2_eq _ _ _) 43 rfl (by decide) (by decide) (up2 σ 1 (upd (mrow Y) 43 (nI w))) (up2_up2 _ 1 _ _) ?_
      refine hret (up2 σ 1 (upd (mrow Y) 43 (nI w))) _ _ dX7_tick_72 ?_
      clear hret
      refine ⟨σ 0 15, σ 9, σ 10, ?_⟩
      rw [← up4_self, ← hgo]
      exact congrArg (up2 σ 1) (mgo_in hi39 (Or.inl h56))
    · -- 56 f
      have h56 : ¬ (i = 0) := fun qq => h56 ((nc_eq (a := i) (b := 0) (by omega) (by omega)).mpr qq)
      refine cw_iload_n (pc := 59) C dX7_tick_59 rfl 0 rfl ?_
      refine cw_iload_n (pc := 60) C dX7_tick_60 rfl 1 rfl ?_
      refine cw_icmp_ne (pc := 61) (tgt := 73) C dX7_tick_61 (by decide) (fun h61 => ?_) (fun h61 => ?_)
      · -- 61 t
        have h61 : ¬ w = i := (nc_ne (a := w) (b := i) (by omega) (by omega)).mp h61
        refine cw_iload_n (pc := 73) C dX7_tick_73 rfl 0 rfl ?_
        refine cw_iload_n (pc := 74) C dX7_tick_74 rfl 1 rfl ?_
        refine cw_icmp_le (pc := 75) (tgt := 89) C dX7_tick_75 (by decide) (fun h75 => ?_) (fun h75 => ?_)
        · -- 75 t
          have h75 : w ≤ i := (nc_le (a := w) (b := i) (by omega) (by omega)).mp h75
          refine cw_aload_n (pc := 89) C dX7_tick_89 rfl 2 rfl ?_
          refine cw_iload_n (pc := 90) C dX7_tick_90 rfl 1 rfl ?_
          refine cw_iload_n (pc := 91) C dX7_tick_91 rfl 0 rfl ?_
          have hfw : fitN Y w = true := hwf.resolve_left h61
          have hf1 : (up2 σ 1 (mrow Y)) 1 = mrow Y := (up2_eq _ _ _)
          refine cw_callv (pc := 92) C dX7_tick_92 (c_X7_findWay l D Z A (up2 σ 1 (mrow Y)) Y i w hf1 hO0.1 (by omega) hi7 hfw) (cwV 2 C.1.2.2.2.2 gX7_tick_X7_findWay rfl rfl rfl (by decide +kernel) ⟨Nat.le_of_ble_eq_true rfl, Nat.le_of_ble_eq_true rfl⟩) 0 rfl rfl rfl rfl (Nat.le_of_ble_eq_true rfl) (fun σ1 hr => ?_)
          obtain ⟨fa, ra, hr, hra⟩ := hr
          subst hr
          rw [goS, if_neg (fun q => q.elim h61 (fun q => absurd q.1.2 (by omega))), if_neg h56] at hgo
          have hN6 : wyN Y i w ≤ 6 := wayN_le _ _ _ _
          have hW7 : ∀ j, wyG Y i w j ≤ 7 := fun j => wayG_le _ _ _ hi7 j
          have hW0 : wyG Y i w 0 = i := rfl
          have hsim : ∀ j, j < wyN Y i w → simN Y (wyG Y i w j) (wyG Y i w (j + 1)) = true := fun j hj => go_sim hfw hj
          have hend := wyG_end (X := Y) (i := i) (to := w)
          generalize hNN : wyN Y i w = N at hgo hra hN6 hsim hend ⊢
          generalize hWW : wyG Y i w = W at hgo hra hW7 hW0 hsim hend
          refine cw_eq (σ' := up2 (up2 (up2 (up2 σ 0 (upd (σ 0) 15 (nI N))) 1 (mrow Y)) 9 fa) 10 ra) (up4_ord σ (mrow Y) (nI N) fa ra) ?_
          refine cw_aload_n (pc := 95) C dX7_tick_95 rfl 2 rfl ?_
          refine cw_get (pc := 96) C dX7_tick_96 0 (v := .int ((upd (σ 0) 15 (nI N)) 15)) rfl rfl 15 rfl (fun _ h => List.mem_cons_of_mem _ (List.mem_append_right _ h)) (by decide) (List.mem_of_getElem? (i := 2) rfl) ?_
          refine cw_top (nI N) (upd_same _ _ _) ?_
          refine cw_if_ne (pc := 99) (tgt := 103) C dX7_tick_99 (by decide) (fun h99 => ?_) (fun h99 => ?_)
          · -- 99 t
            have h99 : ¬ N = 0 := (nc_ne (a := N) (b := 0) (by omega) (by omega)).mp h99
            refine cw_eq (σ' := up2 (up2 (up2 (up2 σ 0 (upd (σ 0) 15 (nI N))) 1 (mrow (upd (shfS W Y 0) 39 (nI i)))) 9 fa) 10 ra) (congrArg (fun qz => up2 (up2 (up2 (up2 σ 0 (upd (σ 0) 15 (nI N))) 1 qz) 9 fa) 10 ra) (mst_0 hi39)) ?_
            refine cw_iconst (pc := 103) C dX7_tick_103 (nI 0) (by decide) ?_
            refine cw_istore (pc := 104) C dX7_tick_104 (by decide) (lv' := [(4, .int (nI 0)), (3, .int (nI w)), (2, .int (nI i)), (0, .ref (A 0)), (1, .int (v))]) rfl ?_
            have L106 : ∀ (n106 : Nat) (j : Nat) (hj : j ≤ N) (hm : N < j + n106), CW p0 l e0 (rmC 4 95) s0 m0 g0 b0 t0 c0 D A0 5 (wM Z A) Q (up2 (up2 (up2 (up2 σ 0 (upd (σ 0) 15 (nI N))) 1 (mrow (upd (shfS W Y j) 39 (nI i)))) 9 fa) 10 ra) 106 [(0, .ref (A 0)), (1, .int (v)), (2, .int (nI i)), (3, .int (nI w)), (4, .int (nI j))] [] := by
              intro n106
              induction n106 with
              | zero => intro j hj hm; exact absurd hm (by omega)
              | succ n106 ih106 =>
                intro j hj hm
                refine cw_iload (pc := 106) C dX7_tick_106 4 rfl ?_
                refine cw_aload_n (pc := 108) C dX7_tick_108 rfl 0 rfl ?_
                refine cw_get (pc := 109) C dX7_tick_109 0 (v := .int ((upd (σ 0) 15 (nI N)) 15)) rfl rfl 15 rfl (fun _ h => List.mem_cons_of_mem _ (List.mem_append_right _ h)) (by decide) (List.mem_of_getElem? (i := 2) rfl) ?_
                refine cw_top (nI N) (upd_same _ _ _) ?_
                refine cw_icmp_ge (pc := 112) (tgt := 150) C dX7_tick_112 (by decide) (fun h112 => ?_) (fun h112 => ?_)
                · -- 112 t
                  have h112 : N ≤ j := (nc_ge (a := j) (b := N) (by omega) (by omega)).mp h112
                  have hjN : j = N := by omega
                  refine cw_aload_n (pc := 150) C dX7_tick_150 rfl 0 rfl ?_
                  refine cw_get (pc := 151) C dX7_tick_151 0 (v := .ref (A 1)) rfl rfl 0 rfl (fun _ h => List.mem_cons_of_mem _ (List.mem_append_right _ h)) (by decide) (List.mem_of_getElem? (i := 1) rfl) ?_
                  refine cw_bipush (pc := 154) C dX7_tick_154 (nI 43) (by decide) ?_
                  refine cw_iload_n (pc := 156) C dX7_tick_156 rfl 3 rfl ?_
                  refine cw_iast2 (pc := 157) C dX7_tick_157 1 1 (wM_g1 Z A) (wM_s1 Z A) (f := mrow (upd (shfS W Y j) 39 (nI i))) ((up2_ne _ _ (by decide)).trans ((up2_ne _ _ (by decide)).trans (up2_eq _ _ _))) 43 rfl (by decide) (by decide) (up2 (up2 (up2 (up2 σ 0 (upd (σ 0) 15 (nI N))) 1 (upd (mrow (upd (shfS W Y j) 39 (nI i))) 43 (nI w))) 9 fa) 10 ra) ((up2_comm _ _ _ (by decide)).trans (congrArg (fun qz => up2 qz 10 ra) ((up2_comm _ _ _ (by decide)).trans (congrArg (fun qz => up2 qz 9 fa) (up2_up2 _ 1 _ _))))) ?_
                  refine cw_eq (σ' := up2 (up2 (up2 (up2 σ 0 (upd (σ 0) 15 (nI N))) 1 (mrow (shfS W Y j))) 9 fa) 10 ra) (congrArg (fun qz => up2 (up2 (up2 (up2 σ 0 (upd (σ 0) 15 (nI N))) 1 qz) 9 fa) 10 ra) (mst_end (S := shfS W Y j) (i := i) (w := w) ((shfS_in (hi39.trans (congrArg nI hW0.symm)) j).trans (congrArg nI (by rw [hjN]; exact hend h99))))) ?_
                  refine cw_iload_n (pc := 158) C dX7_tick_158 rfl 3 rfl ?_
                  refine cw_iload_n (pc := 159) C dX7_tick_159 rfl 2 rfl ?_
                  refine cw_icmp_le (pc := 160) (tgt := 180) C dX7_tick_160 (by decide) (fun h160 => ?_) (fun h160 => ?_)
                  · -- 160 t
                    have h160 : w ≤ i := (nc_le (a := w) (b := i) (by omega) (by omega)).mp h160
                    refine cw_aload_n (pc := 180) C dX7_tick_180 rfl 0 rfl ?_
                    refine cw_get (pc := 181) C dX7_tick_181 0 (v := .ref (A 1)) rfl rfl 0 rfl (fun _ h => List.mem_cons_of_mem _ (List.mem_append_right _ h)) (by decide) (List.mem_of_getElem? (i := 1) rfl) ?_
                    refine cw_bipush (pc := 184) C dX7_tick_184 (nI 46) (by decide) ?_
                    refine cw_iald2 (pc := 186) C dX7_tick_186 1 1 (wM_g1 Z A) (f := mrow (shfS W Y j)) ((up2_ne _ _ (by decide)).trans ((up2_ne _ _ (by decide)).trans (up2_eq _ _ _))) 46 rfl (by decide) (by decide) ?_
                    refine cw_top (shfS W Y j 42) (mrow_at (by decide) (by decide)) ?_
                    refine cw_iconst (pc := 187) C dX7_tick_187 (-1) (by decide) ?_
                    refine cw_icmp_eq (pc := 188) (tgt := 230) C dX7_tick_188 (by decide) (fun h188 => ?_) (fun h188 => ?_)
                    · -- 188 t
                      refine hret (up2 (up2 (up2 (up2 σ 0 (upd (σ 0) 15 (nI N))) 1 (mrow (shfS W Y j))) 9 fa) 10 ra) _ _ dX7_tick_230 ?_
                      clear hret
                      refine ⟨nI N, fa, ra, ?_⟩
                      rw [if_neg h99, ← hjN] at hgo
                      rw [← hgo]
                      exact congrArg (fun qz => up2 (up2 (up2 (up2 σ 0 (upd (σ 0) 15 (nI N))) 1 qz) 9 fa) 10 ra) (mnote_no (by omega) (Or.inl h188))
                    · -- 188 f
                      refine cw_aload_n (pc := 191) C dX7_tick_191 rfl 0 rfl ?_
                      refine cw_get (pc := 192) C dX7_tick_192 0 (v := .ref (A 1)) rfl rfl 0 rfl (fun _ h => List.mem_cons_of_mem _ (List.mem_append_right _ h)) (by decide) (List.mem_of_getElem? (i := 1) rfl) ?_
                      refine cw_bipush (pc := 195) C dX7_tick_195 (nI 44) (by decide) ?_
                      refine cw_iald2 (pc := 197) C dX7_tick_197 1 1 (wM_g1 Z A) (f := mrow (shfS W Y j)) ((up2_ne _ _ (by decide)).trans ((up2_ne _ _ (by decide)).trans (up2_eq _ _ _))) 44 rfl (by decide) (by decide) ?_
                      refine cw_top (shfS W Y j 40) (mrow_at (by decide) (by decide)) ?_
                      refine cw_aload_n (pc := 198) C dX7_tick_198 rfl 0 rfl ?_
                      refine cw_get (pc := 199) C dX7_tick_199 0 (v := .ref (A 1)) rfl rfl 0 rfl (fun _ h => List.mem_cons_of_mem _ (List.mem_append_right _ h)) (by decide) (List.mem_of_getElem? (i := 1) rfl) ?_
                      refine cw_bipush (pc := 202) C dX7_tick_202 (nI 46) (by decide) ?_
                      refine cw_iald2 (pc := 204) C dX7_tick_204 1 1 (wM_g1 Z A) (f := mrow (shfS W Y j)) ((up2_ne _ _ (by decide)).trans ((up2_ne _ _ (by decide)).trans (up2_eq _ _ _))) 46 rfl (by decide) (by decide) ?_
                      refine cw_top (shfS W Y j 42) (mrow_at (by decide) (by decide)) ?_
                      refine cw_isub (pc := 205) C dX7_tick_205 (z := (shfS W Y j 40) - (shfS W Y j 42)) rfl ?_
                      refine cw_iconst (pc := 206) C dX7_tick_206 (nI 5) (by decide) ?_
                      refine cw_icmp_gt (pc := 207) (tgt := 230) C dX7_tick_207 (by decide) (fun h207 => ?_) (fun h207 => ?_)
                      · -- 207 t
                        refine hret (up2 (up2 (up2 (up2 σ 0 (upd (σ 0) 15 (nI N))) 1 (mrow (shfS W Y j))) 9 fa) 10 ra) _ _ dX7_tick_230 ?_
                        clear hret
                        refine ⟨nI N, fa, ra, ?_⟩
                        rw [if_neg h99, ← hjN] at hgo
                        rw [← hgo]
                        exact congrArg (fun qz => up2 (up2 (up2 (up2 σ 0 (upd (σ 0) 15 (nI N))) 1 qz) 9 fa) 10 ra) (mnote_no (by omega) (Or.inr h207))
                      · -- 207 f
                        refine cw_aload_n (pc := 210) C dX7_tick_210 rfl 0 rfl ?_
                        refine cw_get (pc := 211) C dX7_tick_211 0 (v := .ref (A 1)) rfl rfl 0 rfl (fun _ h => List.mem_cons_of_mem _ (List.mem_append_right _ h)) (by decide) (List.mem_of_getElem? (i := 1) rfl) ?_
                        refine cw_bipush (pc := 214) C dX7_tick_214 (nI 50) (by decide) ?_
                        refine cw_dup2 (pc := 216) C dX7_tick_216 rfl rfl ?_
                        refine cw_iald2 (pc := 217) C dX7_tick_217 1 1 (wM_g1 Z A) (f := mrow (shfS W Y j)) ((up2_ne _ _ (by decide)).trans ((up2_ne _ _ (by decide)).trans (up2_eq _ _ _))) 50 rfl (by decide) (by decide) ?_
                        refine cw_top (shfS W Y j 46) (mrow_at (by decide) (by decide)) ?_
                        refine cw_iconst (pc := 218) C dX7_tick_218 (nI 1) (by decide) ?_
                        refine cw_iadd (pc := 219) C dX7_tick_219 (z := (shfS W Y j 46) + (nI 1)) rfl ?_
                        refine cw_iast2 (pc := 220) C dX7_tick_220 1 1 (wM_g1 Z A) (wM_s1 Z A) (f := mrow (shfS W Y j)) ((up2_ne _ _ (by decide)).trans ((up2_ne _ _ (by decide)).trans (up2_eq _ _ _))) 50 rfl (by decide) (by decide) (up2 (up2 (up2 (up2 σ 0 (upd (σ 0) 15 (nI N))) 1 (upd (mrow (shfS W Y j)) 50 ((shfS W Y j 46) + (nI 1)))) 9 fa) 10 ra) ((up2_comm _ _ _ (by decide)).trans (congrArg (fun qz => up2 qz 10 ra) ((up2_comm _ _ _ (by decide)).trans (congrArg (fun qz => up2 qz 9 fa) (up2_up2 _ 1 _ _))))) ?_
                        refine cw_aload_n (pc := 221) C dX7_tick_221 rfl 0 rfl ?_
                        refine cw_get (pc := 222) C dX7_tick_222 0 (v := .ref (A 1)) rfl rfl 0 rfl (fun _ h => List.mem_cons_of_mem _ (List.mem_append_right _ h)) (by decide) (List.mem_of_getElem? (i := 1) rfl) ?_
                        refine cw_bipush (pc := 225) C dX7_tick_225 (nI 45) (by decide) ?_
                        refine cw_bipush (pc := 227) C dX7_tick_227 (nI 10) (by decide) ?_
                        refine cw_iast2 (pc := 229) C dX7_tick_229 1 1 (wM_g1 Z A) (wM_s1 Z A) (f := upd (mrow (shfS W Y j)) 50 ((shfS W Y j 46) + (nI 1))) ((up2_ne _ _ (by decide)).trans ((up2_ne _ _ (by decide)).trans (up2_eq _ _ _))) 45 rfl (by decide) (by decide) (up2 (up2 (up2 (up2 σ 0 (upd (σ 0) 15 (nI N))) 1 (upd (upd (mrow (shfS W Y j)) 50 ((shfS W Y j 46) + (nI 1))) 45 (nI 10))) 9 fa) 10 ra) ((up2_comm _ _ _ (by decide)).trans (congrArg (fun qz => up2 qz 10 ra) ((up2_comm _ _ _ (by decide)).trans (congrArg (fun qz => up2 qz 9 fa) (up2_up2 _ 1 _ _))))) ?_
                        refine hret (up2 (up2 (up2 (up2 σ 0 (upd (σ 0) 15 (nI N))) 1 (upd (upd (mrow (shfS W Y j)) 50 ((shfS W Y j 46) + (nI 1))) 45 (nI 10))) 9 fa) 10 ra) _ _ dX7_tick_230 ?_
                        clear hret
                        refine ⟨nI N, fa, ra, ?_⟩
                        rw [if_neg h99, ← hjN] at hgo
                        rw [← hgo]
                        exact congrArg (fun qz => up2 (up2 (up2 (up2 σ 0 (upd (σ 0) 15 (nI N))) 1 qz) 9 fa) 10 ra) (mnote_dn (by omega) h188 h207)
                  · -- 160 f
                    have h160 : ¬ (w ≤ i) := fun qq => h160 ((nc_le (a := w) (b := i) (by omega) (by omega)).mpr qq)
                    refine cw_aload_n (pc := 163) C dX7_tick_163 rfl 0 rfl ?_
                    refine cw_get (pc := 164) C dX7_tick_164 0 (v := .ref (A 1)) rfl rfl 0 rfl (fun _ h => List.mem_cons_of_mem _ (List.mem_append_right _ h)) (by decide) (List.mem_of_getElem? (i := 1) rfl) ?_
                    refine cw_bipush (pc := 167) C dX7_tick_167 (nI 46) (by decide) ?_
                    refine cw_aload_n (pc := 169) C dX7_tick_169 rfl 0 rfl ?_
                    refine cw_get (pc := 170) C dX7_tick_170 0 (v := .ref (A 1)) rfl rfl 0 rfl (fun _ h => List.mem_cons_of_mem _ (List.mem_append_right _ h)) (by decide) (List.mem_of_getElem? (i := 1) rfl) ?_
                    refine cw_bipush (pc := 173) C dX7_tick_173 (nI 44) (by decide) ?_
                    refine cw_iald2 (pc := 175) C dX7_tick_175 1 1 (wM_g1 Z A) (f := mrow (shfS W Y j)) ((up2_ne _ _ (by decide)).trans ((up2_ne _ _ (by decide)).trans (up2_eq _ _ _))) 44 rfl (by decide) (by decide) ?_
                    refine cw_top (shfS W Y j 40) (mrow_at (by decide) (by decide)) ?_
                    refine cw_iast2 (pc := 176) C dX7_tick_176 1 1 (wM_g1 Z A) (wM_s1 Z A) (f := mrow (shfS W Y j)) ((up2_ne _ _ (by decide)).trans ((up2_ne _ _ (by decide)).trans (up2_eq _ _ _))) 46 rfl (by decide) (by decide) (up2 (up2 (up2 (up2 σ 0 (upd (σ 0) 15 (nI N))) 1 (upd (mrow (shfS W Y j)) 46 (shfS W Y j 40))) 9 fa) 10 ra) ((up2_comm _ _ _ (by decide)).trans (congrArg (fun qz => up2 qz 10 ra) ((up2_comm _ _ _ (by decide)).trans (congrArg (fun qz => up2 qz 9 fa) (up2_up2 _ 1 _ _))))) ?_
                    refine cw_goto (pc := 177) (tgt := 230) C dX7_tick_177 (by decide) ?_
                    refine hret (up2 (up2 (up2 (up2 σ 0 (upd (σ 0) 15 (nI N))) 1 (upd (mrow (shfS W Y j)) 46 (shfS W Y j 40))) 9 fa) 10 ra) _ _ dX7_tick_230 ?_
                    clear hret
                    refine ⟨nI N, fa, ra, ?_⟩
                    rw [if_neg h99, ← hjN] at hgo
                    rw [← hgo]
                    exact congrArg (fun qz => up2 (up2 (up2 (up2 σ 0 (upd (σ 0) 15 (nI N))) 1 qz) 9 fa) 10 ra) (mnote_up (by omega))
                · -- 112 f
                  have h112 : ¬ (N ≤ j) := fun qq => h112 ((nc_ge (a := j) (b := N) (by omega) (by omega)).mpr qq)
                  refine cw_aload_n (pc := 115) C dX7_tick_115 rfl 0 rfl ?_
                  refine cw_iload (pc := 116) C dX7_tick_116 4 rfl ?_
                  refine cw_if_ne (pc := 118) (tgt := 125) C dX7_tick_118 (by decide) (fun h118 => ?_) (fun h118 => ?_)
                  · -- 118 t
                    have h118 : ¬ j = 0 := (nc_ne (a := j) (b := 0) (by omega) (by omega)).mp h118
                    refine cw_aload_n (pc := 125) C dX7_tick_125 rfl 0 rfl ?_
                    refine cw_get (pc := 126) C dX7_tick_126 0 (v := .ref (A 10)) rfl rfl 14 rfl (fun _ h => List.mem_cons_of_mem _ (List.mem_append_right _ h)) (by decide) (List.mem_of_getElem? (i := 3) rfl) ?_
                    refine cw_iload (pc := 129) C dX7_tick_129 4 rfl ?_
                    refine cw_iconst (pc := 131) C dX7_tick_131 (nI 1) (by decide) ?_
                    refine cw_isub (pc := 132) C dX7_tick_132 (z := nI (j - 1)) (pk_sub (by omega)) ?_
                    refine cw_iald2 (pc := 133) C dX7_tick_133 10 10 (wM_g10 Z A) (f := ra) (up2_eq _ _ _) (j - 1) rfl (by omega) (by decide) ?_
                    refine cw_top (nI (W j)) ((hra (j - 1) (by omega)).trans (congrArg (fun z => nI (W z)) (by omega))) ?_
                    refine cw_aload_n (pc := 134) C dX7_tick_134 rfl 0 rfl ?_
                    refine cw_get (pc := 135) C dX7_tick_135 0 (v := .ref (A 10)) rfl rfl 14 rfl (fun _ h => List.mem_cons_of_mem _ (List.mem_append_right _ h)) (by decide) (List.mem_of_getElem? (i := 3) rfl) ?_
                    refine cw_iload (pc := 138) C dX7_tick_138 4 rfl ?_
                    refine cw_iald2 (pc := 140) C dX7_tick_140 10 10 (wM_g10 Z A) (f := ra) (up2_eq _ _ _) j rfl (by omega) (by decide) ?_
                    refine cw_top (nI (W (j + 1))) (hra j (by omega)) ?_
                    have hwj := hW7 j
                    have hwj1 := hW7 (j + 1)
                    have hf1 : (up2 (up2 (up2 (up2 σ 0 (upd (σ 0) 15 (nI N))) 1 (mrow (upd (shfS W Y j) 39 (nI i)))) 9 fa) 10 ra) 1 = mrow (upd (shfS W Y j) 39 (nI i)) := ((up2_ne _ _ (by decide)).trans ((up2_ne _ _ (by decide)).trans (up2_eq _ _ _)))
                    refine cw_callv (pc := 141) C dX7_tick_141 (c_X7_shift l D Z A (up2 (up2 (up2 (up2 σ 0 (upd (σ 0) 15 (nI N))) 1 (mrow (upd (shfS W Y j) 39 (nI i)))) 9 fa) 10 ra) (upd (shfS W Y j) 39 (nI i)) (W j) (W (j + 1)) hf1 (mst_ok hO0 hi7 hif hsim j (by omega)) hwj hwj1 (by rw [sameG_sim (mst_same W Y i j) hwj hwj1]; exact hsim j (by omega))) (cwV 2 C.1.2.2.2.2 gX7_tick_X7_shift rfl rfl rfl (by decide +kernel) ⟨Nat.le_of_ble_eq_true rfl, Nat.le_of_ble_eq_true rfl⟩) 0 rfl rfl rfl rfl (Nat.le_of_ble_eq_true rfl) (fun σ1 hr => ?_)
                    subst hr
                    refine cw_eq (σ' := up2 (up2 (up2 (up2 σ 0 (upd (σ 0) 15 (nI N))) 1 (mrow (upd (shfS W Y (j + 1)) 39 (nI i)))) 9 fa) 10 ra) (((up2_comm _ _ _ (by decide)).trans (congrArg (fun qz => up2 qz 10 ra) ((up2_comm _ _ _ (by decide)).trans (congrArg (fun qz => up2 qz 9 fa) (up2_up2 _ 1 _ _))))).trans (congrArg (fun qz => up2 (up2 (up2 (up2 σ 0 (upd (σ 0) 15 (nI N))) 1 qz) 9 fa) 10 ra) (congrArg mrow (mst_step hW7 i j)))) ?_
                    refine cw_iinc (pc := 144) C dX7_tick_144 4 rfl (nI (j + 1)) (nI_inc _ 1) (by decide) (lv' := [(4, .int (nI (j + 1))), (0, .ref (A 0)), (1, .int (v)), (2, .int (nI i)), (3, .int (nI w))]) rfl ?_
                    refine cw_goto (pc := 147) (tgt := 106) C dX7_tick_147 (by decide) ?_
                    refine cw_lv [1, 2, 3, 4, 0] rfl ?_
                    exact ih106 (j + 1) (by omega) (by omega)
                  · -- 118 f
                    have h118 : j = 0 := (nc_eq (a := j) (b := 0) (by omega) (by omega)).mp h118
                    refine cw_iload_n (pc := 121) C dX7_tick_121 rfl 2 rfl ?_
                    refine cw_top (nI (W j)) (congrArg nI (by rw [h118, hW0])) ?_
                    refine cw_goto (pc := 122) (tgt := 134) C dX7_tick_122 (by decide) ?_
                    refine cw_aload_n (pc := 134) C dX7_tick_134 rfl 0 rfl ?_
                    refine cw_get (pc := 135) C dX7_tick_135 0 (v := .ref (A 10)) rfl rfl 14 rfl (fun _ h => List.mem_cons_of_mem _ (List.mem_append_right _ h)) (by decide) (List.mem_of_getElem? (i := 3) rfl) ?_
                    refine cw_iload (pc := 138) C dX7_tick_138 4 rfl ?_
                    refine cw_iald2 (pc := 140) C dX7_tick_140 10 10 (wM_g10 Z A) (f := ra) (up2_eq _ _ _) j rfl (by omega) (by decide) ?_
                    refine cw_top (nI (W (j + 1))) (hra j (by omega)) ?_
                    have hwj := hW7 j
                    have hwj1 := hW7 (j + 1)
                    have hf1 : (up2 (up2 (up2 (up2 σ 0 (upd (σ 0) 15 (nI N))) 1 (mrow (upd (shfS W Y j) 39 (nI i)))) 9 fa) 10 ra) 1 = mrow (upd (shfS W Y j) 39 (nI i)) := ((up2_ne _ _ (by decide)).trans ((up2_ne _ _ (by decide)).trans (up2_eq _ _ _)))
                    refine cw_callv (pc := 141) C dX7_tick_141 (c_X7_shift l D Z A (up2 (up2 (up2 (up2 σ 0 (upd (σ 0) 15 (nI N))) 1 (mrow (upd (shfS W Y j) 39 (nI i)))) 9 fa) 10 ra) (upd (shfS W Y j) 39 (nI i)) (W j) (W (j + 1)) hf1 (mst_ok hO0 hi7 hif hsim j (by omega)) hwj hwj1 (by rw [sameG_sim (mst_same W Y i j) hwj hwj1]; exact hsim j (by omega))) (cwV 2 C.1.2.2.2.2 gX7_tick_X7_shift rfl rfl rfl (by decide +kernel) ⟨Nat.le_of_ble_eq_true rfl, Nat.le_of_ble_eq_true rfl⟩) 0 rfl rfl rfl rfl (Nat.le_of_ble_eq_true rfl) (fun σ1 hr => ?_)
                    subst hr
                    refine cw_eq (σ' := up2 (up2 (up2 (up2 σ 0 (upd (σ 0) 15 (nI N))) 1 (mrow (upd (shfS W Y (j + 1)) 39 (nI i)))) 9 fa) 10 ra) (((up2_comm _ _ _ (by decide)).trans (congrArg (fun qz => up2 qz 10 ra) ((up2_comm _ _ _ (by decide)).trans (congrArg (fun qz => up2 qz 9 fa) (up2_up2 _ 1 _ _))))).trans (congrArg (fun qz => up2 (up2 (up2 (up2 σ 0 (upd (σ 0) 15 (nI N))) 1 qz) 9 fa) 10 ra) (congrArg mrow (mst_step hW7 i j)))) ?_
                    refine cw_iinc (pc := 144) C dX7_tick_144 4 rfl (nI (j + 1)) (nI_inc _ 1) (by decide) (lv' := [(4, .int (nI (j + 1))), (0, .ref (A 0)), (1, .int (v)), (2, .int (nI i)), (3, .int (nI w))]) rfl ?_
                    refine cw_goto (pc := 147) (tgt := 106) C dX7_tick_147 (by decide) ?_
                    refine cw_lv [1, 2, 3, 4, 0] rfl ?_
                    exact ih106 (j + 1) (by omega) (by omega)
            refine cw_lv [3, 4, 2, 1, 0] rfl ?_
            exact L106 (N + 1) 0 (by omega) (by omega)
          · -- 99 f
            have h99 : N = 0 := (nc_eq (a := N) (b := 0) (by omega) (by omega)).mp h99
            refine hret (up2 (up2 (up2 (up2 σ 0 (upd (σ 0) 15 (nI N))) 1 (mrow Y)) 9 fa) 10 ra) _ _ dX7_tick_102 ?_
            clear hret
            refine ⟨nI N, fa, ra, ?_⟩
            rw [if_pos h99] at hgo
            rw [← hgo]
        · -- 75 f
          have h75 : ¬ (w ≤ i) := fun qq => h75 ((nc_le (a := w) (b := i) (by omega) (by omega)).mpr qq)
          refine cw_aload_n (pc := 78) C dX7_tick_78 rfl 2 rfl ?_
          refine cw_get (pc := 79) C dX7_tick_79 0 (v := .ref (A 1)) rfl rfl 0 rfl (fun _ h => List.mem_cons_of_mem _ (List.mem_append_right _ h)) (by decide) (List.mem_of_getElem? (i := 1) rfl) ?_
          refine cw_bipush (pc := 82) C dX7_tick_82 (nI 45) (by decide) ?_
          refine cw_iald2 (pc := 84) C dX7_tick_84 1 1 (wM_g1 Z A) (f := mrow Y) (up2_eq _ _ _) 45 rfl (by decide) (by decide) ?_
          refine cw_top (Y 41) (mrow_at (by decide) (by decide)) ?_
          refine cw_if_le (pc := 85) (tgt := 89) C dX7_tick_85 (by decide) (fun h85 => ?_) (fun h85 => ?_)
          · -- 85 t
            refine cw_aload_n (pc := 89) C dX7_tick_89 rfl 2 rfl ?_
            refine cw_iload_n (pc := 90) C dX7_tick_90 rfl 1 rfl ?_
            refine cw_iload_n (pc := 91) C dX7_tick_91 rfl 0 rfl ?_
            have hfw : fitN Y w = true := hwf.resolve_left h61
            have hf1 : (up2 σ 1 (mrow Y)) 1 = mrow Y := (up2_eq _ _ _)
            refine cw_callv (pc := 92) C dX7_tick_92 (c_X7_findWay l D Z A (up2 σ 1 (mrow Y)) Y i w hf1 hO0.1 (by omega) hi7 hfw) (cwV 2 C.1.2.2.2.2 gX7_tick_X7_findWay rfl rfl rfl (by decide +kernel) ⟨Nat.le_of_ble_eq_true rfl, Nat.le_of_ble_eq_true rfl⟩) 0 rfl rfl rfl rfl (Nat.le_of_ble_eq_true rfl) (fun σ1 hr => ?_)
            obtain ⟨fa, ra, hr, hra⟩ := hr
            subst hr
            rw [goS, if_neg (fun q => q.elim h61 (fun q => absurd q.2 (Int32.not_lt.mpr h85))), if_neg h56] at hgo
            have hN6 : wyN Y i w ≤ 6 := wayN_le _ _ _ _
            have hW7 : ∀ j, wyG Y i w j ≤ 7 := fun j => wayG_le _ _ _ hi7 j
            have hW0 : wyG Y i w 0 = i := rfl
            have hsim : ∀ j, j < wyN Y i w → simN Y (wyG Y i w j) (wyG Y i w (j + 1)) = true := fun j hj => go_sim hfw hj
            have hend := wyG_end (X := Y) (i := i) (to := w)
            generalize hNN : wyN Y i w = N at hgo hra hN6 hsim hend ⊢
            generalize hWW : wyG Y i w = W at hgo hra hW7 hW0 hsim hend
            refine cw_eq (σ' := up2 (up2 (up2 (up2 σ 0 (upd (σ 0) 15 (nI N))) 1 (mrow Y)) 9 fa) 10 ra) (up4_ord σ (mrow Y) (nI N) fa ra) ?_
            refine cw_aload_n (pc := 95) C dX7_tick_95 rfl 2 rfl ?_
            refine cw_get (pc := 96) C dX7_tick_96 0 (v := .int ((upd (σ 0) 15 (nI N)) 15)) rfl rfl 15 rfl (fun _ h => List.mem_cons_of_mem _ (List.mem_append_right _ h)) (by decide) (List.mem_of_getElem? (i := 2) rfl) ?_
            refine cw_top (nI N) (upd_same _ _ _) ?_
            refine cw_if_ne (pc := 99) (tgt := 103) C dX7_tick_99 (by decide) (fun h99 => ?_) (fun h99 => ?_)
            · -- 99 t
              have h99 : ¬ N = 0 := (nc_ne (a := N) (b := 0) (by omega) (by omega)).mp h99
              refine cw_eq (σ' := up2 (up2 (up2 (up2 σ 0 (upd (σ 0) 15 (nI N))) 1 (mrow (upd (shfS W Y 0) 39 (nI i)))) 9 fa) 10 ra) (congrArg (fun qz => up2 (up2 (up2 (up2 σ 0 (upd (σ 0) 15 (nI N))) 1 qz) 9 fa) 10 ra) (mst_0 hi39)) ?_
              refine cw_iconst (pc := 103) C dX7_tick_103 (nI 0) (by decide) ?_
              refine cw_istore (pc := 104) C dX7_tick_104 (by decide) (lv' := [(4, .int (nI 0)), (3, .int (nI w)), (2, .int (nI i)), (0, .ref (A 0)), (1, .int (v))]) rfl ?_
              have L106 : ∀ (n106 : Nat) (j : Nat) (hj : j ≤ N) (hm : N < j + n106), CW p0 l e0 (rmC 4 95) s0 m0 g0 b0 t0 c0 D A0 5 (wM Z A) Q (up2 (up2 (up2 (up2 σ 0 (upd (σ 0) 15 (nI N))) 1 (mrow (upd (shfS W Y j) 39 (nI i)))) 9 fa) 10 ra) 106 [(0, .ref (A 0)), (1, .int (v)), (2, .int (nI i)), (3, .int (nI w)), (4, .int (nI j))] [] := by
                intro n106
                induction n106 with
                | zero => intro j hj hm; exact absurd hm (by omega)
                | succ n106 ih106 =>
                  intro j hj hm
                  refine cw_iload (pc := 106) C dX7_tick_106 4 rfl ?_
                  refine cw_aload_n (pc := 108) C dX7_tick_108 rfl 0 rfl ?_
                  refine cw_get (pc := 109) C dX7_tick_109 0 (v := .int ((upd (σ 0) 15 (nI N)) 15)) rfl rfl 15 rfl (fun _ h => List.mem_cons_of_mem _ (List.mem_append_right _ h)) (by decide) (List.mem_of_getElem? (i := 2) rfl) ?_
                  refine cw_top (nI N) (upd_same _ _ _) ?_
                  refine cw_icmp_ge (pc := 112) (tgt := 150) C dX7_tick_112 (by decide) (fun h112 => ?_) (fun h112 => ?_)
                  · -- 112 t
                    have h112 : N ≤ j := (nc_ge (a := j) (b := N) (by omega) (by omega)).mp h112
                    have hjN : j = N := by omega
                    refine cw_aload_n (pc := 150) C dX7_tick_150 rfl 0 rfl ?_
                    refine cw_get (pc := 151) C dX7_tick_151 0 (v := .ref (A 1)) rfl rfl 0 rfl (fun _ h => List.mem_cons_of_mem _ (List.mem_append_right _ h)) (by decide) (List.mem_of_getElem? (i := 1) rfl) ?_
                    refine cw_bipush (pc := 154) C dX7_tick_154 (nI 43) (by decide) ?_
                    refine cw_iload_n (pc := 156) C dX7_tick_156 rfl 3 rfl ?_
                    refine cw_iast2 (pc := 157) C dX7_tick_157 1 1 (wM_g1 Z A) (wM_s1 Z A) (f := mrow (upd (shfS W Y j) 39 (nI i))) ((up2_ne _ _ (by decide)).trans ((up2_ne _ _ (by decide)).trans (up2_eq _ _ _))) 43 rfl (by decide) (by decide) (up2 (up2 (up2 (up2 σ 0 (upd (σ 0) 15 (nI N))) 1 (upd (mrow (upd (shfS W Y j) 39 (nI i))) 43 (nI w))) 9 fa) 10 ra) ((up2_comm _ _ _ (by decide)).trans (congrArg (fun qz => up2 qz 10 ra) ((up2_comm _ _ _ (by decide)).trans (congrArg (fun qz => up2 qz 9 fa) (up2_up2 _ 1 _ _))))) ?_
                    refine cw_eq (σ' := up2 (up2 (up2 (up2 σ 0 (upd (σ 0) 15 (nI N))) 1 (mrow (shfS W Y j))) 9 fa) 10 ra) (congrArg (fun qz => up2 (up2 (up2 (up2 σ 0 (upd (σ 0) 15 (nI N))) 1 qz) 9 fa) 10 ra) (mst_end (S := shfS W Y j) (i := i) (w := w) ((shfS_in (hi39.trans (congrArg nI hW0.symm)) j).trans (congrArg nI (by rw [hjN]; exact hend h99))))) ?_
                    refine cw_iload_n (pc := 158) C dX7_tick_158 rfl 3 rfl ?_
                    refine cw_iload_n (pc := 159) C dX7_tick_159 rfl 2 rfl ?_
                    refine cw_icmp_le (pc := 160) (tgt := 180) C dX7_tick_160 (by decide) (fun h160 => ?_) (fun h160 => ?_)
                    · -- 160 t
                      have h160 : w ≤ i := (nc_le (a := w) (b := i) (by omega) (by omega)).mp h160
                      refine cw_aload_n (pc := 180) C dX7_tick_180 rfl 0 rfl ?_
                      refine cw_get (pc := 181) C dX7_tick_181 0 (v := .ref (A 1)) rfl rfl 0 rfl (fun _ h => List.mem_cons_of_mem _ (List.mem_append_right _ h)) (by decide) (List.mem_of_getElem? (i := 1) rfl) ?_
                      refine cw_bipush (pc := 184) C dX7_tick_184 (nI 46) (by decide) ?_
                      refine cw_iald2 (pc := 186) C dX7_tick_186 1 1 (wM_g1 Z A) (f := mrow (shfS W Y j)) ((up2_ne _ _ (by decide)).trans ((up2_ne _ _ (by decide)).trans (up2_eq _ _ _))) 46 rfl (by decide) (by decide) ?_
                      refine cw_top (shfS W Y j 42) (mrow_at (by decide) (by decide)) ?_
                      refine cw_iconst (pc := 187) C dX7_tick_187 (-1) (by decide) ?_
                      refine cw_icmp_eq (pc := 188) (tgt := 230) C dX7_tick_188 (by decide) (fun h188 => ?_) (fun h188 => ?_)
                      · -- 188 t
                        refine hret (up2 (up2 (up2 (up2 σ 0 (upd (σ 0) 15 (nI N))) 1 (mrow (shfS W Y j))) 9 fa) 10 ra) _ _ dX7_tick_230 ?_
                        clear hret
                        refine ⟨nI N, fa, ra, ?_⟩
                        rw [if_neg h99, ← hjN] at hgo
                        rw [← hgo]
                        exact congrArg (fun qz => up2 (up2 (up2 (up2 σ 0 (upd (σ 0) 15 (nI N))) 1 qz) 9 fa) 10 ra) (mnote_no (by omega) (Or.inl h188))
                      · -- 188 f
                        refine cw_aload_n (pc := 191) C dX7_tick_191 rfl 0 rfl ?_
                        refine cw_get (pc := 192) C dX7_tick_192 0 (v := .ref (A 1)) rfl rfl 0 rfl (fun _ h => List.mem_cons_of_mem _ (List.mem_append_right _ h)) (by decide) (List.mem_of_getElem? (i := 1) rfl) ?_
                        refine cw_bipush (pc := 195) C dX7_tick_195 (nI 44) (by decide) ?_
                        refine cw_iald2 (pc := 197) C dX7_tick_197 1 1 (wM_g1 Z A) (f := mrow (shfS W Y j)) ((up2_ne _ _ (by decide)).trans ((up2_ne _ _ (by decide)).trans (up2_eq _ _ _))) 44 rfl (by decide) (by decide) ?_
                        refine cw_top (shfS W Y j 40) (mrow_at (by decide) (by decide)) ?_
                        refine cw_aload_n (pc := 198) C dX7_tick_198 rfl 0 rfl ?_
                        refine cw_get (pc := 199) C dX7_tick_199 0 (v := .ref (A 1)) rfl rfl 0 rfl (fun _ h => List.mem_cons_of_mem _ (List.mem_append_right _ h)) (by decide) (List.mem_of_getElem? (i := 1) rfl) ?_
                        refine cw_bipush (pc := 202) C dX7_tick_202 (nI 46) (by decide) ?_
                        refine cw_iald2 (pc := 204) C dX7_tick_204 1 1 (wM_g1 Z A) (f := mrow (shfS W Y j)) ((up2_ne _ _ (by decide)).trans ((up2_ne _ _ (by decide)).trans (up2_eq _ _ _))) 46 rfl (by decide) (by decide) ?_
                        refine cw_top (shfS W Y j 42) (mrow_at (by decide) (by decide)) ?_
                        refine cw_isub (pc := 205) C dX7_tick_205 (z := (shfS W Y j 40) - (shfS W Y j 42)) rfl ?_
                        refine cw_iconst (pc := 206) C dX7_tick_206 (nI 5) (by decide) ?_
                        refine cw_icmp_gt (pc := 207) (tgt := 230) C dX7_tick_207 (by decide) (fun h207 => ?_) (fun h207 => ?_)
                        · -- 207 t
                          refine hret (up2 (up2 (up2 (up2 σ 0 (upd (σ 0) 15 (nI N))) 1 (mrow (shfS W Y j))) 9 fa) 10 ra) _ _ dX7_tick_230 ?_
                          clear hret
                          refine ⟨nI N, fa, ra, ?_⟩
                          rw [if_neg h99, ← hjN] at hgo
                          rw [← hgo]
                          exact congrArg (fun qz => up2 (up2 (up2 (up2 σ 0 (upd (σ 0) 15 (nI N))) 1 qz) 9 fa) 10 ra) (mnote_no (by omega) (Or.inr h207))
                        · -- 207 f
                          refine cw_aload_n (pc := 210) C dX7_tick_210 rfl 0 rfl ?_
                          refine cw_get (pc := 211) C dX7_tick_211 0 (v := .ref (A 1)) rfl rfl 0 rfl (fun _ h => List.mem_cons_of_mem _ (List.mem_append_right _ h)) (by decide) (List.mem_of_getElem? (i := 1) rfl) ?_
                          refine cw_bipush (pc := 214) C dX7_tick_214 (nI 50) (by decide) ?_
                          refine cw_dup2 (pc := 216) C dX7_tick_216 rfl rfl ?_
                          refine cw_iald2 (pc := 217) C dX7_tick_217 1 1 (wM_g1 Z A) (f := mrow (shfS W Y j)) ((up2_ne _ _ (by decide)).trans ((up2_ne _ _ (by decide)).trans (up2_eq _ _ _))) 50 rfl (by decide) (by decide) ?_
                          refine cw_top (shfS W Y j 46) (mrow_at (by decide) (by decide)) ?_
                          refine cw_iconst (pc := 218) C dX7_tick_218 (nI 1) (by decide) ?_
                          refine cw_iadd (pc := 219) C dX7_tick_219 (z := (shfS W Y j 46) + (nI 1)) rfl ?_
                          refine cw_iast2 (pc := 220) C dX7_tick_220 1 1 (wM_g1 Z A) (wM_s1 Z A) (f := mrow (shfS W Y j)) ((up2_ne _ _ (by decide)).trans ((up2_ne _ _ (by decide)).trans (up2_eq _ _ _))) 50 rfl (by decide) (by decide) (up2 (up2 (up2 (up2 σ 0 (upd (σ 0) 15 (nI N))) 1 (upd (mrow (shfS W Y j)) 50 ((shfS W Y j 46) + (nI 1)))) 9 fa) 10 ra) ((up2_comm _ _ _ (by decide)).trans (congrArg (fun qz => up2 qz 10 ra) ((up2_comm _ _ _ (by decide)).trans (congrArg (fun qz => up2 qz 9 fa) (up2_up2 _ 1 _ _))))) ?_
                          refine cw_aload_n (pc := 221) C dX7_tick_221 rfl 0 rfl ?_
                          refine cw_get (pc := 222) C dX7_tick_222 0 (v := .ref (A 1)) rfl rfl 0 rfl (fun _ h => List.mem_cons_of_mem _ (List.mem_append_right _ h)) (by decide) (List.mem_of_getElem? (i := 1) rfl) ?_
                          refine cw_bipush (pc := 225) C dX7_tick_225 (nI 45) (by decide) ?_
                          refine cw_bipush (pc := 227) C dX7_tick_227 (nI 10) (by decide) ?_
                          refine cw_iast2 (pc := 229) C dX7_tick_229 1 1 (wM_g1 Z A) (wM_s1 Z A) (f := upd (mrow (shfS W Y j)) 50 ((shfS W Y j 46) + (nI 1))) ((up2_ne _ _ (by decide)).trans ((up2_ne _ _ (by decide)).trans (up2_eq _ _ _))) 45 rfl (by decide) (by decide) (up2 (up2 (up2 (up2 σ 0 (upd (σ 0) 15 (nI N))) 1 (upd (upd (mrow (shfS W Y j)) 50 ((shfS W Y j 46) + (nI 1))) 45 (nI 10))) 9 fa) 10 ra) ((up2_comm _ _ _ (by decide)).trans (congrArg (fun qz => up2 qz 10 ra) ((up2_comm _ _ _ (by decide)).trans (congrArg (fun qz => up2 qz 9 fa) (up2_up2 _ 1 _ _))))) ?_
                          refine hret (up2 (up2 (up2 (up2 σ 0 (upd (σ 0) 15 (nI N))) 1 (upd (upd (mrow (shfS W Y j)) 50 ((shfS W Y j 46) + (nI 1))) 45 (nI 10))) 9 fa) 10 ra) _ _ dX7_tick_230 ?_
                          clear hret
                          refine ⟨nI N, fa, ra, ?_⟩
                          rw [if_neg h99, ← hjN] at hgo
                          rw [← hgo]
                          exact congrArg (fun qz => up2 (up2 (up2 (up2 σ 0 (upd (σ 0) 15 (nI N))) 1 qz) 9 fa) 10 ra) (mnote_dn (by omega) h188 h207)
                    · -- 160 f
                      have h160 : ¬ (w ≤ i) := fun qq => h160 ((nc_le (a := w) (b := i) (by omega) (by omega)).mpr qq)
                      refine cw_aload_n (pc := 163) C dX7_tick_163 rfl 0 rfl ?_
                      refine cw_get (pc := 164) C dX7_tick_164 0 (v := .ref (A 1)) rfl rfl 0 rfl (fun _ h => List.mem_cons_of_mem _ (List.mem_append_right _ h)) (by decide) (List.mem_of_getElem? (i := 1) rfl) ?_
                      refine cw_bipush (pc := 167) C dX7_tick_167 (nI 46) (by decide) ?_
                      refine cw_aload_n (pc := 169) C dX7_tick_169 rfl 0 rfl ?_
                      refine cw_get (pc := 170) C dX7_tick_170 0 (v := .ref (A 1)) rfl rfl 0 rfl (fun _ h => List.mem_cons_of_mem _ (List.mem_append_right _ h)) (by decide) (List.mem_of_getElem? (i := 1) rfl) ?_
                      refine cw_bipush (pc := 173) C dX7_tick_173 (nI 44) (by decide) ?_
                      refine cw_iald2 (pc := 175) C dX7_tick_175 1 1 (wM_g1 Z A) (f := mrow (shfS W Y j)) ((up2_ne _ _ (by decide)).trans ((up2_ne _ _ (by decide)).trans (up2_eq _ _ _))) 44 rfl (by decide) (by decide) ?_
                      refine cw_top (shfS W Y j 40) (mrow_at (by decide) (by decide)) ?_
                      refine cw_iast2 (pc := 176) C dX7_tick_176 1 1 (wM_g1 Z A) (wM_s1 Z A) (f := mrow (shfS W Y j)) ((up2_ne _ _ (by decide)).trans ((up2_ne _ _ (by decide)).trans (up2_eq _ _ _))) 46 rfl (by decide) (by decide) (up2 (up2 (up2 (up2 σ 0 (upd (σ 0) 15 (nI N))) 1 (upd (mrow (shfS W Y j)) 46 (shfS W Y j 40))) 9 fa) 10 ra) ((up2_comm _ _ _ (by decide)).trans (congrArg (fun qz => up2 qz 10 ra) ((up2_comm _ _ _ (by decide)).trans (congrArg (fun qz => up2 qz 9 fa) (up2_up2 _ 1 _ _))))) ?_
                      refine cw_goto (pc := 177) (tgt := 230) C dX7_tick_177 (by decide) ?_
                      refine hret (up2 (up2 (up2 (up2 σ 0 (upd (σ 0) 15 (nI N))) 1 (upd (mrow (shfS W Y j)) 46 (shfS W Y j 40))) 9 fa) 10 ra) _ _ dX7_tick_230 ?_
                      clear hret
                      refine ⟨nI N, fa, ra, ?_⟩
                      rw [if_neg h99, ← hjN] at hgo
                      rw [← hgo]
                      exact congrArg (fun qz => up2 (up2 (up2 (up2 σ 0 (upd (σ 0) 15 (nI N))) 1 qz) 9 fa) 10 ra) (mnote_up (by omega))
                  · -- 112 f
                    have h112 : ¬ (N ≤ j) := fun qq => h112 ((nc_ge (a := j) (b := N) (by omega) (by omega)).mpr qq)
                    refine cw_aload_n (pc := 115) C dX7_tick_115 rfl 0 rfl ?_
                    refine cw_iload (pc := 116) C dX7_tick_116 4 rfl ?_
                    refine cw_if_ne (pc := 118) (tgt := 125) C dX7_tick_118 (by decide) (fun h118 => ?_) (fun h118 => ?_)
                    · -- 118 t
                      have h118 : ¬ j = 0 := (nc_ne (a := j) (b := 0) (by omega) (by omega)).mp h118
                      refine cw_aload_n (pc := 125) C dX7_tick_125 rfl 0 rfl ?_
                      refine cw_get (pc := 126) C dX7_tick_126 0 (v := .ref (A 10)) rfl rfl 14 rfl (fun _ h => List.mem_cons_of_mem _ (List.mem_append_right _ h)) (by decide) (List.mem_of_getElem? (i := 3) rfl) ?_
                      refine cw_iload (pc := 129) C dX7_tick_129 4 rfl ?_
                      refine cw_iconst (pc := 131) C dX7_tick_131 (nI 1) (by decide) ?_
                      refine cw_isub (pc := 132) C dX7_tick_132 (z := nI (j - 1)) (pk_sub (by omega)) ?_
                      refine cw_iald2 (pc := 133) C dX7_tick_133 10 10 (wM_g10 Z A) (f := ra) (up2_eq _ _ _) (j - 1) rfl (by omega) (by decide) ?_
                      refine cw_top (nI (W j)) ((hra (j - 1) (by omega)).trans (congrArg (fun z => nI (W z)) (by omega))) ?_
                      refine cw_aload_n (pc := 134) C dX7_tick_134 rfl 0 rfl ?_
                      refine cw_get (pc := 135) C dX7_tick_135 0 (v := .ref (A 10)) rfl rfl 14 rfl (fun _ h => List.mem_cons_of_mem _ (List.mem_append_right _ h)) (by decide) (List.mem_of_getElem? (i := 3) rfl) ?_
                      refine cw_iload (pc := 138) C dX7_tick_138 4 rfl ?_
                      refine cw_iald2 (pc := 140) C dX7_tick_140 10 10 (wM_g10 Z A) (f := ra) (up2_eq _ _ _) j rfl (by omega) (by decide) ?_
                      refine cw_top (nI (W (j + 1))) (hra j (by omega)) ?_
                      have hwj := hW7 j
                      have hwj1 := hW7 (j + 1)
                      have hf1 : (up2 (up2 (up2 (up2 σ 0 (upd (σ 0) 15 (nI N))) 1 (mrow (upd (shfS W Y j) 39 (nI i)))) 9 fa) 10 ra) 1 = mrow (upd (shfS W Y j) 39 (nI i)) := ((up2_ne _ _ (by decide)).trans ((up2_ne _ _ (by decide)).trans (up2_eq _ _ _)))
                      refine cw_callv (pc := 141) C dX7_tick_141 (c_X7_shift l D Z A (up2 (up2 (up2 (up2 σ 0 (upd (σ 0) 15 (nI N))) 1 (mrow (upd (shfS W Y j) 39 (nI i)))) 9 fa) 10 ra) (upd (shfS W Y j) 39 (nI i)) (W j) (W (j + 1)) hf1 (mst_ok hO0 hi7 hif hsim j (by omega)) hwj hwj1 (by rw [sameG_sim (mst_same W Y i j) hwj hwj1]; exact hsim j (by omega))) (cwV 2 C.1.2.2.2.2 gX7_tick_X7_shift rfl rfl rfl (by decide +kernel) ⟨Nat.le_of_ble_eq_true rfl, Nat.le_of_ble_eq_true rfl⟩) 0 rfl rfl rfl rfl (Nat.le_of_ble_eq_true rfl) (fun σ1 hr => ?_)
                      subst hr
                      refine cw_eq (σ' := up2 (up2 (up2 (up2 σ 0 (upd (σ 0) 15 (nI N))) 1 (mrow (upd (shfS W Y (j + 1)) 39 (nI i)))) 9 fa) 10 ra) (((up2_comm _ _ _ (by decide)).trans (congrArg (fun qz => up2 qz 10 ra) ((up2_comm _ _ _ (by decide)).trans (congrArg (fun qz => up2 qz 9 fa) (up2_up2 _ 1 _ _))))).trans (congrArg (fun qz => up2 (up2 (up2 (up2 σ 0 (upd (σ 0) 15 (nI N))) 1 qz) 9 fa) 10 ra) (congrArg mrow (mst_step hW7 i j)))) ?_
                      refine cw_iinc (pc := 144) C dX7_tick_144 4 rfl (nI (j + 1)) (nI_inc _ 1) (by decide) (lv' := [(4, .int (nI (j + 1))), (0, .ref (A 0)), (1, .int (v)), (2, .int (nI i)), (3, .int (nI w))]) rfl ?_
                      refine cw_goto (pc := 147) (tgt := 106) C dX7_tick_147 (by decide) ?_
                      refine cw_lv [1, 2, 3, 4, 0] rfl ?_
                      exact ih106 (j + 1) (by omega) (by omega)
                    · -- 118 f
                      have h118 : j = 0 := (nc_eq (a := j) (b := 0) (by omega) (by omega)).mp h118
                      refine cw_iload_n (pc := 121) C dX7_tick_121 rfl 2 rfl ?_
                      refine cw_top (nI (W j)) (congrArg nI (by rw [h118, hW0])) ?_
                      refine cw_goto (pc := 122) (tgt := 134) C dX7_tick_122 (by decide) ?_
                      refine cw_aload_n (pc := 134) C dX7_tick_134 rfl 0 rfl ?_
                      refine cw_get (pc := 135) C dX7_tick_135 0 (v := .ref (A 10)) rfl rfl 14 rfl (fun _ h => List.mem_cons_of_mem _ (List.mem_append_right _ h)) (by decide) (List.mem_of_getElem? (i := 3) rfl) ?_
                      refine cw_iload (pc := 138) C dX7_tick_138 4 rfl ?_
                      refine cw_iald2 (pc := 140) C dX7_tick_140 10 10 (wM_g10 Z A) (f := ra) (up2_eq _ _ _) j rfl (by omega) (by decide) ?_
                      refine cw_top (nI (W (j + 1))) (hra j (by omega)) ?_
                      have hwj := hW7 j
                      have hwj1 := hW7 (j + 1)
                      have hf1 : (up2 (up2 (up2 (up2 σ 0 (upd (σ 0) 15 (nI N))) 1 (mrow (upd (shfS W Y j) 39 (nI i)))) 9 fa) 10 ra) 1 = mrow (upd (shfS W Y j) 39 (nI i)) := ((up2_ne _ _ (by decide)).trans ((up2_ne _ _ (by decide)).trans (up2_eq _ _ _)))
                      refine cw_callv (pc := 141) C dX7_tick_141 (c_X7_shift l D Z A (up2 (up2 (up2 (up2 σ 0 (upd (σ 0) 15 (nI N))) 1 (mrow (upd (shfS W Y j) 39 (nI i)))) 9 fa) 10 ra) (upd (shfS W Y j) 39 (nI i)) (W j) (W (j + 1)) hf1 (mst_ok hO0 hi7 hif hsim j (by omega)) hwj hwj1 (by rw [sameG_sim (mst_same W Y i j) hwj hwj1]; exact hsim j (by omega))) (cwV 2 C.1.2.2.2.2 gX7_tick_X7_shift rfl rfl rfl (by decide +kernel) ⟨Nat.le_of_ble_eq_true rfl, Nat.le_of_ble_eq_true rfl⟩) 0 rfl rfl rfl rfl (Nat.le_of_ble_eq_true rfl) (fun σ1 hr => ?_)
                      subst hr
                      refine cw_eq (σ' := up2 (up2 (up2 (up2 σ 0 (upd (σ 0) 15 (nI N))) 1 (mrow (upd (shfS W Y (j + 1)) 39 (nI i)))) 9 fa) 10 ra) (((up2_comm _ _ _ (by decide)).trans (congrArg (fun qz => up2 qz 10 ra) ((up2_comm _ _ _ (by decide)).trans (congrArg (fun qz => up2 qz 9 fa) (up2_up2 _ 1 _ _))))).trans (congrArg (fun qz => up2 (up2 (up2 (up2 σ 0 (upd (σ 0) 15 (nI N))) 1 qz) 9 fa) 10 ra) (congrArg mrow (mst_step hW7 i j)))) ?_
                      refine cw_iinc (pc := 144) C dX7_tick_144 4 rfl (nI (j + 1)) (nI_inc _ 1) (by decide) (lv' := [(4, .int (nI (j + 1))), (0, .ref (A 0)), (1, .int (v)), (2, .int (nI i)), (3, .int (nI w))]) rfl ?_
                      refine cw_goto (pc := 147) (tgt := 106) C dX7_tick_147 (by decide) ?_
                      refine cw_lv [1, 2, 3, 4, 0] rfl ?_
                      exact ih106 (j + 1) (by omega) (by omega)
              refine cw_lv [3, 4, 2, 1, 0] rfl ?_
              exact L106 (N + 1) 0 (by omega) (by omega)
            · -- 99 f
              have h99 : N = 0 := (nc_eq (a := N) (b := 0) (by omega) (by omega)).mp h99
              refine hret (up2 (up2 (up2 (up2 σ 0 (upd (σ 0) 15 (nI N))) 1 (mrow Y)) 9 fa) 10 ra) _ _ dX7_tick_102 ?_
              clear hret
              refine ⟨nI N, fa, ra, ?_⟩
              rw [if_pos h99] at hgo
              rw [← hgo]
          · -- 85 f
            refine hret (up2 σ 1 (mrow Y)) _ _ dX7_tick_88 ?_
            clear hret
            refine ⟨σ 0 15, σ 9, σ 10, ?_⟩
            rw [← up4_self, ← hgo]
            exact congrArg (up2 σ 1) (mgo_hold h56 (by omega) (Int32.not_le.mp h85))
      · -- 61 f
        have h61 : w = i := (nc_eq (a := w) (b := i) (by omega) (by omega)).mp h61
        refine cw_aload_n (pc := 64) C dX7_tick_64 rfl 2 rfl ?_
        refine cw_get (pc := 65) C dX7_tick_65 0 (v := .ref (A 1)) rfl rfl 0 rfl (fun _ h => List.mem_cons_of_mem _ (List.mem_append_right _ h)) (by decide) (List.mem_of_getElem? (i := 1) rfl) ?_
        refine cw_bipush (pc := 68) C dX7_tick_68 (nI 43) (by decide) ?_
        refine cw_iload_n (pc := 70) C dX7_tick_70 rfl 0 rfl ?_
        refine cw_iast2 (pc := 71) C dX7_tick_71 1 1 (wM_g1 Z A) (wM_s1 Z A) (f := mrow Y) (up2_eq _ _ _) 43 rfl (by decide) (by decide) (up2 σ 1 (upd (mrow Y) 43 (nI w))) (up2_up2 _ 1 _ _) ?_
        refine hret (up2 σ 1 (upd (mrow Y) 43 (nI w))) _ _ dX7_tick_72 ?_
        clear hret
        refine ⟨σ 0 15, σ 9, σ 10, ?_⟩
        rw [← up4_self, ← hgo]
        exact congrArg (up2 σ 1) (mgo_in hi39 (Or.inr h61))
