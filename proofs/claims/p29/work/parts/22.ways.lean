set_option maxHeartbeats 4000000 in
set_option maxRecDepth 100000 in
theorem c_X1_nearer (l : Launch) (D : va_G) (Z : CZ) (A : Nat → Nat) (σ : St)  (g : Nat) (fr : Int32) (hg : g ≤ 7) : CTi l yX1_nearer wsX1_nearer 2 41 D Z (wC Z A) σ [.ref (A 3), .int (nI g), .int (fr)] (fun r σ' => r = nI (lst (fun k => decide (σ 4 k = fr) && swapB (σ 1 g) (σ 1 k))) ∧ σ' = σ) := by
  refine CTi.mk (cc := cX1_nearer) (nL := 4) (own := RX1) rfl (by decide) rfl (Nat.le_of_ble_eq_true rfl) ?_
  intro p0 e0 s0 m0 g0 b0 t0 c0 A0 Q C hret
  refine cw_lv (lv' := [(0, .ref (A 3)), (1, .int (nI g)), (2, .int (fr))]) [0, 1, 2] rfl ?_
  refine cw_iconst (pc := 0) C dX1_nearer_0 (nI 1) (by decide) ?_
  refine cw_istore_n (pc := 1) C dX1_nearer_1 rfl (by decide) (lv' := [(3, .int (nI 1)), (0, .ref (A 3)), (1, .int (nI g)), (2, .int (fr))]) rfl ?_
  have L2 : ∀ (n2 : Nat) (i : Nat) (hi : i ≤ 7) (hm : 7 < i + n2) (hr : lst (fun k => decide (σ 4 k = fr) && swapB (σ 1 g) (σ 1 k)) = leastN (fun k => decide (σ 4 k = fr) && swapB (σ 1 g) (σ 1 k)) (7 - i) (i + 1)), CW p0 l e0 (rmC 2 41) s0 m0 g0 b0 t0 c0 D A0 4 (wC Z A) Q σ 2 [(0, .ref (A 3)), (1, .int (nI g)), (2, .int (fr)), (3, .int (nI (i + 1)))] [] := by
    intro n2
    induction n2 with
    | zero => intro i hi hm hr; exact absurd hm (by omega)
    | succ n2 ih2 =>
      intro i hi hm hr
      refine cw_iload_n (pc := 2) C dX1_nearer_2 rfl 3 rfl ?_
      refine cw_bipush (pc := 3) C dX1_nearer_3 (nI 7) (by decide) ?_
      refine cw_icmp_gt (pc := 5) (tgt := 48) C dX1_nearer_5 (by decide) (fun h5 => ?_) (fun h5 => ?_)
      · -- 5 t
        have h5 : 7 < (i + 1) := (nc_gt (a := i + 1) (b := 7) (by omega) (by omega)).mp h5
        obtain rfl : i = 7 := by omega
        refine cw_iconst (pc := 48) C dX1_nearer_48 (nI 0) (by decide) ?_
        refine hret (nI 0) σ _ _ dX1_nearer_49 ?_
        clear hret
        exact ⟨by rw [hr]; rfl, rfl⟩
      · -- 5 f
        have h5 : ¬ (7 < (i + 1)) := fun qq => h5 ((nc_gt (a := i + 1) (b := 7) (by omega) (by omega)).mpr qq)
        refine cw_aload_n (pc := 8) C dX1_nearer_8 rfl 0 rfl ?_
        refine cw_get (pc := 9) C dX1_nearer_9 3 (v := .ref (A 4)) rfl rfl 1 rfl (fun _ h => List.mem_cons_of_mem _ (List.mem_append_right _ h)) (by decide) (List.mem_of_getElem? (i := 1) rfl) ?_
        refine cw_iload_n (pc := 12) C dX1_nearer_12 rfl 3 rfl ?_
        refine cw_iald2 (pc := 13) C dX1_nearer_13 4 4 (wC_g4 Z A) (f := σ 4) rfl (i + 1) rfl (by omega) (by decide) ?_
        refine cw_iload_n (pc := 14) C dX1_nearer_14 rfl 2 rfl ?_
        refine cw_icmp_ne (pc := 15) (tgt := 42) C dX1_nearer_15 (by decide) (fun h15 => ?_) (fun h15 => ?_)
        · -- 15 t
          refine cw_iinc (pc := 42) C dX1_nearer_42 3 rfl (nI (i + 1 + 1)) (nI_inc _ 1) (by decide) (lv' := [(3, .int (nI (i + 1 + 1))), (0, .ref (A 3)), (1, .int (nI g)), (2, .int (fr))]) rfl ?_
          refine cw_goto (pc := 45) (tgt := 2) C dX1_nearer_45 (by decide) ?_
          refine cw_lv [1, 2, 3, 0] rfl ?_
          exact ih2 (i + 1) (by omega) (by omega) (by rw [hr, show 7 - i = (7 - (i + 1)) + 1 by omega, leastN, if_neg (by simp_all)])
        · -- 15 f
          refine cw_aload_n (pc := 18) C dX1_nearer_18 rfl 0 rfl ?_
          refine cw_get (pc := 19) C dX1_nearer_19 3 (v := .ref (A 1)) rfl rfl 0 rfl (fun _ h => List.mem_cons_of_mem _ (List.mem_append_right _ h)) (by decide) (List.mem_of_getElem? (i := 2) rfl) ?_
          refine cw_iconst (pc := 22) C dX1_nearer_22 (nI 0) (by decide) ?_
          refine cw_iload_n (pc := 23) C dX1_nearer_23 rfl 1 rfl ?_
          refine cw_iadd (pc := 24) C dX1_nearer_24 (z := nI g) (nI_0add _) ?_
          refine cw_iald2 (pc := 25) C dX1_nearer_25 1 1 (wC_g1 Z A) (f := σ 1) rfl g rfl (by omega) (by decide) ?_
          refine cw_aload_n (pc := 26) C dX1_nearer_26 rfl 0 rfl ?_
          refine cw_get (pc := 27) C dX1_nearer_27 3 (v := .ref (A 1)) rfl rfl 0 rfl (fun _ h => List.mem_cons_of_mem _ (List.mem_append_right _ h)) (by decide) (List.mem_of_getElem? (i := 2) rfl) ?_
          refine cw_iconst (pc := 30) C dX1_nearer_30 (nI 0) (by decide) ?_
          refine cw_iload_n (pc := 31) C dX1_nearer_31 rfl 3 rfl ?_
          refine cw_iadd (pc := 32) C dX1_nearer_32 (z := nI (i + 1)) (nI_0add _) ?_
          refine cw_iald2 (pc := 33) C dX1_nearer_33 1 1 (wC_g1 Z A) (f := σ 1) rfl (i + 1) rfl (by omega) (by decide) ?_
          refine cw_calls (pc := 34) C dX1_nearer_34 (c_X1_swapsOne l D Z A σ (σ 1 g) (σ 1 (i + 1))) (va_cwS 2 C.1.2.2.2.2 gX1_nearer_X1_swapsOne rfl rfl rfl (by decide +kernel) ⟨Nat.le_of_ble_eq_true rfl, Nat.le_of_ble_eq_true rfl⟩) rfl rfl (Nat.le_of_ble_eq_true rfl) (cw_purez (b := swapB (σ 1 g) (σ 1 (i + 1))) (fun _ _ h => h) ?_)
          refine cw_if_eq (pc := 37) (tgt := 42) C dX1_nearer_37 (by decide) (fun h37 => ?_) (fun h37 => ?_)
          · -- 37 t
            have h37 := bI_z h37
            refine cw_iinc (pc := 42) C dX1_nearer_42 3 rfl (nI (i + 1 + 1)) (nI_inc _ 1) (by decide) (lv' := [(3, .int (nI (i + 1 + 1))), (0, .ref (A 3)), (1, .int (nI g)), (2, .int (fr))]) rfl ?_
            refine cw_goto (pc := 45) (tgt := 2) C dX1_nearer_45 (by decide) ?_
            refine cw_lv [1, 2, 3, 0] rfl ?_
            exact ih2 (i + 1) (by omega) (by omega) (by rw [hr, show 7 - i = (7 - (i + 1)) + 1 by omega, leastN, if_neg (by simp_all)])
          · -- 37 f
            have h37 := bI_nz h37
            refine cw_iload_n (pc := 40) C dX1_nearer_40 rfl 3 rfl ?_
            refine hret (nI (i + 1)) σ _ _ dX1_nearer_41 ?_
            clear hret
            exact ⟨by rw [hr, show 7 - i = (7 - (i + 1)) + 1 by omega, leastN, if_pos (by simp_all)], rfl⟩
  refine cw_lv [1, 2, 3, 0] rfl ?_
  exact L2 8 0 (by omega) (by omega) rfl
set_option maxHeartbeats 4000000 in
set_option maxRecDepth 100000 in
theorem c_X1_onWay (l : Launch) (D : va_G) (Z : CZ) (A : Nat → Nat) (σ : St)  (i : Nat) (hi : i < 7) : CTi l yX1_onWay wsX1_onWay 0 0 D Z (wC Z A) σ [.ref (A 3), .int (nI i)] (fun r σ' => r = σ 5 i ∧ σ' = σ) := by
  refine CTi.mk (cc := cX1_onWay) (nL := 2) (own := RX1) rfl (by decide) rfl (Nat.le_of_ble_eq_true rfl) ?_
  intro p0 e0 s0 m0 g0 b0 t0 c0 A0 Q C hret
  refine cw_lv (lv' := [(0, .ref (A 3)), (1, .int (nI i))]) [0, 1] rfl ?_
  refine cw_iload_n (pc := 0) C dX1_onWay_0 rfl 1 rfl ?_
  refine cw_if_lt (pc := 1) (tgt := 19) C dX1_onWay_1 (by decide) (fun h1 => ?_) (fun h1 => ?_)
  · -- 1 t
    have h1 : i < 0 := (nc_lt (a := i) (b := 0) (by omega) (by omega)).mp h1
    exact absurd h1 (by omega)
  · -- 1 f
    have h1 : ¬ (i < 0) := fun qq => h1 ((nc_lt (a := i) (b := 0) (by omega) (by omega)).mpr qq)
    refine cw_iload_n (pc := 4) C dX1_onWay_4 rfl 1 rfl ?_
    refine cw_bipush (pc := 5) C dX1_onWay_5 (nI 7) (by decide) ?_
    refine cw_icmp_ge (pc := 7) (tgt := 19) C dX1_onWay_7 (by decide) (fun h7 => ?_) (fun h7 => ?_)
    · -- 7 t
      have h7 : 7 ≤ i := (nc_ge (a := i) (b := 7) (by omega) (by omega)).mp h7
      exact absurd h7 (by omega)
    · -- 7 f
      have h7 : ¬ (7 ≤ i) := fun qq => h7 ((nc_ge (a := i) (b := 7) (by omega) (by omega)).mpr qq)
      refine cw_aload_n (pc := 10) C dX1_onWay_10 rfl 0 rfl ?_
      refine cw_get (pc := 11) C dX1_onWay_11 3 (v := .ref (A 5)) rfl rfl 2 rfl (fun _ h => List.mem_cons_of_mem _ (List.mem_append_right _ h)) (by decide) (List.mem_of_getElem? (i := 1) rfl) ?_
      refine cw_iload_n (pc := 14) C dX1_onWay_14 rfl 1 rfl ?_
      refine cw_iald2 (pc := 15) C dX1_onWay_15 5 5 (wC_g5 Z A) (f := σ 5) rfl i rfl (by omega) (by decide) ?_
      refine cw_goto (pc := 16) (tgt := 20) C dX1_onWay_16 (by decide) ?_
      refine hret (σ 5 i) σ _ _ dX1_onWay_20 ?_
      clear hret
      exact ⟨rfl, rfl⟩
set_option maxHeartbeats 4000000 in
set_option maxRecDepth 100000 in
theorem c_X1_findWay (l : Launch) (D : va_G) (Z : CZ) (A : Nat → Nat) (σ : St)  (g : Nat) (to : Nat) (hg1 : 1 ≤ g) (hg : g ≤ 7) (hto : to ≤ 7) : CTi l yX1_findWay wsX1_findWay 3 64 D Z (wC Z A) σ [.ref (A 3), .int (nI g), .int (nI to)] (fun r σ' => r = nI (wyN (σ 1) g to) ∧ ∃ aw pa : Nat → Int32, σ' = up2 (up2 σ 4 aw) 5 pa ∧ ∀ j, j < wyN (σ 1) g to → pa j = nI (wyG (σ 1) g to (j + 1))) := by
  refine CTi.mk (cc := cX1_findWay) (nL := 7) (own := RX1) rfl (by decide) rfl (Nat.le_of_ble_eq_true rfl) ?_
  intro p0 e0 s0 m0 g0 b0 t0 c0 A0 Q C hret
  have hs : wyN (σ 1) g to ≤ 6 := wayN_le _ _ _ _
  refine cw_lv (lv' := [(0, .ref (A 3)), (1, .int (nI g)), (2, .int (nI to))]) [0, 1, 2] rfl ?_
  refine cw_aload_n (pc := 0) C dX1_findWay_0 rfl 0 rfl ?_
  refine cw_calli (pc := 1) C dX1_findWay_1 (c_X1_fitBits l D Z A σ ) (cwV 0 C.1.2.2.2.2 gX1_findWay_X1_fitBits rfl rfl rfl (by decide +kernel) ⟨Nat.le_of_ble_eq_true rfl, Nat.le_of_ble_eq_true rfl⟩) 3 rfl rfl rfl rfl (Nat.le_of_ble_eq_true rfl) (cw_pure (v := fbits (fitN (σ 1)) 7) (fun _ _ h => h) ?_)
  refine cw_istore_n (pc := 4) C dX1_findWay_4 rfl (by decide) (lv' := [(3, .int (fbits (fitN (σ 1)) 7)), (0, .ref (A 3)), (1, .int (nI g)), (2, .int (nI to))]) rfl ?_
  refine cw_iconst (pc := 5) C dX1_findWay_5 (nI 1) (by decide) ?_
  refine cw_istore (pc := 6) C dX1_findWay_6 (by decide) (lv' := [(4, .int (nI 1)), (3, .int (fbits (fitN (σ 1)) 7)), (0, .ref (A 3)), (1, .int (nI g)), (2, .int (nI to))]) rfl ?_
  have L8 : ∀ (n8 : Nat) (i : Nat) (aw : Nat → Int32) (hi : i ≤ 7) (hm : 7 < i + n8) (hw : ∀ k, 1 ≤ k → k ≤ i → aw k = dI (fitN (σ 1)) (adX (σ 1)) to 0 k), CW p0 l e0 (rmC 3 64) s0 m0 g0 b0 t0 c0 D A0 7 (wC Z A) Q (up2 σ 4 aw) 8 [(0, .ref (A 3)), (1, .int (nI g)), (2, .int (nI to)), (3, .int (fbits (fitN (σ 1)) 7)), (4, .int (nI (i + 1)))] [] := by
    intro n8
    induction n8 with
    | zero => intro i aw hi hm hw; exact absurd hm (by omega)
    | succ n8 ih8 =>
      intro i aw hi hm hw
      refine cw_iload (pc := 8) C dX1_findWay_8 4 rfl ?_
      refine cw_bipush (pc := 10) C dX1_findWay_10 (nI 7) (by decide) ?_
      refine cw_icmp_gt (pc := 12) (tgt := 39) C dX1_findWay_12 (by decide) (fun h12 => ?_) (fun h12 => ?_)
      · -- 12 t
        have h12 : 7 < (i + 1) := (nc_gt (a := i + 1) (b := 7) (by omega) (by omega)).mp h12
        obtain rfl : i = 7 := by omega
        refine cw_iconst (pc := 39) C dX1_findWay_39 (nI 0) (by decide) ?_
        refine cw_istore (pc := 40) C dX1_findWay_40 (by decide) (lv' := [(4, .int (nI 0)), (0, .ref (A 3)), (1, .int (nI g)), (2, .int (nI to)), (3, .int (fbits (fitN (σ 1)) 7))]) rfl ?_
        have L42 : ∀ (n42 : Nat) (f : Nat) (aw : Nat → Int32) (hf : f ≤ 6) (hm : 6 < f + n42) (hw : ∀ k, 1 ≤ k → k ≤ 7 → aw k = dI (fitN (σ 1)) (adX (σ 1)) to f k), CW p0 l e0 (rmC 3 64) s0 m0 g0 b0 t0 c0 D A0 7 (wC Z A) Q (up2 σ 4 aw) 42 [(0, .ref (A 3)), (1, .int (nI g)), (2, .int (nI to)), (3, .int (fbits (fitN (σ 1)) 7)), (4, .int (nI f))] [] := by
          intro n42
          induction n42 with
          | zero => intro f aw hf hm hw; exact absurd hm (by omega)
          | succ n42 ih42 =>
            intro f aw hf hm hw
            refine cw_iload (pc := 42) C dX1_findWay_42 4 rfl ?_
            refine cw_bipush (pc := 44) C dX1_findWay_44 (nI 6) (by decide) ?_
            refine cw_icmp_ge (pc := 46) (tgt := 126) C dX1_findWay_46 (by decide) (fun h46 => ?_) (fun h46 => ?_)
            · -- 46 t
              have h46 : 6 ≤ f := (nc_ge (a := f) (b := 6) (by omega) (by omega)).mp h46
              obtain rfl : f = 6 := by omega
              refine cw_iload_n (pc := 126) C dX1_findWay_126 rfl 1 rfl ?_
              refine cw_calln (pc := 127) C dX1_findWay_127 (c_X6_isGear l D Z A (up2 σ 4 aw) (nI g)) (va_cnB 1 C.1.2.2.2.2 gX1_findWay_X6_isGear_n46 rfl rfl rfl C.2.2.1.2.2.2.2.2 (C.1.2.2.2.2 _ (List.mem_of_getElem? (i := 32) rfl)) (by decide +kernel) ⟨Nat.le_of_ble_eq_true rfl, Nat.le_of_ble_eq_true rfl⟩) (List.mem_of_getElem? (i := 31) rfl) rfl rfl (Nat.le_of_ble_eq_true rfl) (cw_purez (b := gearB (nI g)) (fun _ _ h => h) ?_)
              refine cw_if_eq (pc := 130) (tgt := 146) C dX1_findWay_130 (by decide) (fun h130 => absurd h130 (by rw [gearB_N (by omega), decide_eq_true hg1, decide_eq_true hg]; decide)) (fun h130 => ?_)
              refine cw_iconst (pc := 133) C dX1_findWay_133 (nI 0) (by decide) ?_
              refine cw_aload_n (pc := 134) C dX1_findWay_134 rfl 0 rfl ?_
              refine cw_get (pc := 135) C dX1_findWay_135 3 (v := .ref (A 4)) rfl rfl 1 rfl (fun _ h => List.mem_cons_of_mem _ (List.mem_append_right _ h)) (by decide) (List.mem_of_getElem? (i := 1) rfl) ?_
              refine cw_iload_n (pc := 138) C dX1_findWay_138 rfl 1 rfl ?_
              refine cw_iald2 (pc := 139) C dX1_findWay_139 4 4 (wC_g4 Z A) (f := aw) (up2_eq _ _ _) g rfl (by omega) (by decide) ?_
              refine cw_max (pc := 140) C dX1_findWay_140 (List.mem_of_getElem? (i := 2) rfl) (List.mem_of_getElem? (i := 3) rfl) (List.mem_of_getElem? (i := 4) rfl) (List.mem_of_getElem? (i := 5) rfl) (by decide) (Nat.le_of_ble_eq_true rfl) ?_
              refine cw_top (nI (wyN (σ 1) g to)) (wayN_max _ _ _ (hw g hg1 hg)) ?_
              refine cw_goto (pc := 143) (tgt := 147) C dX1_findWay_143 (by decide) ?_
              refine cw_istore (pc := 147) C dX1_findWay_147 (by decide) (lv' := [(4, .int (nI (wyN (σ 1) g to))), (0, .ref (A 3)), (1, .int (nI g)), (2, .int (nI to)), (3, .int (fbits (fitN (σ 1)) 7))]) rfl ?_
              refine cw_iload_n (pc := 149) C dX1_findWay_149 rfl 2 rfl ?_
              refine cw_istore (pc := 150) C dX1_findWay_150 (by decide) (lv' := [(5, .int (nI g)), (4, .int (nI (wyN (σ 1) g to))), (0, .ref (A 3)), (1, .int (nI g)), (2, .int (nI to)), (3, .int (fbits (fitN (σ 1)) 7))]) rfl ?_
              refine cw_iconst (pc := 152) C dX1_findWay_152 (nI 0) (by decide) ?_
              refine cw_istore (pc := 153) C dX1_findWay_153 (by decide) (lv' := [(6, .int (nI 0)), (5, .int (nI g)), (4, .int (nI (wyN (σ 1) g to))), (0, .ref (A 3)), (1, .int (nI g)), (2, .int (nI to)), (3, .int (fbits (fitN (σ 1)) 7))]) rfl ?_
              have L155 : ∀ (n155 : Nat) (i : Nat) (cur : Nat) (pa : Nat → Int32) (hi : i ≤ wyN (σ 1) g to) (hm3 : wyN (σ 1) g to < i + n155) (hcur : cur = wayG (fitN (σ 1)) (adX (σ 1)) to g i) (hpa : ∀ j, j < i → pa j = nI (wyG (σ 1) g to (j + 1))), CW p0 l e0 (rmC 3 64) s0 m0 g0 b0 t0 c0 D A0 7 (wC Z A) Q (up2 (up2 σ 4 aw) 5 pa) 155 [(0, .ref (A 3)), (1, .int (nI g)), (2, .int (nI to)), (4, .int (nI (wyN (σ 1) g to))), (5, .int (nI cur)), (6, .int (nI i))] [] := by
                intro n155
                induction n155 with
                | zero => intro i cur pa hi hm3 hcur hpa; exact absurd hm3 (by omega)
                | succ n155 ih155 =>
                  intro i cur pa hi hm3 hcur hpa
                  refine cw_iload (pc := 155) C dX1_findWay_155 5 rfl ?_
                  refine cw_iload (pc := 157) C dX1_findWay_157 3 rfl ?_
                  refine cw_icmp_ge (pc := 159) (tgt := 192) C dX1_findWay_159 (by decide) (fun h159 => ?_) (fun h159 => ?_)
                  · -- 159 t
                    have h159 : (wyN (σ 1) g to) ≤ i := (nc_ge (a := i) (b := wyN (σ 1) g to) (by omega) (by omega)).mp h159
                    refine cw_iload (pc := 192) C dX1_findWay_192 3 rfl ?_
                    refine hret (nI (wyN (σ 1) g to)) (up2 (up2 σ 4 aw) 5 pa) _ _ dX1_findWay_194 ?_
                    clear hret
                    exact ⟨rfl, aw, pa, rfl, fun j hj => hpa j (by omega)⟩
                  · -- 159 f
                    have h159 : ¬ ((wyN (σ 1) g to) ≤ i) := fun qq => h159 ((nc_ge (a := i) (b := wyN (σ 1) g to) (by omega) (by omega)).mpr qq)
                    refine cw_aload_n (pc := 162) C dX1_findWay_162 rfl 0 rfl ?_
                    refine cw_iload (pc := 163) C dX1_findWay_163 4 rfl ?_
                    refine cw_iload (pc := 165) C dX1_findWay_165 3 rfl ?_
                    refine cw_iload (pc := 167) C dX1_findWay_167 5 rfl ?_
                    refine cw_isub (pc := 169) C dX1_findWay_169 (z := nI ((wyN (σ 1) g to) - i)) (pk_sub (by omega)) ?_
                    refine cw_iconst (pc := 170) C dX1_findWay_170 (nI 1) (by decide) ?_
                    refine cw_isub (pc := 171) C dX1_findWay_171 (z := nI (((wyN (σ 1) g to) - i) - 1)) (pk_sub (by omega)) ?_
                    have hf1 : (up2 (up2 σ 4 aw) 5 pa) 1 = σ 1 := ((up2_ne _ _ (by decide)).trans (up2_ne _ _ (by decide)))
                    have hf4 : (up2 (up2 σ 4 aw) 5 pa) 4 = aw := ((up2_ne _ _ (by decide)).trans (up2_eq _ _ _))
                    have ev0 := congrArg (fun qz => nI (lst (fun k => decide (qz k = (nI (((wyN (σ 1) g to) - i) - 1))) && swapB (((up2 (up2 σ 4 aw) 5 pa) 1) cur) (((up2 (up2 σ 4 aw) 5 pa) 1) k)))) hf4
                    have ev1 := congrArg (fun qz => nI (lst (fun k => decide (aw k = (nI (((wyN (σ 1) g to) - i) - 1))) && swapB (qz cur) (qz k)))) hf1
                    refine cw_calli (pc := 172) C dX1_findWay_172 (c_X1_nearer l D Z A (up2 (up2 σ 4 aw) 5 pa) cur (nI (((wyN (σ 1) g to) - i) - 1)) (by rw [hcur]; exact wayG_le _ _ _ hg _)) (cwV 2 C.1.2.2.2.2 gX1_findWay_X1_nearer rfl rfl rfl (by decide +kernel) ⟨Nat.le_of_ble_eq_true rfl, Nat.le_of_ble_eq_true rfl⟩) 3 rfl rfl rfl rfl (Nat.le_of_ble_eq_true rfl) (cw_pure (v := nI (lst (fun k => decide (aw k = (nI (((wyN (σ 1) g to) - i) - 1))) && swapB ((σ 1) cur) ((σ 1) k)))) (fun _ _ h => ⟨h.1.trans ((ev0.trans ev1)), h.2⟩) ?_)
                    refine cw_istore (pc := 175) C dX1_findWay_175 (by decide) (lv' := [(5, .int (nI (lst (fun k => decide (aw k = (nI (((wyN (σ 1) g to) - i) - 1))) && swapB ((σ 1) cur) ((σ 1) k))))), (0, .ref (A 3)), (1, .int (nI g)), (2, .int (nI to)), (4, .int (nI (wyN (σ 1) g to))), (6, .int (nI i))]) rfl ?_
                    refine cw_aload_n (pc := 177) C dX1_findWay_177 rfl 1 rfl ?_
                    refine cw_get (pc := 178) C dX1_findWay_178 3 (v := .ref (A 5)) rfl rfl 2 rfl (fun _ h => List.mem_cons_of_mem _ (List.mem_append_right _ h)) (by decide) (List.mem_of_getElem? (i := 6) rfl) ?_
                    refine cw_iload (pc := 181) C dX1_findWay_181 5 rfl ?_
                    refine cw_iload (pc := 183) C dX1_findWay_183 0 rfl ?_
                    refine cw_iast2 (pc := 185) C dX1_findWay_185 5 5 (wC_g5 Z A) (wC_s5 Z A) (f := pa) (up2_eq _ _ _) i rfl (by omega) (by decide) (up2 (up2 σ 4 aw) 5 (upd pa i (nI (lst (fun k => decide (aw k = (nI (((wyN (σ 1) g to) - i) - 1))) && swapB ((σ 1) cur) ((σ 1) k)))))) (up2_up2 _ 5 _ _) ?_
                    refine cw_iinc (pc := 186) C dX1_findWay_186 5 rfl (nI (i + 1)) (nI_inc _ 1) (by decide) (lv' := [(6, .int (nI (i + 1))), (5, .int (nI (lst (fun k => decide (aw k = (nI (((wyN (σ 1) g to) - i) - 1))) && swapB ((σ 1) cur) ((σ 1) k))))), (0, .ref (A 3)), (1, .int (nI g)), (2, .int (nI to)), (4, .int (nI (wyN (σ 1) g to)))]) rfl ?_
                    refine cw_goto (pc := 189) (tgt := 155) C dX1_findWay_189 (by decide) ?_
                    refine cw_lv [2, 3, 4, 5, 1, 0] rfl ?_
                    exact ih155 (i + 1) (lst (fun k => decide (aw k = (nI (((wyN (σ 1) g to) - i) - 1))) && swapB ((σ 1) cur) ((σ 1) k))) (upd pa i (nI (lst (fun k => decide (aw k = (nI (((wyN (σ 1) g to) - i) - 1))) && swapB ((σ 1) cur) ((σ 1) k))))) (by omega) (by omega) (by rw [hcur]; exact wayG_lst _ _ _ hw i) (fun j hj => by
            rcases Nat.lt_or_ge j i with q | q
            · rw [upd_ne (by omega)]; exact hpa j q
            · obtain rfl : j = i := by omega
              rw [upd_same, hcur]; exact congrArg nI (wayG_lst _ _ _ hw j))
              refine cw_eq (σ' := up2 (up2 σ 4 aw) 5 (σ 5)) ((up2_self (up2 σ 4 aw) 5).symm) ?_
              refine cw_lv [3, 4, 5, 2, 1, 0] rfl ?_
              exact L155 8 0 g (σ 5) (by omega) (by omega) rfl (fun j hj => absurd hj (by omega))
            · -- 46 f
              have h46 : ¬ (6 ≤ f) := fun qq => h46 ((nc_ge (a := f) (b := 6) (by omega) (by omega)).mpr qq)
              refine cw_iconst (pc := 49) C dX1_findWay_49 (nI 1) (by decide) ?_
              refine cw_istore (pc := 50) C dX1_findWay_50 (by decide) (lv' := [(5, .int (nI 1)), (0, .ref (A 3)), (1, .int (nI g)), (2, .int (nI to)), (3, .int (fbits (fitN (σ 1)) 7)), (4, .int (nI f))]) rfl ?_
              have L52 : ∀ (n52 : Nat) (i : Nat) (aw : Nat → Int32) (hi : i ≤ 7) (hm2 : 7 < i + n52) (hw2 : fwI (fitN (σ 1)) (adX (σ 1)) to aw f i), CW p0 l e0 (rmC 3 64) s0 m0 g0 b0 t0 c0 D A0 7 (wC Z A) Q (up2 σ 4 aw) 52 [(0, .ref (A 3)), (1, .int (nI g)), (2, .int (nI to)), (3, .int (fbits (fitN (σ 1)) 7)), (4, .int (nI f)), (5, .int (nI (i + 1)))] [] := by
                intro n52
                induction n52 with
                | zero => intro i aw hi hm2 hw2; exact absurd hm2 (by omega)
                | succ n52 ih52 =>
                  intro i aw hi hm2 hw2
                  refine cw_iload (pc := 52) C dX1_findWay_52 5 rfl ?_
                  refine cw_bipush (pc := 54) C dX1_findWay_54 (nI 7) (by decide) ?_
                  refine cw_icmp_gt (pc := 56) (tgt := 120) C dX1_findWay_56 (by decide) (fun h56 => ?_) (fun h56 => ?_)
                  · -- 56 t
                    have h56 : 7 < (i + 1) := (nc_gt (a := i + 1) (b := 7) (by omega) (by omega)).mp h56
                    have hi7 : i = 7 := by omega
                    refine cw_iinc (pc := 120) C dX1_findWay_120 4 rfl (nI (f + 1)) (nI_inc _ 1) (by decide) (lv' := [(4, .int (nI (f + 1))), (0, .ref (A 3)), (1, .int (nI g)), (2, .int (nI to)), (3, .int (fbits (fitN (σ 1)) 7)), (5, .int (nI (i + 1)))]) rfl ?_
                    refine cw_goto (pc := 123) (tgt := 42) C dX1_findWay_123 (by decide) ?_
                    refine cw_lv [1, 2, 3, 4, 0] rfl ?_
                    exact ih42 (f + 1) aw (by omega) (by omega) (fwI_7 (by rw [← hi7]; exact hw2))
                  · -- 56 f
                    have h56 : ¬ (7 < (i + 1)) := fun qq => h56 ((nc_gt (a := i + 1) (b := 7) (by omega) (by omega)).mpr qq)
                    refine cw_aload_n (pc := 59) C dX1_findWay_59 rfl 0 rfl ?_
                    refine cw_get (pc := 60) C dX1_findWay_60 3 (v := .ref (A 4)) rfl rfl 1 rfl (fun _ h => List.mem_cons_of_mem _ (List.mem_append_right _ h)) (by decide) (List.mem_of_getElem? (i := 1) rfl) ?_
                    refine cw_iload (pc := 63) C dX1_findWay_63 5 rfl ?_
                    refine cw_iald2 (pc := 65) C dX1_findWay_65 4 4 (wC_g4 Z A) (f := aw) (up2_eq _ _ _) (i + 1) rfl (by omega) (by decide) ?_
                    refine cw_iconst (pc := 66) C dX1_findWay_66 (-1) (by decide) ?_
                    refine cw_icmp_ne (pc := 67) (tgt := 84) C dX1_findWay_67 (by decide) (fun h67 => ?_) (fun h67 => ?_)
                    · -- 67 t
                      refine cw_iconst (pc := 84) C dX1_findWay_84 (nI 0) (by decide) ?_
                      refine cw_istore (pc := 85) C dX1_findWay_85 (by decide) (lv' := [(6, .int (nI 0)), (0, .ref (A 3)), (1, .int (nI g)), (2, .int (nI to)), (3, .int (fbits (fitN (σ 1)) 7)), (4, .int (nI f)), (5, .int (nI (i + 1)))]) rfl ?_
                      refine cw_iload (pc := 87) C dX1_findWay_87 0 rfl ?_
                      refine cw_if_eq (pc := 89) (tgt := 114) C dX1_findWay_89 (by decide) (fun _ => ?_) (fun h => False.elim (by revert h; decide))
                      refine cw_iinc (pc := 114) C dX1_findWay_114 6 rfl (nI (i + 1 + 1)) (nI_inc _ 1) (by decide) (lv' := [(5, .int (nI (i + 1 + 1))), (6, .int (nI 0)), (0, .ref (A 3)), (1, .int (nI g)), (2, .int (nI to)), (3, .int (fbits (fitN (σ 1)) 7)), (4, .int (nI f))]) rfl ?_
                      refine cw_goto (pc := 117) (tgt := 52) C dX1_findWay_117 (by decide) ?_
                      refine cw_lv [2, 3, 4, 5, 6, 0] rfl ?_
                      exact ih52 (i + 1) aw (by omega) (by omega) (fwI_a hw2 (by omega) h67)
                    · -- 67 f
                      refine cw_iload_n (pc := 70) C dX1_findWay_70 rfl 3 rfl ?_
                      refine cw_iload (pc := 71) C dX1_findWay_71 5 rfl ?_
                      refine cw_ishr (pc := 73) C dX1_findWay_73 (z := (fbits (fitN (σ 1)) 7) >>> ((nI (i + 1)) &&& 31)) rfl ?_
                      refine cw_iconst (pc := 74) C dX1_findWay_74 (nI 1) (by decide) ?_
                      refine cw_iand (pc := 75) C dX1_findWay_75 (z := ((fbits (fitN (σ 1)) 7) >>> ((nI (i + 1)) &&& 31)) &&& (nI 1)) rfl ?_
                      refine cw_iconst (pc := 76) C dX1_findWay_76 (nI 1) (by decide) ?_
                      refine cw_icmp_ne (pc := 77) (tgt := 84) C dX1_findWay_77 (by decide) (fun h77 => ?_) (fun h77 => ?_)
                      · -- 77 t
                        refine cw_iconst (pc := 84) C dX1_findWay_84 (nI 0) (by decide) ?_
                        refine cw_istore (pc := 85) C dX1_findWay_85 (by decide) (lv' := [(6, .int (nI 0)), (0, .ref (A 3)), (1, .int (nI g)), (2, .int (nI to)), (3, .int (fbits (fitN (σ 1)) 7)), (4, .int (nI f)), (5, .int (nI (i + 1)))]) rfl ?_
                        refine cw_iload (pc := 87) C dX1_findWay_87 0 rfl ?_
                        refine cw_if_eq (pc := 89) (tgt := 114) C dX1_findWay_89 (by decide) (fun _ => ?_) (fun h => False.elim (by revert h; decide))
                        refine cw_iinc (pc := 114) C dX1_findWay_114 6 rfl (nI (i + 1 + 1)) (nI_inc _ 1) (by decide) (lv' := [(5, .int (nI (i + 1 + 1))), (6, .int (nI 0)), (0, .ref (A 3)), (1, .int (nI g)), (2, .int (nI to)), (3, .int (fbits (fitN (σ 1)) 7)), (4, .int (nI f))]) rfl ?_
                        refine cw_goto (pc := 117) (tgt := 52) C dX1_findWay_117 (by decide) ?_
                        refine cw_lv [2, 3, 4, 5, 6, 0] rfl ?_
                        exact ih52 (i + 1) aw (by omega) (by omega) (fwI_b (by omega) hw2 (by omega) h67 (Or.inl (by rw [← Bool.not_eq_true]; intro q; exact h77 ((fbits_bit (F := fitN (σ 1)) (g := i + 1) (by omega) (by omega)).trans (bI_iff.mpr q)))))
                      · -- 77 f
                        refine cw_iconst (pc := 80) C dX1_findWay_80 (nI 1) (by decide) ?_
                        refine cw_goto (pc := 81) (tgt := 85) C dX1_findWay_81 (by decide) ?_
                        refine cw_istore (pc := 85) C dX1_findWay_85 (by decide) (lv' := [(6, .int (nI 1)), (0, .ref (A 3)), (1, .int (nI g)), (2, .int (nI to)), (3, .int (fbits (fitN (σ 1)) 7)), (4, .int (nI f)), (5, .int (nI (i + 1)))]) rfl ?_
                        refine cw_iload (pc := 87) C dX1_findWay_87 0 rfl ?_
                        refine cw_if_eq (pc := 89) (tgt := 114) C dX1_findWay_89 (by decide) (fun h => False.elim (by revert h; decide)) (fun _ => ?_)
                        refine cw_aload_n (pc := 92) C dX1_findWay_92 rfl 1 rfl ?_
                        refine cw_iload (pc := 93) C dX1_findWay_93 6 rfl ?_
                        refine cw_iload (pc := 95) C dX1_findWay_95 5 rfl ?_
                        have hf1 : (up2 σ 4 aw) 1 = σ 1 := (up2_ne _ _ (by decide))
                        have hf4 : (up2 σ 4 aw) 4 = aw := (up2_eq _ _ _)
                        have ev0 := congrArg (fun qz => nI (lst (fun k => decide (qz k = (nI f)) && swapB (((up2 σ 4 aw) 1) (i + 1)) (((up2 σ 4 aw) 1) k)))) hf4
                        have ev1 := congrArg (fun qz => nI (lst (fun k => decide (aw k = (nI f)) && swapB (qz (i + 1)) (qz k)))) hf1
                        refine cw_calli (pc := 97) C dX1_findWay_97 (c_X1_nearer l D Z A (up2 σ 4 aw) (i + 1) (nI f) (by omega)) (cwV 2 C.1.2.2.2.2 gX1_findWay_X1_nearer rfl rfl rfl (by decide +kernel) ⟨Nat.le_of_ble_eq_true rfl, Nat.le_of_ble_eq_true rfl⟩) 3 rfl rfl rfl rfl (Nat.le_of_ble_eq_true rfl) (cw_pure (v := nI (lst (fun k => decide (aw k = (nI f)) && swapB ((σ 1) (i + 1)) ((σ 1) k)))) (fun _ _ h => ⟨h.1.trans ((ev0.trans ev1)), h.2⟩) ?_)
                        have hl := lst_le (fun k => decide (aw k = (nI f)) && swapB ((σ 1) (i + 1)) ((σ 1) k))
                        refine cw_if_eq (pc := 100) (tgt := 114) C dX1_findWay_100 (by decide) (fun h100 => ?_) (fun h100 => ?_)
                        · -- 100 t
                          have h100 : (lst (fun k => decide (aw k = (nI f)) && swapB ((σ 1) (i + 1)) ((σ 1) k))) = 0 := (nc_eq (a := lst (fun k => decide (aw k = (nI f)) && swapB ((σ 1) (i + 1)) ((σ 1) k))) (b := 0) (by omega) (by omega)).mp h100
                          refine cw_iinc (pc := 114) C dX1_findWay_114 6 rfl (nI (i + 1 + 1)) (nI_inc _ 1) (by decide) (lv' := [(5, .int (nI (i + 1 + 1))), (6, .int (nI 1)), (0, .ref (A 3)), (1, .int (nI g)), (2, .int (nI to)), (3, .int (fbits (fitN (σ 1)) 7)), (4, .int (nI f))]) rfl ?_
                          refine cw_goto (pc := 117) (tgt := 52) C dX1_findWay_117 (by decide) ?_
                          refine cw_lv [2, 3, 4, 5, 6, 0] rfl ?_
                          exact ih52 (i + 1) aw (by omega) (by omega) (fwI_b (by omega) hw2 (by omega) h67 (Or.inr h100))
                        · -- 100 f
                          have h100 : ¬ ((lst (fun k => decide (aw k = (nI f)) && swapB ((σ 1) (i + 1)) ((σ 1) k))) = 0) := fun qq => h100 ((nc_eq (a := lst (fun k => decide (aw k = (nI f)) && swapB ((σ 1) (i + 1)) ((σ 1) k))) (b := 0) (by omega) (by omega)).mpr qq)
                          refine cw_aload_n (pc := 103) C dX1_findWay_103 rfl 1 rfl ?_
                          refine cw_get (pc := 104) C dX1_findWay_104 3 (v := .ref (A 4)) rfl rfl 1 rfl (fun _ h => List.mem_cons_of_mem _ (List.mem_append_right _ h)) (by decide) (List.mem_of_getElem? (i := 1) rfl) ?_
                          refine cw_iload (pc := 107) C dX1_findWay_107 6 rfl ?_
                          refine cw_iload (pc := 109) C dX1_findWay_109 5 rfl ?_
                          refine cw_iconst (pc := 111) C dX1_findWay_111 (nI 1) (by decide) ?_
                          refine cw_iadd (pc := 112) C dX1_findWay_112 (z := nI (f + 1)) (nI_add _ _) ?_
                          refine cw_iast2 (pc := 113) C dX1_findWay_113 4 4 (wC_g4 Z A) (wC_s4 Z A) (f := aw) (up2_eq _ _ _) (i + 1) rfl (by omega) (by decide) (up2 σ 4 (upd aw (i + 1) (nI (f + 1)))) (up2_up2 _ 4 _ _) ?_
                          refine cw_iinc (pc := 114) C dX1_findWay_114 6 rfl (nI (i + 1 + 1)) (nI_inc _ 1) (by decide) (lv' := [(5, .int (nI (i + 1 + 1))), (6, .int (nI 1)), (0, .ref (A 3)), (1, .int (nI g)), (2, .int (nI to)), (3, .int (fbits (fitN (σ 1)) 7)), (4, .int (nI f))]) rfl ?_
                          refine cw_goto (pc := 117) (tgt := 52) C dX1_findWay_117 (by decide) ?_
                          refine cw_lv [2, 3, 4, 5, 6, 0] rfl ?_
                          exact ih52 (i + 1) (upd aw (i + 1) (nI (f + 1))) (by omega) (by omega) (fwI_c (by omega) hw2 (by omega) h67 (bI_iff.mp ((fbits_bit (F := fitN (σ 1)) (g := i + 1) (by omega) (by omega)).symm.trans h77)) h100)
              refine cw_lv [1, 2, 3, 4, 5, 0] rfl ?_
              exact L52 8 0 aw (by omega) (by omega) (fwI_0 hw)
        refine cw_lv [1, 2, 3, 4, 0] rfl ?_
        exact L42 7 0 aw (by omega) (by omega) hw
      · -- 12 f
        have h12 : ¬ (7 < (i + 1)) := fun qq => h12 ((nc_gt (a := i + 1) (b := 7) (by omega) (by omega)).mpr qq)
        refine cw_aload_n (pc := 15) C dX1_findWay_15 rfl 0 rfl ?_
        refine cw_get (pc := 16) C dX1_findWay_16 3 (v := .ref (A 4)) rfl rfl 1 rfl (fun _ h => List.mem_cons_of_mem _ (List.mem_append_right _ h)) (by decide) (List.mem_of_getElem? (i := 1) rfl) ?_
        refine cw_iload (pc := 19) C dX1_findWay_19 4 rfl ?_
        refine cw_iload (pc := 21) C dX1_findWay_21 4 rfl ?_
        refine cw_iload_n (pc := 23) C dX1_findWay_23 rfl 2 rfl ?_
        refine cw_icmp_ne (pc := 24) (tgt := 31) C dX1_findWay_24 (by decide) (fun h24 => ?_) (fun h24 => ?_)
        · -- 24 t
          have h24 : ¬ (i + 1) = to := (nc_ne (a := i + 1) (b := to) (by omega) (by omega)).mp h24
          refine cw_iconst (pc := 31) C dX1_findWay_31 (-1) (by decide) ?_
          refine cw_iast2 (pc := 32) C dX1_findWay_32 4 4 (wC_g4 Z A) (wC_s4 Z A) (f := aw) (up2_eq _ _ _) (i + 1) rfl (by omega) (by decide) (up2 σ 4 (upd aw (i + 1) (-1))) (up2_up2 _ 4 _ _) ?_
          refine cw_iinc (pc := 33) C dX1_findWay_33 4 rfl (nI (i + 1 + 1)) (nI_inc _ 1) (by decide) (lv' := [(4, .int (nI (i + 1 + 1))), (0, .ref (A 3)), (1, .int (nI g)), (2, .int (nI to)), (3, .int (fbits (fitN (σ 1)) 7))]) rfl ?_
          refine cw_goto (pc := 36) (tgt := 8) C dX1_findWay_36 (by decide) ?_
          refine cw_lv [1, 2, 3, 4, 0] rfl ?_
          exact ih8 (i + 1) (upd aw (i + 1) (-1)) (by omega) (by omega) (up_ext hw (by simp [dI, h24]))
        · -- 24 f
          have h24 : (i + 1) = to := (nc_eq (a := i + 1) (b := to) (by omega) (by omega)).mp h24
          refine cw_iconst (pc := 27) C dX1_findWay_27 (nI 0) (by decide) ?_
          refine cw_goto (pc := 28) (tgt := 32) C dX1_findWay_28 (by decide) ?_
          refine cw_iast2 (pc := 32) C dX1_findWay_32 4 4 (wC_g4 Z A) (wC_s4 Z A) (f := aw) (up2_eq _ _ _) (i + 1) rfl (by omega) (by decide) (up2 σ 4 (upd aw (i + 1) (nI 0))) (up2_up2 _ 4 _ _) ?_
          refine cw_iinc (pc := 33) C dX1_findWay_33 4 rfl (nI (i + 1 + 1)) (nI_inc _ 1) (by decide) (lv' := [(4, .int (nI (i + 1 + 1))), (0, .ref (A 3)), (1, .int (nI g)), (2, .int (nI to)), (3, .int (fbits (fitN (σ 1)) 7))]) rfl ?_
          refine cw_goto (pc := 36) (tgt := 8) C dX1_findWay_36 (by decide) ?_
          refine cw_lv [1, 2, 3, 4, 0] rfl ?_
          exact ih8 (i + 1) (upd aw (i + 1) (nI 0)) (by omega) (by omega) (up_ext hw (by simp [dI, h24]))
  refine cw_eq (σ' := up2 σ 4 (σ 4)) ((up2_self σ 4).symm) ?_
  refine cw_lv [2, 3, 4, 1, 0] rfl ?_
  exact L8 8 0 (σ 4) (by omega) (by omega) (fun k k1 k2 => absurd k2 (by omega))
