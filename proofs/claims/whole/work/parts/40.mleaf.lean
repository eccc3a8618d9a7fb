set_option maxHeartbeats 4000000 in
set_option maxRecDepth 100000 in
theorem c_X7_in (l : Launch) (D : va_G) (Z : CZ) (A : Nat → Nat) (σ : St)  (v : Int32) (a : Int32) (b : Int32)  : CTz l yX7_in wsX7_in 0 0 D Z (wM Z A) σ [.int (v), .int (a), .int (b)] (fun z σ' => z = withinB v a b ∧ σ' = σ) := by
  refine CTz.mk (cc := cX7_in) (nL := 3) (own := RX7) rfl (by decide) rfl (Nat.le_of_ble_eq_true rfl) ?_
  intro p0 e0 s0 m0 g0 b0 t0 c0 A0 Q C hret
  refine cw_lv (lv' := [(0, .int (v)), (1, .int (a)), (2, .int (b))]) [0, 1, 2] rfl ?_
  refine cw_iload_n (pc := 0) C dX7_in_0 rfl 0 rfl ?_
  refine cw_iload_n (pc := 1) C dX7_in_1 rfl 1 rfl ?_
  refine cw_icmp_lt (pc := 2) (tgt := 14) C dX7_in_2 (by decide) (fun h2 => ?_) (fun h2 => ?_)
  · -- 2 t
    refine cw_iconst (pc := 14) C dX7_in_14 (nI 0) (by decide) ?_
    refine hret false σ _ _ dX7_in_15 ?_
    clear hret
    exact ⟨by simp_all [withinB], rfl⟩
  · -- 2 f
    refine cw_iload_n (pc := 5) C dX7_in_5 rfl 0 rfl ?_
    refine cw_iload_n (pc := 6) C dX7_in_6 rfl 2 rfl ?_
    refine cw_icmp_gt (pc := 7) (tgt := 14) C dX7_in_7 (by decide) (fun h7 => ?_) (fun h7 => ?_)
    · -- 7 t
      refine cw_iconst (pc := 14) C dX7_in_14 (nI 0) (by decide) ?_
      refine hret false σ _ _ dX7_in_15 ?_
      clear hret
      exact ⟨by simp_all [withinB], rfl⟩
    · -- 7 f
      refine cw_iconst (pc := 10) C dX7_in_10 (nI 1) (by decide) ?_
      refine cw_goto (pc := 11) (tgt := 15) C dX7_in_11 (by decide) ?_
      refine hret true σ _ _ dX7_in_15 ?_
      clear hret
      exact ⟨by simp_all [withinB], rfl⟩
set_option maxHeartbeats 4000000 in
set_option maxRecDepth 100000 in
theorem c_X7_isGear (l : Launch) (D : va_G) (Z : CZ) (A : Nat → Nat) (σ : St)  (g : Int32)  : CTz l yX7_isGear wsX7_isGear 1 22 D Z (wM Z A) σ [.int (g)] (fun z σ' => z = gearB g ∧ σ' = σ) := by
  refine CTz.mk (cc := cX7_isGear) (nL := 1) (own := RX7) rfl (by decide) rfl (Nat.le_of_ble_eq_true rfl) ?_
  intro p0 e0 s0 m0 g0 b0 t0 c0 A0 Q C hret
  refine cw_lv (lv' := [(0, .int (g))]) [0] rfl ?_
  refine cw_iload_n (pc := 0) C dX7_isGear_0 rfl 0 rfl ?_
  refine cw_iconst (pc := 1) C dX7_isGear_1 (nI 1) (by decide) ?_
  refine cw_bipush (pc := 2) C dX7_isGear_2 (nI 7) (by decide) ?_
  refine cw_calls (pc := 4) C dX7_isGear_4 (c_X7_in l D Z A σ g (nI 1) (nI 7)) (va_cwS 3 C.1.2.2.2.2 gX7_isGear_X7_in rfl rfl rfl (by decide +kernel) ⟨Nat.le_of_ble_eq_true rfl, Nat.le_of_ble_eq_true rfl⟩) rfl rfl (Nat.le_of_ble_eq_true rfl) (cw_purez (b := withinB g (nI 1) (nI 7)) (fun _ _ h => h) ?_)
  refine hret (withinB g (nI 1) (nI 7)) σ _ _ dX7_isGear_7 ?_
  clear hret
  exact ⟨rfl, rfl⟩
set_option maxHeartbeats 4000000 in
set_option maxRecDepth 100000 in
theorem c_X7_isClutch (l : Launch) (D : va_G) (Z : CZ) (A : Nat → Nat) (σ : St)  (k : Int32)  : CTz l yX7_isClutch wsX7_isClutch 1 22 D Z (wM Z A) σ [.int (k)] (fun z σ' => z = clB k ∧ σ' = σ) := by
  refine CTz.mk (cc := cX7_isClutch) (nL := 1) (own := RX7) rfl (by decide) rfl (Nat.le_of_ble_eq_true rfl) ?_
  intro p0 e0 s0 m0 g0 b0 t0 c0 A0 Q C hret
  refine cw_lv (lv' := [(0, .int (k))]) [0] rfl ?_
  refine cw_iload_n (pc := 0) C dX7_isClutch_0 rfl 0 rfl ?_
  refine cw_iconst (pc := 1) C dX7_isClutch_1 (nI 0) (by decide) ?_
  refine cw_iconst (pc := 2) C dX7_isClutch_2 (nI 4) (by decide) ?_
  refine cw_calls (pc := 3) C dX7_isClutch_3 (c_X7_in l D Z A σ k (nI 0) (nI 4)) (va_cwS 3 C.1.2.2.2.2 gX7_isClutch_X7_in rfl rfl rfl (by decide +kernel) ⟨Nat.le_of_ble_eq_true rfl, Nat.le_of_ble_eq_true rfl⟩) rfl rfl (Nat.le_of_ble_eq_true rfl) (cw_purez (b := withinB k (nI 0) (nI 4)) (fun _ _ h => h) ?_)
  refine hret (withinB k (nI 0) (nI 4)) σ _ _ dX7_isClutch_6 ?_
  clear hret
  exact ⟨clB_in k, rfl⟩
set_option maxHeartbeats 4000000 in
set_option maxRecDepth 100000 in
theorem c_X7_refuse0 (l : Launch) (D : va_G) (Z : CZ) (A : Nat → Nat) (σ : St)    : CTi l yX7_refuse wsX7_refuse 0 0 D Z (wM Z A) σ [.ref (A 0), .int ((-2))] (fun r σ' => r = (-2) ∧ σ' = up2 σ 4 (upd (σ 4) 0 (σ 4 0 + nI 1))) := by
  refine CTi.mk (cc := cX7_refuse) (nL := 2) (own := RX7) rfl (by decide) rfl (Nat.le_of_ble_eq_true rfl) ?_
  intro p0 e0 s0 m0 g0 b0 t0 c0 A0 Q C hret
  refine cw_lv (lv' := [(0, .ref (A 0)), (1, .int ((-2)))]) [0, 1] rfl ?_
  refine cw_aload_n (pc := 0) C dX7_refuse_0 rfl 0 rfl ?_
  refine cw_get (pc := 1) C dX7_refuse_1 0 (v := .ref (A 4)) rfl rfl 4 rfl (fun _ h => List.mem_cons_of_mem _ (List.mem_append_right _ h)) (by decide) (List.mem_of_getElem? (i := 1) rfl) ?_
  refine cw_bipush (pc := 4) C dX7_refuse_4 (-2) (by decide) ?_
  refine cw_iload_n (pc := 6) C dX7_refuse_6 rfl 1 rfl ?_
  refine cw_isub (pc := 7) C dX7_refuse_7 (z := nI 0) (by decide) ?_
  refine cw_dup2 (pc := 8) C dX7_refuse_8 rfl rfl ?_
  refine cw_iald2 (pc := 9) C dX7_refuse_9 4 4 (wM_g4 Z A) (f := σ 4) rfl 0 rfl (by decide) (by decide) ?_
  refine cw_iconst (pc := 10) C dX7_refuse_10 (nI 1) (by decide) ?_
  refine cw_iadd (pc := 11) C dX7_refuse_11 (z := (σ 4 0) + (nI 1)) rfl ?_
  refine cw_iast2 (pc := 12) C dX7_refuse_12 4 4 (wM_g4 Z A) (wM_s4 Z A) (f := σ 4) rfl 0 rfl (by decide) (by decide) (up2 σ 4 (upd (σ 4) 0 ((σ 4 0) + (nI 1)))) rfl ?_
  refine cw_iload_n (pc := 13) C dX7_refuse_13 rfl 1 rfl ?_
  refine hret (-2) (up2 σ 4 (upd (σ 4) 0 ((σ 4 0) + (nI 1)))) _ _ dX7_refuse_14 ?_
  clear hret
  exact ⟨rfl, rfl⟩
set_option maxHeartbeats 4000000 in
set_option maxRecDepth 100000 in
theorem c_X7_refuse1 (l : Launch) (D : va_G) (Z : CZ) (A : Nat → Nat) (σ : St)    : CTi l yX7_refuse wsX7_refuse 0 0 D Z (wM Z A) σ [.ref (A 0), .int ((-3))] (fun r σ' => r = (-3) ∧ σ' = up2 σ 4 (upd (σ 4) 1 (σ 4 1 + nI 1))) := by
  refine CTi.mk (cc := cX7_refuse) (nL := 2) (own := RX7) rfl (by decide) rfl (Nat.le_of_ble_eq_true rfl) ?_
  intro p0 e0 s0 m0 g0 b0 t0 c0 A0 Q C hret
  refine cw_lv (lv' := [(0, .ref (A 0)), (1, .int ((-3)))]) [0, 1] rfl ?_
  refine cw_aload_n (pc := 0) C dX7_refuse_0 rfl 0 rfl ?_
  refine cw_get (pc := 1) C dX7_refuse_1 0 (v := .ref (A 4)) rfl rfl 4 rfl (fun _ h => List.mem_cons_of_mem _ (List.mem_append_right _ h)) (by decide) (List.mem_of_getElem? (i := 1) rfl) ?_
  refine cw_bipush (pc := 4) C dX7_refuse_4 (-2) (by decide) ?_
  refine cw_iload_n (pc := 6) C dX7_refuse_6 rfl 1 rfl ?_
  refine cw_isub (pc := 7) C dX7_refuse_7 (z := nI 1) (by decide) ?_
  refine cw_dup2 (pc := 8) C dX7_refuse_8 rfl rfl ?_
  refine cw_iald2 (pc := 9) C dX7_refuse_9 4 4 (wM_g4 Z A) (f := σ 4) rfl 1 rfl (by decide) (by decide) ?_
  refine cw_iconst (pc := 10) C dX7_refuse_10 (nI 1) (by decide) ?_
  refine cw_iadd (pc := 11) C dX7_refuse_11 (z := (σ 4 1) + (nI 1)) rfl ?_
  refine cw_iast2 (pc := 12) C dX7_refuse_12 4 4 (wM_g4 Z A) (wM_s4 Z A) (f := σ 4) rfl 1 rfl (by decide) (by decide) (up2 σ 4 (upd (σ 4) 1 ((σ 4 1) + (nI 1)))) rfl ?_
  refine cw_iload_n (pc := 13) C dX7_refuse_13 rfl 1 rfl ?_
  refine hret (-3) (up2 σ 4 (upd (σ 4) 1 ((σ 4 1) + (nI 1)))) _ _ dX7_refuse_14 ?_
  clear hret
  exact ⟨rfl, rfl⟩
set_option maxHeartbeats 4000000 in
set_option maxRecDepth 100000 in
theorem c_X7_refuse2 (l : Launch) (D : va_G) (Z : CZ) (A : Nat → Nat) (σ : St)    : CTi l yX7_refuse wsX7_refuse 0 0 D Z (wM Z A) σ [.ref (A 0), .int ((-4))] (fun r σ' => r = (-4) ∧ σ' = up2 σ 4 (upd (σ 4) 2 (σ 4 2 + nI 1))) := by
  refine CTi.mk (cc := cX7_refuse) (nL := 2) (own := RX7) rfl (by decide) rfl (Nat.le_of_ble_eq_true rfl) ?_
  intro p0 e0 s0 m0 g0 b0 t0 c0 A0 Q C hret
  refine cw_lv (lv' := [(0, .ref (A 0)), (1, .int ((-4)))]) [0, 1] rfl ?_
  refine cw_aload_n (pc := 0) C dX7_refuse_0 rfl 0 rfl ?_
  refine cw_get (pc := 1) C dX7_refuse_1 0 (v := .ref (A 4)) rfl rfl 4 rfl (fun _ h => List.mem_cons_of_mem _ (List.mem_append_right _ h)) (by decide) (List.mem_of_getElem? (i := 1) rfl) ?_
  refine cw_bipush (pc := 4) C dX7_refuse_4 (-2) (by decide) ?_
  refine cw_iload_n (pc := 6) C dX7_refuse_6 rfl 1 rfl ?_
  refine cw_isub (pc := 7) C dX7_refuse_7 (z := nI 2) (by decide) ?_
  refine cw_dup2 (pc := 8) C dX7_refuse_8 rfl rfl ?_
  refine cw_iald2 (pc := 9) C dX7_refuse_9 4 4 (wM_g4 Z A) (f := σ 4) rfl 2 rfl (by decide) (by decide) ?_
  refine cw_iconst (pc := 10) C dX7_refuse_10 (nI 1) (by decide) ?_
  refine cw_iadd (pc := 11) C dX7_refuse_11 (z := (σ 4 2) + (nI 1)) rfl ?_
  refine cw_iast2 (pc := 12) C dX7_refuse_12 4 4 (wM_g4 Z A) (wM_s4 Z A) (f := σ 4) rfl 2 rfl (by decide) (by decide) (up2 σ 4 (upd (σ 4) 2 ((σ 4 2) + (nI 1)))) rfl ?_
  refine cw_iload_n (pc := 13) C dX7_refuse_13 rfl 1 rfl ?_
  refine hret (-4) (up2 σ 4 (upd (σ 4) 2 ((σ 4 2) + (nI 1)))) _ _ dX7_refuse_14 ?_
  clear hret
  exact ⟨rfl, rfl⟩
set_option maxHeartbeats 4000000 in
set_option maxRecDepth 100000 in
theorem c_X7_change (l : Launch) (D : va_G) (Z : CZ) (A : Nat → Nat) (σ : St)  (j : Nat) (v : Int32) (hj : j < 51) : CTi l yX7_change wsX7_change 0 0 D Z (wM Z A) σ [.ref (A 0), .int (nI j), .int (v)] (fun r σ' => r = σ 1 j ∧ σ' = up2 σ 1 (upd (σ 1) j v)) := by
  refine CTi.mk (cc := cX7_change) (nL := 4) (own := RX7) rfl (by decide) rfl (Nat.le_of_ble_eq_true rfl) ?_
  intro p0 e0 s0 m0 g0 b0 t0 c0 A0 Q C hret
  refine cw_lv (lv' := [(0, .ref (A 0)), (1, .int (nI j)), (2, .int (v))]) [0, 1, 2] rfl ?_
  refine cw_aload_n (pc := 0) C dX7_change_0 rfl 0 rfl ?_
  refine cw_get (pc := 1) C dX7_change_1 0 (v := .ref (A 1)) rfl rfl 0 rfl (fun _ h => List.mem_cons_of_mem _ (List.mem_append_right _ h)) (by decide) (List.mem_of_getElem? (i := 1) rfl) ?_
  refine cw_iload_n (pc := 4) C dX7_change_4 rfl 1 rfl ?_
  refine cw_iald2 (pc := 5) C dX7_change_5 1 1 (wM_g1 Z A) (f := σ 1) rfl j rfl (by omega) (by decide) ?_
  refine cw_istore_n (pc := 6) C dX7_change_6 rfl (by decide) (lv' := [(3, .int (σ 1 j)), (0, .ref (A 0)), (1, .int (nI j)), (2, .int (v))]) rfl ?_
  refine cw_aload_n (pc := 7) C dX7_change_7 rfl 1 rfl ?_
  refine cw_get (pc := 8) C dX7_change_8 0 (v := .ref (A 1)) rfl rfl 0 rfl (fun _ h => List.mem_cons_of_mem _ (List.mem_append_right _ h)) (by decide) (List.mem_of_getElem? (i := 1) rfl) ?_
  refine cw_iload_n (pc := 11) C dX7_change_11 rfl 2 rfl ?_
  refine cw_iload_n (pc := 12) C dX7_change_12 rfl 3 rfl ?_
  refine cw_iast2 (pc := 13) C dX7_change_13 1 1 (wM_g1 Z A) (wM_s1 Z A) (f := σ 1) rfl j rfl (by omega) (by decide) (up2 σ 1 (upd (σ 1) j v)) rfl ?_
  refine cw_iload_n (pc := 14) C dX7_change_14 rfl 0 rfl ?_
  refine hret (σ 1 j) (up2 σ 1 (upd (σ 1) j v)) _ _ dX7_change_15 ?_
  clear hret
  exact ⟨rfl, rfl⟩
set_option maxHeartbeats 4000000 in
set_option maxRecDepth 100000 in
theorem c_X7_ones (l : Launch) (D : va_G) (Z : CZ) (A : Nat → Nat) (σ : St)  (x : Int32)  : CTi l yX7_ones wsX7_ones 0 0 D Z (wM Z A) σ [.int (x)] (fun r σ' => r = onesS x ∧ σ' = σ) := by
  refine CTi.mk (cc := cX7_ones) (nL := 3) (own := RX7) rfl (by decide) rfl (Nat.le_of_ble_eq_true rfl) ?_
  intro p0 e0 s0 m0 g0 b0 t0 c0 A0 Q C hret
  refine cw_lv (lv' := [(0, .int (x))]) [0] rfl ?_
  refine cw_iconst (pc := 0) C dX7_ones_0 (nI 0) (by decide) ?_
  refine cw_istore_n (pc := 1) C dX7_ones_1 rfl (by decide) (lv' := [(1, .int (nI 0)), (0, .int (x))]) rfl ?_
  refine cw_iconst (pc := 2) C dX7_ones_2 (nI 0) (by decide) ?_
  refine cw_istore_n (pc := 3) C dX7_ones_3 rfl (by decide) (lv' := [(2, .int (nI 0)), (1, .int (nI 0)), (0, .int (x))]) rfl ?_
  have L4 : ∀ (n4 : Nat) (i : Nat) (acc : Int32) (hi : i ≤ 5) (hm : 5 < i + n4) (ha : acc = sumI (sbit x) i), CW p0 l e0 (rmC 0 0) s0 m0 g0 b0 t0 c0 D A0 3 (wM Z A) Q σ 4 [(0, .int (x)), (1, .int (acc)), (2, .int (nI i))] [] := by
    intro n4
    induction n4 with
    | zero => intro i acc hi hm ha; exact absurd hm (by omega)
    | succ n4 ih4 =>
      intro i acc hi hm ha
      refine cw_iload_n (pc := 4) C dX7_ones_4 rfl 2 rfl ?_
      refine cw_iconst (pc := 5) C dX7_ones_5 (nI 5) (by decide) ?_
      refine cw_icmp_ge (pc := 6) (tgt := 23) C dX7_ones_6 (by decide) (fun h6 => ?_) (fun h6 => ?_)
      · -- 6 t
        have h6 : 5 ≤ i := (nc_ge (a := i) (b := 5) (by omega) (by omega)).mp h6
        obtain rfl : i = 5 := by omega
        refine cw_iload_n (pc := 23) C dX7_ones_23 rfl 1 rfl ?_
        refine hret acc σ _ _ dX7_ones_24 ?_
        clear hret
        exact ⟨ha, rfl⟩
      · -- 6 f
        have h6 : ¬ (5 ≤ i) := fun qq => h6 ((nc_ge (a := i) (b := 5) (by omega) (by omega)).mpr qq)
        refine cw_iload_n (pc := 9) C dX7_ones_9 rfl 1 rfl ?_
        refine cw_iload_n (pc := 10) C dX7_ones_10 rfl 0 rfl ?_
        refine cw_iload_n (pc := 11) C dX7_ones_11 rfl 2 rfl ?_
        refine cw_ishr (pc := 12) C dX7_ones_12 (z := x >>> ((nI i) &&& 31)) rfl ?_
        refine cw_iconst (pc := 13) C dX7_ones_13 (nI 1) (by decide) ?_
        refine cw_iand (pc := 14) C dX7_ones_14 (z := (x >>> ((nI i) &&& 31)) &&& (nI 1)) rfl ?_
        refine cw_iadd (pc := 15) C dX7_ones_15 (z := acc + ((x >>> ((nI i) &&& 31)) &&& (nI 1))) rfl ?_
        refine cw_istore_n (pc := 16) C dX7_ones_16 rfl (by decide) (lv' := [(1, .int (acc + ((x >>> ((nI i) &&& 31)) &&& (nI 1)))), (0, .int (x)), (2, .int (nI i))]) rfl ?_
        refine cw_iinc (pc := 17) C dX7_ones_17 2 rfl (nI (i + 1)) (nI_inc _ 1) (by decide) (lv' := [(2, .int (nI (i + 1))), (1, .int (acc + ((x >>> ((nI i) &&& 31)) &&& (nI 1)))), (0, .int (x))]) rfl ?_
        refine cw_goto (pc := 20) (tgt := 4) C dX7_ones_20 (by decide) ?_
        refine cw_lv [2, 1, 0] rfl ?_
        exact ih4 (i + 1) (acc + ((x >>> ((nI i) &&& 31)) &&& (nI 1))) (by omega) (by omega) (by rw [sumI, ha]; rfl)
  refine cw_lv [2, 1, 0] rfl ?_
  exact L4 6 0 (nI 0) (by omega) (by omega) rfl
set_option maxHeartbeats 4000000 in
set_option maxRecDepth 100000 in
theorem c_X7_isFit (l : Launch) (D : va_G) (Z : CZ) (A : Nat → Nat) (σ : St) (X : Nat → Int32)  (g : Nat) (hT : σ 1 = mrow X) (hg1 : 1 ≤ g) (hg : g ≤ 7) : CTz l yX7_isFit wsX7_isFit 0 0 D Z (wM Z A) σ [.ref (A 0), .int (nI g)] (fun z σ' => z = fitN X g ∧ σ' = σ) := by
  refine CTz.mk (cc := cX7_isFit) (nL := 6) (own := RX7) rfl (by decide) rfl (Nat.le_of_ble_eq_true rfl) ?_
  intro p0 e0 s0 m0 g0 b0 t0 c0 A0 Q C hret
  refine cw_lv (lv' := [(0, .ref (A 0)), (1, .int (nI g))]) [0, 1] rfl ?_
  refine cw_aload_n (pc := 0) C dX7_isFit_0 rfl 0 rfl ?_
  refine cw_get (pc := 1) C dX7_isFit_1 0 (v := .ref (A 1)) rfl rfl 0 rfl (fun _ h => List.mem_cons_of_mem _ (List.mem_append_right _ h)) (by decide) (List.mem_of_getElem? (i := 1) rfl) ?_
  refine cw_iconst (pc := 4) C dX7_isFit_4 (nI 0) (by decide) ?_
  refine cw_iload_n (pc := 5) C dX7_isFit_5 rfl 1 rfl ?_
  refine cw_iadd (pc := 6) C dX7_isFit_6 (z := nI g) (nI_0add _) ?_
  refine cw_iald2 (pc := 7) C dX7_isFit_7 1 1 (wM_g1 Z A) (f := σ 1) rfl g rfl (by omega) (by decide) ?_
  refine cw_top (X g) (mr hT (by omega) (by omega) (pm_se (by omega))) ?_
  refine cw_istore_n (pc := 8) C dX7_isFit_8 rfl (by decide) (lv' := [(2, .int (X g)), (0, .ref (A 0)), (1, .int (nI g))]) rfl ?_
  refine cw_iload_n (pc := 9) C dX7_isFit_9 rfl 0 rfl ?_
  refine cw_if_eq (pc := 10) (tgt := 17) C dX7_isFit_10 (by decide) (fun h10 => ?_) (fun h10 => ?_)
  · -- 10 t
    refine cw_iconst (pc := 17) C dX7_isFit_17 (nI 0) (by decide) ?_
    refine cw_istore_n (pc := 18) C dX7_isFit_18 rfl (by decide) (lv' := [(3, .int (nI 0)), (2, .int (X g)), (0, .ref (A 0)), (1, .int (nI g))]) rfl ?_
    refine cw_iconst (pc := 19) C dX7_isFit_19 (nI 0) (by decide) ?_
    refine cw_istore (pc := 20) C dX7_isFit_20 (by decide) (lv' := [(4, .int (nI 0)), (3, .int (nI 0)), (2, .int (X g)), (0, .ref (A 0)), (1, .int (nI g))]) rfl ?_
    have L22 : ∀ (n22 : Nat) (c : Nat) (is : Bool) (hc : c ≤ 5) (hm : 5 < c + n22) (ha : is = (!(decide (X g = 0)) && allB (okB (X g) (stC X)) c)), CW p0 l e0 (rmC 0 0) s0 m0 g0 b0 t0 c0 D A0 6 (wM Z A) Q σ 22 [(0, .ref (A 0)), (1, .int (nI g)), (2, .int (X g)), (3, .int (bI is)), (4, .int (nI c))] [] := by
      intro n22
      induction n22 with
      | zero => intro c is hc hm ha; exact absurd hm (by omega)
      | succ n22 ih22 =>
        intro c is hc hm ha
        refine cw_iload (pc := 22) C dX7_isFit_22 4 rfl ?_
        refine cw_iconst (pc := 24) C dX7_isFit_24 (nI 5) (by decide) ?_
        refine cw_icmp_ge (pc := 25) (tgt := 99) C dX7_isFit_25 (by decide) (fun h25 => ?_) (fun h25 => ?_)
        · -- 25 t
          have h25 : 5 ≤ c := (nc_ge (a := c) (b := 5) (by omega) (by omega)).mp h25
          obtain rfl : c = 5 := by omega
          refine cw_iload_n (pc := 99) C dX7_isFit_99 rfl 3 rfl ?_
          refine hret is σ _ _ dX7_isFit_100 ?_
          clear hret
          exact ⟨by rw [fitN_in hg1 hg, fitS]; exact ha, rfl⟩
        · -- 25 f
          have h25 : ¬ (5 ≤ c) := fun qq => h25 ((nc_ge (a := c) (b := 5) (by omega) (by omega)).mpr qq)
          refine cw_iload_n (pc := 28) C dX7_isFit_28 rfl 2 rfl ?_
          refine cw_iload (pc := 29) C dX7_isFit_29 4 rfl ?_
          refine cw_ishr (pc := 31) C dX7_isFit_31 (z := (X g) >>> ((nI c) &&& 31)) rfl ?_
          refine cw_iconst (pc := 32) C dX7_isFit_32 (nI 1) (by decide) ?_
          refine cw_iand (pc := 33) C dX7_isFit_33 (z := ((X g) >>> ((nI c) &&& 31)) &&& (nI 1)) rfl ?_
          refine cw_iconst (pc := 34) C dX7_isFit_34 (nI 1) (by decide) ?_
          refine cw_icmp_ne (pc := 35) (tgt := 42) C dX7_isFit_35 (by decide) (fun h35 => ?_) (fun h35 => ?_)
          · -- 35 t
            refine cw_iconst (pc := 42) C dX7_isFit_42 (nI 0) (by decide) ?_
            refine cw_istore (pc := 43) C dX7_isFit_43 (by decide) (lv' := [(5, .int (nI 0)), (0, .ref (A 0)), (1, .int (nI g)), (2, .int (X g)), (3, .int (bI is)), (4, .int (nI c))]) rfl ?_
            refine cw_iload_n (pc := 45) C dX7_isFit_45 rfl 4 rfl ?_
            refine cw_if_eq (pc := 46) (tgt := 91) C dX7_isFit_46 (by decide) (fun h46 => ?_) (fun h46 => ?_)
            · -- 46 t
              have h46 := bI_z h46
              refine cw_iconst (pc := 91) C dX7_isFit_91 (nI 0) (by decide) ?_
              refine cw_istore_n (pc := 92) C dX7_isFit_92 rfl (by decide) (lv' := [(3, .int (nI 0)), (5, .int (nI 0)), (0, .ref (A 0)), (1, .int (nI g)), (2, .int (X g)), (4, .int (nI c))]) rfl ?_
              refine cw_iinc (pc := 93) C dX7_isFit_93 5 rfl (nI (c + 1)) (nI_inc _ 1) (by decide) (lv' := [(4, .int (nI (c + 1))), (3, .int (nI 0)), (5, .int (nI 0)), (0, .ref (A 0)), (1, .int (nI g)), (2, .int (X g))]) rfl ?_
              refine cw_goto (pc := 96) (tgt := 22) C dX7_isFit_96 (by decide) ?_
              refine cw_lv [3, 4, 5, 1, 0] rfl ?_
              exact ih22 (c + 1) false (by omega) (by omega) (by rw [allB, ← Bool.and_assoc, ← ha]; simp_all [okB, sbit, stC])
            · -- 46 f
              have h46 := bI_nz h46
              refine cw_iload (pc := 49) C dX7_isFit_49 0 rfl ?_
              refine cw_if_eq (pc := 51) (tgt := 68) C dX7_isFit_51 (by decide) (fun _ => ?_) (fun h => False.elim (by revert h; decide))
              refine cw_iload (pc := 68) C dX7_isFit_68 0 rfl ?_
              refine cw_if_ne (pc := 70) (tgt := 87) C dX7_isFit_70 (by decide) (fun h => False.elim (by revert h; decide)) (fun _ => ?_)
              refine cw_aload_n (pc := 73) C dX7_isFit_73 rfl 1 rfl ?_
              refine cw_get (pc := 74) C dX7_isFit_74 0 (v := .ref (A 1)) rfl rfl 0 rfl (fun _ h => List.mem_cons_of_mem _ (List.mem_append_right _ h)) (by decide) (List.mem_of_getElem? (i := 1) rfl) ?_
              refine cw_bipush (pc := 77) C dX7_isFit_77 (nI 8) (by decide) ?_
              refine cw_iload (pc := 79) C dX7_isFit_79 5 rfl ?_
              refine cw_iadd (pc := 81) C dX7_isFit_81 (z := nI (8 + c)) (nI_add _ _) ?_
              refine cw_iald2 (pc := 82) C dX7_isFit_82 1 1 (wM_g1 Z A) (f := σ 1) rfl (8 + c) rfl (by omega) (by decide) ?_
              refine cw_top (X (24 + c)) (mr hT (by omega) (by omega) (pm_st (by omega))) ?_
              refine cw_iconst (pc := 83) C dX7_isFit_83 (nI 2) (by decide) ?_
              refine cw_icmp_eq (pc := 84) (tgt := 91) C dX7_isFit_84 (by decide) (fun h84 => ?_) (fun h84 => ?_)
              · -- 84 t
                refine cw_iconst (pc := 91) C dX7_isFit_91 (nI 0) (by decide) ?_
                refine cw_istore_n (pc := 92) C dX7_isFit_92 rfl (by decide) (lv' := [(3, .int (nI 0)), (5, .int (nI 0)), (0, .ref (A 0)), (1, .int (nI g)), (2, .int (X g)), (4, .int (nI c))]) rfl ?_
                refine cw_iinc (pc := 93) C dX7_isFit_93 5 rfl (nI (c + 1)) (nI_inc _ 1) (by decide) (lv' := [(4, .int (nI (c + 1))), (3, .int (nI 0)), (5, .int (nI 0)), (0, .ref (A 0)), (1, .int (nI g)), (2, .int (X g))]) rfl ?_
                refine cw_goto (pc := 96) (tgt := 22) C dX7_isFit_96 (by decide) ?_
                refine cw_lv [3, 4, 5, 1, 0] rfl ?_
                exact ih22 (c + 1) false (by omega) (by omega) (by rw [allB, ← Bool.and_assoc, ← ha]; simp_all [okB, sbit, stC])
              · -- 84 f
                refine cw_iconst (pc := 87) C dX7_isFit_87 (nI 1) (by decide) ?_
                refine cw_goto (pc := 88) (tgt := 92) C dX7_isFit_88 (by decide) ?_
                refine cw_istore_n (pc := 92) C dX7_isFit_92 rfl (by decide) (lv' := [(3, .int (nI 1)), (5, .int (nI 0)), (0, .ref (A 0)), (1, .int (nI g)), (2, .int (X g)), (4, .int (nI c))]) rfl ?_
                refine cw_iinc (pc := 93) C dX7_isFit_93 5 rfl (nI (c + 1)) (nI_inc _ 1) (by decide) (lv' := [(4, .int (nI (c + 1))), (3, .int (nI 1)), (5, .int (nI 0)), (0, .ref (A 0)), (1, .int (nI g)), (2, .int (X g))]) rfl ?_
                refine cw_goto (pc := 96) (tgt := 22) C dX7_isFit_96 (by decide) ?_
                refine cw_lv [3, 4, 5, 1, 0] rfl ?_
                exact ih22 (c + 1) true (by omega) (by omega) (by rw [allB, ← Bool.and_assoc, ← ha]; simp_all [okB, sbit, stC])
          · -- 35 f
            refine cw_iconst (pc := 38) C dX7_isFit_38 (nI 1) (by decide) ?_
            refine cw_goto (pc := 39) (tgt := 43) C dX7_isFit_39 (by decide) ?_
            refine cw_istore (pc := 43) C dX7_isFit_43 (by decide) (lv' := [(5, .int (nI 1)), (0, .ref (A 0)), (1, .int (nI g)), (2, .int (X g)), (3, .int (bI is)), (4, .int (nI c))]) rfl ?_
            refine cw_iload_n (pc := 45) C dX7_isFit_45 rfl 4 rfl ?_
            refine cw_if_eq (pc := 46) (tgt := 91) C dX7_isFit_46 (by decide) (fun h46 => ?_) (fun h46 => ?_)
            · -- 46 t
              have h46 := bI_z h46
              refine cw_iconst (pc := 91) C dX7_isFit_91 (nI 0) (by decide) ?_
              refine cw_istore_n (pc := 92) C dX7_isFit_92 rfl (by decide) (lv' := [(3, .int (nI 0)), (5, .int (nI 1)), (0, .ref (A 0)), (1, .int (nI g)), (2, .int (X g)), (4, .int (nI c))]) rfl ?_
              refine cw_iinc (pc := 93) C dX7_isFit_93 5 rfl (nI (c + 1)) (nI_inc _ 1) (by decide) (lv' := [(4, .int (nI (c + 1))), (3, .int (nI 0)), (5, .int (nI 1)), (0, .ref (A 0)), (1, .int (nI g)), (2, .int (X g))]) rfl ?_
              refine cw_goto (pc := 96) (tgt := 22) C dX7_isFit_96 (by decide) ?_
              refine cw_lv [3, 4, 5, 1, 0] rfl ?_
              exact ih22 (c + 1) false (by omega) (by omega) (by rw [allB, ← Bool.and_assoc, ← ha]; simp_all [okB, sbit, stC])
            · -- 46 f
              have h46 := bI_nz h46
              refine cw_iload (pc := 49) C dX7_isFit_49 0 rfl ?_
              refine cw_if_eq (pc := 51) (tgt := 68) C dX7_isFit_51 (by decide) (fun h => False.elim (by revert h; decide)) (fun _ => ?_)
              refine cw_aload_n (pc := 54) C dX7_isFit_54 rfl 1 rfl ?_
              refine cw_get (pc := 55) C dX7_isFit_55 0 (v := .ref (A 1)) rfl rfl 0 rfl (fun _ h => List.mem_cons_of_mem _ (List.mem_append_right _ h)) (by decide) (List.mem_of_getElem? (i := 1) rfl) ?_
              refine cw_bipush (pc := 58) C dX7_isFit_58 (nI 8) (by decide) ?_
              refine cw_iload (pc := 60) C dX7_isFit_60 5 rfl ?_
              refine cw_iadd (pc := 62) C dX7_isFit_62 (z := nI (8 + c)) (nI_add _ _) ?_
              refine cw_iald2 (pc := 63) C dX7_isFit_63 1 1 (wM_g1 Z A) (f := σ 1) rfl (8 + c) rfl (by omega) (by decide) ?_
              refine cw_top (X (24 + c)) (mr hT (by omega) (by omega) (pm_st (by omega))) ?_
              refine cw_iconst (pc := 64) C dX7_isFit_64 (nI 1) (by decide) ?_
              refine cw_icmp_eq (pc := 65) (tgt := 91) C dX7_isFit_65 (by decide) (fun h65 => ?_) (fun h65 => ?_)
              · -- 65 t
                refine cw_iconst (pc := 91) C dX7_isFit_91 (nI 0) (by decide) ?_
                refine cw_istore_n (pc := 92) C dX7_isFit_92 rfl (by decide) (lv' := [(3, .int (nI 0)), (5, .int (nI 1)), (0, .ref (A 0)), (1, .int (nI g)), (2, .int (X g)), (4, .int (nI c))]) rfl ?_
                refine cw_iinc (pc := 93) C dX7_isFit_93 5 rfl (nI (c + 1)) (nI_inc _ 1) (by decide) (lv' := [(4, .int (nI (c + 1))), (3, .int (nI 0)), (5, .int (nI 1)), (0, .ref (A 0)), (1, .int (nI g)), (2, .int (X g))]) rfl ?_
                refine cw_goto (pc := 96) (tgt := 22) C dX7_isFit_96 (by decide) ?_
                refine cw_lv [3, 4, 5, 1, 0] rfl ?_
                exact ih22 (c + 1) false (by omega) (by omega) (by rw [allB, ← Bool.and_assoc, ← ha]; simp_all [okB, sbit, stC])
              · -- 65 f
                refine cw_iload (pc := 68) C dX7_isFit_68 0 rfl ?_
                refine cw_if_ne (pc := 70) (tgt := 87) C dX7_isFit_70 (by decide) (fun _ => ?_) (fun h => False.elim (by revert h; decide))
                refine cw_iconst (pc := 87) C dX7_isFit_87 (nI 1) (by decide) ?_
                refine cw_goto (pc := 88) (tgt := 92) C dX7_isFit_88 (by decide) ?_
                refine cw_istore_n (pc := 92) C dX7_isFit_92 rfl (by decide) (lv' := [(3, .int (nI 1)), (5, .int (nI 1)), (0, .ref (A 0)), (1, .int (nI g)), (2, .int (X g)), (4, .int (nI c))]) rfl ?_
                refine cw_iinc (pc := 93) C dX7_isFit_93 5 rfl (nI (c + 1)) (nI_inc _ 1) (by decide) (lv' := [(4, .int (nI (c + 1))), (3, .int (nI 1)), (5, .int (nI 1)), (0, .ref (A 0)), (1, .int (nI g)), (2, .int (X g))]) rfl ?_
                refine cw_goto (pc := 96) (tgt := 22) C dX7_isFit_96 (by decide) ?_
                refine cw_lv [3, 4, 5, 1, 0] rfl ?_
                exact ih22 (c + 1) true (by omega) (by omega) (by rw [allB, ← Bool.and_assoc, ← ha]; simp_all [okB, sbit, stC])
    refine cw_lv [3, 4, 2, 1, 0] rfl ?_
    exact L22 6 0 false (by omega) (by omega) (by simp [allB, h10])
  · -- 10 f
    refine cw_iconst (pc := 13) C dX7_isFit_13 (nI 1) (by decide) ?_
    refine cw_goto (pc := 14) (tgt := 18) C dX7_isFit_14 (by decide) ?_
    refine cw_istore_n (pc := 18) C dX7_isFit_18 rfl (by decide) (lv' := [(3, .int (nI 1)), (2, .int (X g)), (0, .ref (A 0)), (1, .int (nI g))]) rfl ?_
    refine cw_iconst (pc := 19) C dX7_isFit_19 (nI 0) (by decide) ?_
    refine cw_istore (pc := 20) C dX7_isFit_20 (by decide) (lv' := [(4, .int (nI 0)), (3, .int (nI 1)), (2, .int (X g)), (0, .ref (A 0)), (1, .int (nI g))]) rfl ?_
    have L22 : ∀ (n22 : Nat) (c : Nat) (is : Bool) (hc : c ≤ 5) (hm : 5 < c + n22) (ha : is = (!(decide (X g = 0)) && allB (okB (X g) (stC X)) c)), CW p0 l e0 (rmC 0 0) s0 m0 g0 b0 t0 c0 D A0 6 (wM Z A) Q σ 22 [(0, .ref (A 0)), (1, .int (nI g)), (2, .int (X g)), (3, .int (bI is)), (4, .int (nI c))] [] := by
      intro n22
      induction n22 with
      | zero => intro c is hc hm ha; exact absurd hm (by omega)
      | succ n22 ih22 =>
        intro c is hc hm ha
        refine cw_iload (pc := 22) C dX7_isFit_22 4 rfl ?_
        refine cw_iconst (pc := 24) C dX7_isFit_24 (nI 5) (by decide) ?_
        refine cw_icmp_ge (pc := 25) (tgt := 99) C dX7_isFit_25 (by decide) (fun h25 => ?_) (fun h25 => ?_)
        · -- 25 t
          have h25 : 5 ≤ c := (nc_ge (a := c) (b := 5) (by omega) (by omega)).mp h25
          obtain rfl : c = 5 := by omega
          refine cw_iload_n (pc := 99) C dX7_isFit_99 rfl 3 rfl ?_
          refine hret is σ _ _ dX7_isFit_100 ?_
          clear hret
          exact ⟨by rw [fitN_in hg1 hg, fitS]; exact ha, rfl⟩
        · -- 25 f
          have h25 : ¬ (5 ≤ c) := fun qq => h25 ((nc_ge (a := c) (b := 5) (by omega) (by omega)).mpr qq)
          refine cw_iload_n (pc := 28) C dX7_isFit_28 rfl 2 rfl ?_
          refine cw_iload (pc := 29) C dX7_isFit_29 4 rfl ?_
          refine cw_ishr (pc := 31) C dX7_isFit_31 (z := (X g) >>> ((nI c) &&& 31)) rfl ?_
          refine cw_iconst (pc := 32) C dX7_isFit_32 (nI 1) (by decide) ?_
          refine cw_iand (pc := 33) C dX7_isFit_33 (z := ((X g) >>> ((nI c) &&& 31)) &&& (nI 1)) rfl ?_
          refine cw_iconst (pc := 34) C dX7_isFit_34 (nI 1) (by decide) ?_
          refine cw_icmp_ne (pc := 35) (tgt := 42) C dX7_isFit_35 (by decide) (fun h35 => ?_) (fun h35 => ?_)
          · -- 35 t
            refine cw_iconst (pc := 42) C dX7_isFit_42 (nI 0) (by decide) ?_
            refine cw_istore (pc := 43) C dX7_isFit_43 (by decide) (lv' := [(5, .int (nI 0)), (0, .ref (A 0)), (1, .int (nI g)), (2, .int (X g)), (3, .int (bI is)), (4, .int (nI c))]) rfl ?_
            refine cw_iload_n (pc := 45) C dX7_isFit_45 rfl 4 rfl ?_
            refine cw_if_eq (pc := 46) (tgt := 91) C dX7_isFit_46 (by decide) (fun h46 => ?_) (fun h46 => ?_)
            · -- 46 t
              have h46 := bI_z h46
              refine cw_iconst (pc := 91) C dX7_isFit_91 (nI 0) (by decide) ?_
              refine cw_istore_n (pc := 92) C dX7_isFit_92 rfl (by decide) (lv' := [(3, .int (nI 0)), (5, .int (nI 0)), (0, .ref (A 0)), (1, .int (nI g)), (2, .int (X g)), (4, .int (nI c))]) rfl ?_
              refine cw_iinc (pc := 93) C dX7_isFit_93 5 rfl (nI (c + 1)) (nI_inc _ 1) (by decide) (lv' := [(4, .int (nI (c + 1))), (3, .int (nI 0)), (5, .int (nI 0)), (0, .ref (A 0)), (1, .int (nI g)), (2, .int (X g))]) rfl ?_
              refine cw_goto (pc := 96) (tgt := 22) C dX7_isFit_96 (by decide) ?_
              refine cw_lv [3, 4, 5, 1, 0] rfl ?_
              exact ih22 (c + 1) false (by omega) (by omega) (by rw [allB, ← Bool.and_assoc, ← ha]; simp_all [okB, sbit, stC])
            · -- 46 f
              have h46 := bI_nz h46
              refine cw_iload (pc := 49) C dX7_isFit_49 0 rfl ?_
              refine cw_if_eq (pc := 51) (tgt := 68) C dX7_isFit_51 (by decide) (fun _ => ?_) (fun h => False.elim (by revert h; decide))
              refine cw_iload (pc := 68) C dX7_isFit_68 0 rfl ?_
              refine cw_if_ne (pc := 70) (tgt := 87) C dX7_isFit_70 (by decide) (fun h => False.elim (by revert h; decide)) (fun _ => ?_)
              refine cw_aload_n (pc := 73) C dX7_isFit_73 rfl 1 rfl ?_
              refine cw_get (pc := 74) C dX7_isFit_74 0 (v := .ref (A 1)) rfl rfl 0 rfl (fun _ h => List.mem_cons_of_mem _ (List.mem_append_right _ h)) (by decide) (List.mem_of_getElem? (i := 1) rfl) ?_
              refine cw_bipush (pc := 77) C dX7_isFit_77 (nI 8) (by decide) ?_
              refine cw_iload (pc := 79) C dX7_isFit_79 5 rfl ?_
              refine cw_iadd (pc := 81) C dX7_isFit_81 (z := nI (8 + c)) (nI_add _ _) ?_
              refine cw_iald2 (pc := 82) C dX7_isFit_82 1 1 (wM_g1 Z A) (f := σ 1) rfl (8 + c) rfl (by omega) (by decide) ?_
              refine cw_top (X (24 + c)) (mr hT (by omega) (by omega) (pm_st (by omega))) ?_
              refine cw_iconst (pc := 83) C dX7_isFit_83 (nI 2) (by decide) ?_
              refine cw_icmp_eq (pc := 84) (tgt := 91) C dX7_isFit_84 (by decide) (fun h84 => ?_) (fun h84 => ?_)
              · -- 84 t
                refine cw_iconst (pc := 91) C dX7_isFit_91 (nI 0) (by decide) ?_
                refine cw_istore_n (pc := 92) C dX7_isFit_92 rfl (by decide) (lv' := [(3, .int (nI 0)), (5, .int (nI 0)), (0, .ref (A 0)), (1, .int (nI g)), (2, .int (X g)), (4, .int (nI c))]) rfl ?_
                refine cw_iinc (pc := 93) C dX7_isFit_93 5 rfl (nI (c + 1)) (nI_inc _ 1) (by decide) (lv' := [(4, .int (nI (c + 1))), (3, .int (nI 0)), (5, .int (nI 0)), (0, .ref (A 0)), (1, .int (nI g)), (2, .int (X g))]) rfl ?_
                refine cw_goto (pc := 96) (tgt := 22) C dX7_isFit_96 (by decide) ?_
                refine cw_lv [3, 4, 5, 1, 0] rfl ?_
                exact ih22 (c + 1) false (by omega) (by omega) (by rw [allB, ← Bool.and_assoc, ← ha]; simp_all [okB, sbit, stC])
              · -- 84 f
                refine cw_iconst (pc := 87) C dX7_isFit_87 (nI 1) (by decide) ?_
                refine cw_goto (pc := 88) (tgt := 92) C dX7_isFit_88 (by decide) ?_
                refine cw_istore_n (pc := 92) C dX7_isFit_92 rfl (by decide) (lv' := [(3, .int (nI 1)), (5, .int (nI 0)), (0, .ref (A 0)), (1, .int (nI g)), (2, .int (X g)), (4, .int (nI c))]) rfl ?_
                refine cw_iinc (pc := 93) C dX7_isFit_93 5 rfl (nI (c + 1)) (nI_inc _ 1) (by decide) (lv' := [(4, .int (nI (c + 1))), (3, .int (nI 1)), (5, .int (nI 0)), (0, .ref (A 0)), (1, .int (nI g)), (2, .int (X g))]) rfl ?_
                refine cw_goto (pc := 96) (tgt := 22) C dX7_isFit_96 (by decide) ?_
                refine cw_lv [3, 4, 5, 1, 0] rfl ?_
                exact ih22 (c + 1) true (by omega) (by omega) (by rw [allB, ← Bool.and_assoc, ← ha]; simp_all [okB, sbit, stC])
          · -- 35 f
            refine cw_iconst (pc := 38) C dX7_isFit_38 (nI 1) (by decide) ?_
            refine cw_goto (pc := 39) (tgt := 43) C dX7_isFit_39 (by decide) ?_
            refine cw_istore (pc := 43) C dX7_isFit_43 (by decide) (lv' := [(5, .int (nI 1)), (0, .ref (A 0)), (1, .int (nI g)), (2, .int (X g)), (3, .int (bI is)), (4, .int (nI c))]) rfl ?_
            refine cw_iload_n (pc := 45) C dX7_isFit_45 rfl 4 rfl ?_
            refine cw_if_eq (pc := 46) (tgt := 91) C dX7_isFit_46 (by decide) (fun h46 => ?_) (fun h46 => ?_)
            · -- 46 t
              have h46 := bI_z h46
              refine cw_iconst (pc := 91) C dX7_isFit_91 (nI 0) (by decide) ?_
              refine cw_istore_n (pc := 92) C dX7_isFit_92 rfl (by decide) (lv' := [(3, .int (nI 0)), (5, .int (nI 1)), (0, .ref (A 0)), (1, .int (nI g)), (2, .int (X g)), (4, .int (nI c))]) rfl ?_
              refine cw_iinc (pc := 93) C dX7_isFit_93 5 rfl (nI (c + 1)) (nI_inc _ 1) (by decide) (lv' := [(4, .int (nI (c + 1))), (3, .int (nI 0)), (5, .int (nI 1)), (0, .ref (A 0)), (1, .int (nI g)), (2, .int (X g))]) rfl ?_
              refine cw_goto (pc := 96) (tgt := 22) C dX7_isFit_96 (by decide) ?_
              refine cw_lv [3, 4, 5, 1, 0] rfl ?_
              exact ih22 (c + 1) false (by omega) (by omega) (by rw [allB, ← Bool.and_assoc, ← ha]; simp_all [okB, sbit, stC])
            · -- 46 f
              have h46 := bI_nz h46
              refine cw_iload (pc := 49) C dX7_isFit_49 0 rfl ?_
              refine cw_if_eq (pc := 51) (tgt := 68) C dX7_isFit_51 (by decide) (fun h => False.elim (by revert h; decide)) (fun _ => ?_)
              refine cw_aload_n (pc := 54) C dX7_isFit_54 rfl 1 rfl ?_
              refine cw_get (pc := 55) C dX7_isFit_55 0 (v := .ref (A 1)) rfl rfl 0 rfl (fun _ h => List.mem_cons_of_mem _ (List.mem_append_right _ h)) (by decide) (List.mem_of_getElem? (i := 1) rfl) ?_
              refine cw_bipush (pc := 58) C dX7_isFit_58 (nI 8) (by decide) ?_
              refine cw_iload (pc := 60) C dX7_isFit_60 5 rfl ?_
              refine cw_iadd (pc := 62) C dX7_isFit_62 (z := nI (8 + c)) (nI_add _ _) ?_
              refine cw_iald2 (pc := 63) C dX7_isFit_63 1 1 (wM_g1 Z A) (f := σ 1) rfl (8 + c) rfl (by omega) (by decide) ?_
              refine cw_top (X (24 + c)) (mr hT (by omega) (by omega) (pm_st (by omega))) ?_
              refine cw_iconst (pc := 64) C dX7_isFit_64 (nI 1) (by decide) ?_
              refine cw_icmp_eq (pc := 65) (tgt := 91) C dX7_isFit_65 (by decide) (fun h65 => ?_) (fun h65 => ?_)
              · -- 65 t
                refine cw_iconst (pc := 91) C dX7_isFit_91 (nI 0) (by decide) ?_
                refine cw_istore_n (pc := 92) C dX7_isFit_92 rfl (by decide) (lv' := [(3, .int (nI 0)), (5, .int (nI 1)), (0, .ref (A 0)), (1, .int (nI g)), (2, .int (X g)), (4, .int (nI c))]) rfl ?_
                refine cw_iinc (pc := 93) C dX7_isFit_93 5 rfl (nI (c + 1)) (nI_inc _ 1) (by decide) (lv' := [(4, .int (nI (c + 1))), (3, .int (nI 0)), (5, .int (nI 1)), (0, .ref (A 0)), (1, .int (nI g)), (2, .int (X g))]) rfl ?_
                refine cw_goto (pc := 96) (tgt := 22) C dX7_isFit_96 (by decide) ?_
                refine cw_lv [3, 4, 5, 1, 0] rfl ?_
                exact ih22 (c + 1) false (by omega) (by omega) (by rw [allB, ← Bool.and_assoc, ← ha]; simp_all [okB, sbit, stC])
              · -- 65 f
                refine cw_iload (pc := 68) C dX7_isFit_68 0 rfl ?_
                refine cw_if_ne (pc := 70) (tgt := 87) C dX7_isFit_70 (by decide) (fun _ => ?_) (fun h => False.elim (by revert h; decide))
                refine cw_iconst (pc := 87) C dX7_isFit_87 (nI 1) (by decide) ?_
                refine cw_goto (pc := 88) (tgt := 92) C dX7_isFit_88 (by decide) ?_
                refine cw_istore_n (pc := 92) C dX7_isFit_92 rfl (by decide) (lv' := [(3, .int (nI 1)), (5, .int (nI 1)), (0, .ref (A 0)), (1, .int (nI g)), (2, .int (X g)), (4, .int (nI c))]) rfl ?_
                refine cw_iinc (pc := 93) C dX7_isFit_93 5 rfl (nI (c + 1)) (nI_inc _ 1) (by decide) (lv' := [(4, .int (nI (c + 1))), (3, .int (nI 1)), (5, .int (nI 1)), (0, .ref (A 0)), (1, .int (nI g)), (2, .int (X g))]) rfl ?_
                refine cw_goto (pc := 96) (tgt := 22) C dX7_isFit_96 (by decide) ?_
                refine cw_lv [3, 4, 5, 1, 0] rfl ?_
                exact ih22 (c + 1) true (by omega) (by omega) (by rw [allB, ← Bool.and_assoc, ← ha]; simp_all [okB, sbit, stC])
    refine cw_lv [3, 4, 2, 1, 0] rfl ?_
    exact L22 6 0 true (by omega) (by omega) (by simp [allB, h10])
set_option maxHeartbeats 4000000 in
set_option maxRecDepth 100000 in
theorem c_X7_letGo (l : Launch) (D : va_G) (Z : CZ) (A : Nat → Nat) (σ : St) (X : Nat → Int32)   (hT : σ 1 = mrow X) (hin : ∃ i, i ≤ 7 ∧ X 39 = nI i) : CTv l yX7_letGo wsX7_letGo 1 25 D Z (wM Z A) σ [.ref (A 0)] (fun σ' => σ' = up2 σ 1 (mrow (dropS X))) := by
  refine CTv.mk (cc := cX7_letGo) (nL := 1) (own := RX7) rfl (by decide) rfl (Nat.le_of_ble_eq_true rfl) ?_
  intro p0 e0 s0 m0 g0 b0 t0 c0 A0 Q C hret
  obtain ⟨i, hi, hX39⟩ := hin
  refine cw_lv (lv' := [(0, .ref (A 0))]) [0] rfl ?_
  refine cw_aload_n (pc := 0) C dX7_letGo_0 rfl 0 rfl ?_
  refine cw_get (pc := 1) C dX7_letGo_1 0 (v := .ref (A 1)) rfl rfl 0 rfl (fun _ h => List.mem_cons_of_mem _ (List.mem_append_right _ h)) (by decide) (List.mem_of_getElem? (i := 1) rfl) ?_
  refine cw_bipush (pc := 4) C dX7_letGo_4 (nI 43) (by decide) ?_
  refine cw_aload_n (pc := 6) C dX7_letGo_6 rfl 0 rfl ?_
  refine cw_get (pc := 7) C dX7_letGo_7 0 (v := .ref (A 1)) rfl rfl 0 rfl (fun _ h => List.mem_cons_of_mem _ (List.mem_append_right _ h)) (by decide) (List.mem_of_getElem? (i := 1) rfl) ?_
  refine cw_bipush (pc := 10) C dX7_letGo_10 (nI 43) (by decide) ?_
  refine cw_iald2 (pc := 12) C dX7_letGo_12 1 1 (wM_g1 Z A) (f := σ 1) rfl 43 rfl (by decide) (by decide) ?_
  refine cw_top (nI i) ((mr hT (by omega) (by omega) rfl).trans hX39) ?_
  refine cw_if_le (pc := 13) (tgt := 40) C dX7_letGo_13 (by decide) (fun h13 => ?_) (fun h13 => ?_)
  · -- 13 t
    have h13 : i ≤ 0 := (nc_le (a := i) (b := 0) (by omega) (by omega)).mp h13
    refine cw_iconst (pc := 40) C dX7_letGo_40 (nI 0) (by decide) ?_
    refine cw_iast2 (pc := 41) C dX7_letGo_41 1 1 (wM_g1 Z A) (wM_s1 Z A) (f := σ 1) rfl 43 rfl (by decide) (by decide) (up2 σ 1 (upd (σ 1) 43 (nI 0))) rfl ?_
    refine hret (up2 σ 1 (upd (σ 1) 43 (nI 0))) _ _ dX7_letGo_42 ?_
    clear hret
    refine congrArg (up2 σ 1) ?_
    rw [mw (k := 39) hT (by omega) (by omega) rfl, dropS, hX39, fitI_N (by omega)]
    rw [show i = 0 by omega, if_neg (by rw [fitN_0]; decide)]
  · -- 13 f
    have h13 : ¬ (i ≤ 0) := fun qq => h13 ((nc_le (a := i) (b := 0) (by omega) (by omega)).mpr qq)
    refine cw_aload_n (pc := 16) C dX7_letGo_16 rfl 0 rfl ?_
    refine cw_aload_n (pc := 17) C dX7_letGo_17 rfl 0 rfl ?_
    refine cw_get (pc := 18) C dX7_letGo_18 0 (v := .ref (A 1)) rfl rfl 0 rfl (fun _ h => List.mem_cons_of_mem _ (List.mem_append_right _ h)) (by decide) (List.mem_of_getElem? (i := 1) rfl) ?_
    refine cw_bipush (pc := 21) C dX7_letGo_21 (nI 43) (by decide) ?_
    refine cw_iald2 (pc := 23) C dX7_letGo_23 1 1 (wM_g1 Z A) (f := σ 1) rfl 43 rfl (by decide) (by decide) ?_
    refine cw_top (nI i) ((mr hT (by omega) (by omega) rfl).trans hX39) ?_
    refine cw_calli (pc := 24) C dX7_letGo_24 (c_X7_isFit l D Z A σ X i hT (by omega) hi) (cwV 1 C.1.2.2.2.2 gX7_letGo_X7_isFit rfl rfl rfl (by decide +kernel) ⟨Nat.le_of_ble_eq_true rfl, Nat.le_of_ble_eq_true rfl⟩) 0 rfl rfl rfl rfl (Nat.le_of_ble_eq_true rfl) (cw_purez (b := fitN X i) (fun _ _ h => h) ?_)
    refine cw_if_eq (pc := 27) (tgt := 40) C dX7_letGo_27 (by decide) (fun h27 => ?_) (fun h27 => ?_)
    · -- 27 t
      have h27 := bI_z h27
      refine cw_iconst (pc := 40) C dX7_letGo_40 (nI 0) (by decide) ?_
      refine cw_iast2 (pc := 41) C dX7_letGo_41 1 1 (wM_g1 Z A) (wM_s1 Z A) (f := σ 1) rfl 43 rfl (by decide) (by decide) (up2 σ 1 (upd (σ 1) 43 (nI 0))) rfl ?_
      refine hret (up2 σ 1 (upd (σ 1) 43 (nI 0))) _ _ dX7_letGo_42 ?_
      clear hret
      refine congrArg (up2 σ 1) ?_
      rw [mw (k := 39) hT (by omega) (by omega) rfl, dropS, hX39, fitI_N (by omega)]
      rw [if_neg (by rw [h27]; decide)]
    · -- 27 f
      have h27 := bI_nz h27
      refine cw_aload_n (pc := 30) C dX7_letGo_30 rfl 0 rfl ?_
      refine cw_get (pc := 31) C dX7_letGo_31 0 (v := .ref (A 1)) rfl rfl 0 rfl (fun _ h => List.mem_cons_of_mem _ (List.mem_append_right _ h)) (by decide) (List.mem_of_getElem? (i := 1) rfl) ?_
      refine cw_bipush (pc := 34) C dX7_letGo_34 (nI 43) (by decide) ?_
      refine cw_iald2 (pc := 36) C dX7_letGo_36 1 1 (wM_g1 Z A) (f := σ 1) rfl 43 rfl (by decide) (by decide) ?_
      refine cw_top (nI i) ((mr hT (by omega) (by omega) rfl).trans hX39) ?_
      refine cw_goto (pc := 37) (tgt := 41) C dX7_letGo_37 (by decide) ?_
      refine cw_iast2 (pc := 41) C dX7_letGo_41 1 1 (wM_g1 Z A) (wM_s1 Z A) (f := σ 1) rfl 43 rfl (by decide) (by decide) (up2 σ 1 (upd (σ 1) 43 (nI i))) rfl ?_
      refine hret (up2 σ 1 (upd (σ 1) 43 (nI i))) _ _ dX7_letGo_42 ?_
      clear hret
      refine congrArg (up2 σ 1) ?_
      rw [mw (k := 39) hT (by omega) (by omega) rfl, dropS, hX39, fitI_N (by omega)]
      rw [if_pos h27, show nI i = X 39 from hX39.symm, upd_self]
set_option maxHeartbeats 4000000 in
set_option maxRecDepth 100000 in
theorem c_X7_areSimple (l : Launch) (D : va_G) (Z : CZ) (A : Nat → Nat) (σ : St) (X : Nat → Int32)  (g : Nat) (k : Nat) (hT : σ 1 = mrow X) (hX : setsOK X) (hg1 : 1 ≤ g) (hg : g ≤ 7) (hk1 : 1 ≤ k) (hk : k ≤ 7) : CTz l yX7_areSimple wsX7_areSimple 1 25 D Z (wM Z A) σ [.ref (A 0), .int (nI g), .int (nI k)] (fun z σ' => z = simN X g k ∧ σ' = σ) := by
  refine CTz.mk (cc := cX7_areSimple) (nL := 5) (own := RX7) rfl (by decide) rfl (Nat.le_of_ble_eq_true rfl) ?_
  intro p0 e0 s0 m0 g0 b0 t0 c0 A0 Q C hret
  refine cw_lv (lv' := [(0, .ref (A 0)), (1, .int (nI g)), (2, .int (nI k))]) [0, 1, 2] rfl ?_
  refine cw_aload_n (pc := 0) C dX7_areSimple_0 rfl 0 rfl ?_
  refine cw_get (pc := 1) C dX7_areSimple_1 0 (v := .ref (A 1)) rfl rfl 0 rfl (fun _ h => List.mem_cons_of_mem _ (List.mem_append_right _ h)) (by decide) (List.mem_of_getElem? (i := 1) rfl) ?_
  refine cw_iconst (pc := 4) C dX7_areSimple_4 (nI 0) (by decide) ?_
  refine cw_iload_n (pc := 5) C dX7_areSimple_5 rfl 1 rfl ?_
  refine cw_iadd (pc := 6) C dX7_areSimple_6 (z := nI g) (nI_0add _) ?_
  refine cw_iald2 (pc := 7) C dX7_areSimple_7 1 1 (wM_g1 Z A) (f := σ 1) rfl g rfl (by omega) (by decide) ?_
  refine cw_top (X g) (mr hT (by omega) (by omega) (pm_se (by omega))) ?_
  refine cw_istore_n (pc := 8) C dX7_areSimple_8 rfl (by decide) (lv' := [(3, .int (X g)), (0, .ref (A 0)), (1, .int (nI g)), (2, .int (nI k))]) rfl ?_
  refine cw_aload_n (pc := 9) C dX7_areSimple_9 rfl 1 rfl ?_
  refine cw_get (pc := 10) C dX7_areSimple_10 0 (v := .ref (A 1)) rfl rfl 0 rfl (fun _ h => List.mem_cons_of_mem _ (List.mem_append_right _ h)) (by decide) (List.mem_of_getElem? (i := 1) rfl) ?_
  refine cw_iconst (pc := 13) C dX7_areSimple_13 (nI 0) (by decide) ?_
  refine cw_iload_n (pc := 14) C dX7_areSimple_14 rfl 3 rfl ?_
  refine cw_iadd (pc := 15) C dX7_areSimple_15 (z := nI k) (nI_0add _) ?_
  refine cw_iald2 (pc := 16) C dX7_areSimple_16 1 1 (wM_g1 Z A) (f := σ 1) rfl k rfl (by omega) (by decide) ?_
  refine cw_top (X k) (mr hT (by omega) (by omega) (pm_se (by omega))) ?_
  refine cw_istore (pc := 17) C dX7_areSimple_17 (by decide) (lv' := [(4, .int (X k)), (3, .int (X g)), (0, .ref (A 0)), (1, .int (nI g)), (2, .int (nI k))]) rfl ?_
  refine cw_iload_n (pc := 19) C dX7_areSimple_19 rfl 3 rfl ?_
  refine cw_iload_n (pc := 20) C dX7_areSimple_20 rfl 4 rfl ?_
  refine cw_icmp_eq (pc := 21) (tgt := 70) C dX7_areSimple_21 (by decide) (fun h21 => ?_) (fun h21 => ?_)
  · -- 21 t
    have h21 : g = k := (nc_eq (a := g) (b := k) (by omega) (by omega)).mp h21
    refine cw_iconst (pc := 70) C dX7_areSimple_70 (nI 0) (by decide) ?_
    refine hret false σ _ _ dX7_areSimple_71 ?_
    clear hret
    refine ⟨?_, rfl⟩
    rw [h21, sim_self hX hk]
  · -- 21 f
    have h21 : ¬ (g = k) := fun qq => h21 ((nc_eq (a := g) (b := k) (by omega) (by omega)).mpr qq)
    refine cw_aload_n (pc := 24) C dX7_areSimple_24 rfl 2 rfl ?_
    refine cw_iload_n (pc := 25) C dX7_areSimple_25 rfl 3 rfl ?_
    refine cw_calli (pc := 26) C dX7_areSimple_26 (c_X7_isFit l D Z A σ X g hT hg1 hg) (cwV 1 C.1.2.2.2.2 gX7_areSimple_X7_isFit rfl rfl rfl (by decide +kernel) ⟨Nat.le_of_ble_eq_true rfl, Nat.le_of_ble_eq_true rfl⟩) 0 rfl rfl rfl rfl (Nat.le_of_ble_eq_true rfl) (cw_purez (b := fitN X g) (fun _ _ h => h) ?_)
    refine cw_if_eq (pc := 29) (tgt := 70) C dX7_areSimple_29 (by decide) (fun h29 => ?_) (fun h29 => ?_)
    · -- 29 t
      have h29 := bI_z h29
      refine cw_iconst (pc := 70) C dX7_areSimple_70 (nI 0) (by decide) ?_
      refine hret false σ _ _ dX7_areSimple_71 ?_
      clear hret
      refine ⟨?_, rfl⟩
      unfold simN swapB
      rw [h29]
      rfl
    · -- 29 f
      have h29 := bI_nz h29
      refine cw_aload_n (pc := 32) C dX7_areSimple_32 rfl 2 rfl ?_
      refine cw_iload_n (pc := 33) C dX7_areSimple_33 rfl 4 rfl ?_
      refine cw_calli (pc := 34) C dX7_areSimple_34 (c_X7_isFit l D Z A σ X k hT hk1 hk) (cwV 1 C.1.2.2.2.2 gX7_areSimple_X7_isFit rfl rfl rfl (by decide +kernel) ⟨Nat.le_of_ble_eq_true rfl, Nat.le_of_ble_eq_true rfl⟩) 0 rfl rfl rfl rfl (Nat.le_of_ble_eq_true rfl) (cw_purez (b := fitN X k) (fun _ _ h => h) ?_)
      refine cw_if_eq (pc := 37) (tgt := 70) C dX7_areSimple_37 (by decide) (fun h37 => ?_) (fun h37 => ?_)
      · -- 37 t
        have h37 := bI_z h37
        refine cw_iconst (pc := 70) C dX7_areSimple_70 (nI 0) (by decide) ?_
        refine hret false σ _ _ dX7_areSimple_71 ?_
        clear hret
        refine ⟨?_, rfl⟩
        unfold simN swapB
        rw [h29, h37]
        rfl
      · -- 37 f
        have h37 := bI_nz h37
        refine cw_iload_n (pc := 40) C dX7_areSimple_40 rfl 1 rfl ?_
        refine cw_iload (pc := 41) C dX7_areSimple_41 0 rfl ?_
        refine cw_iconst (pc := 43) C dX7_areSimple_43 (-1) (by decide) ?_
        refine cw_ixor (pc := 44) C dX7_areSimple_44 (z := (X k) ^^^ (-1)) rfl ?_
        refine cw_iand (pc := 45) C dX7_areSimple_45 (z := (X g) &&& ((X k) ^^^ (-1))) rfl ?_
        refine cw_calls (pc := 46) C dX7_areSimple_46 (c_X7_ones l D Z A σ ((X g) &&& ((X k) ^^^ (-1)))) (va_cwS 1 C.1.2.2.2.2 gX7_areSimple_X7_ones rfl rfl rfl (by decide +kernel) ⟨Nat.le_of_ble_eq_true rfl, Nat.le_of_ble_eq_true rfl⟩) rfl rfl (Nat.le_of_ble_eq_true rfl) (cw_pure (v := onesS ((X g) &&& ((X k) ^^^ (-1)))) (fun _ _ h => h) ?_)
        refine cw_iconst (pc := 49) C dX7_areSimple_49 (nI 1) (by decide) ?_
        refine cw_icmp_ne (pc := 50) (tgt := 70) C dX7_areSimple_50 (by decide) (fun h50 => ?_) (fun h50 => ?_)
        · -- 50 t
          refine cw_iconst (pc := 70) C dX7_areSimple_70 (nI 0) (by decide) ?_
          refine hret false σ _ _ dX7_areSimple_71 ?_
          clear hret
          refine ⟨?_, rfl⟩
          unfold simN swapB
          rw [h29, h37, decide_eq_false (fun q => h50 ((ones_is hX hg hk).mpr q))]
          rfl
        · -- 50 f
          refine cw_iload (pc := 53) C dX7_areSimple_53 0 rfl ?_
          refine cw_iload_n (pc := 55) C dX7_areSimple_55 rfl 1 rfl ?_
          refine cw_iconst (pc := 56) C dX7_areSimple_56 (-1) (by decide) ?_
          refine cw_ixor (pc := 57) C dX7_areSimple_57 (z := (X g) ^^^ (-1)) rfl ?_
          refine cw_iand (pc := 58) C dX7_areSimple_58 (z := (X k) &&& ((X g) ^^^ (-1))) rfl ?_
          refine cw_calls (pc := 59) C dX7_areSimple_59 (c_X7_ones l D Z A σ ((X k) &&& ((X g) ^^^ (-1)))) (va_cwS 1 C.1.2.2.2.2 gX7_areSimple_X7_ones rfl rfl rfl (by decide +kernel) ⟨Nat.le_of_ble_eq_true rfl, Nat.le_of_ble_eq_true rfl⟩) rfl rfl (Nat.le_of_ble_eq_true rfl) (cw_pure (v := onesS ((X k) &&& ((X g) ^^^ (-1)))) (fun _ _ h => h) ?_)
          refine cw_iconst (pc := 62) C dX7_areSimple_62 (nI 1) (by decide) ?_
          refine cw_icmp_ne (pc := 63) (tgt := 70) C dX7_areSimple_63 (by decide) (fun h63 => ?_) (fun h63 => ?_)
          · -- 63 t
            refine cw_iconst (pc := 70) C dX7_areSimple_70 (nI 0) (by decide) ?_
            refine hret false σ _ _ dX7_areSimple_71 ?_
            clear hret
            refine ⟨?_, rfl⟩
            unfold simN swapB
            rw [h29, h37, decide_eq_true ((ones_is hX hg hk).mp h50), decide_eq_false (fun q => h63 ((ones_is hX hk hg).mpr q))]
            rfl
          · -- 63 f
            refine cw_iconst (pc := 66) C dX7_areSimple_66 (nI 1) (by decide) ?_
            refine cw_goto (pc := 67) (tgt := 71) C dX7_areSimple_67 (by decide) ?_
            refine hret true σ _ _ dX7_areSimple_71 ?_
            clear hret
            refine ⟨?_, rfl⟩
            unfold simN swapB
            rw [h29, h37, decide_eq_true ((ones_is hX hg hk).mp h50), decide_eq_true ((ones_is hX hk hg).mp h63)]
            rfl
set_option maxHeartbeats 4000000 in
set_option maxRecDepth 100000 in
theorem c_X7_placeOf0 (l : Launch) (D : va_G) (Z : CZ) (A : Nat → Nat) (σ : St)    : CTi l yX7_placeOf wsX7_placeOf 0 0 D Z (wM Z A) σ [.int (nI 1)] (fun r σ' => r = nI 0 ∧ σ' = σ) := by
  refine CTi.mk (cc := cX7_placeOf) (nL := 2) (own := RX7) rfl (by decide) rfl (Nat.le_of_ble_eq_true rfl) ?_
  intro p0 e0 s0 m0 g0 b0 t0 c0 A0 Q C hret
  refine cw_lv (lv' := [(0, .int (nI 1))]) [0] rfl ?_
  refine cw_iconst (pc := 0) C dX7_placeOf_0 (nI 0) (by decide) ?_
  refine cw_istore_n (pc := 1) C dX7_placeOf_1 rfl (by decide) (lv' := [(1, .int (nI 0)), (0, .int (nI 1))]) rfl ?_
  refine cw_iload_n (pc := 2) C dX7_placeOf_2 rfl 1 rfl ?_
  refine cw_iload_n (pc := 3) C dX7_placeOf_3 rfl 0 rfl ?_
  refine cw_ishr (pc := 4) C dX7_placeOf_4 (z := nI 1) (by decide) ?_
  refine cw_iconst (pc := 5) C dX7_placeOf_5 (nI 1) (by decide) ?_
  refine cw_icmp_le (pc := 6) (tgt := 15) C dX7_placeOf_6 (by decide) (fun _ => ?_) (fun h => False.elim (by revert h; decide))
  refine cw_iload_n (pc := 15) C dX7_placeOf_15 rfl 0 rfl ?_
  refine hret (nI 0) σ _ _ dX7_placeOf_16 ?_
  clear hret
  exact ⟨rfl, rfl⟩
set_option maxHeartbeats 4000000 in
set_option maxRecDepth 100000 in
theorem c_X7_placeOf1 (l : Launch) (D : va_G) (Z : CZ) (A : Nat → Nat) (σ : St)    : CTi l yX7_placeOf wsX7_placeOf 0 0 D Z (wM Z A) σ [.int (nI 2)] (fun r σ' => r = nI 1 ∧ σ' = σ) := by
  refine CTi.mk (cc := cX7_placeOf) (nL := 2) (own := RX7) rfl (by decide) rfl (Nat.le_of_ble_eq_true rfl) ?_
  intro p0 e0 s0 m0 g0 b0 t0 c0 A0 Q C hret
  refine cw_lv (lv' := [(0, .int (nI 2))]) [0] rfl ?_
  refine cw_iconst (pc := 0) C dX7_placeOf_0 (nI 0) (by decide) ?_
  refine cw_istore_n (pc := 1) C dX7_placeOf_1 rfl (by decide) (lv' := [(1, .int (nI 0)), (0, .int (nI 2))]) rfl ?_
  refine cw_iload_n (pc := 2) C dX7_placeOf_2 rfl 1 rfl ?_
  refine cw_iload_n (pc := 3) C dX7_placeOf_3 rfl 0 rfl ?_
  refine cw_ishr (pc := 4) C dX7_placeOf_4 (z := nI 2) (by decide) ?_
  refine cw_iconst (pc := 5) C dX7_placeOf_5 (nI 1) (by decide) ?_
  refine cw_icmp_le (pc := 6) (tgt := 15) C dX7_placeOf_6 (by decide) (fun h => False.elim (by revert h; decide)) (fun _ => ?_)
  refine cw_iinc (pc := 9) C dX7_placeOf_9 0 rfl (nI 1) (by decide) (by decide) (lv' := [(1, .int (nI 1)), (0, .int (nI 2))]) rfl ?_
  refine cw_goto (pc := 12) (tgt := 2) C dX7_placeOf_12 (by decide) ?_
  refine cw_iload_n (pc := 2) C dX7_placeOf_2 rfl 1 rfl ?_
  refine cw_iload_n (pc := 3) C dX7_placeOf_3 rfl 0 rfl ?_
  refine cw_ishr (pc := 4) C dX7_placeOf_4 (z := nI 1) (by decide) ?_
  refine cw_iconst (pc := 5) C dX7_placeOf_5 (nI 1) (by decide) ?_
  refine cw_icmp_le (pc := 6) (tgt := 15) C dX7_placeOf_6 (by decide) (fun _ => ?_) (fun h => False.elim (by revert h; decide))
  refine cw_iload_n (pc := 15) C dX7_placeOf_15 rfl 0 rfl ?_
  refine hret (nI 1) σ _ _ dX7_placeOf_16 ?_
  clear hret
  exact ⟨rfl, rfl⟩
set_option maxHeartbeats 4000000 in
set_option maxRecDepth 100000 in
theorem c_X7_placeOf2 (l : Launch) (D : va_G) (Z : CZ) (A : Nat → Nat) (σ : St)    : CTi l yX7_placeOf wsX7_placeOf 0 0 D Z (wM Z A) σ [.int (nI 4)] (fun r σ' => r = nI 2 ∧ σ' = σ) := by
  refine CTi.mk (cc := cX7_placeOf) (nL := 2) (own := RX7) rfl (by decide) rfl (Nat.le_of_ble_eq_true rfl) ?_
  intro p0 e0 s0 m0 g0 b0 t0 c0 A0 Q C hret
  refine cw_lv (lv' := [(0, .int (nI 4))]) [0] rfl ?_
  refine cw_iconst (pc := 0) C dX7_placeOf_0 (nI 0) (by decide) ?_
  refine cw_istore_n (pc := 1) C dX7_placeOf_1 rfl (by decide) (lv' := [(1, .int (nI 0)), (0, .int (nI 4))]) rfl ?_
  refine cw_iload_n (pc := 2) C dX7_placeOf_2 rfl 1 rfl ?_
  refine cw_iload_n (pc := 3) C dX7_placeOf_3 rfl 0 rfl ?_
  refine cw_ishr (pc := 4) C dX7_placeOf_4 (z := nI 4) (by decide) ?_
  refine cw_iconst (pc := 5) C dX7_placeOf_5 (nI 1) (by decide) ?_
  refine cw_icmp_le (pc := 6) (tgt := 15) C dX7_placeOf_6 (by decide) (fun h => False.elim (by revert h; decide)) (fun _ => ?_)
  refine cw_iinc (pc := 9) C dX7_placeOf_9 0 rfl (nI 1) (by decide) (by decide) (lv' := [(1, .int (nI 1)), (0, .int (nI 4))]) rfl ?_
  refine cw_goto (pc := 12) (tgt := 2) C dX7_placeOf_12 (by decide) ?_
  refine cw_iload_n (pc := 2) C dX7_placeOf_2 rfl 1 rfl ?_
  refine cw_iload_n (pc := 3) C dX7_placeOf_3 rfl 0 rfl ?_
  refine cw_ishr (pc := 4) C dX7_placeOf_4 (z := nI 2) (by decide) ?_
  refine cw_iconst (pc := 5) C dX7_placeOf_5 (nI 1) (by decide) ?_
  refine cw_icmp_le (pc := 6) (tgt := 15) C dX7_placeOf_6 (by decide) (fun h => False.elim (by revert h; decide)) (fun _ => ?_)
  refine cw_iinc (pc := 9) C dX7_placeOf_9 0 rfl (nI 2) (by decide) (by decide) (lv' := [(1, .int (nI 2)), (0, .int (nI 4))]) rfl ?_
  refine cw_goto (pc := 12) (tgt := 2) C dX7_placeOf_12 (by decide) ?_
  refine cw_iload_n (pc := 2) C dX7_placeOf_2 rfl 1 rfl ?_
  refine cw_iload_n (pc := 3) C dX7_placeOf_3 rfl 0 rfl ?_
  refine cw_ishr (pc := 4) C dX7_placeOf_4 (z := nI 1) (by decide) ?_
  refine cw_iconst (pc := 5) C dX7_placeOf_5 (nI 1) (by decide) ?_
  refine cw_icmp_le (pc := 6) (tgt := 15) C dX7_placeOf_6 (by decide) (fun _ => ?_) (fun h => False.elim (by revert h; decide))
  refine cw_iload_n (pc := 15) C dX7_placeOf_15 rfl 0 rfl ?_
  refine hret (nI 2) σ _ _ dX7_placeOf_16 ?_
  clear hret
  exact ⟨rfl, rfl⟩
set_option maxHeartbeats 4000000 in
set_option maxRecDepth 100000 in
theorem c_X7_placeOf3 (l : Launch) (D : va_G) (Z : CZ) (A : Nat → Nat) (σ : St)    : CTi l yX7_placeOf wsX7_placeOf 0 0 D Z (wM Z A) σ [.int (nI 8)] (fun r σ' => r = nI 3 ∧ σ' = σ) := by
  refine CTi.mk (cc := cX7_placeOf) (nL := 2) (own := RX7) rfl (by decide) rfl (Nat.le_of_ble_eq_true rfl) ?_
  intro p0 e0 s0 m0 g0 b0 t0 c0 A0 Q C hret
  refine cw_lv (lv' := [(0, .int (nI 8))]) [0] rfl ?_
  refine cw_iconst (pc := 0) C dX7_placeOf_0 (nI 0) (by decide) ?_
  refine cw_istore_n (pc := 1) C dX7_placeOf_1 rfl (by decide) (lv' := [(1, .int (nI 0)), (0, .int (nI 8))]) rfl ?_
  refine cw_iload_n (pc := 2) C dX7_placeOf_2 rfl 1 rfl ?_
  refine cw_iload_n (pc := 3) C dX7_placeOf_3 rfl 0 rfl ?_
  refine cw_ishr (pc := 4) C dX7_placeOf_4 (z := nI 8) (by decide) ?_
  refine cw_iconst (pc := 5) C dX7_placeOf_5 (nI 1) (by decide) ?_
  refine cw_icmp_le (pc := 6) (tgt := 15) C dX7_placeOf_6 (by decide) (fun h => False.elim (by revert h; decide)) (fun _ => ?_)
  refine cw_iinc (pc := 9) C dX7_placeOf_9 0 rfl (nI 1) (by decide) (by decide) (lv' := [(1, .int (nI 1)), (0, .int (nI 8))]) rfl ?_
  refine cw_goto (pc := 12) (tgt := 2) C dX7_placeOf_12 (by decide) ?_
  refine cw_iload_n (pc := 2) C dX7_placeOf_2 rfl 1 rfl ?_
  refine cw_iload_n (pc := 3) C dX7_placeOf_3 rfl 0 rfl ?_
  refine cw_ishr (pc := 4) C dX7_placeOf_4 (z := nI 4) (by decide) ?_
  refine cw_iconst (pc := 5) C dX7_placeOf_5 (nI 1) (by decide) ?_
  refine cw_icmp_le (pc := 6) (tgt := 15) C dX7_placeOf_6 (by decide) (fun h => False.elim (by revert h; decide)) (fun _ => ?_)
  refine cw_iinc (pc := 9) C dX7_placeOf_9 0 rfl (nI 2) (by decide) (by decide) (lv' := [(1, .int (nI 2)), (0, .int (nI 8))]) rfl ?_
  refine cw_goto (pc := 12) (tgt := 2) C dX7_placeOf_12 (by decide) ?_
  refine cw_iload_n (pc := 2) C dX7_placeOf_2 rfl 1 rfl ?_
  refine cw_iload_n (pc := 3) C dX7_placeOf_3 rfl 0 rfl ?_
  refine cw_ishr (pc := 4) C dX7_placeOf_4 (z := nI 2) (by decide) ?_
  refine cw_iconst (pc := 5) C dX7_placeOf_5 (nI 1) (by decide) ?_
  refine cw_icmp_le (pc := 6) (tgt := 15) C dX7_placeOf_6 (by decide) (fun h => False.elim (by revert h; decide)) (fun _ => ?_)
  refine cw_iinc (pc := 9) C dX7_placeOf_9 0 rfl (nI 3) (by decide) (by decide) (lv' := [(1, .int (nI 3)), (0, .int (nI 8))]) rfl ?_
  refine cw_goto (pc := 12) (tgt := 2) C dX7_placeOf_12 (by decide) ?_
  refine cw_iload_n (pc := 2) C dX7_placeOf_2 rfl 1 rfl ?_
  refine cw_iload_n (pc := 3) C dX7_placeOf_3 rfl 0 rfl ?_
  refine cw_ishr (pc := 4) C dX7_placeOf_4 (z := nI 1) (by decide) ?_
  refine cw_iconst (pc := 5) C dX7_placeOf_5 (nI 1) (by decide) ?_
  refine cw_icmp_le (pc := 6) (tgt := 15) C dX7_placeOf_6 (by decide) (fun _ => ?_) (fun h => False.elim (by revert h; decide))
  refine cw_iload_n (pc := 15) C dX7_placeOf_15 rfl 0 rfl ?_
  refine hret (nI 3) σ _ _ dX7_placeOf_16 ?_
  clear hret
  exact ⟨rfl, rfl⟩
set_option maxHeartbeats 4000000 in
set_option maxRecDepth 100000 in
theorem c_X7_placeOf4 (l : Launch) (D : va_G) (Z : CZ) (A : Nat → Nat) (σ : St)    : CTi l yX7_placeOf wsX7_placeOf 0 0 D Z (wM Z A) σ [.int (nI 16)] (fun r σ' => r = nI 4 ∧ σ' = σ) := by
  refine CTi.mk (cc := cX7_placeOf) (nL := 2) (own := RX7) rfl (by decide) rfl (Nat.le_of_ble_eq_true rfl) ?_
  intro p0 e0 s0 m0 g0 b0 t0 c0 A0 Q C hret
  refine cw_lv (lv' := [(0, .int (nI 16))]) [0] rfl ?_
  refine cw_iconst (pc := 0) C dX7_placeOf_0 (nI 0) (by decide) ?_
  refine cw_istore_n (pc := 1) C dX7_placeOf_1 rfl (by decide) (lv' := [(1, .int (nI 0)), (0, .int (nI 16))]) rfl ?_
  refine cw_iload_n (pc := 2) C dX7_placeOf_2 rfl 1 rfl ?_
  refine cw_iload_n (pc := 3) C dX7_placeOf_3 rfl 0 rfl ?_
  refine cw_ishr (pc := 4) C dX7_placeOf_4 (z := nI 16) (by decide) ?_
  refine cw_iconst (pc := 5) C dX7_placeOf_5 (nI 1) (by decide) ?_
  refine cw_icmp_le (pc := 6) (tgt := 15) C dX7_placeOf_6 (by decide) (fun h => False.elim (by revert h; decide)) (fun _ => ?_)
  refine cw_iinc (pc := 9) C dX7_placeOf_9 0 rfl (nI 1) (by decide) (by decide) (lv' := [(1, .int (nI 1)), (0, .int (nI 16))]) rfl ?_
  refine cw_goto (pc := 12) (tgt := 2) C dX7_placeOf_12 (by decide) ?_
  refine cw_iload_n (pc := 2) C dX7_placeOf_2 rfl 1 rfl ?_
  refine cw_iload_n (pc := 3) C dX7_placeOf_3 rfl 0 rfl ?_
  refine cw_ishr (pc := 4) C dX7_placeOf_4 (z := nI 8) (by decide) ?_
  refine cw_iconst (pc := 5) C dX7_placeOf_5 (nI 1) (by decide) ?_
  refine cw_icmp_le (pc := 6) (tgt := 15) C dX7_placeOf_6 (by decide) (fun h => False.elim (by revert h; decide)) (fun _ => ?_)
  refine cw_iinc (pc := 9) C dX7_placeOf_9 0 rfl (nI 2) (by decide) (by decide) (lv' := [(1, .int (nI 2)), (0, .int (nI 16))]) rfl ?_
  refine cw_goto (pc := 12) (tgt := 2) C dX7_placeOf_12 (by decide) ?_
  refine cw_iload_n (pc := 2) C dX7_placeOf_2 rfl 1 rfl ?_
  refine cw_iload_n (pc := 3) C dX7_placeOf_3 rfl 0 rfl ?_
  refine cw_ishr (pc := 4) C dX7_placeOf_4 (z := nI 4) (by decide) ?_
  refine cw_iconst (pc := 5) C dX7_placeOf_5 (nI 1) (by decide) ?_
  refine cw_icmp_le (pc := 6) (tgt := 15) C dX7_placeOf_6 (by decide) (fun h => False.elim (by revert h; decide)) (fun _ => ?_)
  refine cw_iinc (pc := 9) C dX7_placeOf_9 0 rfl (nI 3) (by decide) (by decide) (lv' := [(1, .int (nI 3)), (0, .int (nI 16))]) rfl ?_
  refine cw_goto (pc := 12) (tgt := 2) C dX7_placeOf_12 (by decide) ?_
  refine cw_iload_n (pc := 2) C dX7_placeOf_2 rfl 1 rfl ?_
  refine cw_iload_n (pc := 3) C dX7_placeOf_3 rfl 0 rfl ?_
  refine cw_ishr (pc := 4) C dX7_placeOf_4 (z := nI 2) (by decide) ?_
  refine cw_iconst (pc := 5) C dX7_placeOf_5 (nI 1) (by decide) ?_
  refine cw_icmp_le (pc := 6) (tgt := 15) C dX7_placeOf_6 (by decide) (fun h => False.elim (by revert h; decide)) (fun _ => ?_)
  refine cw_iinc (pc := 9) C dX7_placeOf_9 0 rfl (nI 4) (by decide) (by decide) (lv' := [(1, .int (nI 4)), (0, .int (nI 16))]) rfl ?_
  refine cw_goto (pc := 12) (tgt := 2) C dX7_placeOf_12 (by decide) ?_
  refine cw_iload_n (pc := 2) C dX7_placeOf_2 rfl 1 rfl ?_
  refine cw_iload_n (pc := 3) C dX7_placeOf_3 rfl 0 rfl ?_
  refine cw_ishr (pc := 4) C dX7_placeOf_4 (z := nI 1) (by decide) ?_
  refine cw_iconst (pc := 5) C dX7_placeOf_5 (nI 1) (by decide) ?_
  refine cw_icmp_le (pc := 6) (tgt := 15) C dX7_placeOf_6 (by decide) (fun _ => ?_) (fun h => False.elim (by revert h; decide))
  refine cw_iload_n (pc := 15) C dX7_placeOf_15 rfl 0 rfl ?_
  refine hret (nI 4) σ _ _ dX7_placeOf_16 ?_
  clear hret
  exact ⟨rfl, rfl⟩
theorem c_X7_placeOf (l : Launch) (D : va_G) (Z : CZ) (A : Nat → Nat) (σ : St) (i : Nat) (hi : i < 5) : CTi l yX7_placeOf wsX7_placeOf 0 0 D Z (wM Z A) σ [.int (nI (2 ^ i))] (fun r σ' => r = nI i ∧ σ' = σ) := by
  rcases (show i = 0 ∨ i = 1 ∨ i = 2 ∨ i = 3 ∨ i = 4 by omega) with rfl | rfl | rfl | rfl | rfl
  · exact c_X7_placeOf0 l D Z A σ
  · exact c_X7_placeOf1 l D Z A σ
  · exact c_X7_placeOf2 l D Z A σ
  · exact c_X7_placeOf3 l D Z A σ
  · exact c_X7_placeOf4 l D Z A σ
set_option maxHeartbeats 4000000 in
set_option maxRecDepth 100000 in
theorem c_X7_coming (l : Launch) (D : va_G) (Z : CZ) (A : Nat → Nat) (σ : St) (X : Nat → Int32)  (g : Nat) (k : Nat) (hT : σ 1 = mrow X) (hX : setsOK X) (hg : g ≤ 7) (hk : k ≤ 7) (hs : simN X g k = true) : CTi l yX7_coming wsX7_coming 1 21 D Z (wM Z A) σ [.ref (A 0), .int (nI g), .int (nI k)] (fun r σ' => r = nI (comS (X g) (X k)) ∧ σ' = σ) := by
  refine CTi.mk (cc := cX7_coming) (nL := 3) (own := RX7) rfl (by decide) rfl (Nat.le_of_ble_eq_true rfl) ?_
  intro p0 e0 s0 m0 g0 b0 t0 c0 A0 Q C hret
  refine cw_lv (lv' := [(0, .ref (A 0)), (1, .int (nI g)), (2, .int (nI k))]) [0, 1, 2] rfl ?_
  refine cw_aload_n (pc := 0) C dX7_coming_0 rfl 0 rfl ?_
  refine cw_get (pc := 1) C dX7_coming_1 0 (v := .ref (A 1)) rfl rfl 0 rfl (fun _ h => List.mem_cons_of_mem _ (List.mem_append_right _ h)) (by decide) (List.mem_of_getElem? (i := 1) rfl) ?_
  refine cw_iconst (pc := 4) C dX7_coming_4 (nI 0) (by decide) ?_
  refine cw_iload_n (pc := 5) C dX7_coming_5 rfl 2 rfl ?_
  refine cw_iadd (pc := 6) C dX7_coming_6 (z := nI k) (nI_0add _) ?_
  refine cw_iald2 (pc := 7) C dX7_coming_7 1 1 (wM_g1 Z A) (f := σ 1) rfl k rfl (by omega) (by decide) ?_
  refine cw_top (X k) (mr hT (by omega) (by omega) (pm_se (by omega))) ?_
  refine cw_aload_n (pc := 8) C dX7_coming_8 rfl 0 rfl ?_
  refine cw_get (pc := 9) C dX7_coming_9 0 (v := .ref (A 1)) rfl rfl 0 rfl (fun _ h => List.mem_cons_of_mem _ (List.mem_append_right _ h)) (by decide) (List.mem_of_getElem? (i := 1) rfl) ?_
  refine cw_iconst (pc := 12) C dX7_coming_12 (nI 0) (by decide) ?_
  refine cw_iload_n (pc := 13) C dX7_coming_13 rfl 1 rfl ?_
  refine cw_iadd (pc := 14) C dX7_coming_14 (z := nI g) (nI_0add _) ?_
  refine cw_iald2 (pc := 15) C dX7_coming_15 1 1 (wM_g1 Z A) (f := σ 1) rfl g rfl (by omega) (by decide) ?_
  refine cw_top (X g) (mr hT (by omega) (by omega) (pm_se (by omega))) ?_
  refine cw_iconst (pc := 16) C dX7_coming_16 (-1) (by decide) ?_
  refine cw_ixor (pc := 17) C dX7_coming_17 (z := (X g) ^^^ (-1)) rfl ?_
  refine cw_iand (pc := 18) C dX7_coming_18 (z := nI (2 ^ comS (X g) (X k))) (comS_bit hX hg hk hs) ?_
  refine cw_calls (pc := 19) C dX7_coming_19 (c_X7_placeOf l D Z A σ (comS (X g) (X k)) (comS_lt _ _)) (va_cwS 1 C.1.2.2.2.2 gX7_coming_X7_placeOf rfl rfl rfl (by decide +kernel) ⟨Nat.le_of_ble_eq_true rfl, Nat.le_of_ble_eq_true rfl⟩) rfl rfl (Nat.le_of_ble_eq_true rfl) (cw_pure (v := nI (comS (X g) (X k))) (fun _ _ h => h) ?_)
  refine hret (nI (comS (X g) (X k))) σ _ _ dX7_coming_22 ?_
  clear hret
  exact ⟨rfl, rfl⟩
set_option maxHeartbeats 4000000 in
set_option maxRecDepth 100000 in
theorem c_X7_simpleMany (l : Launch) (D : va_G) (Z : CZ) (A : Nat → Nat) (σ : St) (X : Nat → Int32)  (g : Nat) (hT : σ 1 = mrow X) (hX : setsOK X) (hg1 : 1 ≤ g) (hg : g ≤ 7) : CTi l yX7_simpleMany wsX7_simpleMany 2 49 D Z (wM Z A) σ [.ref (A 0), .int (nI g)] (fun r σ' => r = nI (cntN (fun q9 => simN X g (q9 + 1)) 7) ∧ σ' = σ) := by
  refine CTi.mk (cc := cX7_simpleMany) (nL := 4) (own := RX7) rfl (by decide) rfl (Nat.le_of_ble_eq_true rfl) ?_
  intro p0 e0 s0 m0 g0 b0 t0 c0 A0 Q C hret
  refine cw_lv (lv' := [(0, .ref (A 0)), (1, .int (nI g))]) [0, 1] rfl ?_
  refine cw_iconst (pc := 0) C dX7_simpleMany_0 (nI 0) (by decide) ?_
  refine cw_istore_n (pc := 1) C dX7_simpleMany_1 rfl (by decide) (lv' := [(2, .int (nI 0)), (0, .ref (A 0)), (1, .int (nI g))]) rfl ?_
  refine cw_iconst (pc := 2) C dX7_simpleMany_2 (nI 1) (by decide) ?_
  refine cw_istore_n (pc := 3) C dX7_simpleMany_3 rfl (by decide) (lv' := [(3, .int (nI 1)), (2, .int (nI 0)), (0, .ref (A 0)), (1, .int (nI g))]) rfl ?_
  have L4 : ∀ (n4 : Nat) (i : Nat) (acc : Nat) (hi : i ≤ 7) (hm : 7 < i + n4) (ha : acc = cntN (fun q9 => simN X g (q9 + 1)) i), CW p0 l e0 (rmC 2 49) s0 m0 g0 b0 t0 c0 D A0 4 (wM Z A) Q σ 4 [(0, .ref (A 0)), (1, .int (nI g)), (2, .int (nI acc)), (3, .int (nI (i + 1)))] [] := by
    intro n4
    induction n4 with
    | zero => intro i acc hi hm ha; exact absurd hm (by omega)
    | succ n4 ih4 =>
      intro i acc hi hm ha
      refine cw_iload_n (pc := 4) C dX7_simpleMany_4 rfl 3 rfl ?_
      refine cw_bipush (pc := 5) C dX7_simpleMany_5 (nI 7) (by decide) ?_
      refine cw_icmp_gt (pc := 7) (tgt := 33) C dX7_simpleMany_7 (by decide) (fun h7 => ?_) (fun h7 => ?_)
      · -- 7 t
        have h7 : 7 < (i + 1) := (nc_gt (a := i + 1) (b := 7) (by omega) (by omega)).mp h7
        obtain rfl : i = 7 := by omega
        refine cw_iload_n (pc := 33) C dX7_simpleMany_33 rfl 2 rfl ?_
        refine hret (nI acc) σ _ _ dX7_simpleMany_34 ?_
        clear hret
        exact ⟨by rw [ha], rfl⟩
      · -- 7 f
        have h7 : ¬ (7 < (i + 1)) := fun qq => h7 ((nc_gt (a := i + 1) (b := 7) (by omega) (by omega)).mpr qq)
        refine cw_iload_n (pc := 10) C dX7_simpleMany_10 rfl 2 rfl ?_
        refine cw_aload_n (pc := 11) C dX7_simpleMany_11 rfl 0 rfl ?_
        refine cw_iload_n (pc := 12) C dX7_simpleMany_12 rfl 1 rfl ?_
        refine cw_iload_n (pc := 13) C dX7_simpleMany_13 rfl 3 rfl ?_
        refine cw_calli (pc := 14) C dX7_simpleMany_14 (c_X7_areSimple l D Z A σ X g (i + 1) hT hX hg1 hg (by omega) (by omega)) (cwV 2 C.1.2.2.2.2 gX7_simpleMany_X7_areSimple rfl rfl rfl (by decide +kernel) ⟨Nat.le_of_ble_eq_true rfl, Nat.le_of_ble_eq_true rfl⟩) 0 rfl rfl rfl rfl (Nat.le_of_ble_eq_true rfl) (cw_purez (b := simN X g (i + 1)) (fun _ _ h => h) ?_)
        refine cw_if_eq (pc := 17) (tgt := 24) C dX7_simpleMany_17 (by decide) (fun h17 => ?_) (fun h17 => ?_)
        · -- 17 t
          have h17 := bI_z h17
          refine cw_iconst (pc := 24) C dX7_simpleMany_24 (nI 0) (by decide) ?_
          refine cw_iadd (pc := 25) C dX7_simpleMany_25 (z := nI acc) (nI_add0 _) ?_
          refine cw_istore_n (pc := 26) C dX7_simpleMany_26 rfl (by decide) (lv' := [(2, .int (nI acc)), (0, .ref (A 0)), (1, .int (nI g)), (3, .int (nI (i + 1)))]) rfl ?_
          refine cw_iinc (pc := 27) C dX7_simpleMany_27 3 rfl (nI (i + 1 + 1)) (nI_inc _ 1) (by decide) (lv' := [(3, .int (nI (i + 1 + 1))), (2, .int (nI acc)), (0, .ref (A 0)), (1, .int (nI g))]) rfl ?_
          refine cw_goto (pc := 30) (tgt := 4) C dX7_simpleMany_30 (by decide) ?_
          refine cw_lv [2, 3, 1, 0] rfl ?_
          exact ih4 (i + 1) acc (by omega) (by omega) (by rw [cntN, ha]; simp [h17])
        · -- 17 f
          have h17 := bI_nz h17
          refine cw_iconst (pc := 20) C dX7_simpleMany_20 (nI 1) (by decide) ?_
          refine cw_goto (pc := 21) (tgt := 25) C dX7_simpleMany_21 (by decide) ?_
          refine cw_iadd (pc := 25) C dX7_simpleMany_25 (z := nI (acc + 1)) (nI_add _ _) ?_
          refine cw_istore_n (pc := 26) C dX7_simpleMany_26 rfl (by decide) (lv' := [(2, .int (nI (acc + 1))), (0, .ref (A 0)), (1, .int (nI g)), (3, .int (nI (i + 1)))]) rfl ?_
          refine cw_iinc (pc := 27) C dX7_simpleMany_27 3 rfl (nI (i + 1 + 1)) (nI_inc _ 1) (by decide) (lv' := [(3, .int (nI (i + 1 + 1))), (2, .int (nI (acc + 1))), (0, .ref (A 0)), (1, .int (nI g))]) rfl ?_
          refine cw_goto (pc := 30) (tgt := 4) C dX7_simpleMany_30 (by decide) ?_
          refine cw_lv [2, 3, 1, 0] rfl ?_
          exact ih4 (i + 1) (acc + 1) (by omega) (by omega) (by rw [cntN, ha]; simp [h17])
  refine cw_lv [2, 3, 1, 0] rfl ?_
  exact L4 8 0 0 (by omega) (by omega) rfl
