set_option maxHeartbeats 4000000 in
set_option maxRecDepth 100000 in
theorem c_X7_bring12 (l : Launch) (D : va_G) (Z : CZ) (A : Nat → Nat) (σ : St)    : CTv l yX7_bring wsX7_bring 0 0 D Z (wM Z A) σ [.ref (A 1), .int (nI 0), .ref (A 2), .int (nI 0)] (fun σ' => σ' = up2 σ 2 (va_cpy (σ 1) (σ 2) 0 0 51)) := by
  refine CTv.mk (cc := cX7_bring) (nL := 5) (own := RX7) rfl (by decide) rfl (Nat.le_of_ble_eq_true rfl) ?_
  intro p0 e0 s0 m0 g0 b0 t0 c0 A0 Q C hret
  refine cw_lv (lv' := [(0, .ref (A 1)), (1, .int (nI 0)), (2, .ref (A 2)), (3, .int (nI 0))]) [0, 1, 2, 3] rfl ?_
  refine cw_eq (σ' := up2 σ 2 (σ 2)) (up2_self _ _).symm ?_
  refine cw_eq (σ' := up2 σ 2 (va_cpy (σ 1) (σ 2) 0 0 0)) (congrArg (fun qz => up2 σ 2 qz) cpy_0.symm) ?_
  refine cw_iconst (pc := 0) C dX7_bring_0 (nI 0) (by decide) ?_
  refine cw_istore (pc := 1) C dX7_bring_1 (by decide) (lv' := [(4, .int (nI 0)), (0, .ref (A 1)), (1, .int (nI 0)), (2, .ref (A 2)), (3, .int (nI 0))]) rfl ?_
  have L3 : ∀ (n3 : Nat) (n : Nat) (hn : n ≤ 51) (hm : 51 < n + n3), CW p0 l e0 (rmC 0 0) s0 m0 g0 b0 t0 c0 D A0 5 (wM Z A) Q (up2 σ 2 (va_cpy (σ 1) (σ 2) 0 0 n)) 3 [(0, .ref (A 1)), (1, .int (nI 0)), (2, .ref (A 2)), (3, .int (nI 0)), (4, .int (nI n))] [] := by
    intro n3
    induction n3 with
    | zero => intro n hn hm; exact absurd hm (by omega)
    | succ n3 ih3 =>
      intro n hn hm
      refine cw_iload (pc := 3) C dX7_bring_3 4 rfl ?_
      refine cw_bipush (pc := 5) C dX7_bring_5 (nI 51) (by decide) ?_
      refine cw_icmp_ge (pc := 7) (tgt := 28) C dX7_bring_7 (by decide) (fun h7 => ?_) (fun h7 => ?_)
      · -- 7 t
        have h7 : 51 ≤ n := (nc_ge (a := n) (b := 51) (by omega) (by omega)).mp h7
        have hn51 : n = 51 := by omega
        refine hret (up2 σ 2 (va_cpy (σ 1) (σ 2) 0 0 n)) _ _ dX7_bring_28 ?_
        clear hret
        rw [hn51]
      · -- 7 f
        have h7 : ¬ (51 ≤ n) := fun qq => h7 ((nc_ge (a := n) (b := 51) (by omega) (by omega)).mpr qq)
        refine cw_aload_n (pc := 10) C dX7_bring_10 rfl 2 rfl ?_
        refine cw_iload_n (pc := 11) C dX7_bring_11 rfl 3 rfl ?_
        refine cw_iload (pc := 12) C dX7_bring_12 4 rfl ?_
        refine cw_iadd (pc := 14) C dX7_bring_14 (z := nI n) (nI_0add _) ?_
        refine cw_aload_n (pc := 15) C dX7_bring_15 rfl 0 rfl ?_
        refine cw_iload_n (pc := 16) C dX7_bring_16 rfl 1 rfl ?_
        refine cw_iload (pc := 17) C dX7_bring_17 4 rfl ?_
        refine cw_iadd (pc := 19) C dX7_bring_19 (z := nI n) (nI_0add _) ?_
        refine cw_iald2 (pc := 20) C dX7_bring_20 1 1 (wM_g1 Z A) (f := σ 1) (up2_ne _ _ (by decide)) n rfl (by omega) (by decide) ?_
        refine cw_iast2 (pc := 21) C dX7_bring_21 2 2 (wM_g2 Z A) (wM_s2 Z A) (f := va_cpy (σ 1) (σ 2) 0 0 n) (up2_eq _ _ _) n rfl (by omega) (by decide) (up2 σ 2 (upd (va_cpy (σ 1) (σ 2) 0 0 n) n (σ 1 n))) (up2_up2 _ 2 _ _) ?_
        refine cw_eq (σ' := up2 σ 2 (va_cpy (σ 1) (σ 2) 0 0 (n + 1))) (congrArg (fun qz => up2 σ 2 qz) cpy_00) ?_
        refine cw_iinc (pc := 22) C dX7_bring_22 4 rfl (nI (n + 1)) (nI_inc _ 1) (by decide) (lv' := [(4, .int (nI (n + 1))), (0, .ref (A 1)), (1, .int (nI 0)), (2, .ref (A 2)), (3, .int (nI 0))]) rfl ?_
        refine cw_goto (pc := 25) (tgt := 3) C dX7_bring_25 (by decide) ?_
        refine cw_lv [1, 2, 3, 4, 0] rfl ?_
        exact ih3 (n + 1) (by omega) (by omega)
  refine cw_lv [1, 2, 3, 4, 0] rfl ?_
  exact L3 52 0 (by omega) (by omega)
set_option maxHeartbeats 4000000 in
set_option maxRecDepth 100000 in
theorem c_X7_bring21 (l : Launch) (D : va_G) (Z : CZ) (A : Nat → Nat) (σ : St)    : CTv l yX7_bring wsX7_bring 0 0 D Z (wM Z A) σ [.ref (A 2), .int (nI 0), .ref (A 1), .int (nI 0)] (fun σ' => σ' = up2 σ 1 (va_cpy (σ 2) (σ 1) 0 0 51)) := by
  refine CTv.mk (cc := cX7_bring) (nL := 5) (own := RX7) rfl (by decide) rfl (Nat.le_of_ble_eq_true rfl) ?_
  intro p0 e0 s0 m0 g0 b0 t0 c0 A0 Q C hret
  refine cw_lv (lv' := [(0, .ref (A 2)), (1, .int (nI 0)), (2, .ref (A 1)), (3, .int (nI 0))]) [0, 1, 2, 3] rfl ?_
  refine cw_eq (σ' := up2 σ 1 (σ 1)) (up2_self _ _).symm ?_
  refine cw_eq (σ' := up2 σ 1 (va_cpy (σ 2) (σ 1) 0 0 0)) (congrArg (fun qz => up2 σ 1 qz) cpy_0.symm) ?_
  refine cw_iconst (pc := 0) C dX7_bring_0 (nI 0) (by decide) ?_
  refine cw_istore (pc := 1) C dX7_bring_1 (by decide) (lv' := [(4, .int (nI 0)), (0, .ref (A 2)), (1, .int (nI 0)), (2, .ref (A 1)), (3, .int (nI 0))]) rfl ?_
  have L3 : ∀ (n3 : Nat) (n : Nat) (hn : n ≤ 51) (hm : 51 < n + n3), CW p0 l e0 (rmC 0 0) s0 m0 g0 b0 t0 c0 D A0 5 (wM Z A) Q (up2 σ 1 (va_cpy (σ 2) (σ 1) 0 0 n)) 3 [(0, .ref (A 2)), (1, .int (nI 0)), (2, .ref (A 1)), (3, .int (nI 0)), (4, .int (nI n))] [] := by
    intro n3
    induction n3 with
    | zero => intro n hn hm; exact absurd hm (by omega)
    | succ n3 ih3 =>
      intro n hn hm
      refine cw_iload (pc := 3) C dX7_bring_3 4 rfl ?_
      refine cw_bipush (pc := 5) C dX7_bring_5 (nI 51) (by decide) ?_
      refine cw_icmp_ge (pc := 7) (tgt := 28) C dX7_bring_7 (by decide) (fun h7 => ?_) (fun h7 => ?_)
      · -- 7 t
        have h7 : 51 ≤ n := (nc_ge (a := n) (b := 51) (by omega) (by omega)).mp h7
        have hn51 : n = 51 := by omega
        refine hret (up2 σ 1 (va_cpy (σ 2) (σ 1) 0 0 n)) _ _ dX7_bring_28 ?_
        clear hret
        rw [hn51]
      · -- 7 f
        have h7 : ¬ (51 ≤ n) := fun qq => h7 ((nc_ge (a := n) (b := 51) (by omega) (by omega)).mpr qq)
        refine cw_aload_n (pc := 10) C dX7_bring_10 rfl 2 rfl ?_
        refine cw_iload_n (pc := 11) C dX7_bring_11 rfl 3 rfl ?_
        refine cw_iload (pc := 12) C dX7_bring_12 4 rfl ?_
        refine cw_iadd (pc := 14) C dX7_bring_14 (z := nI n) (nI_0add _) ?_
        refine cw_aload_n (pc := 15) C dX7_bring_15 rfl 0 rfl ?_
        refine cw_iload_n (pc := 16) C dX7_bring_16 rfl 1 rfl ?_
        refine cw_iload (pc := 17) C dX7_bring_17 4 rfl ?_
        refine cw_iadd (pc := 19) C dX7_bring_19 (z := nI n) (nI_0add _) ?_
        refine cw_iald2 (pc := 20) C dX7_bring_20 2 2 (wM_g2 Z A) (f := σ 2) (up2_ne _ _ (by decide)) n rfl (by omega) (by decide) ?_
        refine cw_iast2 (pc := 21) C dX7_bring_21 1 1 (wM_g1 Z A) (wM_s1 Z A) (f := va_cpy (σ 2) (σ 1) 0 0 n) (up2_eq _ _ _) n rfl (by omega) (by decide) (up2 σ 1 (upd (va_cpy (σ 2) (σ 1) 0 0 n) n (σ 2 n))) (up2_up2 _ 1 _ _) ?_
        refine cw_eq (σ' := up2 σ 1 (va_cpy (σ 2) (σ 1) 0 0 (n + 1))) (congrArg (fun qz => up2 σ 1 qz) cpy_00) ?_
        refine cw_iinc (pc := 22) C dX7_bring_22 4 rfl (nI (n + 1)) (nI_inc _ 1) (by decide) (lv' := [(4, .int (nI (n + 1))), (0, .ref (A 2)), (1, .int (nI 0)), (2, .ref (A 1)), (3, .int (nI 0))]) rfl ?_
        refine cw_goto (pc := 25) (tgt := 3) C dX7_bring_25 (by decide) ?_
        refine cw_lv [1, 2, 3, 4, 0] rfl ?_
        exact ih3 (n + 1) (by omega) (by omega)
  refine cw_lv [1, 2, 3, 4, 0] rfl ?_
  exact L3 52 0 (by omega) (by omega)
set_option maxHeartbeats 4000000 in
set_option maxRecDepth 100000 in
theorem c_X7_bring23 (l : Launch) (D : va_G) (Z : CZ) (A : Nat → Nat) (σ : St)  (jj : Nat) (hj : jj + 51 ≤ 255) : CTv l yX7_bring wsX7_bring 0 0 D Z (wM Z A) σ [.ref (A 2), .int (nI 0), .ref (A 3), .int (nI jj)] (fun σ' => σ' = up2 σ 3 (va_cpy (σ 2) (σ 3) 0 jj 51)) := by
  refine CTv.mk (cc := cX7_bring) (nL := 5) (own := RX7) rfl (by decide) rfl (Nat.le_of_ble_eq_true rfl) ?_
  intro p0 e0 s0 m0 g0 b0 t0 c0 A0 Q C hret
  refine cw_lv (lv' := [(0, .ref (A 2)), (1, .int (nI 0)), (2, .ref (A 3)), (3, .int (nI jj))]) [0, 1, 2, 3] rfl ?_
  refine cw_eq (σ' := up2 σ 3 (σ 3)) (up2_self _ _).symm ?_
  refine cw_eq (σ' := up2 σ 3 (va_cpy (σ 2) (σ 3) 0 jj 0)) (congrArg (fun qz => up2 σ 3 qz) cpy_0.symm) ?_
  refine cw_iconst (pc := 0) C dX7_bring_0 (nI 0) (by decide) ?_
  refine cw_istore (pc := 1) C dX7_bring_1 (by decide) (lv' := [(4, .int (nI 0)), (0, .ref (A 2)), (1, .int (nI 0)), (2, .ref (A 3)), (3, .int (nI jj))]) rfl ?_
  have L3 : ∀ (n3 : Nat) (n : Nat) (hn : n ≤ 51) (hm : 51 < n + n3), CW p0 l e0 (rmC 0 0) s0 m0 g0 b0 t0 c0 D A0 5 (wM Z A) Q (up2 σ 3 (va_cpy (σ 2) (σ 3) 0 jj n)) 3 [(0, .ref (A 2)), (1, .int (nI 0)), (2, .ref (A 3)), (3, .int (nI jj)), (4, .int (nI n))] [] := by
    intro n3
    induction n3 with
    | zero => intro n hn hm; exact absurd hm (by omega)
    | succ n3 ih3 =>
      intro n hn hm
      refine cw_iload (pc := 3) C dX7_bring_3 4 rfl ?_
      refine cw_bipush (pc := 5) C dX7_bring_5 (nI 51) (by decide) ?_
      refine cw_icmp_ge (pc := 7) (tgt := 28) C dX7_bring_7 (by decide) (fun h7 => ?_) (fun h7 => ?_)
      · -- 7 t
        have h7 : 51 ≤ n := (nc_ge (a := n) (b := 51) (by omega) (by omega)).mp h7
        have hn51 : n = 51 := by omega
        refine hret (up2 σ 3 (va_cpy (σ 2) (σ 3) 0 jj n)) _ _ dX7_bring_28 ?_
        clear hret
        rw [hn51]
      · -- 7 f
        have h7 : ¬ (51 ≤ n) := fun qq => h7 ((nc_ge (a := n) (b := 51) (by omega) (by omega)).mpr qq)
        refine cw_aload_n (pc := 10) C dX7_bring_10 rfl 2 rfl ?_
        refine cw_iload_n (pc := 11) C dX7_bring_11 rfl 3 rfl ?_
        refine cw_iload (pc := 12) C dX7_bring_12 4 rfl ?_
        refine cw_iadd (pc := 14) C dX7_bring_14 (z := nI (jj + n)) (nI_add _ _) ?_
        refine cw_aload_n (pc := 15) C dX7_bring_15 rfl 0 rfl ?_
        refine cw_iload_n (pc := 16) C dX7_bring_16 rfl 1 rfl ?_
        refine cw_iload (pc := 17) C dX7_bring_17 4 rfl ?_
        refine cw_iadd (pc := 19) C dX7_bring_19 (z := nI n) (nI_0add _) ?_
        refine cw_iald2 (pc := 20) C dX7_bring_20 2 2 (wM_g2 Z A) (f := σ 2) (up2_ne _ _ (by decide)) n rfl (by omega) (by decide) ?_
        refine cw_iast2 (pc := 21) C dX7_bring_21 3 3 (wM_g3 Z A) (wM_s3 Z A) (f := va_cpy (σ 2) (σ 3) 0 jj n) (up2_eq _ _ _) (jj + n) rfl (by omega) (by decide) (up2 σ 3 (upd (va_cpy (σ 2) (σ 3) 0 jj n) (jj + n) (σ 2 n))) (up2_up2 _ 3 _ _) ?_
        refine cw_eq (σ' := up2 σ 3 (va_cpy (σ 2) (σ 3) 0 jj (n + 1))) (congrArg (fun qz => up2 σ 3 qz) cpy_0j) ?_
        refine cw_iinc (pc := 22) C dX7_bring_22 4 rfl (nI (n + 1)) (nI_inc _ 1) (by decide) (lv' := [(4, .int (nI (n + 1))), (0, .ref (A 2)), (1, .int (nI 0)), (2, .ref (A 3)), (3, .int (nI jj))]) rfl ?_
        refine cw_goto (pc := 25) (tgt := 3) C dX7_bring_25 (by decide) ?_
        refine cw_lv [1, 2, 3, 4, 0] rfl ?_
        exact ih3 (n + 1) (by omega) (by omega)
  refine cw_lv [1, 2, 3, 4, 0] rfl ?_
  exact L3 52 0 (by omega) (by omega)
set_option maxHeartbeats 4000000 in
set_option maxRecDepth 100000 in
theorem c_X7_bring31 (l : Launch) (D : va_G) (Z : CZ) (A : Nat → Nat) (σ : St)  (ii : Nat) (hj : ii + 51 ≤ 255) : CTv l yX7_bring wsX7_bring 0 0 D Z (wM Z A) σ [.ref (A 3), .int (nI ii), .ref (A 1), .int (nI 0)] (fun σ' => σ' = up2 σ 1 (va_cpy (σ 3) (σ 1) ii 0 51)) := by
  refine CTv.mk (cc := cX7_bring) (nL := 5) (own := RX7) rfl (by decide) rfl (Nat.le_of_ble_eq_true rfl) ?_
  intro p0 e0 s0 m0 g0 b0 t0 c0 A0 Q C hret
  refine cw_lv (lv' := [(0, .ref (A 3)), (1, .int (nI ii)), (2, .ref (A 1)), (3, .int (nI 0))]) [0, 1, 2, 3] rfl ?_
  refine cw_eq (σ' := up2 σ 1 (σ 1)) (up2_self _ _).symm ?_
  refine cw_eq (σ' := up2 σ 1 (va_cpy (σ 3) (σ 1) ii 0 0)) (congrArg (fun qz => up2 σ 1 qz) cpy_0.symm) ?_
  refine cw_iconst (pc := 0) C dX7_bring_0 (nI 0) (by decide) ?_
  refine cw_istore (pc := 1) C dX7_bring_1 (by decide) (lv' := [(4, .int (nI 0)), (0, .ref (A 3)), (1, .int (nI ii)), (2, .ref (A 1)), (3, .int (nI 0))]) rfl ?_
  have L3 : ∀ (n3 : Nat) (n : Nat) (hn : n ≤ 51) (hm : 51 < n + n3), CW p0 l e0 (rmC 0 0) s0 m0 g0 b0 t0 c0 D A0 5 (wM Z A) Q (up2 σ 1 (va_cpy (σ 3) (σ 1) ii 0 n)) 3 [(0, .ref (A 3)), (1, .int (nI ii)), (2, .ref (A 1)), (3, .int (nI 0)), (4, .int (nI n))] [] := by
    intro n3
    induction n3 with
    | zero => intro n hn hm; exact absurd hm (by omega)
    | succ n3 ih3 =>
      intro n hn hm
      refine cw_iload (pc := 3) C dX7_bring_3 4 rfl ?_
      refine cw_bipush (pc := 5) C dX7_bring_5 (nI 51) (by decide) ?_
      refine cw_icmp_ge (pc := 7) (tgt := 28) C dX7_bring_7 (by decide) (fun h7 => ?_) (fun h7 => ?_)
      · -- 7 t
        have h7 : 51 ≤ n := (nc_ge (a := n) (b := 51) (by omega) (by omega)).mp h7
        have hn51 : n = 51 := by omega
        refine hret (up2 σ 1 (va_cpy (σ 3) (σ 1) ii 0 n)) _ _ dX7_bring_28 ?_
        clear hret
        rw [hn51]
      · -- 7 f
        have h7 : ¬ (51 ≤ n) := fun qq => h7 ((nc_ge (a := n) (b := 51) (by omega) (by omega)).mpr qq)
        refine cw_aload_n (pc := 10) C dX7_bring_10 rfl 2 rfl ?_
        refine cw_iload_n (pc := 11) C dX7_bring_11 rfl 3 rfl ?_
        refine cw_iload (pc := 12) C dX7_bring_12 4 rfl ?_
        refine cw_iadd (pc := 14) C dX7_bring_14 (z := nI n) (nI_0add _) ?_
        refine cw_aload_n (pc := 15) C dX7_bring_15 rfl 0 rfl ?_
        refine cw_iload_n (pc := 16) C dX7_bring_16 rfl 1 rfl ?_
        refine cw_iload (pc := 17) C dX7_bring_17 4 rfl ?_
        refine cw_iadd (pc := 19) C dX7_bring_19 (z := nI (ii + n)) (nI_add _ _) ?_
        refine cw_iald2 (pc := 20) C dX7_bring_20 3 3 (wM_g3 Z A) (f := σ 3) (up2_ne _ _ (by decide)) (ii + n) rfl (by omega) (by decide) ?_
        refine cw_iast2 (pc := 21) C dX7_bring_21 1 1 (wM_g1 Z A) (wM_s1 Z A) (f := va_cpy (σ 3) (σ 1) ii 0 n) (up2_eq _ _ _) n rfl (by omega) (by decide) (up2 σ 1 (upd (va_cpy (σ 3) (σ 1) ii 0 n) n (σ 3 (ii + n)))) (up2_up2 _ 1 _ _) ?_
        refine cw_eq (σ' := up2 σ 1 (va_cpy (σ 3) (σ 1) ii 0 (n + 1))) (congrArg (fun qz => up2 σ 1 qz) cpy_i0) ?_
        refine cw_iinc (pc := 22) C dX7_bring_22 4 rfl (nI (n + 1)) (nI_inc _ 1) (by decide) (lv' := [(4, .int (nI (n + 1))), (0, .ref (A 3)), (1, .int (nI ii)), (2, .ref (A 1)), (3, .int (nI 0))]) rfl ?_
        refine cw_goto (pc := 25) (tgt := 3) C dX7_bring_25 (by decide) ?_
        refine cw_lv [1, 2, 3, 4, 0] rfl ?_
        exact ih3 (n + 1) (by omega) (by omega)
  refine cw_lv [1, 2, 3, 4, 0] rfl ?_
  exact L3 52 0 (by omega) (by omega)
set_option maxHeartbeats 4000000 in
set_option maxRecDepth 100000 in
theorem c_X7_save (l : Launch) (D : va_G) (Z : CZ) (A : Nat → Nat) (σ : St)    : CTv l yX7_save wsX7_save 1 24 D Z (wM Z A) σ [.ref (A 0)] (fun σ' => σ' = up2 σ 2 (va_cpy (σ 1) (σ 2) 0 0 51)) := by
  refine CTv.mk (cc := cX7_save) (nL := 1) (own := RX7) rfl (by decide) rfl (Nat.le_of_ble_eq_true rfl) ?_
  intro p0 e0 s0 m0 g0 b0 t0 c0 A0 Q C hret
  refine cw_lv (lv' := [(0, .ref (A 0))]) [0] rfl ?_
  refine cw_aload_n (pc := 0) C dX7_save_0 rfl 0 rfl ?_
  refine cw_get (pc := 1) C dX7_save_1 0 (v := .ref (A 1)) rfl rfl 0 rfl (fun _ h => List.mem_cons_of_mem _ (List.mem_append_right _ h)) (by decide) (List.mem_of_getElem? (i := 1) rfl) ?_
  refine cw_iconst (pc := 4) C dX7_save_4 (nI 0) (by decide) ?_
  refine cw_aload_n (pc := 5) C dX7_save_5 rfl 0 rfl ?_
  refine cw_get (pc := 6) C dX7_save_6 0 (v := .ref (A 2)) rfl rfl 1 rfl (fun _ h => List.mem_cons_of_mem _ (List.mem_append_right _ h)) (by decide) (List.mem_of_getElem? (i := 2) rfl) ?_
  refine cw_iconst (pc := 9) C dX7_save_9 (nI 0) (by decide) ?_
  refine cw_callsv (pc := 10) C dX7_save_10 (c_X7_bring12 l D Z A σ ) (va_cwS 4 C.1.2.2.2.2 gX7_save_X7_bring rfl rfl rfl (by decide +kernel) ⟨Nat.le_of_ble_eq_true rfl, Nat.le_of_ble_eq_true rfl⟩) rfl rfl (Nat.le_of_ble_eq_true rfl) (cw_effv (fun _ h => h) (up2 σ 2 (va_cpy (σ 1) (σ 2) 0 0 51)) rfl ?_)
  refine hret (up2 σ 2 (va_cpy (σ 1) (σ 2) 0 0 51)) _ _ dX7_save_13 ?_
  clear hret
  rfl
set_option maxHeartbeats 4000000 in
set_option maxRecDepth 100000 in
theorem c_X7_finish (l : Launch) (D : va_G) (Z : CZ) (A : Nat → Nat) (σ : St) (X : Nat → Int32) (K : Nat → Nat → Int32) (nn : Nat) (v : Int32) (hA : ∀ k, k < 51 → σ 2 k = mrow X k) (hP : pastOK (σ 3) K nn) (hn : σ 0 3 = nI nn) (hnn : nn ≤ 5) : CTi l yX7_finish wsX7_finish 1 24 D Z (wM Z A) σ [.ref (A 0), .int (v)] (fun r σ' => r = v ∧ ((v = -2 ∧ σ' = up2 σ 4 (upd (σ 4) 0 (σ 4 0 + nI 1))) ∨ (v = -3 ∧ σ' = up2 σ 4 (upd (σ 4) 1 (σ 4 1 + nI 1))) ∨ (¬ v = -2 ∧ ¬ v = -3 ∧ ∃ P : Nat → Int32, σ' = up2 (up2 σ 0 (upd (σ 0) 3 (nI (min (nn + 1) 5)))) 3 P ∧ pastOK P (psh K nn X) (min (nn + 1) 5)))) := by
  refine CTi.mk (cc := cX7_finish) (nL := 3) (own := RX7) rfl (by decide) rfl (Nat.le_of_ble_eq_true rfl) ?_
  intro p0 e0 s0 m0 g0 b0 t0 c0 A0 Q C hret
  refine cw_lv (lv' := [(0, .ref (A 0)), (1, .int (v))]) [0, 1] rfl ?_
  refine cw_iload_n (pc := 0) C dX7_finish_0 rfl 1 rfl ?_
  refine cw_bipush (pc := 1) C dX7_finish_1 (-2) (by decide) ?_
  refine cw_icmp_eq (pc := 3) (tgt := 12) C dX7_finish_3 (by decide) (fun h3 => ?_) (fun h3 => ?_)
  · -- 3 t
    subst h3
    refine cw_aload_n (pc := 12) C dX7_finish_12 rfl 0 rfl ?_
    refine cw_iload_n (pc := 13) C dX7_finish_13 rfl 1 rfl ?_
    refine cw_calli (pc := 14) C dX7_finish_14 (c_X7_refuse0 l D Z A σ ) (cwV 1 C.1.2.2.2.2 gX7_finish_X7_refuse rfl rfl rfl (by decide +kernel) ⟨Nat.le_of_ble_eq_true rfl, Nat.le_of_ble_eq_true rfl⟩) 0 rfl rfl rfl rfl (Nat.le_of_ble_eq_true rfl) (cw_eff (v := (-2)) (fun _ _ h => h) (up2 σ 4 (upd (σ 4) 0 ((σ 4) 0 + nI 1))) rfl ?_)
    refine hret (-2) (up2 σ 4 (upd (σ 4) 0 ((σ 4) 0 + nI 1))) _ _ dX7_finish_17 ?_
    clear hret
    exact ⟨rfl, Or.inl ⟨rfl, rfl⟩⟩
  · -- 3 f
    refine cw_iload_n (pc := 6) C dX7_finish_6 rfl 1 rfl ?_
    refine cw_bipush (pc := 7) C dX7_finish_7 (-3) (by decide) ?_
    refine cw_icmp_ne (pc := 9) (tgt := 18) C dX7_finish_9 (by decide) (fun h9 => ?_) (fun h9 => ?_)
    · -- 9 t
      refine cw_aload_n (pc := 18) C dX7_finish_18 rfl 0 rfl ?_
      refine cw_get (pc := 19) C dX7_finish_19 0 (v := .int (σ 0 3)) rfl rfl 3 rfl (fun _ h => List.mem_cons_of_mem _ (List.mem_append_right _ h)) (by decide) (List.mem_of_getElem? (i := 1) rfl) ?_
      refine cw_top (nI nn) hn ?_
      refine cw_iconst (pc := 22) C dX7_finish_22 (nI 5) (by decide) ?_
      refine cw_icmp_ne (pc := 23) (tgt := 66) C dX7_finish_23 (by decide) (fun h23 => ?_) (fun h23 => ?_)
      · -- 23 t
        have h23 : ¬ nn = 5 := (nc_ne (a := nn) (b := 5) (by omega) (by omega)).mp h23
        refine cw_aload_n (pc := 66) C dX7_finish_66 rfl 0 rfl ?_
        refine cw_get (pc := 67) C dX7_finish_67 0 (v := .ref (A 2)) rfl rfl 1 rfl (fun _ h => List.mem_cons_of_mem _ (List.mem_append_right _ h)) (by decide) (List.mem_of_getElem? (i := 3) rfl) ?_
        refine cw_iconst (pc := 70) C dX7_finish_70 (nI 0) (by decide) ?_
        refine cw_aload_n (pc := 71) C dX7_finish_71 rfl 0 rfl ?_
        refine cw_get (pc := 72) C dX7_finish_72 0 (v := .ref (A 3)) rfl rfl 2 rfl (fun _ h => List.mem_cons_of_mem _ (List.mem_append_right _ h)) (by decide) (List.mem_of_getElem? (i := 2) rfl) ?_
        refine cw_bipush (pc := 75) C dX7_finish_75 (nI 51) (by decide) ?_
        refine cw_aload_n (pc := 77) C dX7_finish_77 rfl 0 rfl ?_
        refine cw_get (pc := 78) C dX7_finish_78 0 (v := .int (σ 0 3)) rfl rfl 3 rfl (fun _ h => List.mem_cons_of_mem _ (List.mem_append_right _ h)) (by decide) (List.mem_of_getElem? (i := 1) rfl) ?_
        refine cw_top (nI nn) hn ?_
        refine cw_imul (pc := 81) C dX7_finish_81 (z := nI (51 * nn)) (pk_mul _ _) ?_
        refine cw_callsv (pc := 82) C dX7_finish_82 (c_X7_bring23 l D Z A σ (51 * nn) (by omega)) (va_cwS 4 C.1.2.2.2.2 gX7_finish_X7_bring rfl rfl rfl (by decide +kernel) ⟨Nat.le_of_ble_eq_true rfl, Nat.le_of_ble_eq_true rfl⟩) rfl rfl (Nat.le_of_ble_eq_true rfl) (cw_effv (fun _ h => h) (up2 σ 3 (va_cpy (σ 2) (σ 3) 0 (51 * nn) 51)) rfl ?_)
        refine cw_aload_n (pc := 85) C dX7_finish_85 rfl 0 rfl ?_
        refine cw_dup (pc := 86) C dX7_finish_86 rfl ?_
        refine cw_get (pc := 87) C dX7_finish_87 0 (v := .int (σ 0 3)) rfl rfl 3 rfl (fun _ h => List.mem_cons_of_mem _ (List.mem_append_right _ h)) (by decide) (List.mem_of_getElem? (i := 1) rfl) ?_
        refine cw_top (nI nn) hn ?_
        refine cw_iconst (pc := 90) C dX7_finish_90 (nI 1) (by decide) ?_
        refine cw_iadd (pc := 91) C dX7_finish_91 (z := nI (nn + 1)) (nI_add _ _) ?_
        refine cw_put (pc := 92) C dX7_finish_92 0 (ty := .int) rfl rfl 3 (fun _ h => List.mem_cons_of_mem _ (List.mem_append_right _ h)) tyX7_ok nmX7 (by decide) (List.mem_of_getElem? (i := 1) rfl) rfl (by decide +kernel) rfl rfl (Nat.le_of_ble_eq_true rfl) (up2 (up2 σ 0 (upd (σ 0) 3 (nI (nn + 1)))) 3 (va_cpy (σ 2) (σ 3) 0 (51 * nn) 51)) ((wM_p0_3 Z A _ _).trans (congrArg (wM Z A) ((up2_comm _ _ _ (by decide)).trans (congrArg (fun qz => up2 qz 3 (va_cpy (σ 2) (σ 3) 0 (51 * nn) 51)) rfl)))) ?_
        refine cw_iload_n (pc := 95) C dX7_finish_95 rfl 1 rfl ?_
        refine hret v (up2 (up2 σ 0 (upd (σ 0) 3 (nI (nn + 1)))) 3 (va_cpy (σ 2) (σ 3) 0 (51 * nn) 51)) _ _ dX7_finish_96 ?_
        clear hret
        refine ⟨rfl, Or.inr (Or.inr ⟨h3, h9, _, ?_, fin_b hP hA (by omega)⟩)⟩
        rw [show min (nn + 1) 5 = nn + 1 by omega]
      · -- 23 f
        have h23 : nn = 5 := (nc_eq (a := nn) (b := 5) (by omega) (by omega)).mp h23
        have h23 : nn = 5 := by omega
        refine cw_eq (σ' := up2 σ 3 (σ 3)) (up2_self _ _).symm ?_
        refine cw_eq (σ' := up2 σ 3 (va_cpy (σ 3) (σ 3) 51 0 0)) (congrArg (fun qz => up2 σ 3 qz) cpy_0.symm) ?_
        refine cw_iconst (pc := 26) C dX7_finish_26 (nI 0) (by decide) ?_
        refine cw_istore_n (pc := 27) C dX7_finish_27 rfl (by decide) (lv' := [(2, .int (nI 0)), (0, .ref (A 0)), (1, .int (v))]) rfl ?_
        have L28 : ∀ (n28 : Nat) (i : Nat) (hi : i ≤ 204) (hm : 204 < i + n28), CW p0 l e0 (rmC 1 24) s0 m0 g0 b0 t0 c0 D A0 3 (wM Z A) Q (up2 σ 3 (va_cpy (σ 3) (σ 3) 51 0 i)) 28 [(0, .ref (A 0)), (1, .int (v)), (2, .int (nI i))] [] := by
          intro n28
          induction n28 with
          | zero => intro i hi hm; exact absurd hm (by omega)
          | succ n28 ih28 =>
            intro i hi hm
            refine cw_iload_n (pc := 28) C dX7_finish_28 rfl 2 rfl ?_
            refine cw_sipush (pc := 29) C dX7_finish_29 (nI 204) (by decide) ?_
            refine cw_icmp_ge (pc := 32) (tgt := 56) C dX7_finish_32 (by decide) (fun h32 => ?_) (fun h32 => ?_)
            · -- 32 t
              have h32 : 204 ≤ i := (nc_ge (a := i) (b := 204) (by omega) (by omega)).mp h32
              have hi4 : i = 204 := by omega
              refine cw_eq (σ' := up2 σ 3 (va_cpy (σ 3) (σ 3) 51 0 204)) (congrArg (fun qz => up2 σ 3 qz) (congrArg (va_cpy (σ 3) (σ 3) 51 0) hi4)) ?_
              refine cw_aload_n (pc := 56) C dX7_finish_56 rfl 0 rfl ?_
              refine cw_dup (pc := 57) C dX7_finish_57 rfl ?_
              refine cw_get (pc := 58) C dX7_finish_58 0 (v := .int (σ 0 3)) rfl rfl 3 rfl (fun _ h => List.mem_cons_of_mem _ (List.mem_append_right _ h)) (by decide) (List.mem_of_getElem? (i := 1) rfl) ?_
              refine cw_top (nI nn) hn ?_
              refine cw_iconst (pc := 61) C dX7_finish_61 (nI 1) (by decide) ?_
              refine cw_isub (pc := 62) C dX7_finish_62 (z := nI (nn - 1)) (pk_sub (by omega)) ?_
              refine cw_put (pc := 63) C dX7_finish_63 0 (ty := .int) rfl rfl 3 (fun _ h => List.mem_cons_of_mem _ (List.mem_append_right _ h)) tyX7_ok nmX7 (by decide) (List.mem_of_getElem? (i := 1) rfl) rfl (by decide +kernel) rfl rfl (Nat.le_of_ble_eq_true rfl) (up2 (up2 σ 0 (upd (σ 0) 3 (nI (nn - 1)))) 3 (va_cpy (σ 3) (σ 3) 51 0 204)) ((wM_p0_3 Z A _ _).trans (congrArg (wM Z A) ((up2_comm _ _ _ (by decide)).trans (congrArg (fun qz => up2 qz 3 (va_cpy (σ 3) (σ 3) 51 0 204)) rfl)))) ?_
              refine cw_aload_n (pc := 66) C dX7_finish_66 rfl 0 rfl ?_
              refine cw_get (pc := 67) C dX7_finish_67 0 (v := .ref (A 2)) rfl rfl 1 rfl (fun _ h => List.mem_cons_of_mem _ (List.mem_append_right _ h)) (by decide) (List.mem_of_getElem? (i := 3) rfl) ?_
              refine cw_iconst (pc := 70) C dX7_finish_70 (nI 0) (by decide) ?_
              refine cw_aload_n (pc := 71) C dX7_finish_71 rfl 0 rfl ?_
              refine cw_get (pc := 72) C dX7_finish_72 0 (v := .ref (A 3)) rfl rfl 2 rfl (fun _ h => List.mem_cons_of_mem _ (List.mem_append_right _ h)) (by decide) (List.mem_of_getElem? (i := 2) rfl) ?_
              refine cw_bipush (pc := 75) C dX7_finish_75 (nI 51) (by decide) ?_
              refine cw_aload_n (pc := 77) C dX7_finish_77 rfl 0 rfl ?_
              refine cw_get (pc := 78) C dX7_finish_78 0 (v := .int ((upd (σ 0) 3 (nI (nn - 1))) 3)) rfl rfl 3 rfl (fun _ h => List.mem_cons_of_mem _ (List.mem_append_right _ h)) (by decide) (List.mem_of_getElem? (i := 1) rfl) ?_
              refine cw_top (nI (nn - 1)) (upd_same _ _ _) ?_
              refine cw_imul (pc := 81) C dX7_finish_81 (z := nI (51 * (nn - 1))) (pk_mul _ _) ?_
              have hf2 : (up2 (up2 σ 0 (upd (σ 0) 3 (nI (nn - 1)))) 3 (va_cpy (σ 3) (σ 3) 51 0 204)) 2 = σ 2 := ((up2_ne _ _ (by decide)).trans (up2_ne _ _ (by decide)))
              have hf3 : (up2 (up2 σ 0 (upd (σ 0) 3 (nI (nn - 1)))) 3 (va_cpy (σ 3) (σ 3) 51 0 204)) 3 = va_cpy (σ 3) (σ 3) 51 0 204 := (up2_eq _ _ _)
              have ee0 := congrArg (fun qz => va_cpy qz ((up2 (up2 σ 0 (upd (σ 0) 3 (nI (nn - 1)))) 3 (va_cpy (σ 3) (σ 3) 51 0 204)) 3) 0 (51 * (nn - 1)) 51) hf2
              have ee1 := congrArg (fun qz => va_cpy (σ 2) qz 0 (51 * (nn - 1)) 51) hf3
              have e3 := congrArg (fun qz => up2 (up2 σ 0 (upd (σ 0) 3 (nI (nn - 1)))) 3 qz) (ee0.trans ee1)
              refine cw_callsv (pc := 82) C dX7_finish_82 (c_X7_bring23 l D Z A (up2 (up2 σ 0 (upd (σ 0) 3 (nI (nn - 1)))) 3 (va_cpy (σ 3) (σ 3) 51 0 204)) (51 * (nn - 1)) (by omega)) (va_cwS 4 C.1.2.2.2.2 gX7_finish_X7_bring rfl rfl rfl (by decide +kernel) ⟨Nat.le_of_ble_eq_true rfl, Nat.le_of_ble_eq_true rfl⟩) rfl rfl (Nat.le_of_ble_eq_true rfl) (cw_effv (fun _ h => h) (up2 (up2 σ 0 (upd (σ 0) 3 (nI (nn - 1)))) 3 (va_cpy (σ 2) (va_cpy (σ 3) (σ 3) 51 0 204) 0 (51 * (nn - 1)) 51)) (congrArg (wM Z A) ((up2_up2 _ 3 _ _).trans e3)) ?_)
              refine cw_aload_n (pc := 85) C dX7_finish_85 rfl 0 rfl ?_
              refine cw_dup (pc := 86) C dX7_finish_86 rfl ?_
              refine cw_get (pc := 87) C dX7_finish_87 0 (v := .int ((upd (σ 0) 3 (nI (nn - 1))) 3)) rfl rfl 3 rfl (fun _ h => List.mem_cons_of_mem _ (List.mem_append_right _ h)) (by decide) (List.mem_of_getElem? (i := 1) rfl) ?_
              refine cw_top (nI (nn - 1)) (upd_same _ _ _) ?_
              refine cw_iconst (pc := 90) C dX7_finish_90 (nI 1) (by decide) ?_
              refine cw_iadd (pc := 91) C dX7_finish_91 (z := nI ((nn - 1) + 1)) (nI_add _ _) ?_
              refine cw_put (pc := 92) C dX7_finish_92 0 (ty := .int) rfl rfl 3 (fun _ h => List.mem_cons_of_mem _ (List.mem_append_right _ h)) tyX7_ok nmX7 (by decide) (List.mem_of_getElem? (i := 1) rfl) rfl (by decide +kernel) rfl rfl (Nat.le_of_ble_eq_true rfl) (up2 (up2 σ 0 (upd (upd (σ 0) 3 (nI (nn - 1))) 3 (nI ((nn - 1) + 1)))) 3 (va_cpy (σ 2) (va_cpy (σ 3) (σ 3) 51 0 204) 0 (51 * (nn - 1)) 51)) ((wM_p0_3 Z A _ _).trans (congrArg (wM Z A) ((up2_comm _ _ _ (by decide)).trans (congrArg (fun qz => up2 qz 3 (va_cpy (σ 2) (va_cpy (σ 3) (σ 3) 51 0 204) 0 (51 * (nn - 1)) 51)) (up2_up2 _ 0 _ _))))) ?_
              refine cw_iload_n (pc := 95) C dX7_finish_95 rfl 1 rfl ?_
              refine hret v (up2 (up2 σ 0 (upd (upd (σ 0) 3 (nI (nn - 1))) 3 (nI ((nn - 1) + 1)))) 3 (va_cpy (σ 2) (va_cpy (σ 3) (σ 3) 51 0 204) 0 (51 * (nn - 1)) 51)) _ _ dX7_finish_96 ?_
              clear hret
              refine ⟨rfl, Or.inr (Or.inr ⟨h3, h9, _, ?_, fin_a hP hA h23⟩)⟩
              rw [upd_upd, show min (nn + 1) 5 = nn - 1 + 1 by omega]
            · -- 32 f
              have h32 : ¬ (204 ≤ i) := fun qq => h32 ((nc_ge (a := i) (b := 204) (by omega) (by omega)).mpr qq)
              refine cw_aload_n (pc := 35) C dX7_finish_35 rfl 0 rfl ?_
              refine cw_get (pc := 36) C dX7_finish_36 0 (v := .ref (A 3)) rfl rfl 2 rfl (fun _ h => List.mem_cons_of_mem _ (List.mem_append_right _ h)) (by decide) (List.mem_of_getElem? (i := 2) rfl) ?_
              refine cw_iload_n (pc := 39) C dX7_finish_39 rfl 2 rfl ?_
              refine cw_aload_n (pc := 40) C dX7_finish_40 rfl 0 rfl ?_
              refine cw_get (pc := 41) C dX7_finish_41 0 (v := .ref (A 3)) rfl rfl 2 rfl (fun _ h => List.mem_cons_of_mem _ (List.mem_append_right _ h)) (by decide) (List.mem_of_getElem? (i := 2) rfl) ?_
              refine cw_iload_n (pc := 44) C dX7_finish_44 rfl 2 rfl ?_
              refine cw_bipush (pc := 45) C dX7_finish_45 (nI 51) (by decide) ?_
              refine cw_iadd (pc := 47) C dX7_finish_47 (z := nI (i + 51)) (nI_add _ _) ?_
              refine cw_iald2 (pc := 48) C dX7_finish_48 3 3 (wM_g3 Z A) (f := va_cpy (σ 3) (σ 3) 51 0 i) (up2_eq _ _ _) (i + 51) rfl (by omega) (by decide) ?_
              refine cw_top (σ 3 (51 + i)) (by rw [pk_cpy_out (by omega)]; exact congrArg (σ 3) (by omega)) ?_
              refine cw_iast2 (pc := 49) C dX7_finish_49 3 3 (wM_g3 Z A) (wM_s3 Z A) (f := va_cpy (σ 3) (σ 3) 51 0 i) (up2_eq _ _ _) i rfl (by omega) (by decide) (up2 σ 3 (upd (va_cpy (σ 3) (σ 3) 51 0 i) i (σ 3 (51 + i)))) (up2_up2 _ 3 _ _) ?_
              refine cw_eq (σ' := up2 σ 3 (va_cpy (σ 3) (σ 3) 51 0 (i + 1))) (congrArg (fun qz => up2 σ 3 qz) cpy_i0) ?_
              refine cw_iinc (pc := 50) C dX7_finish_50 2 rfl (nI (i + 1)) (nI_inc _ 1) (by decide) (lv' := [(2, .int (nI (i + 1))), (0, .ref (A 0)), (1, .int (v))]) rfl ?_
              refine cw_goto (pc := 53) (tgt := 28) C dX7_finish_53 (by decide) ?_
              refine cw_lv [1, 2, 0] rfl ?_
              exact ih28 (i + 1) (by omega) (by omega)
        refine cw_lv [1, 2, 0] rfl ?_
        exact L28 205 0 (by omega) (by omega)
    · -- 9 f
      subst h9
      refine cw_aload_n (pc := 12) C dX7_finish_12 rfl 0 rfl ?_
      refine cw_iload_n (pc := 13) C dX7_finish_13 rfl 1 rfl ?_
      refine cw_calli (pc := 14) C dX7_finish_14 (c_X7_refuse1 l D Z A σ ) (cwV 1 C.1.2.2.2.2 gX7_finish_X7_refuse rfl rfl rfl (by decide +kernel) ⟨Nat.le_of_ble_eq_true rfl, Nat.le_of_ble_eq_true rfl⟩) 0 rfl rfl rfl rfl (Nat.le_of_ble_eq_true rfl) (cw_eff (v := (-3)) (fun _ _ h => h) (up2 σ 4 (upd (σ 4) 1 ((σ 4) 1 + nI 1))) rfl ?_)
      refine hret (-3) (up2 σ 4 (upd (σ 4) 1 ((σ 4) 1 + nI 1))) _ _ dX7_finish_17 ?_
      clear hret
      exact ⟨rfl, Or.inr (Or.inl ⟨rfl, rfl⟩)⟩
