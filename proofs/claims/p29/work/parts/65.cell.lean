/-- an int of the script, or what stands for it behind its end -/
theorem c_L_cell (l : Launch) (D : va_G) (Z : CZ) (σ : St) (k : Nat) (hk : k < 1000) (hL : Z.2.2.2.1 < 2 ^ 31) : CTi l yL_cell wsL_cell 0 0 D Z (fun _ => []) σ [.ref Z.2.2.1, .int (nI k)] (fun _ _ => True) := by
  refine CTi.mk (cc := cL_cell) (nL := 2) (own := RL) rfl (by decide) rfl (Nat.le_of_ble_eq_true rfl) ?_
  intro p0 e0 s0 m0 g0 b0 t0 c0 A0 Q C hret
  refine cw_lv (lv' := [(0, .ref Z.2.2.1), (1, .int (nI k))]) [0, 1] rfl ?_
  refine cw_iload_n (pc := 0) C dL_cell_0 rfl 1 rfl ?_
  refine cw_aload_n (pc := 1) C dL_cell_1 rfl 0 rfl ?_
  refine cw_slen (pc := 2) C dL_cell_2 ?_
  refine cw_icmp_ge (pc := 3) (tgt := 12) C dL_cell_3 (by decide) (fun h3 => ?_) (fun h3 => ?_)
  · refine cw_ldc (pc := 12) C dL_cell_12 (v := 625341585) (List.mem_of_getElem? (i := 1) rfl) ?_
    refine cw_iload_n (pc := 14) C dL_cell_14 rfl 1 rfl ?_
    refine cw_sipush (pc := 15) C dL_cell_15 (nI 467) (by decide) ?_
    refine cw_iadd (pc := 18) C dL_cell_18 (z := nI k + nI 467) rfl ?_
    refine cw_imul (pc := 19) C dL_cell_19 (z := 625341585 * (nI k + nI 467)) rfl ?_
    refine cw_sipush (pc := 20) C dL_cell_20 (nI 317) (by decide) ?_
    refine cw_iadd (pc := 23) C dL_cell_23 (z := 625341585 * (nI k + nI 467) + nI 317) rfl ?_
    exact hret _ σ _ _ dL_cell_24 trivial
  · have h3 : k < Z.2.2.2.1 := Nat.lt_of_not_le (fun q => h3 ((nI_leI hL (by omega)).mpr q))
    refine cw_aload_n (pc := 6) C dL_cell_6 rfl 0 rfl ?_
    refine cw_iload_n (pc := 7) C dL_cell_7 rfl 1 rfl ?_
    refine cw_sld (pc := 8) C dL_cell_8 k rfl h3 hL ?_
    refine cw_goto (pc := 9) (tgt := 24) C dL_cell_9 (by decide) ?_
    exact hret _ σ _ _ dL_cell_24 trivial
