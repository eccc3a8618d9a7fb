set_option maxHeartbeats 8000000 in
set_option maxRecDepth 100000 in
theorem law_all {p : Program} {l : Launch} {e : Env} {s : State} {m : MethodId} {g : Array Value} {below : List Frame} {meth : Method} {c : Code} {D : va_G} {Z : CZ} {A0 : Nat → Prop} {Q : State → Prop} (C : KX p s m g c cL_law 13 wsL_law RL D Z A0) (hN : NWs s) (hAO : AOK Z s) (hSW : SW Z A0 s s.heap) (hL : Z.2.2.2.1 < 2 ^ 31) (hend : ∀ (w : va_W) (lv : List (Nat × Value)), KW p l e room_1 s m g below meth c D A0 13 Q w 67 2144 349 lv [.int (nI 1)]) : KW p l e room_1 s m g below meth c D A0 13 Q [] 0 0 0 [(0, .ref Z.2.2.1)] [] := by
  refine kw_new (pc := 0) (ci := 6) C tyX6 dL_law_0 inlX6 tyX6_ok (List.mem_of_getElem? (i := 0) rfl) (List.mem_of_getElem? (i := 1) rfl) (List.mem_of_getElem? (i := 2) rfl) rfl [.null, .null, .null, .null, .null, .null, .null, .null, .int 0, .int 0] (fun j hj => by rcases (show j = 0 ∨ j = 1 ∨ j = 2 ∨ j = 3 ∨ j = 4 ∨ j = 5 ∨ j = 6 ∨ j = 7 ∨ j = 8 ∨ j = 9 by omega) with rfl | rfl | rfl | rfl | rfl | rfl | rfl | rfl | rfl | rfl <;> rfl) (Nat.le_of_ble_eq_true rfl) (Nat.le_of_ble_eq_true rfl) (fun q0 => ?_)
  refine kw_dup (pc := 3) C dL_law_3 rfl ?_
  refine kw_init (pc := 4) C hAO dL_law_4 (c_X6_init l D Z q0) (cwI 0 C.1.2.2.2.2 gL_law_X6_init rfl rfl rfl (C.1.2.2.2.2 _ (List.mem_of_getElem? (i := 2) rfl)) (C.1.2.2.2.2 (.methodLink RL 57 yX6_init) (List.mem_of_getElem? (i := 4) rfl)) (C.1.2.2.2.2 (.instanceMethod yX6_init) (List.mem_of_getElem? (i := 5) rfl)) rfl (by decide +kernel) ⟨Nat.le_of_ble_eq_true rfl, Nat.le_of_ble_eq_true rfl⟩) [0] [] (wr := []) rfl rfl rfl (by decide) (by decide) (by decide) rfl (Nat.le_of_ble_eq_true rfl) (Nat.le_of_ble_eq_true rfl) (Nat.le_of_ble_eq_true rfl) (fun u hu => ?_)
  obtain ⟨A, σ⟩ := u
  obtain ⟨hA0, habC⟩ := hu
  have hA0 : A 0 = q0 := hA0
  subst hA0
  refine kw_w (w' := wC Z A σ) rfl ?_
  have h0 : absP σ rowC0 (fun _ => 0) (fun _ _ => 0) 0 0 := ⟨habC, ⟨rowC0_ok, fun i hi => absurd hi (by omega), by decide, by decide, fun j hj => absurd hj (by omega)⟩, ⟨0, by decide, by decide +kernel⟩, fun i hi => absurd hi (by omega)⟩
  refine kw_astore_n (pc := 7) C dL_law_7 rfl (by decide) (lv' := [(1, .ref (A 0)), (0, .ref Z.2.2.1)]) rfl ?_
  refine kw_bipush (pc := 8) C dL_law_8 (nI 8) (by decide) ?_
  refine kw_newl (pc := 10) C dL_law_10 (List.mem_of_getElem? (i := 3) rfl) 8 rfl (by decide) (Nat.le_of_ble_eq_true rfl) (Nat.le_of_ble_eq_true rfl) (fun P => ?_)
  refine kw_astore_n (pc := 12) C dL_law_12 rfl (by decide) (lv' := [(2, .ref P), (1, .ref (A 0)), (0, .ref Z.2.2.1)]) rfl ?_
  refine kw_perm (w' := [(P, .inl (Z.2.2.2.2.2, 8, .inr (.inl (fun _ => 0))))] ++ wC Z A σ) [22, 0, 1, 2, 3, 4, 5, 6, 7, 8, 9, 10, 11, 12, 13, 14, 15, 16, 17, 18, 19, 20, 21] rfl (by decide) rfl ?_
  refine kw_iconst (pc := 13) C dL_law_13 (nI 0) (by decide) ?_
  refine kw_istore_n (pc := 14) C dL_law_14 rfl (by decide) (lv' := [(3, .int (nI 0)), (2, .ref P), (1, .ref (A 0)), (0, .ref Z.2.2.1)]) rfl ?_
  refine kw_iconst (pc := 15) C dL_law_15 (nI 0) (by decide) ?_
  refine kw_istore (pc := 16) C dL_law_16 (by decide) (lv' := [(4, .int (nI 0)), (3, .int (nI 0)), (2, .ref P), (1, .ref (A 0)), (0, .ref Z.2.2.1)]) rfl ?_
  have L18 : ∀ (fu n : Nat) (X F : Nat → Int32) (K : Nat → Nat → Int32) (nn M : Nat) (pf : Nat → Int64) (σ : St), n ≤ 19 → 19 < n + fu → absP σ X F K nn M → (∀ i, i < nn → pf i = whF (K i)) → M ≤ 420 * n → KW p l e room_1 s m g below meth c D A0 13 Q ([(P, .inl (Z.2.2.2.2.2, 8, .inr (.inl pf)))] ++ wC Z A σ) 23 720 18 [(0, .ref Z.2.2.1), (1, .ref (A 0)), (2, .ref P), (3, .int (nI nn)), (4, .int (nI n))] [] := by
    intro fu
    induction fu with
    | zero => intro n X F K nn M pf σ a1 a2 _ _ _; exact absurd a2 (by omega)
    | succ fu ih =>
      intro n X F K nn M pf σ hn hm h hK hM
      have hnn : nn ≤ 5 := h.2.1.2.2.1
      refine kw_iload (pc := 18) C dL_law_18 4 rfl ?_
      refine kw_bipush (pc := 20) C dL_law_20 (nI 19) (by decide) ?_
      refine kw_icmp_ge (pc := 22) (tgt := 320) C dL_law_22 (by decide) (fun h22 => ?_) (fun h22 => ?_)
      · -- 22 t
        have h22 : 19 ≤ n := (nc_ge (a := n) (b := 19) (by omega) (by omega)).mp h22
        have hn19 : n = 19 := by omega
        refine kw_aload_n (pc := 320) C dL_law_320 rfl 0 rfl ?_
        refine kw_bipush (pc := 321) C dL_law_321 (nI 57) (by decide) ?_
        refine kw_csi (pc := 323) (wv := fun _ => []) (σ := σ) (wr := [(P, .inl (Z.2.2.2.2.2, 8, .inr (.inl pf)))] ++ wC Z A σ) C hN hSW dL_law_323 (c_L_cell l D Z σ 57 (by omega) hL) (va_cwS 2 C.1.2.2.2.2 gL_law_L_cell rfl rfl rfl (by decide +kernel) ⟨Nat.le_of_ble_eq_true rfl, Nat.le_of_ble_eq_true rfl⟩) [] [0, 1, 2, 3, 4, 5, 6, 7, 8, 9, 10, 11, 12, 13, 14, 15, 16, 17, 18, 19, 20, 21, 22] rfl rfl rfl (by decide) (by decide) (by decide) rfl rfl (Nat.le_of_ble_eq_true rfl) (Nat.le_of_ble_eq_true rfl) (Nat.le_of_ble_eq_true rfl) (fun r4 _ _ => ?_)
        refine kw_w (w' := [(P, .inl (Z.2.2.2.2.2, 8, .inr (.inl pf)))] ++ wC Z A σ) (List.append_nil _) ?_
        refine kw_ck (pc := 326) C hN hAO hSW dL_law_326 (c_L_learns l D Z r4) (va_cwS 1 C.1.2.2.2.2 gL_law_L_learns rfl rfl rfl (by decide +kernel) ⟨Nat.le_of_ble_eq_true rfl, Nat.le_of_ble_eq_true rfl⟩) [0, 1, 2, 3, 4, 5, 6, 7, 8, 9, 10, 11, 12, 13, 14, 15, 16, 17, 18, 19, 20, 21, 22] rfl (by decide) rfl rfl (Nat.le_of_ble_eq_true rfl) (Nat.le_of_ble_eq_true rfl) (Nat.le_of_ble_eq_true rfl) (fun r2 hr2 => ?_)
        refine kw_top (nI 1) hr2 ?_
        refine kw_if_eq (pc := 329) (tgt := 348) C dL_law_329 (by decide) (fun h => False.elim (by revert h; decide)) (fun _ => ?_)
        refine kw_aload_n (pc := 332) C dL_law_332 rfl 0 rfl ?_
        refine kw_bipush (pc := 333) C dL_law_333 (nI 58) (by decide) ?_
        refine kw_csi (pc := 335) (wv := fun _ => []) (σ := σ) (wr := [(P, .inl (Z.2.2.2.2.2, 8, .inr (.inl pf)))] ++ wC Z A σ) C hN hSW dL_law_335 (c_L_cell l D Z σ 58 (by omega) hL) (va_cwS 2 C.1.2.2.2.2 gL_law_L_cell rfl rfl rfl (by decide +kernel) ⟨Nat.le_of_ble_eq_true rfl, Nat.le_of_ble_eq_true rfl⟩) [] [0, 1, 2, 3, 4, 5, 6, 7, 8, 9, 10, 11, 12, 13, 14, 15, 16, 17, 18, 19, 20, 21, 22] rfl rfl rfl (by decide) (by decide) (by decide) rfl rfl (Nat.le_of_ble_eq_true rfl) (Nat.le_of_ble_eq_true rfl) (Nat.le_of_ble_eq_true rfl) (fun r5 _ _ => ?_)
        refine kw_w (w' := [(P, .inl (Z.2.2.2.2.2, 8, .inr (.inl pf)))] ++ wC Z A σ) (List.append_nil _) ?_
        refine kw_ck (pc := 338) C hN hAO hSW dL_law_338 (c_L_learns l D Z r5) (va_cwS 1 C.1.2.2.2.2 gL_law_L_learns rfl rfl rfl (by decide +kernel) ⟨Nat.le_of_ble_eq_true rfl, Nat.le_of_ble_eq_true rfl⟩) [0, 1, 2, 3, 4, 5, 6, 7, 8, 9, 10, 11, 12, 13, 14, 15, 16, 17, 18, 19, 20, 21, 22] rfl (by decide) rfl rfl (Nat.le_of_ble_eq_true rfl) (Nat.le_of_ble_eq_true rfl) (Nat.le_of_ble_eq_true rfl) (fun r4 hr4 => ?_)
        refine kw_top (nI 1) hr4 ?_
        refine kw_if_eq (pc := 341) (tgt := 348) C dL_law_341 (by decide) (fun h => False.elim (by revert h; decide)) (fun _ => ?_)
        refine kw_iconst (pc := 344) C dL_law_344 (nI 1) (by decide) ?_
        refine kw_goto (pc := 345) (tgt := 349) C dL_law_345 (by decide) ?_
        exact hend _ _
      · -- 22 f
        have h22 : ¬ (19 ≤ n) := fun qq => h22 ((nc_ge (a := n) (b := 19) (by omega) (by omega)).mpr qq)
        refine kw_aload_n (pc := 25) C dL_law_25 rfl 0 rfl ?_
        refine kw_iconst (pc := 26) C dL_law_26 (nI 3) (by decide) ?_
        refine kw_iload (pc := 27) C dL_law_27 4 rfl ?_
        refine kw_imul (pc := 29) C dL_law_29 (z := nI (3 * n)) (pk_mul _ _) ?_
        refine kw_csi (pc := 30) (wv := fun _ => []) (σ := σ) (wr := [(P, .inl (Z.2.2.2.2.2, 8, .inr (.inl pf)))] ++ wC Z A σ) C hN hSW dL_law_30 (c_L_cell l D Z σ (3 * n) (by omega) hL) (va_cwS 2 C.1.2.2.2.2 gL_law_L_cell rfl rfl rfl (by decide +kernel) ⟨Nat.le_of_ble_eq_true rfl, Nat.le_of_ble_eq_true rfl⟩) [] [0, 1, 2, 3, 4, 5, 6, 7, 8, 9, 10, 11, 12, 13, 14, 15, 16, 17, 18, 19, 20, 21, 22] rfl rfl rfl (by decide) (by decide) (by decide) rfl rfl (Nat.le_of_ble_eq_true rfl) (Nat.le_of_ble_eq_true rfl) (Nat.le_of_ble_eq_true rfl) (fun r1 _ _ => ?_)
        refine kw_w (w' := [(P, .inl (Z.2.2.2.2.2, 8, .inr (.inl pf)))] ++ wC Z A σ) (List.append_nil _) ?_
        refine kw_istore (pc := 33) C dL_law_33 (by decide) (lv' := [(5, .int (r1)), (0, .ref Z.2.2.1), (1, .ref (A 0)), (2, .ref P), (3, .int (nI nn)), (4, .int (nI n))]) rfl ?_
        refine kw_aload_n (pc := 35) C dL_law_35 rfl 1 rfl ?_
        refine kw_iconst (pc := 36) C dL_law_36 (nI 3) (by decide) ?_
        refine kw_iload (pc := 37) C dL_law_37 5 rfl ?_
        refine kw_imul (pc := 39) C dL_law_39 (z := nI (3 * n)) (pk_mul _ _) ?_
        refine kw_iconst (pc := 40) C dL_law_40 (nI 1) (by decide) ?_
        refine kw_iadd (pc := 41) C dL_law_41 (z := nI (3 * n + 1)) (nI_add _ _) ?_
        refine kw_csi (pc := 42) (wv := fun _ => []) (σ := σ) (wr := [(P, .inl (Z.2.2.2.2.2, 8, .inr (.inl pf)))] ++ wC Z A σ) C hN hSW dL_law_42 (c_L_cell l D Z σ (3 * n + 1) (by omega) hL) (va_cwS 2 C.1.2.2.2.2 gL_law_L_cell rfl rfl rfl (by decide +kernel) ⟨Nat.le_of_ble_eq_true rfl, Nat.le_of_ble_eq_true rfl⟩) [] [0, 1, 2, 3, 4, 5, 6, 7, 8, 9, 10, 11, 12, 13, 14, 15, 16, 17, 18, 19, 20, 21, 22] rfl rfl rfl (by decide) (by decide) (by decide) rfl rfl (Nat.le_of_ble_eq_true rfl) (Nat.le_of_ble_eq_true rfl) (Nat.le_of_ble_eq_true rfl) (fun r2 _ _ => ?_)
        refine kw_w (w' := [(P, .inl (Z.2.2.2.2.2, 8, .inr (.inl pf)))] ++ wC Z A σ) (List.append_nil _) ?_
        refine kw_istore (pc := 45) C dL_law_45 (by decide) (lv' := [(6, .int (r2)), (5, .int (r1)), (0, .ref Z.2.2.1), (1, .ref (A 0)), (2, .ref P), (3, .int (nI nn)), (4, .int (nI n))]) rfl ?_
        refine kw_aload_n (pc := 47) C dL_law_47 rfl 2 rfl ?_
        refine kw_iconst (pc := 48) C dL_law_48 (nI 3) (by decide) ?_
        refine kw_iload (pc := 49) C dL_law_49 6 rfl ?_
        refine kw_imul (pc := 51) C dL_law_51 (z := nI (3 * n)) (pk_mul _ _) ?_
        refine kw_iconst (pc := 52) C dL_law_52 (nI 2) (by decide) ?_
        refine kw_iadd (pc := 53) C dL_law_53 (z := nI (3 * n + 2)) (nI_add _ _) ?_
        refine kw_csi (pc := 54) (wv := fun _ => []) (σ := σ) (wr := [(P, .inl (Z.2.2.2.2.2, 8, .inr (.inl pf)))] ++ wC Z A σ) C hN hSW dL_law_54 (c_L_cell l D Z σ (3 * n + 2) (by omega) hL) (va_cwS 2 C.1.2.2.2.2 gL_law_L_cell rfl rfl rfl (by decide +kernel) ⟨Nat.le_of_ble_eq_true rfl, Nat.le_of_ble_eq_true rfl⟩) [] [0, 1, 2, 3, 4, 5, 6, 7, 8, 9, 10, 11, 12, 13, 14, 15, 16, 17, 18, 19, 20, 21, 22] rfl rfl rfl (by decide) (by decide) (by decide) rfl rfl (Nat.le_of_ble_eq_true rfl) (Nat.le_of_ble_eq_true rfl) (Nat.le_of_ble_eq_true rfl) (fun r3 _ _ => ?_)
        refine kw_w (w' := [(P, .inl (Z.2.2.2.2.2, 8, .inr (.inl pf)))] ++ wC Z A σ) (List.append_nil _) ?_
        refine kw_istore (pc := 57) C dL_law_57 (by decide) (lv' := [(7, .int (r3)), (6, .int (r2)), (5, .int (r1)), (0, .ref Z.2.2.1), (1, .ref (A 0)), (2, .ref P), (3, .int (nI nn)), (4, .int (nI n))]) rfl ?_
        refine kw_aload_n (pc := 59) C dL_law_59 rfl 4 rfl ?_
        refine kw_csl (pc := 60) (wv := wC Z A) (wr := [(P, .inl (Z.2.2.2.2.2, 8, .inr (.inl pf)))]) C hN hSW dL_law_60 (c_L_whole l D Z A σ  X F K nn M h) (va_cwS 1 C.1.2.2.2.2 gL_law_L_whole rfl rfl rfl (by decide +kernel) ⟨Nat.le_of_ble_eq_true rfl, Nat.le_of_ble_eq_true rfl⟩) [1, 2, 3, 4, 5, 6, 7, 8, 9, 10, 11, 12, 13, 14, 15, 16, 17, 18, 19, 20, 21, 22] [0] rfl rfl rfl (by decide) (by decide) (by decide)  rfl rfl (Nat.le_of_ble_eq_true rfl) (Nat.le_of_ble_eq_true rfl) (Nat.le_of_ble_eq_true rfl) (fun r8 σ8 hr8 => ?_)
        obtain ⟨rfl, h8⟩ := hr8
        refine kw_lstore (pc := 63) C dL_law_63 (by decide) (lv' := [(8, .long (whF X)), (7, .int (r3)), (6, .int (r2)), (5, .int (r1)), (0, .ref Z.2.2.1), (1, .ref (A 0)), (2, .ref P), (3, .int (nI nn)), (4, .int (nI n))]) rfl ?_
        have L247 : ∀ (X F : Nat → Int32) (K : Nat → Nat → Int32) (nn M : Nat) (pf : Nat → Int64) (σ : St), absP σ X F K nn M → (∀ i, i < nn → pf i = whF (K i)) → M ≤ 420 * n + 60 → KW p l e room_1 s m g below meth c D A0 13 Q ([(P, .inl (Z.2.2.2.2.2, 8, .inr (.inl pf)))] ++ wC Z A σ) 23 720 247 [(0, .ref Z.2.2.1), (1, .ref (A 0)), (2, .ref P), (3, .int (nI nn)), (4, .int (nI n)), (6, .int (r2)), (7, .int (r3))] [] := by
          intro X F K nn M pf σ h hK hM
          have hnn : nn ≤ 5 := h.2.1.2.2.1
          refine kw_aload_n (pc := 247) C dL_law_247 rfl 1 rfl ?_
          refine kw_iconst (pc := 248) C dL_law_248 (nI 4) (by decide) ?_
          refine kw_calli (pc := 249) (wv := wC Z A) (wr := [(P, .inl (Z.2.2.2.2.2, 8, .inr (.inl pf)))]) C hN hSW dL_law_249 (w_told l D Z A σ  X F K nn M (nI 4) h) (cwV 1 C.1.2.2.2.2 gL_law_X6_told rfl rfl rfl (by decide +kernel) ⟨Nat.le_of_ble_eq_true rfl, Nat.le_of_ble_eq_true rfl⟩) [1, 2, 3, 4, 5, 6, 7, 8, 9, 10, 11, 12, 13, 14, 15, 16, 17, 18, 19, 20, 21, 22] [0] rfl rfl rfl (by decide) (by decide) (by decide) rfl rfl rfl rfl (Nat.le_of_ble_eq_true rfl) (Nat.le_of_ble_eq_true rfl) (Nat.le_of_ble_eq_true rfl) (fun r9 σ9 hr9 => ?_)
          rw [show toA F nn 0 (nI 4) = .inl (nI nn) from rfl] at hr9
          obtain ⟨rfl, h9⟩ := hr9
          have h9 : absP σ9 X F K nn M := h9
          refine kw_top (nI nn) rfl ?_
          refine kw_iload_n (pc := 252) C dL_law_252 rfl 3 rfl ?_
          refine kw_icmp_ne (pc := 253) (tgt := 263) C dL_law_253 (by decide) (fun h253 => False.elim (h253 rfl)) (fun h253 => ?_)
          refine kw_aload_n (pc := 256) C dL_law_256 rfl 1 rfl ?_
          refine kw_csi (pc := 257) (wv := wC Z A) (wr := [(P, .inl (Z.2.2.2.2.2, 8, .inr (.inl pf)))]) C hN hSW dL_law_257 (c_L_sound l D Z A σ9  X F K nn M  h9) (va_cwS 1 C.1.2.2.2.2 gL_law_L_sound rfl rfl rfl (by decide +kernel) ⟨Nat.le_of_ble_eq_true rfl, Nat.le_of_ble_eq_true rfl⟩) [1, 2, 3, 4, 5, 6, 7, 8, 9, 10, 11, 12, 13, 14, 15, 16, 17, 18, 19, 20, 21, 22] [0] rfl rfl rfl (by decide) (by decide) (by decide)  rfl rfl (Nat.le_of_ble_eq_true rfl) (Nat.le_of_ble_eq_true rfl) (Nat.le_of_ble_eq_true rfl) (fun r10 σ10 hr10 => ?_)
          obtain ⟨z10, rfl, rfl, h10⟩ := hr10
          refine kw_top (nI 1) rfl ?_
          refine kw_if_ne (pc := 260) (tgt := 265) C dL_law_260 (by decide) (fun _ => ?_) (fun h => False.elim (by revert h; decide))
          refine kw_iload (pc := 265) C dL_law_265 4 rfl ?_
          refine kw_iconst (pc := 267) C dL_law_267 (nI 3) (by decide) ?_
          refine kw_irem (pc := 268) C dL_law_268 (by decide) (z := nI (n % 3)) (pk_rem (by omega) (by omega) (by omega)) ?_
          refine kw_iconst (pc := 269) C dL_law_269 (nI 2) (by decide) ?_
          refine kw_icmp_ne (pc := 270) (tgt := 314) C dL_law_270 (by decide) (fun h270 => ?_) (fun h270 => ?_)
          · -- 270 t
            have h270 : ¬ (n % 3) = 2 := (nc_ne (a := n % 3) (b := 2) (by omega) (by omega)).mp h270
            refine kw_iinc (pc := 314) C dL_law_314 4 rfl (nI (n + 1)) (nI_inc _ 1) (by decide) (lv' := [(4, .int (nI (n + 1))), (0, .ref Z.2.2.1), (1, .ref (A 0)), (2, .ref P), (3, .int (nI nn)), (6, .int (r2)), (7, .int (r3))]) rfl ?_
            refine kw_goto (pc := 317) (tgt := 18) C dL_law_317 (by decide) ?_
            refine kw_lv (lv' := [(0, .ref Z.2.2.1), (1, .ref (A 0)), (2, .ref P), (3, .int (nI nn)), (4, .int (nI (n + 1)))]) [1, 2, 3, 4, 0] rfl ?_
            exact ih (n + 1) _ _ _ nn _ _ _ (by omega) (by omega) h10 hK (by omega)
          · -- 270 f
            have h270 : (n % 3) = 2 := (nc_eq (a := n % 3) (b := 2) (by omega) (by omega)).mp h270
            refine kw_aload_n (pc := 273) C dL_law_273 rfl 1 rfl ?_
            refine kw_iload (pc := 274) C dL_law_274 5 rfl ?_
            refine kw_iload (pc := 276) C dL_law_276 6 rfl ?_
            refine kw_csi (pc := 278) (wv := wC Z A) (wr := [(P, .inl (Z.2.2.2.2.2, 8, .inr (.inl pf)))]) C hN hSW dL_law_278 (c_L_refused l D Z A σ10  X F K nn M r2 r3 h10) (va_cwS 3 C.1.2.2.2.2 gL_law_L_refused rfl rfl rfl (by decide +kernel) ⟨Nat.le_of_ble_eq_true rfl, Nat.le_of_ble_eq_true rfl⟩) [1, 2, 3, 4, 5, 6, 7, 8, 9, 10, 11, 12, 13, 14, 15, 16, 17, 18, 19, 20, 21, 22] [0] rfl rfl rfl (by decide) (by decide) (by decide)  rfl rfl (Nat.le_of_ble_eq_true rfl) (Nat.le_of_ble_eq_true rfl) (Nat.le_of_ble_eq_true rfl) (fun r11 σ11 hr11 => ?_)
            obtain ⟨z11, rfl, rfl, h11⟩ := hr11
            refine kw_top (nI 1) rfl ?_
            refine kw_if_eq (pc := 281) (tgt := 295) C dL_law_281 (by decide) (fun h => False.elim (by revert h; decide)) (fun _ => ?_)
            refine kw_aload_n (pc := 284) C dL_law_284 rfl 1 rfl ?_
            refine kw_iload (pc := 285) C dL_law_285 5 rfl ?_
            refine kw_iconst (pc := 287) C dL_law_287 (nI 2) (by decide) ?_
            refine kw_ishr (pc := 288) C dL_law_288 (z := r2 >>> ((nI 2) &&& 31)) rfl ?_
            refine kw_csi (pc := 289) (wv := wC Z A) (wr := [(P, .inl (Z.2.2.2.2.2, 8, .inr (.inl pf)))]) C hN hSW dL_law_289 (c_L_ticks l D Z A σ11  X (cF F 25) K nn M (r2 >>> (nI 2 &&& 31)) h11 (by omega)) (va_cwS 2 C.1.2.2.2.2 gL_law_L_ticks rfl rfl rfl (by decide +kernel) ⟨Nat.le_of_ble_eq_true rfl, Nat.le_of_ble_eq_true rfl⟩) [1, 2, 3, 4, 5, 6, 7, 8, 9, 10, 11, 12, 13, 14, 15, 16, 17, 18, 19, 20, 21, 22] [0] rfl rfl rfl (by decide) (by decide) (by decide)  rfl rfl (Nat.le_of_ble_eq_true rfl) (Nat.le_of_ble_eq_true rfl) (Nat.le_of_ble_eq_true rfl) (fun r12 σ12 hr12 => ?_)
            obtain ⟨z12, rfl, rfl, X9, K9, n9, h12⟩ := hr12
            refine kw_top (nI 1) rfl ?_
            refine kw_if_ne (pc := 292) (tgt := 297) C dL_law_292 (by decide) (fun _ => ?_) (fun h => False.elim (by revert h; decide))
            refine kw_iconst (pc := 297) C dL_law_297 (nI 0) (by decide) ?_
            refine kw_istore_n (pc := 298) C dL_law_298 rfl (by decide) (lv' := [(3, .int (nI 0)), (0, .ref Z.2.2.1), (1, .ref (A 0)), (2, .ref P), (4, .int (nI n)), (6, .int (r2)), (7, .int (r3))]) rfl ?_
            have L299 : ∀ (fb j : Nat) (X F : Nat → Int32) (K : Nat → Nat → Int32) (nn M : Nat) (pf : Nat → Int64) (σ : St), nn < fb → absP σ X F K nn M → M ≤ 420 * (n + 1) → KW p l e room_1 s m g below meth c D A0 13 Q ([(P, .inl (Z.2.2.2.2.2, 8, .inr (.inl pf)))] ++ wC Z A σ) 23 720 299 [(0, .ref Z.2.2.1), (1, .ref (A 0)), (2, .ref P), (3, .int (nI j)), (4, .int (nI n))] [] := by
              intro fb
              induction fb with
              | zero => intro j X F K nn M pf σ a1 _ _; exact absurd a1 (by omega)
              | succ fb ib =>
                intro j X F K nn M pf σ hb h hM
                have hnn : nn ≤ 5 := h.2.1.2.2.1
                refine kw_aload_n (pc := 299) C dL_law_299 rfl 1 rfl ?_
                refine kw_calli (pc := 300) (wv := wC Z A) (wr := [(P, .inl (Z.2.2.2.2.2, 8, .inr (.inl pf)))]) C hN hSW dL_law_300 (w_back l D Z A σ  X F K nn M h) (cwV 0 C.1.2.2.2.2 gL_law_X6_back rfl rfl rfl (by decide +kernel) ⟨Nat.le_of_ble_eq_true rfl, Nat.le_of_ble_eq_true rfl⟩) [1, 2, 3, 4, 5, 6, 7, 8, 9, 10, 11, 12, 13, 14, 15, 16, 17, 18, 19, 20, 21, 22] [0] rfl rfl rfl (by decide) (by decide) (by decide) rfl rfl rfl rfl (Nat.le_of_ble_eq_true rfl) (Nat.le_of_ble_eq_true rfl) (Nat.le_of_ble_eq_true rfl) (fun r13 σ13 hr13 => ?_)
                rcases hr13 with ⟨hz, rfl, h13⟩ | ⟨hz, rfl, h13⟩
                · subst hz
                  refine kw_if_le (pc := 303) (tgt := 312) C dL_law_303 (by decide) (fun _ => ?_) (fun h => False.elim (by revert h; decide))
                  refine kw_iconst (pc := 312) C dL_law_312 (nI 0) (by decide) ?_
                  refine kw_istore_n (pc := 313) C dL_law_313 rfl (by decide) (lv' := [(3, .int (nI 0)), (0, .ref Z.2.2.1), (1, .ref (A 0)), (2, .ref P), (4, .int (nI n))]) rfl ?_
                  refine kw_iinc (pc := 314) C dL_law_314 4 rfl (nI (n + 1)) (nI_inc _ 1) (by decide) (lv' := [(4, .int (nI (n + 1))), (3, .int (nI 0)), (0, .ref Z.2.2.1), (1, .ref (A 0)), (2, .ref P)]) rfl ?_
                  refine kw_goto (pc := 317) (tgt := 18) C dL_law_317 (by decide) ?_
                  refine kw_lv (lv' := [(0, .ref Z.2.2.1), (1, .ref (A 0)), (2, .ref P), (3, .int (nI 0)), (4, .int (nI (n + 1)))]) [2, 3, 4, 1, 0] rfl ?_
                  exact ih (n + 1) _ _ _ 0 _ _ _ (by omega) (by omega) h13 (fun i hi => absurd hi (by omega)) (by omega)
                · by_cases h1n : nn = 1
                  · subst h1n
                    refine kw_if_le (pc := 303) (tgt := 312) C dL_law_303 (by decide) (fun _ => ?_) (fun h => False.elim (by revert h; decide))
                    refine kw_iconst (pc := 312) C dL_law_312 (nI 0) (by decide) ?_
                    refine kw_istore_n (pc := 313) C dL_law_313 rfl (by decide) (lv' := [(3, .int (nI 0)), (0, .ref Z.2.2.1), (1, .ref (A 0)), (2, .ref P), (4, .int (nI n))]) rfl ?_
                    refine kw_iinc (pc := 314) C dL_law_314 4 rfl (nI (n + 1)) (nI_inc _ 1) (by decide) (lv' := [(4, .int (nI (n + 1))), (3, .int (nI 0)), (0, .ref Z.2.2.1), (1, .ref (A 0)), (2, .ref P)]) rfl ?_
                    refine kw_goto (pc := 317) (tgt := 18) C dL_law_317 (by decide) ?_
                    refine kw_lv (lv' := [(0, .ref Z.2.2.1), (1, .ref (A 0)), (2, .ref P), (3, .int (nI 0)), (4, .int (nI (n + 1)))]) [2, 3, 4, 1, 0] rfl ?_
                    exact ih (n + 1) _ _ _ 0 _ _ _ (by omega) (by omega) h13 (fun i hi => absurd hi (by omega)) (by omega)
                  · refine kw_if_le (pc := 303) (tgt := 312) C dL_law_303 (by decide) (fun h303 => False.elim (absurd ((nc_le (a := nn - 1) (b := 0) (by omega) (by omega)).mp h303) (by omega))) (fun _ => ?_)
                    refine kw_iinc (pc := 306) C dL_law_306 3 rfl (nI (j + 1)) (nI_inc _ 1) (by decide) (lv' := [(3, .int (nI (j + 1))), (0, .ref Z.2.2.1), (1, .ref (A 0)), (2, .ref P), (4, .int (nI n))]) rfl ?_
                    refine kw_goto (pc := 309) (tgt := 299) C dL_law_309 (by decide) ?_
                    refine kw_lv (lv' := [(0, .ref Z.2.2.1), (1, .ref (A 0)), (2, .ref P), (3, .int (nI (j + 1))), (4, .int (nI n))]) [1, 2, 3, 0, 4] rfl ?_
                    exact ib (j + 1) _ _ _ (nn - 1) _ _ _ (by omega) h13 hM
            refine kw_lv (lv' := [(0, .ref Z.2.2.1), (1, .ref (A 0)), (2, .ref P), (3, .int (nI 0)), (4, .int (nI n))]) [1, 2, 3, 0, 4] rfl ?_
            exact L299 (n9 + 1) 0 _ _ _ _ _ _ _ (by omega) h12 (by omega)
        refine kw_iload (pc := 65) C dL_law_65 3 rfl ?_
        refine kw_bipush (pc := 67) C dL_law_67 (nI 28) (by decide) ?_
        refine kw_ishr (pc := 69) C dL_law_69 (z := r1 >>> ((nI 28) &&& 31)) rfl ?_
        refine kw_iconst (pc := 70) C dL_law_70 (nI 3) (by decide) ?_
        refine kw_iand (pc := 71) C dL_law_71 (z := (r1 >>> ((nI 28) &&& 31)) &&& (nI 3)) rfl ?_
        refine kw_iconst (pc := 72) C dL_law_72 (nI 1) (by decide) ?_
        refine kw_icmp_ne (pc := 73) (tgt := 138) C dL_law_73 (by decide) (fun h73 => ?_) (fun h73 => ?_)
        · -- 73 t
          refine kw_aload_n (pc := 138) C dL_law_138 rfl 5 rfl ?_
          refine kw_iload (pc := 139) C dL_law_139 3 rfl ?_
          refine kw_iload (pc := 141) C dL_law_141 2 rfl ?_
          refine kw_iload (pc := 143) C dL_law_143 1 rfl ?_
          refine kw_csi (pc := 145) (wv := wC Z A) (wr := [(P, .inl (Z.2.2.2.2.2, 8, .inr (.inl pf)))]) C hN hSW dL_law_145 (c_L_does l D Z A σ8  X F K nn M r1 r2 r3 h8) (va_cwS 4 C.1.2.2.2.2 gL_law_L_does rfl rfl rfl (by decide +kernel) ⟨Nat.le_of_ble_eq_true rfl, Nat.le_of_ble_eq_true rfl⟩) [1, 2, 3, 4, 5, 6, 7, 8, 9, 10, 11, 12, 13, 14, 15, 16, 17, 18, 19, 20, 21, 22] [0] rfl rfl rfl (by decide) (by decide) (by decide)  rfl rfl (Nat.le_of_ble_eq_true rfl) (Nat.le_of_ble_eq_true rfl) (Nat.le_of_ble_eq_true rfl) (fun r14 σ14 hr14 => ?_)
          obtain ⟨oo, oa, ob, hoo, hr14⟩ := hr14
          rcases hr14 with ⟨hp, hre, h14⟩ | ⟨kk, hk2, -, hre, h14⟩
          · -- done
            rw [← hre] at hp
            by_cases hn5 : nn = 5
            · -- five 1
              subst hn5
              refine kw_istore (pc := 148) C dL_law_148 (by decide) (lv' := [(10, .int (r14)), (8, .long (whF X)), (7, .int (r3)), (6, .int (r2)), (5, .int (r1)), (0, .ref Z.2.2.1), (1, .ref (A 0)), (2, .ref P), (3, .int (nI 5)), (4, .int (nI n))]) rfl ?_
              refine kw_iload (pc := 150) C dL_law_150 0 rfl ?_
              refine kw_bipush (pc := 152) C dL_law_152 (-2) (by decide) ?_
              refine kw_icmp_eq (pc := 154) (tgt := 164) C dL_law_154 (by decide) (fun h154 => False.elim (absurd hp (by rw [h154]; decide))) (fun h154 => ?_)
              refine kw_iload (pc := 157) C dL_law_157 0 rfl ?_
              refine kw_bipush (pc := 159) C dL_law_159 (-3) (by decide) ?_
              refine kw_icmp_ne (pc := 161) (tgt := 168) C dL_law_161 (by decide) (fun h161 => ?_) (fun h161 => False.elim (absurd hp (by rw [h161]; decide)))
              refine kw_iconst (pc := 168) C dL_law_168 (nI 0) (by decide) ?_
              refine kw_istore (pc := 169) C dL_law_169 (by decide) (lv' := [(11, .int (nI 0)), (10, .int (r14)), (8, .long (whF X)), (7, .int (r3)), (6, .int (r2)), (5, .int (r1)), (0, .ref Z.2.2.1), (1, .ref (A 0)), (2, .ref P), (3, .int (nI 5)), (4, .int (nI n))]) rfl ?_
              refine kw_iload (pc := 171) C dL_law_171 0 rfl ?_
              refine kw_if_eq (pc := 173) (tgt := 188) C dL_law_173 (by decide) (fun _ => ?_) (fun h => False.elim (by revert h; decide))
              refine kw_iconst (pc := 188) C dL_law_188 (nI 1) (by decide) ?_
              refine kw_istore (pc := 189) C dL_law_189 (by decide) (lv' := [(12, .int (nI 1)), (11, .int (nI 0)), (10, .int (r14)), (8, .long (whF X)), (7, .int (r3)), (6, .int (r2)), (5, .int (r1)), (0, .ref Z.2.2.1), (1, .ref (A 0)), (2, .ref P), (3, .int (nI 5)), (4, .int (nI n))]) rfl ?_
              refine kw_iload (pc := 191) C dL_law_191 0 rfl ?_
              refine kw_iconst (pc := 193) C dL_law_193 (nI 5) (by decide) ?_
              refine kw_icmp_ge (pc := 194) (tgt := 223) C dL_law_194 (by decide) (fun h => False.elim (by revert h; decide)) (fun _ => ?_)
              refine kw_iload (pc := 197) C dL_law_197 1 rfl ?_
              refine kw_if_ne (pc := 199) (tgt := 223) C dL_law_199 (by decide) (fun h => False.elim (by revert h; decide)) (fun _ => ?_)
              refine kw_iload_n (pc := 202) C dL_law_202 rfl 10 rfl ?_
              refine kw_iconst (pc := 203) C dL_law_203 (nI 5) (by decide) ?_
              refine kw_icmp_ne (pc := 204) (tgt := 223) C dL_law_204 (by decide) (fun h => False.elim (by revert h; decide)) (fun _ => ?_)
              refine kw_aload_n (pc := 207) C dL_law_207 rfl 9 rfl ?_
              refine kw_iload (pc := 208) C dL_law_208 0 rfl ?_
              refine kw_iconst (pc := 210) C dL_law_210 (nI 1) (by decide) ?_
              refine kw_isub (pc := 211) C dL_law_211 (z := nI 0) (by decide) ?_
              refine kw_aload_n (pc := 212) C dL_law_212 rfl 9 rfl ?_
              refine kw_iload (pc := 213) C dL_law_213 0 rfl ?_
              refine kw_lald (pc := 215) C dL_law_215 0 rfl 1 rfl (by omega) (by decide) ?_
              refine kw_last (pc := 216) C dL_law_216 0 rfl 0 rfl (by omega) (by decide) ?_
              refine kw_w (w' := [(P, .inl (Z.2.2.2.2.2, 8, .inr (.inl (updL pf 0 (pf 1)))))] ++ wC Z A σ14) rfl ?_
              refine kw_iinc (pc := 217) C dL_law_217 0 rfl (nI 2) (by decide) (by decide) (lv' := [(12, .int (nI 2)), (11, .int (nI 0)), (10, .int (r14)), (8, .long (whF X)), (7, .int (r3)), (6, .int (r2)), (5, .int (r1)), (0, .ref Z.2.2.1), (1, .ref (A 0)), (2, .ref P), (3, .int (nI 5)), (4, .int (nI n))]) rfl ?_
              refine kw_goto (pc := 220) (tgt := 191) C dL_law_220 (by decide) ?_
              refine kw_iload (pc := 191) C dL_law_191 0 rfl ?_
              refine kw_iconst (pc := 193) C dL_law_193 (nI 5) (by decide) ?_
              refine kw_icmp_ge (pc := 194) (tgt := 223) C dL_law_194 (by decide) (fun h => False.elim (by revert h; decide)) (fun _ => ?_)
              refine kw_iload (pc := 197) C dL_law_197 1 rfl ?_
              refine kw_if_ne (pc := 199) (tgt := 223) C dL_law_199 (by decide) (fun h => False.elim (by revert h; decide)) (fun _ => ?_)
              refine kw_iload_n (pc := 202) C dL_law_202 rfl 10 rfl ?_
              refine kw_iconst (pc := 203) C dL_law_203 (nI 5) (by decide) ?_
              refine kw_icmp_ne (pc := 204) (tgt := 223) C dL_law_204 (by decide) (fun h => False.elim (by revert h; decide)) (fun _ => ?_)
              refine kw_aload_n (pc := 207) C dL_law_207 rfl 9 rfl ?_
              refine kw_iload (pc := 208) C dL_law_208 0 rfl ?_
              refine kw_iconst (pc := 210) C dL_law_210 (nI 1) (by decide) ?_
              refine kw_isub (pc := 211) C dL_law_211 (z := nI 1) (by decide) ?_
              refine kw_aload_n (pc := 212) C dL_law_212 rfl 9 rfl ?_
              refine kw_iload (pc := 213) C dL_law_213 0 rfl ?_
              refine kw_lald (pc := 215) C dL_law_215 0 rfl 2 rfl (by omega) (by decide) ?_
              refine kw_last (pc := 216) C dL_law_216 0 rfl 1 rfl (by omega) (by decide) ?_
              refine kw_w (w' := [(P, .inl (Z.2.2.2.2.2, 8, .inr (.inl (updL (updL pf 0 (pf 1)) 1 ((updL pf 0 (pf 1)) 2)))))] ++ wC Z A σ14) rfl ?_
              refine kw_iinc (pc := 217) C dL_law_217 0 rfl (nI 3) (by decide) (by decide) (lv' := [(12, .int (nI 3)), (11, .int (nI 0)), (10, .int (r14)), (8, .long (whF X)), (7, .int (r3)), (6, .int (r2)), (5, .int (r1)), (0, .ref Z.2.2.1), (1, .ref (A 0)), (2, .ref P), (3, .int (nI 5)), (4, .int (nI n))]) rfl ?_
              refine kw_goto (pc := 220) (tgt := 191) C dL_law_220 (by decide) ?_
              refine kw_iload (pc := 191) C dL_law_191 0 rfl ?_
              refine kw_iconst (pc := 193) C dL_law_193 (nI 5) (by decide) ?_
              refine kw_icmp_ge (pc := 194) (tgt := 223) C dL_law_194 (by decide) (fun h => False.elim (by revert h; decide)) (fun _ => ?_)
              refine kw_iload (pc := 197) C dL_law_197 1 rfl ?_
              refine kw_if_ne (pc := 199) (tgt := 223) C dL_law_199 (by decide) (fun h => False.elim (by revert h; decide)) (fun _ => ?_)
              refine kw_iload_n (pc := 202) C dL_law_202 rfl 10 rfl ?_
              refine kw_iconst (pc := 203) C dL_law_203 (nI 5) (by decide) ?_
              refine kw_icmp_ne (pc := 204) (tgt := 223) C dL_law_204 (by decide) (fun h => False.elim (by revert h; decide)) (fun _ => ?_)
              refine kw_aload_n (pc := 207) C dL_law_207 rfl 9 rfl ?_
              refine kw_iload (pc := 208) C dL_law_208 0 rfl ?_
              refine kw_iconst (pc := 210) C dL_law_210 (nI 1) (by decide) ?_
              refine kw_isub (pc := 211) C dL_law_211 (z := nI 2) (by decide) ?_
              refine kw_aload_n (pc := 212) C dL_law_212 rfl 9 rfl ?_
              refine kw_iload (pc := 213) C dL_law_213 0 rfl ?_
              refine kw_lald (pc := 215) C dL_law_215 0 rfl 3 rfl (by omega) (by decide) ?_
              refine kw_last (pc := 216) C dL_law_216 0 rfl 2 rfl (by omega) (by decide) ?_
              refine kw_w (w' := [(P, .inl (Z.2.2.2.2.2, 8, .inr (.inl (updL (updL (updL pf 0 (pf 1)) 1 ((updL pf 0 (pf 1)) 2)) 2 ((updL (updL pf 0 (pf 1)) 1 ((updL pf 0 (pf 1)) 2)) 3)))))] ++ wC Z A σ14) rfl ?_
              refine kw_iinc (pc := 217) C dL_law_217 0 rfl (nI 4) (by decide) (by decide) (lv' := [(12, .int (nI 4)), (11, .int (nI 0)), (10, .int (r14)), (8, .long (whF X)), (7, .int (r3)), (6, .int (r2)), (5, .int (r1)), (0, .ref Z.2.2.1), (1, .ref (A 0)), (2, .ref P), (3, .int (nI 5)), (4, .int (nI n))]) rfl ?_
              refine kw_goto (pc := 220) (tgt := 191) C dL_law_220 (by decide) ?_
              refine kw_iload (pc := 191) C dL_law_191 0 rfl ?_
              refine kw_iconst (pc := 193) C dL_law_193 (nI 5) (by decide) ?_
              refine kw_icmp_ge (pc := 194) (tgt := 223) C dL_law_194 (by decide) (fun h => False.elim (by revert h; decide)) (fun _ => ?_)
              refine kw_iload (pc := 197) C dL_law_197 1 rfl ?_
              refine kw_if_ne (pc := 199) (tgt := 223) C dL_law_199 (by decide) (fun h => False.elim (by revert h; decide)) (fun _ => ?_)
              refine kw_iload_n (pc := 202) C dL_law_202 rfl 10 rfl ?_
              refine kw_iconst (pc := 203) C dL_law_203 (nI 5) (by decide) ?_
              refine kw_icmp_ne (pc := 204) (tgt := 223) C dL_law_204 (by decide) (fun h => False.elim (by revert h; decide)) (fun _ => ?_)
              refine kw_aload_n (pc := 207) C dL_law_207 rfl 9 rfl ?_
              refine kw_iload (pc := 208) C dL_law_208 0 rfl ?_
              refine kw_iconst (pc := 210) C dL_law_210 (nI 1) (by decide) ?_
              refine kw_isub (pc := 211) C dL_law_211 (z := nI 3) (by decide) ?_
              refine kw_aload_n (pc := 212) C dL_law_212 rfl 9 rfl ?_
              refine kw_iload (pc := 213) C dL_law_213 0 rfl ?_
              refine kw_lald (pc := 215) C dL_law_215 0 rfl 4 rfl (by omega) (by decide) ?_
              refine kw_last (pc := 216) C dL_law_216 0 rfl 3 rfl (by omega) (by decide) ?_
              refine kw_w (w' := [(P, .inl (Z.2.2.2.2.2, 8, .inr (.inl (updL (updL (updL (updL pf 0 (pf 1)) 1 ((updL pf 0 (pf 1)) 2)) 2 ((updL (updL pf 0 (pf 1)) 1 ((updL pf 0 (pf 1)) 2)) 3)) 3 ((updL (updL (updL pf 0 (pf 1)) 1 ((updL pf 0 (pf 1)) 2)) 2 ((updL (updL pf 0 (pf 1)) 1 ((updL pf 0 (pf 1)) 2)) 3)) 4)))))] ++ wC Z A σ14) rfl ?_
              refine kw_iinc (pc := 217) C dL_law_217 0 rfl (nI 5) (by decide) (by decide) (lv' := [(12, .int (nI 5)), (11, .int (nI 0)), (10, .int (r14)), (8, .long (whF X)), (7, .int (r3)), (6, .int (r2)), (5, .int (r1)), (0, .ref Z.2.2.1), (1, .ref (A 0)), (2, .ref P), (3, .int (nI 5)), (4, .int (nI n))]) rfl ?_
              refine kw_goto (pc := 220) (tgt := 191) C dL_law_220 (by decide) ?_
              refine kw_iload (pc := 191) C dL_law_191 0 rfl ?_
              refine kw_iconst (pc := 193) C dL_law_193 (nI 5) (by decide) ?_
              refine kw_icmp_ge (pc := 194) (tgt := 223) C dL_law_194 (by decide) (fun _ => ?_) (fun h => False.elim (by revert h; decide))
              refine kw_iload (pc := 223) C dL_law_223 1 rfl ?_
              refine kw_if_ne (pc := 225) (tgt := 247) C dL_law_225 (by decide) (fun h => False.elim (by revert h; decide)) (fun _ => ?_)
              refine kw_iload_n (pc := 228) C dL_law_228 rfl 10 rfl ?_
              refine kw_iconst (pc := 229) C dL_law_229 (nI 5) (by decide) ?_
              refine kw_icmp_ne (pc := 230) (tgt := 237) C dL_law_230 (by decide) (fun h => False.elim (by revert h; decide)) (fun _ => ?_)
              refine kw_iconst (pc := 233) C dL_law_233 (nI 4) (by decide) ?_
              refine kw_goto (pc := 234) (tgt := 238) C dL_law_234 (by decide) ?_
              refine kw_istore_n (pc := 238) C dL_law_238 rfl (by decide) (lv' := [(3, .int (nI 4)), (12, .int (nI 5)), (11, .int (nI 0)), (10, .int (r14)), (8, .long (whF X)), (7, .int (r3)), (6, .int (r2)), (5, .int (r1)), (0, .ref Z.2.2.1), (1, .ref (A 0)), (2, .ref P), (4, .int (nI n))]) rfl ?_
              refine kw_aload_n (pc := 239) C dL_law_239 rfl 10 rfl ?_
              refine kw_iload_n (pc := 240) C dL_law_240 rfl 0 rfl ?_
              refine kw_lload (pc := 241) C dL_law_241 4 rfl ?_
              refine kw_last (pc := 243) C dL_law_243 0 rfl 4 rfl (by omega) (by decide) ?_
              refine kw_w (w' := [(P, .inl (Z.2.2.2.2.2, 8, .inr (.inl (updL (updL (updL (updL (updL pf 0 (pf 1)) 1 ((updL pf 0 (pf 1)) 2)) 2 ((updL (updL pf 0 (pf 1)) 1 ((updL pf 0 (pf 1)) 2)) 3)) 3 ((updL (updL (updL pf 0 (pf 1)) 1 ((updL pf 0 (pf 1)) 2)) 2 ((updL (updL pf 0 (pf 1)) 1 ((updL pf 0 (pf 1)) 2)) 3)) 4)) 4 (whF X)))))] ++ wC Z A σ14) rfl ?_
              refine kw_iinc (pc := 244) C dL_law_244 0 rfl (nI 5) (by decide) (by decide) (lv' := [(3, .int (nI 5)), (12, .int (nI 5)), (11, .int (nI 0)), (10, .int (r14)), (8, .long (whF X)), (7, .int (r3)), (6, .int (r2)), (5, .int (r1)), (0, .ref Z.2.2.1), (1, .ref (A 0)), (2, .ref P), (4, .int (nI n))]) rfl ?_
              refine kw_lv (lv' := [(0, .ref Z.2.2.1), (1, .ref (A 0)), (2, .ref P), (3, .int (nI 5)), (4, .int (nI n)), (6, .int (r2)), (7, .int (r3))]) [8, 9, 10, 0, 11, 6, 5] rfl ?_
              refine L247 _ _ _ 5 _ _ _ h14 (fun i hi => ?_) (by omega)
              rcases (show i = 0 ∨ i = 1 ∨ i = 2 ∨ i = 3 ∨ i = 4 by omega) with rfl | rfl | rfl | rfl | rfl
              · exact hK 1 (by omega)
              · exact hK 2 (by omega)
              · exact hK 3 (by omega)
              · exact hK 4 (by omega)
              · rfl
            · -- five 0
              refine kw_istore (pc := 148) C dL_law_148 (by decide) (lv' := [(10, .int (r14)), (8, .long (whF X)), (7, .int (r3)), (6, .int (r2)), (5, .int (r1)), (0, .ref Z.2.2.1), (1, .ref (A 0)), (2, .ref P), (3, .int (nI nn)), (4, .int (nI n))]) rfl ?_
              refine kw_iload (pc := 150) C dL_law_150 0 rfl ?_
              refine kw_bipush (pc := 152) C dL_law_152 (-2) (by decide) ?_
              refine kw_icmp_eq (pc := 154) (tgt := 164) C dL_law_154 (by decide) (fun h154 => False.elim (absurd hp (by rw [h154]; decide))) (fun h154 => ?_)
              refine kw_iload (pc := 157) C dL_law_157 0 rfl ?_
              refine kw_bipush (pc := 159) C dL_law_159 (-3) (by decide) ?_
              refine kw_icmp_ne (pc := 161) (tgt := 168) C dL_law_161 (by decide) (fun h161 => ?_) (fun h161 => False.elim (absurd hp (by rw [h161]; decide)))
              refine kw_iconst (pc := 168) C dL_law_168 (nI 0) (by decide) ?_
              refine kw_istore (pc := 169) C dL_law_169 (by decide) (lv' := [(11, .int (nI 0)), (10, .int (r14)), (8, .long (whF X)), (7, .int (r3)), (6, .int (r2)), (5, .int (r1)), (0, .ref Z.2.2.1), (1, .ref (A 0)), (2, .ref P), (3, .int (nI nn)), (4, .int (nI n))]) rfl ?_
              refine kw_iload (pc := 171) C dL_law_171 0 rfl ?_
              refine kw_if_eq (pc := 173) (tgt := 188) C dL_law_173 (by decide) (fun _ => ?_) (fun h => False.elim (by revert h; decide))
              refine kw_iconst (pc := 188) C dL_law_188 (nI 1) (by decide) ?_
              refine kw_istore (pc := 189) C dL_law_189 (by decide) (lv' := [(12, .int (nI 1)), (11, .int (nI 0)), (10, .int (r14)), (8, .long (whF X)), (7, .int (r3)), (6, .int (r2)), (5, .int (r1)), (0, .ref Z.2.2.1), (1, .ref (A 0)), (2, .ref P), (3, .int (nI nn)), (4, .int (nI n))]) rfl ?_
              refine kw_iload (pc := 191) C dL_law_191 0 rfl ?_
              refine kw_iconst (pc := 193) C dL_law_193 (nI 5) (by decide) ?_
              refine kw_icmp_ge (pc := 194) (tgt := 223) C dL_law_194 (by decide) (fun h => False.elim (by revert h; decide)) (fun _ => ?_)
              refine kw_iload (pc := 197) C dL_law_197 1 rfl ?_
              refine kw_if_ne (pc := 199) (tgt := 223) C dL_law_199 (by decide) (fun h => False.elim (by revert h; decide)) (fun _ => ?_)
              refine kw_iload_n (pc := 202) C dL_law_202 rfl 10 rfl ?_
              refine kw_iconst (pc := 203) C dL_law_203 (nI 5) (by decide) ?_
              refine kw_icmp_ne (pc := 204) (tgt := 223) C dL_law_204 (by decide) (fun h204 => ?_) (fun h204 => False.elim (hn5 ((nc_eq (a := nn) (b := 5) (by omega) (by omega)).mp h204)))
              refine kw_iload (pc := 223) C dL_law_223 1 rfl ?_
              refine kw_if_ne (pc := 225) (tgt := 247) C dL_law_225 (by decide) (fun h => False.elim (by revert h; decide)) (fun _ => ?_)
              refine kw_iload_n (pc := 228) C dL_law_228 rfl 10 rfl ?_
              refine kw_iconst (pc := 229) C dL_law_229 (nI 5) (by decide) ?_
              refine kw_icmp_ne (pc := 230) (tgt := 237) C dL_law_230 (by decide) (fun h230 => ?_) (fun h230 => False.elim (hn5 ((nc_eq (a := nn) (b := 5) (by omega) (by omega)).mp h230)))
              refine kw_iload_n (pc := 237) C dL_law_237 rfl 10 rfl ?_
              refine kw_istore_n (pc := 238) C dL_law_238 rfl (by decide) (lv' := [(3, .int (nI nn)), (12, .int (nI 1)), (11, .int (nI 0)), (10, .int (r14)), (8, .long (whF X)), (7, .int (r3)), (6, .int (r2)), (5, .int (r1)), (0, .ref Z.2.2.1), (1, .ref (A 0)), (2, .ref P), (4, .int (nI n))]) rfl ?_
              refine kw_aload_n (pc := 239) C dL_law_239 rfl 10 rfl ?_
              refine kw_iload_n (pc := 240) C dL_law_240 rfl 0 rfl ?_
              refine kw_lload (pc := 241) C dL_law_241 4 rfl ?_
              refine kw_last (pc := 243) C dL_law_243 0 rfl nn rfl (by omega) (by decide) ?_
              refine kw_w (w' := [(P, .inl (Z.2.2.2.2.2, 8, .inr (.inl (updL pf nn (whF X)))))] ++ wC Z A σ14) rfl ?_
              refine kw_iinc (pc := 244) C dL_law_244 0 rfl (nI (nn + 1)) (nI_inc _ 1) (by decide) (lv' := [(3, .int (nI (nn + 1))), (12, .int (nI 1)), (11, .int (nI 0)), (10, .int (r14)), (8, .long (whF X)), (7, .int (r3)), (6, .int (r2)), (5, .int (r1)), (0, .ref Z.2.2.1), (1, .ref (A 0)), (2, .ref P), (4, .int (nI n))]) rfl ?_
              refine kw_lv (lv' := [(0, .ref Z.2.2.1), (1, .ref (A 0)), (2, .ref P), (3, .int (nI (nn + 1))), (4, .int (nI n)), (6, .int (r2)), (7, .int (r3))]) [8, 9, 10, 0, 11, 6, 5] rfl ?_
              have e5 : min (nn + 1) 5 = nn + 1 := by omega
              rw [e5] at h14
              refine L247 _ _ _ (nn + 1) _ _ _ h14 (fun i hi => ?_) (by omega)
              unfold psh
              rw [if_neg hn5]
              by_cases hin : i = nn
              · rw [if_pos hin, hin, updL_same]
              · rw [if_neg hin, updL_ne hin]
                exact hK i (by omega)
          · -- refused
            rcases (show kk = 0 ∨ kk = 1 by omega) with rfl | rfl
            · -- kind 0
              subst hre
              refine kw_top (-2) rfl ?_
              refine kw_istore (pc := 148) C dL_law_148 (by decide) (lv' := [(10, .int ((-2))), (8, .long (whF X)), (7, .int (r3)), (6, .int (r2)), (5, .int (r1)), (0, .ref Z.2.2.1), (1, .ref (A 0)), (2, .ref P), (3, .int (nI nn)), (4, .int (nI n))]) rfl ?_
              refine kw_iload (pc := 150) C dL_law_150 0 rfl ?_
              refine kw_bipush (pc := 152) C dL_law_152 (-2) (by decide) ?_
              refine kw_icmp_eq (pc := 154) (tgt := 164) C dL_law_154 (by decide) (fun _ => ?_) (fun h => False.elim (by revert h; decide))
              refine kw_iconst (pc := 164) C dL_law_164 (nI 1) (by decide) ?_
              refine kw_goto (pc := 165) (tgt := 169) C dL_law_165 (by decide) ?_
              refine kw_istore (pc := 169) C dL_law_169 (by decide) (lv' := [(11, .int (nI 1)), (10, .int ((-2))), (8, .long (whF X)), (7, .int (r3)), (6, .int (r2)), (5, .int (r1)), (0, .ref Z.2.2.1), (1, .ref (A 0)), (2, .ref P), (3, .int (nI nn)), (4, .int (nI n))]) rfl ?_
              refine kw_iload (pc := 171) C dL_law_171 0 rfl ?_
              refine kw_if_eq (pc := 173) (tgt := 188) C dL_law_173 (by decide) (fun h => False.elim (by revert h; decide)) (fun _ => ?_)
              refine kw_aload_n (pc := 176) C dL_law_176 rfl 7 rfl ?_
              refine kw_csl (pc := 177) (wv := wC Z A) (wr := [(P, .inl (Z.2.2.2.2.2, 8, .inr (.inl pf)))]) C hN hSW dL_law_177 (c_L_whole l D Z A σ14  X (cntF F 0) K nn M h14) (va_cwS 1 C.1.2.2.2.2 gL_law_L_whole rfl rfl rfl (by decide +kernel) ⟨Nat.le_of_ble_eq_true rfl, Nat.le_of_ble_eq_true rfl⟩) [1, 2, 3, 4, 5, 6, 7, 8, 9, 10, 11, 12, 13, 14, 15, 16, 17, 18, 19, 20, 21, 22] [0] rfl rfl rfl (by decide) (by decide) (by decide)  rfl rfl (Nat.le_of_ble_eq_true rfl) (Nat.le_of_ble_eq_true rfl) (Nat.le_of_ble_eq_true rfl) (fun r15 σ15 hr15 => ?_)
              obtain ⟨rfl, h15⟩ := hr15
              refine kw_lload (pc := 180) C dL_law_180 2 rfl ?_
              refine kw_lcmp (pc := 182) C dL_law_182 ?_
              refine kw_top (nI 0) (cmp_same _) ?_
              refine kw_if_eq (pc := 183) (tgt := 188) C dL_law_183 (by decide) (fun _ => ?_) (fun h => False.elim (by revert h; decide))
              refine kw_iconst (pc := 188) C dL_law_188 (nI 1) (by decide) ?_
              refine kw_istore (pc := 189) C dL_law_189 (by decide) (lv' := [(12, .int (nI 1)), (11, .int (nI 1)), (10, .int ((-2))), (8, .long (whF X)), (7, .int (r3)), (6, .int (r2)), (5, .int (r1)), (0, .ref Z.2.2.1), (1, .ref (A 0)), (2, .ref P), (3, .int (nI nn)), (4, .int (nI n))]) rfl ?_
              refine kw_iload (pc := 191) C dL_law_191 0 rfl ?_
              refine kw_iconst (pc := 193) C dL_law_193 (nI 5) (by decide) ?_
              refine kw_icmp_ge (pc := 194) (tgt := 223) C dL_law_194 (by decide) (fun h => False.elim (by revert h; decide)) (fun _ => ?_)
              refine kw_iload (pc := 197) C dL_law_197 1 rfl ?_
              refine kw_if_ne (pc := 199) (tgt := 223) C dL_law_199 (by decide) (fun _ => ?_) (fun h => False.elim (by revert h; decide))
              refine kw_iload (pc := 223) C dL_law_223 1 rfl ?_
              refine kw_if_ne (pc := 225) (tgt := 247) C dL_law_225 (by decide) (fun _ => ?_) (fun h => False.elim (by revert h; decide))
              refine kw_lv (lv' := [(0, .ref Z.2.2.1), (1, .ref (A 0)), (2, .ref P), (3, .int (nI nn)), (4, .int (nI n)), (6, .int (r2)), (7, .int (r3))]) [7, 8, 9, 10, 11, 5, 4] rfl ?_
              exact L247 _ _ _ nn _ _ _ h15 hK (by omega)
            · -- kind 1
              subst hre
              refine kw_top (-3) rfl ?_
              refine kw_istore (pc := 148) C dL_law_148 (by decide) (lv' := [(10, .int ((-3))), (8, .long (whF X)), (7, .int (r3)), (6, .int (r2)), (5, .int (r1)), (0, .ref Z.2.2.1), (1, .ref (A 0)), (2, .ref P), (3, .int (nI nn)), (4, .int (nI n))]) rfl ?_
              refine kw_iload (pc := 150) C dL_law_150 0 rfl ?_
              refine kw_bipush (pc := 152) C dL_law_152 (-2) (by decide) ?_
              refine kw_icmp_eq (pc := 154) (tgt := 164) C dL_law_154 (by decide) (fun h => False.elim (by revert h; decide)) (fun _ => ?_)
              refine kw_iload (pc := 157) C dL_law_157 0 rfl ?_
              refine kw_bipush (pc := 159) C dL_law_159 (-3) (by decide) ?_
              refine kw_icmp_ne (pc := 161) (tgt := 168) C dL_law_161 (by decide) (fun h => False.elim (by revert h; decide)) (fun _ => ?_)
              refine kw_iconst (pc := 164) C dL_law_164 (nI 1) (by decide) ?_
              refine kw_goto (pc := 165) (tgt := 169) C dL_law_165 (by decide) ?_
              refine kw_istore (pc := 169) C dL_law_169 (by decide) (lv' := [(11, .int (nI 1)), (10, .int ((-3))), (8, .long (whF X)), (7, .int (r3)), (6, .int (r2)), (5, .int (r1)), (0, .ref Z.2.2.1), (1, .ref (A 0)), (2, .ref P), (3, .int (nI nn)), (4, .int (nI n))]) rfl ?_
              refine kw_iload (pc := 171) C dL_law_171 0 rfl ?_
              refine kw_if_eq (pc := 173) (tgt := 188) C dL_law_173 (by decide) (fun h => False.elim (by revert h; decide)) (fun _ => ?_)
              refine kw_aload_n (pc := 176) C dL_law_176 rfl 7 rfl ?_
              refine kw_csl (pc := 177) (wv := wC Z A) (wr := [(P, .inl (Z.2.2.2.2.2, 8, .inr (.inl pf)))]) C hN hSW dL_law_177 (c_L_whole l D Z A σ14  X (cntF F 1) K nn M h14) (va_cwS 1 C.1.2.2.2.2 gL_law_L_whole rfl rfl rfl (by decide +kernel) ⟨Nat.le_of_ble_eq_true rfl, Nat.le_of_ble_eq_true rfl⟩) [1, 2, 3, 4, 5, 6, 7, 8, 9, 10, 11, 12, 13, 14, 15, 16, 17, 18, 19, 20, 21, 22] [0] rfl rfl rfl (by decide) (by decide) (by decide)  rfl rfl (Nat.le_of_ble_eq_true rfl) (Nat.le_of_ble_eq_true rfl) (Nat.le_of_ble_eq_true rfl) (fun r16 σ16 hr16 => ?_)
              obtain ⟨rfl, h16⟩ := hr16
              refine kw_lload (pc := 180) C dL_law_180 2 rfl ?_
              refine kw_lcmp (pc := 182) C dL_law_182 ?_
              refine kw_top (nI 0) (cmp_same _) ?_
              refine kw_if_eq (pc := 183) (tgt := 188) C dL_law_183 (by decide) (fun _ => ?_) (fun h => False.elim (by revert h; decide))
              refine kw_iconst (pc := 188) C dL_law_188 (nI 1) (by decide) ?_
              refine kw_istore (pc := 189) C dL_law_189 (by decide) (lv' := [(12, .int (nI 1)), (11, .int (nI 1)), (10, .int ((-3))), (8, .long (whF X)), (7, .int (r3)), (6, .int (r2)), (5, .int (r1)), (0, .ref Z.2.2.1), (1, .ref (A 0)), (2, .ref P), (3, .int (nI nn)), (4, .int (nI n))]) rfl ?_
              refine kw_iload (pc := 191) C dL_law_191 0 rfl ?_
              refine kw_iconst (pc := 193) C dL_law_193 (nI 5) (by decide) ?_
              refine kw_icmp_ge (pc := 194) (tgt := 223) C dL_law_194 (by decide) (fun h => False.elim (by revert h; decide)) (fun _ => ?_)
              refine kw_iload (pc := 197) C dL_law_197 1 rfl ?_
              refine kw_if_ne (pc := 199) (tgt := 223) C dL_law_199 (by decide) (fun _ => ?_) (fun h => False.elim (by revert h; decide))
              refine kw_iload (pc := 223) C dL_law_223 1 rfl ?_
              refine kw_if_ne (pc := 225) (tgt := 247) C dL_law_225 (by decide) (fun _ => ?_) (fun h => False.elim (by revert h; decide))
              refine kw_lv (lv' := [(0, .ref Z.2.2.1), (1, .ref (A 0)), (2, .ref P), (3, .int (nI nn)), (4, .int (nI n)), (6, .int (r2)), (7, .int (r3))]) [7, 8, 9, 10, 11, 5, 4] rfl ?_
              exact L247 _ _ _ nn _ _ _ h16 hK (by omega)
        · -- 73 f
          refine kw_aload_n (pc := 76) C dL_law_76 rfl 5 rfl ?_
          refine kw_calli (pc := 77) (wv := wC Z A) (wr := [(P, .inl (Z.2.2.2.2.2, 8, .inr (.inl pf)))]) C hN hSW dL_law_77 (w_back l D Z A σ8  X F K nn M h8) (cwV 0 C.1.2.2.2.2 gL_law_X6_back rfl rfl rfl (by decide +kernel) ⟨Nat.le_of_ble_eq_true rfl, Nat.le_of_ble_eq_true rfl⟩) [1, 2, 3, 4, 5, 6, 7, 8, 9, 10, 11, 12, 13, 14, 15, 16, 17, 18, 19, 20, 21, 22] [0] rfl rfl rfl (by decide) (by decide) (by decide) rfl rfl rfl rfl (Nat.le_of_ble_eq_true rfl) (Nat.le_of_ble_eq_true rfl) (Nat.le_of_ble_eq_true rfl) (fun r17 σ17 hr17 => ?_)
          rcases hr17 with ⟨hz, rfl, h17⟩ | ⟨hz, rfl, h17⟩
          · -- no state
            subst hz
            refine kw_istore (pc := 80) C dL_law_80 (by decide) (lv' := [(10, .int ((-3))), (8, .long (whF X)), (7, .int (r3)), (6, .int (r2)), (5, .int (r1)), (0, .ref Z.2.2.1), (1, .ref (A 0)), (2, .ref P), (3, .int (nI 0)), (4, .int (nI n))]) rfl ?_
            refine kw_iload (pc := 82) C dL_law_82 0 rfl ?_
            refine kw_iload_n (pc := 84) C dL_law_84 rfl 8 rfl ?_
            refine kw_if_ne (pc := 85) (tgt := 93) C dL_law_85 (by decide) (fun h => False.elim (by revert h; decide)) (fun _ => ?_)
            refine kw_bipush (pc := 88) C dL_law_88 (-3) (by decide) ?_
            refine kw_goto (pc := 90) (tgt := 96) C dL_law_90 (by decide) ?_
            refine kw_icmp_ne (pc := 96) (tgt := 121) C dL_law_96 (by decide) (fun h => False.elim (by revert h; decide)) (fun _ => ?_)
            refine kw_aload_n (pc := 99) C dL_law_99 rfl 6 rfl ?_
            refine kw_csl (pc := 100) (wv := wC Z A) (wr := [(P, .inl (Z.2.2.2.2.2, 8, .inr (.inl pf)))]) C hN hSW dL_law_100 (c_L_whole l D Z A σ17  X (cntF F 1) K 0 M h17) (va_cwS 1 C.1.2.2.2.2 gL_law_L_whole rfl rfl rfl (by decide +kernel) ⟨Nat.le_of_ble_eq_true rfl, Nat.le_of_ble_eq_true rfl⟩) [1, 2, 3, 4, 5, 6, 7, 8, 9, 10, 11, 12, 13, 14, 15, 16, 17, 18, 19, 20, 21, 22] [0] rfl rfl rfl (by decide) (by decide) (by decide)  rfl rfl (Nat.le_of_ble_eq_true rfl) (Nat.le_of_ble_eq_true rfl) (Nat.le_of_ble_eq_true rfl) (fun r18 σ18 hr18 => ?_)
            obtain ⟨rfl, h18⟩ := hr18
            refine kw_iload_n (pc := 103) C dL_law_103 rfl 8 rfl ?_
            refine kw_if_ne (pc := 104) (tgt := 112) C dL_law_104 (by decide) (fun h => False.elim (by revert h; decide)) (fun _ => ?_)
            refine kw_lload (pc := 107) C dL_law_107 1 rfl ?_
            refine kw_goto (pc := 109) (tgt := 117) C dL_law_109 (by decide) ?_
            refine kw_lcmp (pc := 117) C dL_law_117 ?_
            refine kw_top (nI 0) (cmp_same _) ?_
            refine kw_if_eq (pc := 118) (tgt := 123) C dL_law_118 (by decide) (fun _ => ?_) (fun h => False.elim (by revert h; decide))
            refine kw_iload_n (pc := 123) C dL_law_123 rfl 8 rfl ?_
            refine kw_iload_n (pc := 124) C dL_law_124 rfl 8 rfl ?_
            refine kw_if_le (pc := 125) (tgt := 132) C dL_law_125 (by decide) (fun _ => ?_) (fun h => False.elim (by revert h; decide))
            refine kw_iconst (pc := 132) C dL_law_132 (nI 0) (by decide) ?_
            refine kw_isub (pc := 133) C dL_law_133 (z := nI 0) (by decide) ?_
            refine kw_istore_n (pc := 134) C dL_law_134 rfl (by decide) (lv' := [(3, .int (nI 0)), (10, .int ((-3))), (8, .long (whF X)), (7, .int (r3)), (6, .int (r2)), (5, .int (r1)), (0, .ref Z.2.2.1), (1, .ref (A 0)), (2, .ref P), (4, .int (nI n))]) rfl ?_
            refine kw_goto (pc := 135) (tgt := 247) C dL_law_135 (by decide) ?_
            refine kw_lv (lv' := [(0, .ref Z.2.2.1), (1, .ref (A 0)), (2, .ref P), (3, .int (nI 0)), (4, .int (nI n)), (6, .int (r2)), (7, .int (r3))]) [6, 7, 8, 0, 9, 4, 3] rfl ?_
            exact L247 _ _ _ 0 _ _ _ h18 (fun i hi => absurd hi (by omega)) (by omega)
          · -- one back
            refine kw_istore (pc := 80) C dL_law_80 (by decide) (lv' := [(10, .int (nI (nn - 1))), (8, .long (whF X)), (7, .int (r3)), (6, .int (r2)), (5, .int (r1)), (0, .ref Z.2.2.1), (1, .ref (A 0)), (2, .ref P), (3, .int (nI nn)), (4, .int (nI n))]) rfl ?_
            refine kw_iload (pc := 82) C dL_law_82 0 rfl ?_
            refine kw_iload_n (pc := 84) C dL_law_84 rfl 8 rfl ?_
            refine kw_if_ne (pc := 85) (tgt := 93) C dL_law_85 (by decide) (fun h85 => ?_) (fun h85 => False.elim (absurd ((nc_eq (a := nn) (b := 0) (by omega) (by omega)).mp h85) hz))
            refine kw_iload_n (pc := 93) C dL_law_93 rfl 8 rfl ?_
            refine kw_iconst (pc := 94) C dL_law_94 (nI 1) (by decide) ?_
            refine kw_isub (pc := 95) C dL_law_95 (z := nI (nn - 1)) (pk_sub (by omega)) ?_
            refine kw_icmp_ne (pc := 96) (tgt := 121) C dL_law_96 (by decide) (fun h96 => False.elim (h96 rfl)) (fun h96 => ?_)
            refine kw_aload_n (pc := 99) C dL_law_99 rfl 6 rfl ?_
            refine kw_csl (pc := 100) (wv := wC Z A) (wr := [(P, .inl (Z.2.2.2.2.2, 8, .inr (.inl pf)))]) C hN hSW dL_law_100 (c_L_whole l D Z A σ17  (K (nn - 1)) F K (nn - 1) M h17) (va_cwS 1 C.1.2.2.2.2 gL_law_L_whole rfl rfl rfl (by decide +kernel) ⟨Nat.le_of_ble_eq_true rfl, Nat.le_of_ble_eq_true rfl⟩) [1, 2, 3, 4, 5, 6, 7, 8, 9, 10, 11, 12, 13, 14, 15, 16, 17, 18, 19, 20, 21, 22] [0] rfl rfl rfl (by decide) (by decide) (by decide)  rfl rfl (Nat.le_of_ble_eq_true rfl) (Nat.le_of_ble_eq_true rfl) (Nat.le_of_ble_eq_true rfl) (fun r19 σ19 hr19 => ?_)
            obtain ⟨rfl, h19⟩ := hr19
            refine kw_iload_n (pc := 103) C dL_law_103 rfl 8 rfl ?_
            refine kw_if_ne (pc := 104) (tgt := 112) C dL_law_104 (by decide) (fun h104 => ?_) (fun h104 => False.elim (absurd ((nc_eq (a := nn) (b := 0) (by omega) (by omega)).mp h104) hz))
            refine kw_aload_n (pc := 112) C dL_law_112 rfl 7 rfl ?_
            refine kw_iload_n (pc := 113) C dL_law_113 rfl 8 rfl ?_
            refine kw_iconst (pc := 114) C dL_law_114 (nI 1) (by decide) ?_
            refine kw_isub (pc := 115) C dL_law_115 (z := nI (nn - 1)) (pk_sub (by omega)) ?_
            refine kw_lald (pc := 116) C dL_law_116 0 rfl (nn - 1) rfl (by omega) (by decide) ?_
            refine kw_topl (whF (K (nn - 1))) (hK (nn - 1) (by omega)) ?_
            refine kw_lcmp (pc := 117) C dL_law_117 ?_
            refine kw_top (nI 0) (cmp_same _) ?_
            refine kw_if_eq (pc := 118) (tgt := 123) C dL_law_118 (by decide) (fun _ => ?_) (fun h => False.elim (by revert h; decide))
            refine kw_iload_n (pc := 123) C dL_law_123 rfl 8 rfl ?_
            refine kw_iload_n (pc := 124) C dL_law_124 rfl 8 rfl ?_
            refine kw_if_le (pc := 125) (tgt := 132) C dL_law_125 (by decide) (fun h125 => False.elim (absurd ((nc_le (a := nn) (b := 0) (by omega) (by omega)).mp h125) (by omega))) (fun h125 => ?_)
            refine kw_iconst (pc := 128) C dL_law_128 (nI 1) (by decide) ?_
            refine kw_goto (pc := 129) (tgt := 133) C dL_law_129 (by decide) ?_
            refine kw_isub (pc := 133) C dL_law_133 (z := nI (nn - 1)) (pk_sub (by omega)) ?_
            refine kw_istore_n (pc := 134) C dL_law_134 rfl (by decide) (lv' := [(3, .int (nI (nn - 1))), (10, .int (nI (nn - 1))), (8, .long (whF X)), (7, .int (r3)), (6, .int (r2)), (5, .int (r1)), (0, .ref Z.2.2.1), (1, .ref (A 0)), (2, .ref P), (4, .int (nI n))]) rfl ?_
            refine kw_goto (pc := 135) (tgt := 247) C dL_law_135 (by decide) ?_
            refine kw_lv (lv' := [(0, .ref Z.2.2.1), (1, .ref (A 0)), (2, .ref P), (3, .int (nI (nn - 1))), (4, .int (nI n)), (6, .int (r2)), (7, .int (r3))]) [6, 7, 8, 0, 9, 4, 3] rfl ?_
            exact L247 _ _ _ (nn - 1) _ _ _ h19 (fun i hi => hK i (by omega)) (by omega)
  refine kw_lv (lv' := [(0, .ref Z.2.2.1), (1, .ref (A 0)), (2, .ref P), (3, .int (nI 0)), (4, .int (nI 0))]) [4, 3, 2, 1, 0] rfl ?_
  exact L18 20 0 _ _ _ 0 0 _ _ (by omega) (by omega) h0 (fun i hi => absurd hi (by omega)) (by omega)
