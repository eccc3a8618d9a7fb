set_option maxHeartbeats 4000000 in
set_option maxRecDepth 100000 in
theorem law_loop {p : Program} {l : Launch} {e : Env} {s : State} {m : MethodId} {g : Array Value} {below : List Frame} {meth : Method} {c : Code} {D : va_G} {Z : CZ} {A0 : Nat → Prop} {Q : State → Prop} {mc ms : Nat} (C : KX p s m g c cL_law 4 wsL_law RL D Z A0) (hN : NWs s) (hSW : SW Z A0 s s.heap) {b L : Nat} {xs : Nat → Int32} (hX : va_X b L xs s s.heap) (hbl : b < s.heap.size) (hbA : ¬ A0 b) (hL : L ≤ 2048) (h1 : mc + 0 ≤ room_1.cells) (h2 : ms + 0 ≤ room_1.slots) {A B : Nat → Nat} (hend : ∀ (σ τ : St) (lv : List (Nat × Value)), KW p l e room_1 s m g below meth c D A0 4 Q (wC Z A σ ++ wM Z B τ) mc ms 888 lv [.int 1]) : ∀ (n i : Nat) (σ τ : St), i ≤ L + 4 → L + 5 ≤ i + n → Lsm σ τ → KW p l e room_1 s m g below meth c D A0 4 Q (wC Z A σ ++ wM Z B τ) mc ms 18 [(0, .ref b), (1, .ref (A 0)), (2, .ref (B 0)), (3, .int (nI i))] [] := by
  intro n
  induction n with
  | zero => intro i σ τ a1 a2 _; exact absurd a2 (by omega)
  | succ n ih =>
    intro i σ τ a1 a2 h
    refine kw_iload_n (pc := 18) C dL_law_18 rfl 3 rfl ?_
    refine kw_aload_n (pc := 19) C dL_law_19 rfl 0 rfl ?_
    refine kw_slen (pc := 20) C hX hbl hbA dL_law_20 ?_
    refine kw_iconst (pc := 21) C dL_law_21 (nI 4) (by decide) ?_
    refine kw_isub (pc := 22) C dL_law_22 (z := nI L - nI 4) rfl ?_
    refine kw_icmp_gt (pc := 23) (tgt := 887) C dL_law_23 (by decide) (fun _ => ?_) (fun hle => ?_)
    · exact kw_iconst (pc := 887) C dL_law_887 1 (by decide) (hend _ _ _)
    have hi4 := law_in (by omega) hL hle
    have hn9 : ∀ σ' τ', Lsm σ' τ' → KW p l e room_1 s m g below meth c D A0 4 Q (wC Z A σ' ++ wM Z B τ') mc ms 881 [(0, .ref b), (1, .ref (A 0)), (2, .ref (B 0)), (3, .int (nI i))] [] := by
      intro σ' τ' h9
      refine kw_iinc (pc := 881) C dL_law_881 3 rfl (nI (i + 4)) (nI_inc _ 4) (by decide) (lv' := [(3, .int (nI (i + 4))), (0, .ref b), (1, .ref (A 0)), (2, .ref (B 0))]) rfl ?_
      refine kw_goto (pc := 884) (tgt := 18) C dL_law_884 (by decide) ?_
      refine kw_lv [1, 2, 3, 0] rfl ?_
      exact ih (i + 4) σ' τ' (by omega) (by omega) h9
    refine kw_aload_n (pc := 26) C dL_law_26 rfl 0 rfl ?_
    refine kw_iload_n (pc := 27) C dL_law_27 rfl 3 rfl ?_
    refine kw_sld (pc := 28) C hX hbl hbA dL_law_28 i rfl (by omega) (by omega) ?_
    refine kw_bipush (pc := 29) C dL_law_29 (nI 31) (by decide) ?_
    refine kw_iand (pc := 31) C dL_law_31 (z := xs i &&& nI 31) rfl ?_
    by_cases q0 : xs i &&& nI 31 = nI 0
    · refine kw_top (nI 0) q0 ?_
      refine kw_tableIn (pc := 32) (off := 120) (tgt := 152) C dL_law_32 (by decide) (by decide) (by decide +kernel) (by decide) ?_
      exact law_0 C hN hSW hX hbl hbA hL h1 h2 hi4 h hn9
    by_cases q1 : xs i &&& nI 31 = nI 1
    · refine kw_top (nI 1) q1 ?_
      refine kw_tableIn (pc := 32) (off := 153) (tgt := 185) C dL_law_32 (by decide) (by decide) (by decide +kernel) (by decide) ?_
      exact law_1 C hN hSW hX hbl hbA hL h1 h2 hi4 h hn9
    by_cases q2 : xs i &&& nI 31 = nI 2
    · refine kw_top (nI 2) q2 ?_
      refine kw_tableIn (pc := 32) (off := 186) (tgt := 218) C dL_law_32 (by decide) (by decide) (by decide +kernel) (by decide) ?_
      exact law_2 C hN hSW hX hbl hbA hL h1 h2 hi4 h hn9
    by_cases q3 : xs i &&& nI 31 = nI 3
    · refine kw_top (nI 3) q3 ?_
      refine kw_tableIn (pc := 32) (off := 219) (tgt := 251) C dL_law_32 (by decide) (by decide) (by decide +kernel) (by decide) ?_
      exact law_3 C hN hSW hX hbl hbA hL h1 h2 hi4 h hn9
    by_cases q4 : xs i &&& nI 31 = nI 4
    · refine kw_top (nI 4) q4 ?_
      refine kw_tableIn (pc := 32) (off := 252) (tgt := 284) C dL_law_32 (by decide) (by decide) (by decide +kernel) (by decide) ?_
      exact law_4 C hN hSW hX hbl hbA hL h1 h2 hi4 h hn9
    by_cases q5 : xs i &&& nI 31 = nI 5
    · refine kw_top (nI 5) q5 ?_
      refine kw_tableIn (pc := 32) (off := 285) (tgt := 317) C dL_law_32 (by decide) (by decide) (by decide +kernel) (by decide) ?_
      exact law_5 C hN hSW hX hbl hbA hL h1 h2 hi4 h hn9
    by_cases q6 : xs i &&& nI 31 = nI 6
    · refine kw_top (nI 6) q6 ?_
      refine kw_tableIn (pc := 32) (off := 308) (tgt := 340) C dL_law_32 (by decide) (by decide) (by decide +kernel) (by decide) ?_
      exact law_6 C hN hSW hX hbl hbA hL h1 h2 hi4 h hn9
    by_cases q7 : xs i &&& nI 31 = nI 7
    · refine kw_top (nI 7) q7 ?_
      refine kw_tableIn (pc := 32) (off := 331) (tgt := 363) C dL_law_32 (by decide) (by decide) (by decide +kernel) (by decide) ?_
      exact law_7 C hN hSW hX hbl hbA hL h1 h2 hi4 h hn9
    by_cases q8 : xs i &&& nI 31 = nI 8
    · refine kw_top (nI 8) q8 ?_
      refine kw_tableIn (pc := 32) (off := 364) (tgt := 396) C dL_law_32 (by decide) (by decide) (by decide +kernel) (by decide) ?_
      exact law_8 C hN hSW hX hbl hbA hL h1 h2 hi4 h hn9
    by_cases q9 : xs i &&& nI 31 = nI 9
    · refine kw_top (nI 9) q9 ?_
      refine kw_tableIn (pc := 32) (off := 397) (tgt := 429) C dL_law_32 (by decide) (by decide) (by decide +kernel) (by decide) ?_
      exact law_9 C hN hSW hX hbl hbA hL h1 h2 hi4 h hn9
    by_cases q10 : xs i &&& nI 31 = nI 10
    · refine kw_top (nI 10) q10 ?_
      refine kw_tableIn (pc := 32) (off := 430) (tgt := 462) C dL_law_32 (by decide) (by decide) (by decide +kernel) (by decide) ?_
      exact law_10 C hN hSW hX hbl hbA hL h1 h2 hi4 h hn9
    by_cases q11 : xs i &&& nI 31 = nI 11
    · refine kw_top (nI 11) q11 ?_
      refine kw_tableIn (pc := 32) (off := 453) (tgt := 485) C dL_law_32 (by decide) (by decide) (by decide +kernel) (by decide) ?_
      exact law_11 C hN hSW hX hbl hbA hL h1 h2 hi4 h hn9
    by_cases q12 : xs i &&& nI 31 = nI 12
    · refine kw_top (nI 12) q12 ?_
      refine kw_tableIn (pc := 32) (off := 496) (tgt := 528) C dL_law_32 (by decide) (by decide) (by decide +kernel) (by decide) ?_
      exact law_12 C hN hSW hX hbl hbA hL h1 h2 hi4 h hn9
    by_cases q13 : xs i &&& nI 31 = nI 13
    · refine kw_top (nI 13) q13 ?_
      refine kw_tableIn (pc := 32) (off := 539) (tgt := 571) C dL_law_32 (by decide) (by decide) (by decide +kernel) (by decide) ?_
      exact law_13 C hN hSW hX hbl hbA hL h1 h2 hi4 h hn9
    by_cases q14 : xs i &&& nI 31 = nI 14
    · refine kw_top (nI 14) q14 ?_
      refine kw_tableIn (pc := 32) (off := 582) (tgt := 614) C dL_law_32 (by decide) (by decide) (by decide +kernel) (by decide) ?_
      exact law_14 C hN hSW hX hbl hbA hL h1 h2 hi4 h hn9
    by_cases q15 : xs i &&& nI 31 = nI 15
    · refine kw_top (nI 15) q15 ?_
      refine kw_tableIn (pc := 32) (off := 625) (tgt := 657) C dL_law_32 (by decide) (by decide) (by decide +kernel) (by decide) ?_
      exact law_15 C hN hSW hX hbl hbA hL h1 h2 hi4 h hn9
    by_cases q16 : xs i &&& nI 31 = nI 16
    · refine kw_top (nI 16) q16 ?_
      refine kw_tableIn (pc := 32) (off := 648) (tgt := 680) C dL_law_32 (by decide) (by decide) (by decide +kernel) (by decide) ?_
      exact law_16 C hN hSW hX hbl hbA hL h1 h2 hi4 h hn9
    by_cases q17 : xs i &&& nI 31 = nI 17
    · refine kw_top (nI 17) q17 ?_
      refine kw_tableIn (pc := 32) (off := 681) (tgt := 713) C dL_law_32 (by decide) (by decide) (by decide +kernel) (by decide) ?_
      exact law_17 C hN hSW hX hbl hbA hL h1 h2 hi4 h hn9
    by_cases q18 : xs i &&& nI 31 = nI 18
    · refine kw_top (nI 18) q18 ?_
      refine kw_tableIn (pc := 32) (off := 704) (tgt := 736) C dL_law_32 (by decide) (by decide) (by decide +kernel) (by decide) ?_
      exact law_18 C hN hSW hX hbl hbA hL h1 h2 hi4 h hn9
    by_cases q19 : xs i &&& nI 31 = nI 19
    · refine kw_top (nI 19) q19 ?_
      refine kw_tableIn (pc := 32) (off := 727) (tgt := 759) C dL_law_32 (by decide) (by decide) (by decide +kernel) (by decide) ?_
      exact law_19 C hN hSW hX hbl hbA hL h1 h2 hi4 h hn9
    by_cases q20 : xs i &&& nI 31 = nI 20
    · refine kw_top (nI 20) q20 ?_
      refine kw_tableIn (pc := 32) (off := 750) (tgt := 782) C dL_law_32 (by decide) (by decide) (by decide +kernel) (by decide) ?_
      exact law_20 C hN hSW hX hbl hbA hL h1 h2 hi4 h hn9
    by_cases q21 : xs i &&& nI 31 = nI 21
    · refine kw_top (nI 21) q21 ?_
      refine kw_tableIn (pc := 32) (off := 763) (tgt := 795) C dL_law_32 (by decide) (by decide) (by decide +kernel) (by decide) ?_
      exact law_21 C hN hSW hX hbl hbA hL h1 h2 hi4 h hn9
    by_cases q22 : xs i &&& nI 31 = nI 22
    · refine kw_top (nI 22) q22 ?_
      refine kw_tableIn (pc := 32) (off := 776) (tgt := 808) C dL_law_32 (by decide) (by decide) (by decide +kernel) (by decide) ?_
      exact law_22 C hN hSW hX hbl hbA hL h1 h2 hi4 h hn9
    by_cases q23 : xs i &&& nI 31 = nI 23
    · refine kw_top (nI 23) q23 ?_
      refine kw_tableIn (pc := 32) (off := 799) (tgt := 831) C dL_law_32 (by decide) (by decide) (by decide +kernel) (by decide) ?_
      exact law_23 C hN hSW hX hbl hbA hL h1 h2 hi4 h hn9
    by_cases q24 : xs i &&& nI 31 = nI 24
    · refine kw_top (nI 24) q24 ?_
      refine kw_tableIn (pc := 32) (off := 812) (tgt := 844) C dL_law_32 (by decide) (by decide) (by decide +kernel) (by decide) ?_
      exact law_24 C hN hSW hX hbl hbA hL h1 h2 hi4 h hn9
    by_cases q25 : xs i &&& nI 31 = nI 25
    · refine kw_top (nI 25) q25 ?_
      refine kw_tableIn (pc := 32) (off := 835) (tgt := 867) C dL_law_32 (by decide) (by decide) (by decide +kernel) (by decide) ?_
      exact law_25 C hN hSW hX hbl hbA hL h1 h2 hi4 h hn9
    refine kw_tableOut (pc := 32) (tgt := 881) C dL_law_32 (tsw_out (lo := 0) (n := 26) (fun k hk => by rcases (show k = 0 ∨ k = 1 ∨ k = 2 ∨ k = 3 ∨ k = 4 ∨ k = 5 ∨ k = 6 ∨ k = 7 ∨ k = 8 ∨ k = 9 ∨ k = 10 ∨ k = 11 ∨ k = 12 ∨ k = 13 ∨ k = 14 ∨ k = 15 ∨ k = 16 ∨ k = 17 ∨ k = 18 ∨ k = 19 ∨ k = 20 ∨ k = 21 ∨ k = 22 ∨ k = 23 ∨ k = 24 ∨ k = 25 by omega) with rfl | rfl | rfl | rfl | rfl | rfl | rfl | rfl | rfl | rfl | rfl | rfl | rfl | rfl | rfl | rfl | rfl | rfl | rfl | rfl | rfl | rfl | rfl | rfl | rfl | rfl <;> assumption)) (by decide) ?_
    exact hn9 _ _ h
