set_option maxHeartbeats 4000000 in
set_option maxRecDepth 100000 in
theorem c_X4_count (l : Launch) (D : va_G) (Z : CZ) (A : Nat → Nat) (σ : St)    : CTi l yX4_count wsX4_count 0 0 D Z (wC Z A) σ [.ref (A 9)] (fun r σ' => r = σ 9 3 ∧ σ' = σ) := by
  refine CTi.mk (cc := cX4_count) (nL := 1) (own := RX4) rfl (by decide) rfl (Nat.le_of_ble_eq_true rfl) ?_
  intro p0 e0 s0 m0 g0 b0 t0 c0 A0 Q C hret
  refine cw_lv (lv' := [(0, .ref (A 9))]) [0] rfl ?_
  refine cw_aload_n (pc := 0) C dX4_count_0 rfl 0 rfl ?_
  refine cw_get (pc := 1) C dX4_count_1 9 (v := .int (σ 9 3)) rfl rfl 3 rfl (fun _ h => List.mem_cons_of_mem _ (List.mem_append_right _ h)) (by decide) (List.mem_of_getElem? (i := 1) rfl) ?_
  refine hret (σ 9 3) σ _ _ dX4_count_4 ?_
  clear hret
  exact ⟨rfl, rfl⟩
set_option maxHeartbeats 4000000 in
set_option maxRecDepth 100000 in
theorem c_X4_draft (l : Launch) (D : va_G) (Z : CZ) (A : Nat → Nat) (σ : St) (dd : Nat)  (hdd : dd < 6) (hd : σ 9 2 = nI dd) : CTv l yX4_draft wsX4_draft 1 40 D Z (wC Z A) σ [.ref (A 9)] (fun σ' => σ' = up2 σ (11 + dd) (σ 1)) := by
  refine CTv.mk (cc := cX4_draft) (nL := 1) (own := RX4) rfl (by decide) rfl (Nat.le_of_ble_eq_true rfl) ?_
  intro p0 e0 s0 m0 g0 b0 t0 c0 A0 Q C hret
  refine cw_lv (lv' := [(0, .ref (A 9))]) [0] rfl ?_
  refine cw_aload_n (pc := 0) C dX4_draft_0 rfl 0 rfl ?_
  refine cw_get (pc := 1) C dX4_draft_1 9 (v := .ref (A 1)) rfl rfl 0 rfl (fun _ h => List.mem_cons_of_mem _ (List.mem_append_right _ h)) (by decide) (List.mem_of_getElem? (i := 1) rfl) ?_
  refine cw_iconst (pc := 4) C dX4_draft_4 (nI 0) (by decide) ?_
  refine cw_aload_n (pc := 5) C dX4_draft_5 rfl 0 rfl ?_
  refine cw_get (pc := 6) C dX4_draft_6 9 (v := .ref (A 10)) rfl rfl 1 rfl (fun _ h => List.mem_cons_of_mem _ (List.mem_append_right _ h)) (by decide) (List.mem_of_getElem? (i := 2) rfl) ?_
  refine cw_aload_n (pc := 9) C dX4_draft_9 rfl 0 rfl ?_
  refine cw_get (pc := 10) C dX4_draft_10 9 (v := .int (σ 9 2)) rfl rfl 2 rfl (fun _ h => List.mem_cons_of_mem _ (List.mem_append_right _ h)) (by decide) (List.mem_of_getElem? (i := 3) rfl) ?_
  refine cw_top (nI dd) hd ?_
  refine cw_aald (pc := 13) C dX4_draft_13 10 (b := A (11 + dd)) rfl dd rfl (by omega) (by decide) (keptF_at (by omega)) ?_
  refine cw_iconst (pc := 14) C dX4_draft_14 (nI 0) (by decide) ?_
  refine cw_bipush (pc := 15) C dX4_draft_15 (nI 51) (by decide) ?_
  refine cw_copy (pc := 17) C dX4_draft_17 (List.mem_of_getElem? (i := 4) rfl) (List.mem_of_getElem? (i := 5) rfl) (List.mem_of_getElem? (i := 6) rfl) (List.mem_of_getElem? (i := 7) rfl) 1 (11 + dd) (f := σ 1) (g := σ (11 + dd)) rfl (wC_gk Z A _ hdd) (Nat.le_of_ble_eq_true rfl) (by decide) (up2 σ (11 + dd) (cpyS (σ 1) (σ (11 + dd)))) (wC_sk Z A _ _ hdd) ?_
  refine cw_row (fun σ => wC_gk Z A σ hdd) (fun σ f => wC_sk Z A σ f hdd) (σ 1) (fun j hj => by rw [up2_eq]; exact cpyS_at hj) ?_
  rw [up2_up2]
  refine hret (up2 σ (11 + dd) (σ 1)) _ _ dX4_draft_20 ?_
  clear hret
  exact rfl
set_option maxHeartbeats 4000000 in
set_option maxRecDepth 100000 in
theorem c_X4_takeDraft (l : Launch) (D : va_G) (Z : CZ) (A : Nat → Nat) (σ : St) (dd : Nat)  (hdd : dd < 6) (hd : σ 9 2 = nI dd) : CTv l yX4_takeDraft wsX4_takeDraft 1 40 D Z (wC Z A) σ [.ref (A 9)] (fun σ' => σ' = up2 σ 1 (σ (11 + dd))) := by
  refine CTv.mk (cc := cX4_takeDraft) (nL := 1) (own := RX4) rfl (by decide) rfl (Nat.le_of_ble_eq_true rfl) ?_
  intro p0 e0 s0 m0 g0 b0 t0 c0 A0 Q C hret
  refine cw_lv (lv' := [(0, .ref (A 9))]) [0] rfl ?_
  refine cw_aload_n (pc := 0) C dX4_takeDraft_0 rfl 0 rfl ?_
  refine cw_get (pc := 1) C dX4_takeDraft_1 9 (v := .ref (A 10)) rfl rfl 1 rfl (fun _ h => List.mem_cons_of_mem _ (List.mem_append_right _ h)) (by decide) (List.mem_of_getElem? (i := 1) rfl) ?_
  refine cw_aload_n (pc := 4) C dX4_takeDraft_4 rfl 0 rfl ?_
  refine cw_get (pc := 5) C dX4_takeDraft_5 9 (v := .int (σ 9 2)) rfl rfl 2 rfl (fun _ h => List.mem_cons_of_mem _ (List.mem_append_right _ h)) (by decide) (List.mem_of_getElem? (i := 2) rfl) ?_
  refine cw_top (nI dd) hd ?_
  refine cw_aald (pc := 8) C dX4_takeDraft_8 10 (b := A (11 + dd)) rfl dd rfl (by omega) (by decide) (keptF_at (by omega)) ?_
  refine cw_iconst (pc := 9) C dX4_takeDraft_9 (nI 0) (by decide) ?_
  refine cw_aload_n (pc := 10) C dX4_takeDraft_10 rfl 0 rfl ?_
  refine cw_get (pc := 11) C dX4_takeDraft_11 9 (v := .ref (A 1)) rfl rfl 0 rfl (fun _ h => List.mem_cons_of_mem _ (List.mem_append_right _ h)) (by decide) (List.mem_of_getElem? (i := 3) rfl) ?_
  refine cw_iconst (pc := 14) C dX4_takeDraft_14 (nI 0) (by decide) ?_
  refine cw_bipush (pc := 15) C dX4_takeDraft_15 (nI 51) (by decide) ?_
  refine cw_copy (pc := 17) C dX4_takeDraft_17 (List.mem_of_getElem? (i := 4) rfl) (List.mem_of_getElem? (i := 5) rfl) (List.mem_of_getElem? (i := 6) rfl) (List.mem_of_getElem? (i := 7) rfl) (11 + dd) 1 (f := σ (11 + dd)) (g := σ 1) (wC_gk Z A _ hdd) rfl (Nat.le_of_ble_eq_true rfl) (by decide) (up2 σ 1 (cpyS (σ (11 + dd)) (σ 1))) (wC_s1 Z A _ _) ?_
  refine cw_row (wC_g1 Z A) (wC_s1 Z A) (σ (11 + dd)) (fun j hj => by rw [up2_eq]; exact cpyS_at hj) ?_
  rw [up2_up2]
  refine hret (up2 σ 1 (σ (11 + dd))) _ _ dX4_takeDraft_20 ?_
  clear hret
  exact rfl
set_option maxHeartbeats 4000000 in
set_option maxRecDepth 100000 in
theorem c_X4_keepDraft (l : Launch) (D : va_G) (Z : CZ) (A : Nat → Nat) (σ : St) (dd nn : Nat)  (hdd : dd < 6) (hd : σ 9 2 = nI dd) (hnn : nn ≤ 5) (hn : σ 9 3 = nI nn) : CTv l yX4_keepDraft wsX4_keepDraft 1 17 D Z (wC Z A) σ [.ref (A 9)] (fun σ' => σ' = up2 σ 9 (upd (upd (σ 9) 2 (nI ((dd + 1) % 6))) 3 (nI (min (nn + 1) 5)))) := by
  refine CTv.mk (cc := cX4_keepDraft) (nL := 1) (own := RX4) rfl (by decide) rfl (Nat.le_of_ble_eq_true rfl) ?_
  intro p0 e0 s0 m0 g0 b0 t0 c0 A0 Q C hret
  refine cw_lv (lv' := [(0, .ref (A 9))]) [0] rfl ?_
  refine cw_aload_n (pc := 0) C dX4_keepDraft_0 rfl 0 rfl ?_
  refine cw_aload_n (pc := 1) C dX4_keepDraft_1 rfl 0 rfl ?_
  refine cw_get (pc := 2) C dX4_keepDraft_2 9 (v := .int (σ 9 2)) rfl rfl 2 rfl (fun _ h => List.mem_cons_of_mem _ (List.mem_append_right _ h)) (by decide) (List.mem_of_getElem? (i := 1) rfl) ?_
  refine cw_top (nI dd) hd ?_
  refine cw_iconst (pc := 5) C dX4_keepDraft_5 (nI 1) (by decide) ?_
  refine cw_iadd (pc := 6) C dX4_keepDraft_6 (z := nI (dd + 1)) (nI_add _ _) ?_
  refine cw_bipush (pc := 7) C dX4_keepDraft_7 (nI 6) (by decide) ?_
  refine cw_irem (pc := 9) C dX4_keepDraft_9 (by decide) (z := nI ((dd + 1) % 6)) (pk_rem (by omega) (by omega) (by omega)) ?_
  refine cw_put (pc := 10) C dX4_keepDraft_10 9 (ty := .int) rfl rfl 2 (fun _ h => List.mem_cons_of_mem _ (List.mem_append_right _ h)) tyX4_ok nmX4 (by decide) (List.mem_of_getElem? (i := 1) rfl) rfl (by decide +kernel) rfl rfl (Nat.le_of_ble_eq_true rfl) (up2 σ 9 (upd (σ 9) 2 (nI ((dd + 1) % 6)))) (wC_p9_2 Z A _ _) ?_
  refine cw_aload_n (pc := 13) C dX4_keepDraft_13 rfl 0 rfl ?_
  refine cw_aload_n (pc := 14) C dX4_keepDraft_14 rfl 0 rfl ?_
  refine cw_get (pc := 15) C dX4_keepDraft_15 9 (v := .int ((σ 9) 3)) rfl rfl 3 rfl (fun _ h => List.mem_cons_of_mem _ (List.mem_append_right _ h)) (by decide) (List.mem_of_getElem? (i := 2) rfl) ?_
  refine cw_top (nI nn) hn ?_
  refine cw_iconst (pc := 18) C dX4_keepDraft_18 (nI 1) (by decide) ?_
  refine cw_iadd (pc := 19) C dX4_keepDraft_19 (z := nI (nn + 1)) (nI_add _ _) ?_
  refine cw_iconst (pc := 20) C dX4_keepDraft_20 (nI 5) (by decide) ?_
  refine cw_min (pc := 21) C dX4_keepDraft_21 (List.mem_of_getElem? (i := 3) rfl) (List.mem_of_getElem? (i := 4) rfl) (List.mem_of_getElem? (i := 5) rfl) (List.mem_of_getElem? (i := 6) rfl) (by decide) (Nat.le_of_ble_eq_true rfl) ?_
  refine cw_top (nI (min (nn + 1) 5)) (min5 hnn) ?_
  refine cw_put (pc := 24) C dX4_keepDraft_24 9 (ty := .int) rfl rfl 3 (fun _ h => List.mem_cons_of_mem _ (List.mem_append_right _ h)) tyX4_ok nmX4 (by decide) (List.mem_of_getElem? (i := 2) rfl) rfl (by decide +kernel) rfl rfl (Nat.le_of_ble_eq_true rfl) (up2 σ 9 (upd (upd (σ 9) 2 (nI ((dd + 1) % 6))) 3 (nI (min (nn + 1) 5)))) ((wC_p9_3 Z A _ _).trans (congrArg (wC Z A) (up2_up2 _ 9 _ _))) ?_
  refine hret (up2 σ 9 (upd (upd (σ 9) 2 (nI ((dd + 1) % 6))) 3 (nI (min (nn + 1) 5)))) _ _ dX4_keepDraft_27 ?_
  clear hret
  exact rfl
set_option maxHeartbeats 4000000 in
set_option maxRecDepth 100000 in
theorem c_X4_goBack (l : Launch) (D : va_G) (Z : CZ) (A : Nat → Nat) (σ : St) (dd nn : Nat)  (hdd : dd < 6) (hd : σ 9 2 = nI dd) (hnn : nn ≤ 5) (hn : σ 9 3 = nI nn) : CTz l yX4_goBack wsX4_goBack 2 60 D Z (wC Z A) σ [.ref (A 9)] (fun z σ' => z = !(decide (nn = 0)) ∧ ((nn = 0 ∧ σ' = σ) ∨ (nn ≠ 0 ∧ σ' = up2 (up2 σ 1 (σ (11 + (dd + 5) % 6))) 9 (upd (upd (σ 9) 3 (nI (nn - 1))) 2 (nI ((dd + 5) % 6)))))) := by
  refine CTz.mk (cc := cX4_goBack) (nL := 1) (own := RX4) rfl (by decide) rfl (Nat.le_of_ble_eq_true rfl) ?_
  intro p0 e0 s0 m0 g0 b0 t0 c0 A0 Q C hret
  refine cw_lv (lv' := [(0, .ref (A 9))]) [0] rfl ?_
  refine cw_aload_n (pc := 0) C dX4_goBack_0 rfl 0 rfl ?_
  refine cw_get (pc := 1) C dX4_goBack_1 9 (v := .int (σ 9 3)) rfl rfl 3 rfl (fun _ h => List.mem_cons_of_mem _ (List.mem_append_right _ h)) (by decide) (List.mem_of_getElem? (i := 1) rfl) ?_
  refine cw_top (nI nn) hn ?_
  refine cw_if_ne (pc := 4) (tgt := 9) C dX4_goBack_4 (by decide) (fun h4 => ?_) (fun h4 => ?_)
  · -- 4 t
    have h4 : ¬ nn = 0 := (nc_ne (a := nn) (b := 0) (by omega) (by omega)).mp h4
    refine cw_aload_n (pc := 9) C dX4_goBack_9 rfl 0 rfl ?_
    refine cw_dup (pc := 10) C dX4_goBack_10 rfl ?_
    refine cw_get (pc := 11) C dX4_goBack_11 9 (v := .int (σ 9 3)) rfl rfl 3 rfl (fun _ h => List.mem_cons_of_mem _ (List.mem_append_right _ h)) (by decide) (List.mem_of_getElem? (i := 1) rfl) ?_
    refine cw_top (nI nn) hn ?_
    refine cw_iconst (pc := 14) C dX4_goBack_14 (nI 1) (by decide) ?_
    refine cw_isub (pc := 15) C dX4_goBack_15 (z := nI (nn - 1)) (pk_sub (by omega)) ?_
    refine cw_put (pc := 16) C dX4_goBack_16 9 (ty := .int) rfl rfl 3 (fun _ h => List.mem_cons_of_mem _ (List.mem_append_right _ h)) tyX4_ok nmX4 (by decide) (List.mem_of_getElem? (i := 1) rfl) rfl (by decide +kernel) rfl rfl (Nat.le_of_ble_eq_true rfl) (up2 σ 9 (upd (σ 9) 3 (nI (nn - 1)))) (wC_p9_3 Z A _ _) ?_
    refine cw_aload_n (pc := 19) C dX4_goBack_19 rfl 0 rfl ?_
    refine cw_aload_n (pc := 20) C dX4_goBack_20 rfl 0 rfl ?_
    refine cw_get (pc := 21) C dX4_goBack_21 9 (v := .int ((σ 9) 2)) rfl rfl 2 rfl (fun _ h => List.mem_cons_of_mem _ (List.mem_append_right _ h)) (by decide) (List.mem_of_getElem? (i := 2) rfl) ?_
    refine cw_top (nI dd) hd ?_
    refine cw_bipush (pc := 24) C dX4_goBack_24 (nI 6) (by decide) ?_
    refine cw_iadd (pc := 26) C dX4_goBack_26 (z := nI (dd + 6)) (nI_add _ _) ?_
    refine cw_iconst (pc := 27) C dX4_goBack_27 (nI 1) (by decide) ?_
    refine cw_isub (pc := 28) C dX4_goBack_28 (z := nI ((dd + 6) - 1)) (pk_sub (by omega)) ?_
    refine cw_bipush (pc := 29) C dX4_goBack_29 (nI 6) (by decide) ?_
    refine cw_irem (pc := 31) C dX4_goBack_31 (by decide) (z := nI ((dd + 5) % 6)) ((pk_rem (by omega) (by omega) (by omega)).trans (congrArg nI (by omega))) ?_
    refine cw_put (pc := 32) C dX4_goBack_32 9 (ty := .int) rfl rfl 2 (fun _ h => List.mem_cons_of_mem _ (List.mem_append_right _ h)) tyX4_ok nmX4 (by decide) (List.mem_of_getElem? (i := 2) rfl) rfl (by decide +kernel) rfl rfl (Nat.le_of_ble_eq_true rfl) (up2 σ 9 (upd (upd (σ 9) 3 (nI (nn - 1))) 2 (nI ((dd + 5) % 6)))) ((wC_p9_2 Z A _ _).trans (congrArg (wC Z A) (up2_up2 _ 9 _ _))) ?_
    refine cw_aload_n (pc := 35) C dX4_goBack_35 rfl 0 rfl ?_
    refine cw_callv (pc := 36) C dX4_goBack_36 (c_X4_takeDraft l D Z A (up2 σ 9 (upd (upd (σ 9) 3 (nI (nn - 1))) 2 (nI ((dd + 5) % 6)))) ((dd + 5) % 6) (by omega) rfl) (cwV 0 C.1.2.2.2.2 gX4_goBack_X4_takeDraft rfl rfl rfl (by decide +kernel) ⟨Nat.le_of_ble_eq_true rfl, Nat.le_of_ble_eq_true rfl⟩) 9 rfl rfl rfl rfl (Nat.le_of_ble_eq_true rfl) (fun σ1 hr => ?_)
    subst hr
    refine cw_eq (σ' := up2 (up2 σ 1 (σ (11 + (dd + 5) % 6))) 9 (upd (upd (σ 9) 3 (nI (nn - 1))) 2 (nI ((dd + 5) % 6)))) ((up2_comm _ _ _ (by decide)).trans (congrArg (fun q => up2 (up2 σ 1 q) 9 (upd (upd (σ 9) 3 (nI (nn - 1))) 2 (nI ((dd + 5) % 6)))) (up2_ne _ _ (by omega)))) ?_
    refine cw_iconst (pc := 39) C dX4_goBack_39 (nI 1) (by decide) ?_
    refine hret true (up2 (up2 σ 1 (σ (11 + (dd + 5) % 6))) 9 (upd (upd (σ 9) 3 (nI (nn - 1))) 2 (nI ((dd + 5) % 6)))) _ _ dX4_goBack_40 ?_
    clear hret
    exact ⟨by simp [h4], Or.inr ⟨h4, rfl⟩⟩
  · -- 4 f
    have h4 : nn = 0 := (nc_eq (a := nn) (b := 0) (by omega) (by omega)).mp h4
    refine cw_iconst (pc := 7) C dX4_goBack_7 (nI 0) (by decide) ?_
    refine hret false σ _ _ dX4_goBack_8 ?_
    clear hret
    exact ⟨by simp [h4], Or.inl ⟨h4, rfl⟩⟩
