/-! PURE WORDS: a tick, in the model's order -/
theorem up4_self (σ : St) (R : Nat → Int32) : up2 σ 1 R = up2 (up2 (up2 (up2 σ 0 (upd (σ 0) 15 (σ 0 15))) 1 R) 9 (σ 9)) 10 (σ 10) := by
  rw [upd_self, up2_self]
  have e9 := up2_self (up2 σ 1 R) 9
  rw [up2_ne _ _ (by decide)] at e9
  have e10 := up2_self (up2 σ 1 R) 10
  rw [up2_ne _ _ (by decide)] at e10
  rw [e9, e10]
theorem up4_ord (σ : St) (R : Nat → Int32) (v : Int32) (fa ra : Nat → Int32) : up2 (up2 (up2 (up2 σ 1 R) 0 (upd (up2 σ 1 R 0) 15 v)) 9 fa) 10 ra = up2 (up2 (up2 (up2 σ 0 (upd (σ 0) 15 v)) 1 R) 9 fa) 10 ra := by
  rw [up2_ne σ R (show 0 ≠ 1 by decide), up2_comm σ R (upd (σ 0) 15 v) (show 1 ≠ 0 by decide)]
theorem mtk_a {τ1 X : Nat → Int32} {a : Nat} (hT : τ1 = mrow X) (h41 : X 41 = nI a) (h : a ≤ 0) : upd (upd τ1 44 (X 40 + nI 1)) 45 (nI 0) = mrow (tk0 X) := by
  rw [hT, mrow_upd (j := 44) (by decide) (by decide), mrow_upd (j := 45) (by decide) (by decide)]
  refine congrArg mrow ?_
  show upd (upd X 40 (X 40 + nI 1)) 41 (nI 0) = tk0 X
  have e : upd X 40 (X 40 + nI 1) 41 = nI 0 := by rw [upd_ne (by decide), h41, show a = 0 by omega]
  unfold tk0 tk1
  rw [e, if_neg (by decide), ← e, upd_self]
theorem mtk_b {τ1 X : Nat → Int32} {a : Nat} (hT : τ1 = mrow X) (h41 : X 41 = nI a) (ha : a ≤ 10) (h : ¬ a ≤ 0) : upd (upd τ1 44 (X 40 + nI 1)) 45 (nI (a - 1)) = mrow (tk0 X) := by
  rw [hT, mrow_upd (j := 44) (by decide) (by decide), mrow_upd (j := 45) (by decide) (by decide)]
  refine congrArg mrow ?_
  show upd (upd X 40 (X 40 + nI 1)) 41 (nI (a - 1)) = tk0 X
  have e : upd X 40 (X 40 + nI 1) 41 = nI a := by rw [upd_ne (by decide), h41]
  unfold tk0 tk1
  rw [e, if_pos (nI_lt (by omega) (by omega)), pk_sub (by omega)]
theorem mgo_in {Y : Nat → Int32} {i w : Nat} (h39 : Y 39 = nI i) (h : i = 0 ∨ w = i) : upd (mrow Y) 43 (nI w) = mrow (goS Y i w) := by
  rw [mrow_upd (j := 43) (by decide) (by decide)]
  refine congrArg mrow ?_
  show upd Y 39 (nI w) = goS Y i w
  unfold goS
  by_cases e : w = i
  · rw [if_pos (Or.inl e), e, ← h39, upd_self]
  · have i0 : i = 0 := h.resolve_right e
    rw [if_neg (fun q => q.elim e (fun z => z.1.1 i0)), if_pos i0]
theorem mgo_hold {Y : Nat → Int32} {i w : Nat} (h0 : ¬ i = 0) (h1 : i < w) (h2 : nI 0 < Y 41) : mrow Y = mrow (goS Y i w) := by
  unfold goS
  rw [if_pos (Or.inr ⟨⟨h0, h1⟩, h2⟩)]
theorem mst_same (W : Nat → Nat) (Y : Nat → Int32) (i n : Nat) : sameG Y (upd (shfS W Y n) 39 (nI i)) := sameG_tr (shfS_same W Y n) (sameG_upd (by decide) (by decide))
theorem mst_ok {Y : Nat → Int32} {W : Nat → Nat} {i N : Nat} (h : rowOK Y) (hi : i ≤ 7) (hf : i = 0 ∨ fitN Y i = true) (hs : ∀ j, j < N → simN Y (W j) (W (j + 1)) = true) (n : Nat) (hn : n ≤ N) : rowOK (upd (shfS W Y n) 39 (nI i)) := by
  refine rowOK_upd (shfS_ok h n (fun j hj => ?_)) (by decide) (c4 := fun _ => ⟨i, hi, rfl, ?_⟩)
  · have := hs j (by omega)
    simp only [simN, Bool.and_eq_true] at this
    exact this.1.2
  · rw [sameG_fitN (shfS_same W Y n)]
    exact hf
theorem mst_step {Y : Nat → Int32} {W : Nat → Nat} (hW : ∀ j, W j ≤ 7) (i n : Nat) : lrnS (upd (shfS W Y n) 39 (nI i)) (comS (upd (shfS W Y n) 39 (nI i) (W n)) (upd (shfS W Y n) 39 (nI i) (W (n + 1)))) = upd (shfS W Y (n + 1)) 39 (nI i) := by
  have h1 := hW n
  have h2 := hW (n + 1)
  rw [(mst_same W Y i n).1 _ h1, (mst_same W Y i n).1 _ h2, lrn_39 _ (comS_lt _ _)]
  show _ = upd (upd (lrnS (shfS W Y n) (comS (Y (W n)) (Y (W (n + 1))))) 39 (nI (W (n + 1)))) 39 (nI i)
  rw [upd_upd]
theorem mst_0 {Y : Nat → Int32} {W : Nat → Nat} {i : Nat} (h39 : Y 39 = nI i) : mrow Y = mrow (upd (shfS W Y 0) 39 (nI i)) := by
  show mrow Y = mrow (upd Y 39 (nI i))
  rw [← h39, upd_self]
theorem mst_end {S : Nat → Int32} {i w : Nat} (h : S 39 = nI w) : upd (mrow (upd S 39 (nI i))) 43 (nI w) = mrow S := by
  rw [mrow_upd (j := 43) (by decide) (by decide)]
  refine congrArg mrow ?_
  show upd (upd S 39 (nI i)) 39 (nI w) = S
  rw [upd_upd, ← h, upd_self]
theorem mnote_up {S : Nat → Int32} {i w : Nat} (h : i < w) : upd (mrow S) 46 (S 40) = mrow (noteS S (decide (i < w))) := by
  rw [mrow_upd (j := 46) (by decide) (by decide), decide_eq_true h]
  rfl
theorem mnote_no {S : Nat → Int32} {i w : Nat} (h : ¬ i < w) (h2 : S 42 = -1 ∨ nI 5 < S 40 - S 42) : mrow S = mrow (noteS S (decide (i < w))) := by
  rw [decide_eq_false h]
  unfold noteS
  rw [if_neg (by decide), if_neg (fun q => h2.elim q.1 q.2)]
theorem mnote_dn {S : Nat → Int32} {i w : Nat} (h : ¬ i < w) (h1 : ¬ S 42 = -1) (h2 : ¬ nI 5 < S 40 - S 42) : upd (upd (mrow S) 50 (S 46 + nI 1)) 45 (nI 10) = mrow (noteS S (decide (i < w))) := by
  rw [mrow_upd (j := 50) (by decide) (by decide), mrow_upd (j := 45) (by decide) (by decide), decide_eq_false h]
  unfold noteS
  rw [if_neg (by decide), if_pos ⟨h1, h2⟩]
  rfl
