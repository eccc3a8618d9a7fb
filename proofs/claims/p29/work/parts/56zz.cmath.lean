/-! PURE WORDS of the property: two GEARS, driven up and down: what is learnt each time -/
def G12 (X : Nat → Int32) : Prop := X 1 = nI 3 ∧ X 2 = nI 5 ∧ (∀ g, 3 ≤ g → g ≤ 7 → X g = nI 0) ∧ ∀ c, c < 5 → X (24 + c) = nI 0
def F12 (g : Nat) : Bool := decide (g = 1) || decide (g = 2)
theorem g12_fit {X : Nat → Int32} (h : G12 X) : fitN X = F12 := by
  obtain ⟨h1, h2, h3, h4⟩ := h
  have hst : ∀ a, allB (okB a (stC X)) 5 = true := fun a => allB_t.mpr (fun c hc => by
    unfold okB stC
    rw [h4 c hc]
    split <;> decide)
  funext g
  by_cases q : 1 ≤ g ∧ g ≤ 7
  · rw [fitN_in q.1 q.2]
    unfold fitS F12
    rw [hst, Bool.and_true]
    by_cases g1 : g = 1
    · rw [g1, h1]
      decide
    · by_cases g2 : g = 2
      · rw [g2, h2]
        decide
      · rw [h3 g (by omega) q.2, decide_eq_false g1, decide_eq_false g2]
        decide
  · unfold fitN F12
    have e : (decide (1 ≤ g) && decide (g ≤ 7)) = false := by
      by_cases a : 1 ≤ g
      · rw [decide_eq_false (show ¬ g ≤ 7 from fun b => q ⟨a, b⟩), Bool.and_false]
      · rw [decide_eq_false a, Bool.false_and]
    rw [e, decide_eq_false (show ¬ g = 1 by omega), decide_eq_false (show ¬ g = 2 by omega), Bool.false_and]
    rfl
theorem g12_sim {X : Nat → Int32} (h : G12 X) : simN X 1 2 = true ∧ simN X 2 1 = true := by
  have e := g12_fit h
  obtain ⟨h1, h2, -, -⟩ := h
  unfold simN
  rw [e, h1, h2]
  exact ⟨by decide +kernel, by decide +kernel⟩
def LQ (X : Nat → Int32) (R lim T1 T2 f1 f2 tm n i : Nat) : Prop :=
  G12 X ∧ (X 9 = nI 20 ∧ X 10 = nI 40 ∧ X 17 = nI 5 ∧ X 18 = nI 25 ∧ X 47 = nI 3 ∧ X 48 = nI 0 ∧ X 49 = nI R ∧ X 50 = nI lim) ∧
  (X 30 = nI T1 ∧ X 31 = nI T2 ∧ X 35 = nI f1 ∧ X 36 = nI f2) ∧ (X 39 = nI i ∧ X 40 = nI tm ∧ X 41 = nI 0 ∧ X 43 = nI n)
section LQS
variable {X Y : Nat → Int32} {R lim T1 T2 f1 f2 tm n i : Nat}
theorem lq_add (h : LQ X R lim T1 T2 f1 f2 tm n i) : addS X = nI 0 := by
  obtain ⟨-, ⟨-, -, -, -, a, b, -⟩, -⟩ := h
  unfold addS
  rw [a, b]
  decide
theorem lq_w1 (h : LQ X R lim T1 T2 f1 f2 tm n i) : wntS X 1 (nI 300) = 2 := by
  have e := g12_fit h.1
  have a : abvS X 1 (nI 300) = 2 := by
    unfold abvS
    rw [show X (8 + 1) = nI 20 from h.2.1.1, lq_add h, if_neg (by decide), e]
    decide
  rw [wntS, if_neg (by decide), a, if_pos (by decide)]
theorem lq_w2 (h : LQ X R lim T1 T2 f1 f2 tm n i) : wntS X 2 (nI 300) = 2 := by
  have e := g12_fit h.1
  have a : abvS X 2 (nI 300) = 0 := by
    unfold abvS
    rw [show X (8 + 2) = nI 40 from h.2.1.2.1, lq_add h, if_neg (by decide), e]
    decide
  have b : blwS X 2 (nI 300) = 0 := by
    unfold blwS
    rw [show X (16 + 2) = nI 25 from h.2.1.2.2.2.1, lq_add h, if_pos (by decide)]
  rw [wntS, if_neg (by decide), a, if_neg (by decide), b, if_neg (by decide)]
theorem lq_w3 (h : LQ X R lim T1 T2 f1 f2 tm n i) : wntS X 2 (nI 0) = 1 := by
  have e := g12_fit h.1
  have a : abvS X 2 (nI 0) = 0 := by
    unfold abvS
    rw [show X (8 + 2) = nI 40 from h.2.1.2.1, lq_add h, if_pos (by decide)]
  have b : blwS X 2 (nI 0) = 1 := by
    unfold blwS
    rw [show X (16 + 2) = nI 25 from h.2.1.2.2.2.1, lq_add h, if_neg (by decide), e]
    decide
  rw [wntS, if_neg (by decide), a, if_neg (by decide), b, if_pos (by decide)]
theorem lq_w4 (h : LQ X R lim T1 T2 f1 f2 tm n i) : wntS X 1 (nI 0) = 1 := by
  have e := g12_fit h.1
  have a : abvS X 1 (nI 0) = 0 := by
    unfold abvS
    rw [show X (8 + 1) = nI 20 from h.2.1.1, lq_add h, if_pos (by decide)]
  have b : blwS X 1 (nI 0) = 0 := by
    unfold blwS
    rw [show X (16 + 1) = nI 5 from h.2.1.2.2.1, lq_add h, if_neg (by decide), e]
    decide
  rw [wntS, if_neg (by decide), a, if_neg (by decide), b, if_neg (by decide)]
theorem lq_of (h : LQ X R lim T1 T2 f1 f2 tm n i) {tm' n' i' f1' f2' : Nat} (hy : ∀ j, j < 35 ∨ 45 < j → Y j = X j) (e39 : Y 39 = nI i') (e40 : Y 40 = nI tm') (e41 : Y 41 = nI 0) (e43 : Y 43 = nI n') (ef1 : Y 35 = nI f1') (ef2 : Y 36 = nI f2') : LQ Y R lim T1 T2 f1' f2' tm' n' i' := by
  obtain ⟨⟨a1, a2, a3, a4⟩, ⟨b1, b2, b3, b4, b5, b6, b7, b8⟩, ⟨c1, c2, c3, c4⟩, -⟩ := h
  refine ⟨⟨?_, ?_, fun g g1 g2 => ?_, fun c hc => ?_⟩, ⟨?_, ?_, ?_, ?_, ?_, ?_, ?_, ?_⟩, ⟨?_, ?_, ef1, ef2⟩, e39, e40, e41, e43⟩
  · rw [hy _ (by omega), a1]
  · rw [hy _ (by omega), a2]
  · rw [hy _ (by omega), a3 g g1 g2]
  · rw [hy _ (by omega), a4 c hc]
  · rw [hy _ (by omega), b1]
  · rw [hy _ (by omega), b2]
  · rw [hy _ (by omega), b3]
  · rw [hy _ (by omega), b4]
  · rw [hy _ (by omega), b5]
  · rw [hy _ (by omega), b6]
  · rw [hy _ (by omega), b7]
  · rw [hy _ (by omega), b8]
  · rw [hy _ (by omega), c1]
  · rw [hy _ (by omega), c2]
theorem lq_tk0 (h : LQ X R lim T1 T2 f1 f2 tm n i) : LQ (tk0 X) R lim T1 T2 f1 f2 (tm + 1) n i := by
  obtain ⟨-, -, ⟨-, -, c3, c4⟩, d1, d2, d3, d4⟩ := id h
  exact lq_of h (fun j hj => tk0_ne (by omega)) ((tk0_ne (by decide)).trans d1) (by rw [tk0_40, d2, nI_add]) (tk0_41 (h := 0) d3 (by omega)) ((tk0_ne (by decide)).trans d4) ((tk0_ne (by decide)).trans c3) ((tk0_ne (by decide)).trans c4)
theorem lq_in (h : LQ X R lim T1 T2 f1 f2 tm n i) (hi : i ≤ 7) : inN X = i := inN_of h.2.2.2.1 hi
theorem lq_stay (h : LQ X R lim T1 T2 f1 f2 tm n i) (hi : i ≤ 7) {v : Int32} (hw : wntS X i v = i) : tickS X v = tk0 X := by
  unfold tickS
  rw [lq_in h hi, wntS_tk0 hi, hw]
  exact (goT_e rfl).symm
theorem go_one {W : Nat → Int32} {a b : Nat} (hs : simN W a b = true) (hne : ¬ a = b) (h0 : ¬ a = 0) (h41 : W 41 = nI 0) : goS W a b = noteS (upd (lrnS W (comS (W a) (W b))) 39 (nI b)) (decide (a < b)) := by
  unfold goS
  rw [if_neg (by
    rintro (z | z)
    · exact hne z.symm
    · rw [h41] at z
      exact absurd z.2 (by decide)), if_neg h0, if_neg (by rw [wy_one hs hne]; decide), wy_one hs hne]
  show noteS (upd (lrnS W (comS (W (wyG W a b 0)) (W (wyG W a b 1)))) 39 (nI (wyG W a b 1))) _ = _
  rw [wy_two hs hne]
  rfl
theorem lq_up (h : LQ X R lim T1 T2 f1 f2 tm n 1) (h1 : 1 ≤ R) (h2 : R < 13) (hT : T2 ≤ 20) (hf1 : 1 ≤ f2) (hf2 : f2 ≤ 20) (hl : lim ≤ 999) : LQ (tickS X (nI 300)) R lim T1 T2 f1 (stepF R T2 lim f2) (tm + 1) (n + 1) 2 ∧ tickS X (nI 300) 42 = nI (tm + 1) := by
  have hW := lq_tk0 h
  have e : tickS X (nI 300) = goS (tk0 X) 1 2 := by
    unfold tickS
    rw [lq_in h (by omega), wntS_tk0 (by omega), lq_w1 h]
  rw [e]
  generalize tk0 X = W at *
  obtain ⟨⟨a1, a2, -⟩, ⟨-, -, -, -, -, -, b7, b8⟩, ⟨c1, c2, c3, c4⟩, d1, d2, d3, d4⟩ := id hW
  have hc : comS (nI 3) (nI 5) = 2 := by decide
  rw [go_one (g12_sim hW.1).1 (by decide) (by decide) d3, a1, a2, hc, noteS, if_pos (by decide)]
  have ne : ∀ j, (j ≠ 43 ∧ j ≠ 44 ∧ j ≠ 45 ∧ j ≠ 36) → lrnS W 2 j = W j := fun j hj => lrnS_ne W (c := 2) (by omega)
  have hf := lrnS_fill (X := W) (c := 2) (by omega) b7 c2 c4 b8 h1 h2 hT hf1 hf2 hl
  have h43 := lrnS_43 W (c := 2) (by omega)
  refine ⟨lq_of hW (fun j hj => ?_) ?_ ?_ ?_ ?_ ?_ ?_, ?_⟩
  · rw [upd_ne (by omega), upd_ne (by omega), ne j (by omega)]
  · rw [upd_ne (by decide), upd_same]
  · rw [upd_ne (by decide), upd_ne (by decide), ne 40 (by omega), d2]
  · rw [upd_ne (by decide), upd_ne (by decide), ne 41 (by omega), d3]
  · rw [upd_ne (by decide), upd_ne (by decide), h43, d4, nI_add]
  · rw [upd_ne (by decide), upd_ne (by decide), ne 35 (by omega), c3]
  · rw [upd_ne (by decide), upd_ne (by decide)]
    exact hf
  · rw [upd_same, upd_ne (by decide), ne 40 (by omega), d2]
theorem lq_dn {u : Nat} (h : LQ X R lim T1 T2 f1 f2 tm n 2) (hu : X 42 = nI u) (hu2 : u + 11 = tm) (h1 : 1 ≤ R) (h2 : R < 13) (hT : T1 ≤ 20) (hf1 : 1 ≤ f1) (hf2 : f1 ≤ 20) (hl : lim ≤ 999) : LQ (tickS X (nI 0)) R lim T1 T2 (stepF R T1 lim f1) f2 (tm + 1) (n + 1) 1 := by
  have hW := lq_tk0 h
  have hu3 : tk0 X 42 = nI u := (tk0_ne (by decide)).trans hu
  have e : tickS X (nI 0) = goS (tk0 X) 2 1 := by
    unfold tickS
    rw [lq_in h (by omega), wntS_tk0 (by omega), lq_w3 h]
  rw [e]
  generalize tk0 X = W at *
  obtain ⟨⟨a1, a2, -⟩, ⟨-, -, -, -, -, -, b7, b8⟩, ⟨c1, c2, c3, c4⟩, d1, d2, d3, d4⟩ := id hW
  have hc : comS (nI 5) (nI 3) = 1 := by decide
  have ne : ∀ j, (j ≠ 43 ∧ j ≠ 44 ∧ j ≠ 45 ∧ j ≠ 35) → lrnS W 1 j = W j := fun j hj => lrnS_ne W (c := 1) (by omega)
  have hf := lrnS_fill (X := W) (c := 1) (by omega) b7 c1 c3 b8 h1 h2 hT hf1 hf2 hl
  have h43 := lrnS_43 W (c := 1) (by omega)
  rw [go_one (g12_sim hW.1).2 (by decide) (by decide) d3, a1, a2, hc, noteS, if_neg (by decide), if_neg (by
    rintro ⟨-, z⟩
    rw [upd_ne (by decide), upd_ne (by decide), ne 40 (by omega), ne 42 (by omega), d2, hu3, pk_sub (by omega), show tm + 1 - u = 12 by omega] at z
    exact z (by decide))]
  refine lq_of hW (fun j hj => ?_) ?_ ?_ ?_ ?_ ?_ ?_
  · rw [upd_ne (by omega), ne j (by omega)]
  · rw [upd_same]
  · rw [upd_ne (by decide), ne 40 (by omega), d2]
  · rw [upd_ne (by decide), ne 41 (by omega), d3]
  · rw [upd_ne (by decide), h43, d4, nI_add]
  · rw [upd_ne (by decide)]
    exact hf
  · rw [upd_ne (by decide), ne 36 (by omega), c4]
theorem lq_ups (h : LQ X R lim T1 T2 f1 f2 tm n 1) (h1 : 1 ≤ R) (h2 : R < 13) (hT : T2 ≤ 20) (hf1 : 1 ≤ f2) (hf2 : f2 ≤ 20) (hl : lim ≤ 999) : ∀ k, LQ (tksS X (nI 300) (k + 1)) R lim T1 T2 f1 (stepF R T2 lim f2) (tm + 1 + k) (n + 1) 2 ∧ tksS X (nI 300) (k + 1) 42 = nI (tm + 1)
  | 0 => lq_up h h1 h2 hT hf1 hf2 hl
  | k + 1 => by
    obtain ⟨q1, q2⟩ := lq_ups h h1 h2 hT hf1 hf2 hl k
    show LQ (tickS (tksS X (nI 300) (k + 1)) (nI 300)) R lim T1 T2 f1 (stepF R T2 lim f2) (tm + 1 + k + 1) (n + 1) 2 ∧ tickS (tksS X (nI 300) (k + 1)) (nI 300) 42 = nI (tm + 1)
    rw [lq_stay q1 (by omega) (lq_w2 q1)]
    exact ⟨lq_tk0 q1, (tk0_ne (by decide)).trans q2⟩
theorem lq_sts (h : LQ X R lim T1 T2 f1 f2 tm n 1) : ∀ k, LQ (tksS X (nI 0) k) R lim T1 T2 f1 f2 (tm + k) n 1
  | 0 => h
  | k + 1 => by
    have q1 := lq_sts h k
    show LQ (tickS (tksS X (nI 0) k) (nI 0)) R lim T1 T2 f1 f2 (tm + k + 1) n 1
    rw [lq_stay q1 (by omega) (lq_w4 q1)]
    exact lq_tk0 q1
/-- the three drives of a round -/
theorem lq_d1 (h : LQ X R lim T1 T2 f1 f2 tm n 1) (h1 : 1 ≤ R) (h2 : R < 13) (hT : T2 ≤ 20) (hf1 : 1 ≤ f2) (hf2 : f2 ≤ 20) (hl : lim ≤ 999) : oR X 7 (nI 300) (nI 12) = nI 2 ∧ LQ (oX X 7 (nI 300) (nI 12)) R lim T1 T2 f1 (stepF R T2 lim f2) (tm + 12) (n + 1) 2 ∧ oX X 7 (nI 300) (nI 12) 42 = nI (tm + 1) := by
  obtain ⟨a, b⟩ := drv_tk (X := X) (v := nI 300) (by decide) (n := 12) (by omega) (by omega)
  obtain ⟨q1, q2⟩ := lq_ups h h1 h2 hT hf1 hf2 hl 11
  rw [a, b, lq_in q1 (by omega)]
  exact ⟨rfl, q1, q2⟩
theorem lq_d2 {u : Nat} (h : LQ X R lim T1 T2 f1 f2 tm n 2) (hu : X 42 = nI u) (hu2 : u + 11 = tm) (h1 : 1 ≤ R) (h2 : R < 13) (hT : T1 ≤ 20) (hf1 : 1 ≤ f1) (hf2 : f1 ≤ 20) (hl : lim ≤ 999) : oR X 7 (nI 0) (nI 1) = nI 1 ∧ LQ (oX X 7 (nI 0) (nI 1)) R lim T1 T2 (stepF R T1 lim f1) f2 (tm + 1) (n + 1) 1 := by
  obtain ⟨a, b⟩ := drv_tk (X := X) (v := nI 0) (by decide) (n := 1) (by omega) (by omega)
  have q1 : LQ (tksS X (nI 0) 1) R lim T1 T2 (stepF R T1 lim f1) f2 (tm + 1) (n + 1) 1 := lq_dn h hu hu2 h1 h2 hT hf1 hf2 hl
  rw [a, b, lq_in q1 (by omega)]
  exact ⟨rfl, q1⟩
theorem lq_d3 (h : LQ X R lim T1 T2 f1 f2 tm n 1) : oR X 7 (nI 0) (nI 11) = nI 1 ∧ LQ (oX X 7 (nI 0) (nI 11)) R lim T1 T2 f1 f2 (tm + 11) n 1 := by
  obtain ⟨a, b⟩ := drv_tk (X := X) (v := nI 0) (by decide) (n := 11) (by omega) (by omega)
  have q1 := lq_sts h 11
  rw [a, b, lq_in q1 (by omega)]
  exact ⟨rfl, q1⟩
end LQS
/-! the object as it is set up -/
theorem tru_ok {X : Nat → Int32} {c T : Nat} (hc : c < 5) (h1 : 1 ≤ T) (h2 : T ≤ 20) : oR X 2 (nI c) (nI T) = X (29 + c) ∧ oX X 2 (nI c) (nI T) = upd X (29 + c) (nI T) := by
  have e : truB (nI c) (nI T) = true := by
    unfold truB
    rw [clu_ok hc, withinB_N (by omega) (by omega) (by omega)]
    simp [h1, h2]
  show parR (truB (nI c) (nI T)) X (29 + tN (nI c)) = _ ∧ parX (truB (nI c) (nI T)) X (29 + tN (nI c)) (nI T) = _
  rw [e, tN_N (by omega)]
  exact ⟨rfl, rfl⟩
theorem rul_ok0 {X : Nat → Int32} {T : Nat} (h1 : 1 ≤ T) (h2 : T ≤ 12) : oR X 8 (nI 0) (nI T) = X 49 ∧ oX X 8 (nI 0) (nI T) = upd X 49 (nI T) := by
  have e : withinB (nI T) (nI 1) (nI 12) = true := by
    rw [withinB_N (by omega) (by omega) (by omega)]
    simp [h1, h2]
  show rulR X (nI 0) (nI T) = _ ∧ rulX X (nI 0) (nI T) = _
  unfold rulR rulX
  rw [if_pos (by decide), if_pos (by decide), e]
  exact ⟨rfl, rfl⟩
theorem rul_ok1 {X : Nat → Int32} {T : Nat} (h2 : T ≤ 999) : oR X 8 (nI 1) (nI T) = X 50 ∧ oX X 8 (nI 1) (nI T) = upd X 50 (nI T) := by
  have e : (decide (nI 1 = nI 1) && withinB (nI T) (nI 0) (nI 999)) = true := by
    rw [withinB_N (by omega) (by omega) (by omega)]
    simp [h2]
  show rulR X (nI 1) (nI T) = _ ∧ rulX X (nI 1) (nI T) = _
  unfold rulR rulX
  rw [if_neg (by decide), if_neg (by decide), e]
  exact ⟨rfl, rfl⟩
def rowL1 : Nat → Int32 := upd (upd rowC0 1 (nI 3)) 39 (nI 0)
def rowL2 : Nat → Int32 := upd (upd rowL1 2 (nI 5)) 39 (nI 0)
set_option maxRecDepth 100000 in
theorem rowL1_is : oR rowC0 0 (nI 1) (nI 3) = nI 0 ∧ oX rowC0 0 (nI 1) (nI 3) = rowL1 := by
  refine ⟨by decide +kernel, ?_⟩
  show setX rowC0 (nI 1) (nI 3) = _
  unfold setX
  rw [if_pos (by decide +kernel), if_neg (by decide +kernel)]
  unfold dropS
  rw [if_neg (by decide +kernel)]
  rfl
set_option maxRecDepth 100000 in
theorem rowL2_is : oR rowL1 0 (nI 2) (nI 5) = nI 0 ∧ oX rowL1 0 (nI 2) (nI 5) = rowL2 := by
  refine ⟨by decide +kernel, ?_⟩
  show setX rowL1 (nI 2) (nI 5) = _
  unfold setX
  rw [if_pos (by decide +kernel), if_neg (by decide +kernel)]
  unfold dropS
  rw [if_neg (by decide +kernel)]
  rfl
set_option maxRecDepth 100000 in
theorem rowL2_lq : LQ rowL2 5 100 8 8 8 8 0 0 0 := by
  refine ⟨⟨by decide +kernel, by decide +kernel, fun g g1 g2 => (by decide +kernel : ∀ g, g < 8 → 3 ≤ g → rowL2 g = nI 0) g (by omega) g1, by decide +kernel⟩, ⟨?_, ?_, ?_, ?_, ?_, ?_, ?_, ?_⟩, ⟨?_, ?_, ?_, ?_⟩, ?_, ?_, ?_, ?_⟩ <;> decide +kernel
def rowL7 (R lim T1 T2 : Nat) : Nat → Int32 := upd (upd (upd (upd (upd rowL2 31 (nI T2)) 30 (nI T1)) 49 (nI R)) 50 (nI lim)) 39 (nI 1)
theorem rowL7_lq (R lim T1 T2 : Nat) : LQ (rowL7 R lim T1 T2) R lim T1 T2 8 8 0 0 1 := by
  obtain ⟨⟨a1, a2, a3, a4⟩, ⟨b1, b2, b3, b4, b5, b6, b7, b8⟩, ⟨c1, c2, c3, c4⟩, d1, d2, d3, d4⟩ := rowL2_lq
  have ne : ∀ j, (j ≠ 30 ∧ j ≠ 31 ∧ j ≠ 49 ∧ j ≠ 50 ∧ j ≠ 39) → rowL7 R lim T1 T2 j = rowL2 j := fun j hj => by
    unfold rowL7
    rw [upd_ne (by omega), upd_ne (by omega), upd_ne (by omega), upd_ne (by omega), upd_ne (by omega)]
  refine ⟨⟨(ne 1 (by omega)).trans a1, (ne 2 (by omega)).trans a2, fun g g1 g2 => (ne g (by omega)).trans (a3 g g1 g2), fun c hc => (ne _ (by omega)).trans (a4 c hc)⟩, ⟨(ne _ (by omega)).trans b1, (ne _ (by omega)).trans b2, (ne _ (by omega)).trans b3, (ne _ (by omega)).trans b4, (ne _ (by omega)).trans b5, (ne _ (by omega)).trans b6, ?_, ?_⟩, ⟨?_, ?_, (ne _ (by omega)).trans c3, (ne _ (by omega)).trans c4⟩, ?_, (ne _ (by omega)).trans d2, (ne _ (by omega)).trans d3, (ne _ (by omega)).trans d4⟩
  · unfold rowL7
    rw [upd_ne (by decide), upd_ne (by decide), upd_same]
  · unfold rowL7
    rw [upd_ne (by decide), upd_same]
  · unfold rowL7
    rw [upd_ne (by decide), upd_ne (by decide), upd_ne (by decide), upd_same]
  · unfold rowL7
    rw [upd_ne (by decide), upd_ne (by decide), upd_ne (by decide), upd_ne (by decide), upd_same]
  · unfold rowL7
    rw [upd_same]
theorem put_ok {X : Nat → Int32} (h : G12 X) : oR X 9 (nI 1) (nI 0) = X 39 ∧ oX X 9 (nI 1) (nI 0) = upd X 39 (nI 1) := by
  have e : fitI X (nI 1) = true := by
    rw [fitI_N (by omega), g12_fit h]
    decide
  show putR X (nI 1) = _ ∧ putX X (nI 1) = _
  unfold putR putX
  rw [if_neg (by decide), if_pos (by decide), if_pos e, if_neg (by decide), if_pos (by decide), if_pos e]
  exact ⟨rfl, rfl⟩
/-- in the end: neither late nor early by more than the limit -/
theorem lq_end {X : Nat → Int32} {R lim T1 T2 f1 f2 tm n i : Nat} (h : LQ X R lim T1 T2 f1 f2 tm n i) (h1 : 1 ≤ R) (h2 : R < 13) (t1 : T1 ≤ 20) (t2 : T2 ≤ 20) (g1 : f1 ≤ 20) (g2 : f2 ≤ 20) (hl : lim ≤ 999) (k1 : goodF R T1 lim f1) (k2 : goodF R T2 lim f2) : (∃ p, p ≤ lim ∧ flS X 2 = nI p) ∧ (∃ p, p ≤ lim ∧ bdS X 2 = nI p) ∧ (∃ p, p ≤ lim ∧ flS X 1 = nI p) ∧ ∃ p, p ≤ lim ∧ bdS X 1 = nI p := by
  obtain ⟨-, ⟨-, -, -, -, -, -, b7, b8⟩, ⟨c1, c2, c3, c4⟩, -⟩ := h
  obtain ⟨e1, e2⟩ := fl_p (c := 1) b7 c1 c3 h1 h2 t1 g1
  obtain ⟨e3, e4⟩ := fl_p (c := 2) b7 c2 c4 h1 h2 t2 g2
  exact ⟨⟨_, k2.1, e3⟩, ⟨_, k2.2, e4⟩, ⟨_, k1.1, e1⟩, ⟨_, k1.2, e2⟩⟩
