theorem nneg {i : Int32} (h : -1 ≤ i) (h2 : ¬ i = -1) : ¬ i < 0 := fun q => by
  have a := Int32.le_iff_toInt_le.mp h
  have b := Int32.lt_iff_toInt_lt.mp q
  have e1 : (-1 : Int32).toInt = -1 := by decide
  have e0 : (0 : Int32).toInt = 0 := by decide
  rw [e1] at a
  rw [e0] at b
  have c : i.toInt = (-1 : Int32).toInt := by rw [e1]; omega
  exact h2 (Int32.toInt_inj.mp c)
theorem rul0_t {X : Nat → Int32} {v : Int32} (h : withinB v (nI 1) (nI 12) = true) : rulR X (nI 0) v = X 49 ∧ rulX X (nI 0) v = upd X 49 v :=
  ⟨by rw [rulR, if_pos (show nI 0 = 0 from rfl), parR_t h], by rw [rulX, if_pos (show nI 0 = 0 from rfl), parX_t h]⟩
theorem rul0_f {X : Nat → Int32} {v : Int32} (h : withinB v (nI 1) (nI 12) = false) : rulR X (nI 0) v = -2 ∧ rulX X (nI 0) v = X :=
  ⟨by rw [rulR, if_pos (show nI 0 = 0 from rfl), parR_f h], by rw [rulX, if_pos (show nI 0 = 0 from rfl), parX_f h]⟩
theorem rul1_t {X : Nat → Int32} {v : Int32} (h : withinB v (nI 0) (nI 999) = true) : rulR X (nI 1) v = X 50 ∧ rulX X (nI 1) v = upd X 50 v :=
  ⟨by rw [rulR, if_neg (by decide), parR_t (by rw [h]; rfl)], by rw [rulX, if_neg (by decide), parX_t (by rw [h]; rfl)]⟩
theorem rul1_f {X : Nat → Int32} {v : Int32} (h : withinB v (nI 0) (nI 999) = false) : rulR X (nI 1) v = -2 ∧ rulX X (nI 1) v = X :=
  ⟨by rw [rulR, if_neg (by decide), parR_f (by rw [h]; rfl)], by rw [rulX, if_neg (by decide), parX_f (by rw [h]; rfl)]⟩
theorem rul_no {X : Nat → Int32} {k v : Int32} (h0 : ¬ k = 0) (h1 : ¬ k = nI 1) : rulR X k v = -2 ∧ rulX X k v = X :=
  ⟨by rw [rulR, if_neg h0, parR_f (by rw [decide_eq_false h1]; rfl)], by rw [rulX, if_neg h0, parX_f (by rw [decide_eq_false h1]; rfl)]⟩
