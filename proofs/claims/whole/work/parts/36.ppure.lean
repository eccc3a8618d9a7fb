/-! PURE WORDS: what the model puts -/
theorem selfM {σ : St} {X : Nat → Int32} (hT : σ 1 = mrow X) : σ = up2 σ 1 (mrow X) := by rw [← hT, up2_self]
theorem dropS_self {X : Nat → Int32} (h : rowOK X) : dropS X = X := by
  obtain ⟨h1, h2, h3⟩ := rowOK_in h
  unfold dropS
  rw [h2, fitI_N (by omega)]
  by_cases q : fitN X (inN X) = true
  · rw [if_pos q]
  · rw [if_neg q, show nI 0 = X 39 by rw [h2, h3.resolve_right q], upd_self]
theorem parR_t {b : Bool} {X : Nat → Int32} {j : Nat} (h : b = true) : parR b X j = X j := if_pos h
theorem parR_f {b : Bool} {X : Nat → Int32} {j : Nat} (h : b = false) : parR b X j = -2 := if_neg (by rw [h]; decide)
theorem parX_t {b : Bool} {X : Nat → Int32} {j : Nat} {v : Int32} (h : b = true) : parX b X j v = upd X j v := if_pos h
theorem parX_f {b : Bool} {X : Nat → Int32} {j : Nat} {v : Int32} (h : b = false) : parX b X j v = X := if_neg (by rw [h]; decide)
theorem setR_f {X : Nat → Int32} {a b : Int32} (h : setB a b = false) : setR X a b = -2 := if_neg (by rw [h]; decide)
theorem setX_f {X : Nat → Int32} {a b : Int32} (h : setB a b = false) : setX X a b = X := if_neg (by rw [h]; decide)
theorem drvR_f {X : Nat → Int32} {a b : Int32} (h : tkB a b = false) : drvR X a b = -2 := if_neg (by rw [h]; decide)
theorem drvX_f {X : Nat → Int32} {a b : Int32} (h : tkB a b = false) : drvX X a b = X := if_neg (by rw [h]; decide)
theorem n8m (σ : St) (v v' : Int32) (R R' fa fa' ra ra' : Nat → Int32) : up2 (up2 (up2 (up2 (up2 (up2 (up2 (up2 σ 0 (upd (σ 0) 15 v)) 1 R) 9 fa) 10 ra) 0 (upd (up2 (up2 (up2 (up2 σ 0 (upd (σ 0) 15 v)) 1 R) 9 fa) 10 ra 0) 15 v')) 1 R') 9 fa') 10 ra' = up2 (up2 (up2 (up2 σ 0 (upd (σ 0) 15 v')) 1 R') 9 fa') 10 ra' := by
  have e : up2 (up2 (up2 (up2 σ 0 (upd (σ 0) 15 v)) 1 R) 9 fa) 10 ra 0 = upd (σ 0) 15 v := by
    rw [up2_ne _ _ (by decide), up2_ne _ _ (by decide), up2_ne _ _ (by decide), up2_eq]
  rw [e, upd_upd]
  funext i
  unfold up2
  by_cases h1 : i = 10
  · simp [h1]
  · by_cases h2 : i = 9
    · simp [h2]
    · by_cases h3 : i = 1
      · simp [h3]
      · by_cases h4 : i = 0
        · simp [h4]
        · simp [h1, h2, h3, h4]
