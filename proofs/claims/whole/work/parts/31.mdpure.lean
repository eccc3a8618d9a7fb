/-! PURE WORDS: the overlap as the model counts it -/
theorem clip_lo {v : Int32} (h : ¬ 0 ≤ v) : clipS v = nI 0 := by
  unfold clipS
  have h1 : ¬ nI 0 < v := fun q => h (Int32.le_of_lt q)
  rw [if_neg h1, if_pos (by decide)]
theorem clip_hi {v : Int32} (h : ¬ v ≤ nI 1000) : clipS v = nI 1000 := by
  unfold clipS
  have h1 : nI 1000 < v := Int32.not_le.mp h
  have h2 : nI 0 < v := Int32.lt_trans (show nI 0 < nI 1000 by decide) h1
  rw [if_pos h2, if_neg (fun q => h (Int32.le_of_lt q))]
theorem clip_mid {v : Int32} (h0 : 0 ≤ v) (h : v ≤ nI 1000) : clipS v = v := by
  unfold clipS
  by_cases q : nI 0 < v
  · rw [if_pos q]
    by_cases z : v < nI 1000
    · rw [if_pos z]
    · rw [if_neg z]
      exact Int32.le_antisymm (Int32.not_lt.mp z) h
  · rw [if_neg q, if_pos (by decide)]
    exact Int32.le_antisymm h0 (Int32.not_lt.mp q)
/-- between 0 and 1000 -/
theorem clip_rng (v : Int32) : 0 ≤ (clipS v).toInt ∧ (clipS v).toInt ≤ 1000 := by
  have e : (nI 1000).toInt = 1000 := by decide
  have e0 : (0 : Int32).toInt = 0 := by decide
  by_cases h0 : 0 ≤ v
  · by_cases h : v ≤ nI 1000
    · rw [clip_mid h0 h]
      have a := Int32.le_iff_toInt_le.mp h0
      have b := Int32.le_iff_toInt_le.mp h
      rw [e] at b
      rw [e0] at a
      exact ⟨a, b⟩
    · rw [clip_hi h, e]
      omega
  · rw [clip_lo h0]
    decide
theorem sub_toI {a b : Int32} (h1 : -2000 ≤ a.toInt ∧ a.toInt ≤ 2000) (h2 : -2000 ≤ b.toInt ∧ b.toInt ≤ 2000) : (a - b).toInt = a.toInt - b.toInt := by
  rw [Int32.toInt_sub]
  exact Int.bmod_eq_of_le (by omega) (by omega)
theorem neg_toI {a : Int32} (h1 : -2000 ≤ a.toInt ∧ a.toInt ≤ 2000) : (-a).toInt = -a.toInt := by
  rw [Int32.toInt_neg]
  exact Int.bmod_eq_of_le (by omega) (by omega)
theorem ovN_rng (X : Nat → Int32) (c t : Nat) : -1000 ≤ (ovN X c t).toInt ∧ (ovN X c t).toInt ≤ 1000 := by
  unfold ovN shS
  have a := clip_rng (nI 1000 * (nI t - X (29 + c)) / X 49)
  have b := clip_rng (nI 1000 * (nI t - X (34 + c)) / X 49)
  rw [sub_toI (by omega) (by omega)]
  omega
theorem mnF_rng {f : Nat → Int32} (hf : ∀ t, -1000 ≤ (f t).toInt ∧ (f t).toInt ≤ 1000) : ∀ n, -1000 ≤ (mnF f n).toInt ∧ (mnF f n).toInt ≤ 1000
  | 0 => by
    show -1000 ≤ (nI 0).toInt ∧ (nI 0).toInt ≤ 1000
    decide
  | n + 1 => by
    show -1000 ≤ (if f n < mnF f n then f n else mnF f n).toInt ∧ (if f n < mnF f n then f n else mnF f n).toInt ≤ 1000
    split
    · exact hf n
    · exact mnF_rng hf n
theorem mx_neg {f : Nat → Int32} (hf : ∀ t, -1000 ≤ (f t).toInt ∧ (f t).toInt ≤ 1000) : ∀ n, mxF (fun t => -(f t)) n = -(mnF f n)
  | 0 => by
    show nI 0 = -(nI 0)
    decide
  | n + 1 => by
    show (if mxF (fun t => -(f t)) n < -(f n) then -(f n) else mxF (fun t => -(f t)) n) = -(if f n < mnF f n then f n else mnF f n)
    rw [mx_neg hf n]
    have a := hf n
    have b := mnF_rng hf n
    have e : (-(mnF f n) < -(f n)) ↔ (f n < mnF f n) := by
      rw [Int32.lt_iff_toInt_lt, Int32.lt_iff_toInt_lt, neg_toI (by omega), neg_toI (by omega)]
      omega
    by_cases q : f n < mnF f n
    · rw [if_pos q, if_pos (e.mpr q)]
    · rw [if_neg q, if_neg (fun z => q (e.mp z))]
theorem nxUp_gt (F : Nat → Bool) : ∀ n g, ¬ nxUp F n g = 0 → g < nxUp F n g
  | 0, g, h => absurd rfl h
  | n + 1, g, h => by
    unfold nxUp at h ⊢
    by_cases q : F (g + 1) = true
    · rw [if_pos q]; omega
    · rw [if_neg q] at h ⊢
      have := nxUp_gt F n (g + 1) h
      omega
