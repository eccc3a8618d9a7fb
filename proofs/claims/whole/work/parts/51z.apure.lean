/-! PURE WORDS: what the model's queries answer, in numbers -/
theorem ofA_in {X : Nat → Int32} {g w : Nat} (h1 : 1 ≤ g) (h2 : g ≤ 7) : ofA X (nI g) (nI w) = (if nI w = nI 0 then .inl (X g) else if nI w = nI 1 then .inl (bI (fitN X g)) else if nI w = nI 2 then .inl (X (8 + g)) else if nI w = nI 3 then .inl (X (16 + g)) else if nI w = nI 4 then .inl (nI (cntN (fun q9 => simN X g (q9 + 1)) 7)) else .inr 0) := by
  rw [ofA, if_pos (show gearB (nI g) = true by rw [gearB_N (by omega)]; simp [h1, h2]), tN_N (show g < 2 ^ 31 by omega)]
theorem ofV0 {X : Nat → Int32} {g : Nat} (h1 : 1 ≤ g) (h2 : g ≤ 7) : ansV (ofA X (nI g) (nI 0)) = X g := by rw [ofA_in h1 h2]; rfl
theorem ofV1 {X : Nat → Int32} {g : Nat} (h1 : 1 ≤ g) (h2 : g ≤ 7) : ansV (ofA X (nI g) (nI 1)) = bI (fitN X g) := by rw [ofA_in h1 h2]; rfl
theorem ofV2 {X : Nat → Int32} {g : Nat} (h1 : 1 ≤ g) (h2 : g ≤ 7) : ansV (ofA X (nI g) (nI 2)) = X (8 + g) := by rw [ofA_in h1 h2]; rfl
theorem ofV3 {X : Nat → Int32} {g : Nat} (h1 : 1 ≤ g) (h2 : g ≤ 7) : ansV (ofA X (nI g) (nI 3)) = X (16 + g) := by rw [ofA_in h1 h2]; rfl
theorem ofV4 {X : Nat → Int32} {g : Nat} (h1 : 1 ≤ g) (h2 : g ≤ 7) : ansV (ofA X (nI g) (nI 4)) = nI (cntN (fun q9 => simN X g (q9 + 1)) 7) := by rw [ofA_in h1 h2]; rfl
theorem sw_no5 {w : Int32} (h : withinB w (nI 0) (nI 4) = false) : ¬ w = nI 0 ∧ ¬ w = nI 1 ∧ ¬ w = nI 2 ∧ ¬ w = nI 3 ∧ ¬ w = nI 4 :=
  ⟨fun e => by rw [e] at h; exact absurd h (by decide), fun e => by rw [e] at h; exact absurd h (by decide), fun e => by rw [e] at h; exact absurd h (by decide), fun e => by rw [e] at h; exact absurd h (by decide), fun e => by rw [e] at h; exact absurd h (by decide)⟩
theorem sw_no4 {w : Int32} (h : withinB w (nI 0) (nI 3) = false) : ¬ w = nI 0 ∧ ¬ w = nI 1 ∧ ¬ w = nI 2 ∧ ¬ w = nI 3 :=
  ⟨fun e => by rw [e] at h; exact absurd h (by decide), fun e => by rw [e] at h; exact absurd h (by decide), fun e => by rw [e] at h; exact absurd h (by decide), fun e => by rw [e] at h; exact absurd h (by decide)⟩
theorem sw_no3 {w : Int32} (h : withinB w (nI 0) (nI 2) = false) : ¬ w = nI 0 ∧ ¬ w = nI 1 ∧ ¬ w = nI 2 :=
  ⟨fun e => by rw [e] at h; exact absurd h (by decide), fun e => by rw [e] at h; exact absurd h (by decide), fun e => by rw [e] at h; exact absurd h (by decide)⟩
theorem ofA_no1 {X : Nat → Int32} {g w : Int32} (h : gearB g = false) : ofA X g w = .inr 0 := by rw [ofA, if_neg (by rw [h]; decide)]
theorem ofA_no2 {X : Nat → Int32} {g w : Int32} (h : withinB w (nI 0) (nI 4) = false) : ofA X g w = .inr 0 := by
  obtain ⟨a0, a1, a2, a3, a4⟩ := sw_no5 h
  unfold ofA
  rw [if_neg a0, if_neg a1, if_neg a2, if_neg a3, if_neg a4]
  split <;> rfl
theorem clA_in {X : Nat → Int32} {c w : Nat} (h1 : c < 5) : clA X (nI c) (nI w) = (if nI w = nI 0 then .inl (X (24 + c)) else if nI w = nI 1 then .inl (X (29 + c)) else if nI w = nI 2 then .inl (X (34 + c)) else if nI w = nI 3 then .inl (sumI (fun q9 => sbit (X (q9 + 1)) c) 7) else .inr 0) := by
  rw [clA, if_pos (show clB (nI c) = true by rw [clB_N (by omega)]; simp [h1]), tN_N (show c < 2 ^ 31 by omega)]
theorem clV0 {X : Nat → Int32} {c : Nat} (h1 : c < 5) : ansV (clA X (nI c) (nI 0)) = X (24 + c) := by rw [clA_in h1]; rfl
theorem clV1 {X : Nat → Int32} {c : Nat} (h1 : c < 5) : ansV (clA X (nI c) (nI 1)) = X (29 + c) := by rw [clA_in h1]; rfl
theorem clV2 {X : Nat → Int32} {c : Nat} (h1 : c < 5) : ansV (clA X (nI c) (nI 2)) = X (34 + c) := by rw [clA_in h1]; rfl
theorem clV3 {X : Nat → Int32} {c : Nat} (h1 : c < 5) : ansV (clA X (nI c) (nI 3)) = sumI (fun q9 => sbit (X (q9 + 1)) c) 7 := by rw [clA_in h1]; rfl
theorem clA_no1 {X : Nat → Int32} {c w : Int32} (h : clB c = false) : clA X c w = .inr 0 := by rw [clA, if_neg (by rw [h]; decide)]
theorem clA_no2 {X : Nat → Int32} {c w : Int32} (h : withinB w (nI 0) (nI 3) = false) : clA X c w = .inr 0 := by
  obtain ⟨a0, a1, a2, a3⟩ := sw_no4 h
  unfold clA
  rw [if_neg a0, if_neg a1, if_neg a2, if_neg a3]
  split <;> rfl
theorem smA_no1 {X : Nat → Int32} {g k w : Int32} (h : pairB g k = false) : smA X g k w = .inr 0 := by rw [smA, if_neg (by rw [h]; decide)]
theorem smA_no2 {X : Nat → Int32} {g k w : Int32} (h : withinB w (nI 0) (nI 2) = false) : smA X g k w = .inr 0 := by
  obtain ⟨a0, a1, a2⟩ := sw_no3 h
  unfold smA
  rw [if_neg a0, if_neg a1, if_neg a2]
  split <;> rfl
theorem smA_in {X : Nat → Int32} {x y w : Nat} (hx : x ≤ 7) (hy : y ≤ 7) (h : pairB (nI x) (nI y) = true) : smA X (nI x) (nI y) (nI w) = (if nI w = nI 0 then .inl (bI (simN X x y)) else if nI w = nI 1 then .inl (comN X x y) else if nI w = nI 2 then .inl (comN X y x) else .inr 0) := by
  rw [smA, if_pos h, tN_N (show x < 2 ^ 31 by omega), tN_N (show y < 2 ^ 31 by omega)]
theorem sim_comm (X : Nat → Int32) (g k : Nat) : simN X g k = simN X k g := by
  unfold simN swapB
  rw [Bool.and_comm (fitN X g), Bool.and_comm (decide (bitC (X g &&& (X k ^^^ (-1))) = nI 1))]
theorem wsA_no {X : Nat → Int32} {g k w : Int32} (h : pairB g k = false ∨ withinB w (nI 0) (nI 1) = false) : wsA X g k w = .inr 0 := by
  rw [wsA, if_neg (fun q => by rcases h with h | h <;> rw [h] at q <;> cases q <;> contradiction)]
theorem wsA_in {X : Nat → Int32} {x y w : Nat} (hx : x ≤ 7) (hy : y ≤ 7) (h : pairB (nI x) (nI y) = true) (hw : w ≤ 1) : wsA X (nI x) (nI y) (nI w) = (if simN X x y = true then (if nI w = 0 then .inl (flS X (comS (X x) (X y))) else .inl (bdS X (comS (X x) (X y)))) else .inr 1) := by
  rw [wsA, if_pos ⟨h, by rw [withinB_N (by omega) (by omega) (by omega)]; simp [hw]⟩, tN_N (show x < 2 ^ 31 by omega), tN_N (show y < 2 ^ 31 by omega)]
theorem saA_no {X : Nat → Int32} {w : Int32} (h : withinB w (nI 0) (nI 12) = false) : saA X w = .inr 0 := by
  have a : ¬ w = nI 12 := fun e => by rw [e] at h; exact absurd h (by decide)
  have b : withinB w (nI 0) (nI 11) = false := by
    cases q : withinB w (nI 0) (nI 11) with
    | false => rfl
    | true =>
      obtain ⟨j, -, hj, rfl⟩ := withinB_t (by decide) (by decide) q
      rw [withinB_N (by omega) (by omega) (by omega)] at h
      simp at h
      omega
  rw [saA, if_neg a, if_neg (by rw [b]; decide)]
theorem saV_lo {X : Nat → Int32} {w : Nat} (h : w < 12) : ansV (saA X (nI w)) = X (39 + w) := by
  rw [saA, if_neg (fun e => absurd ((nI_eq (by omega) (by omega)).mp e) (by omega)), if_pos (by rw [withinB_N (by omega) (by omega) (by omega)]; simp; omega), tN_N (by omega)]
  rfl
theorem saV_12 {X : Nat → Int32} : ansV (saA X (nI 12)) = fbits (fitN X) 7 := rfl
theorem pm_sa {w : Nat} (h : w < 8) : pm (43 + w) = 39 + w := by unfold pm; (repeat' split) <;> omega
theorem pm_sb {w : Nat} (h : 8 < w) (h2 : w < 12) : pm (39 + w - 8) = 39 + w := by unfold pm; (repeat' split) <;> omega
theorem or_0 (a : Int32) : a ||| nI 0 = a := Int32.or_zero
