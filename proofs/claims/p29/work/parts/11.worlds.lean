/-! THE WORLDS: the class's cells at A 0 .. A 21, the model's at B 0 .. B 10 -/
def keptF (A : Nat → Nat) : Nat → Option Nat := fun j => if j < 6 then some (A (11 + j)) else none
theorem keptF_at {A : Nat → Nat} {j : Nat} (h : j < 6) : keptF A j = some (A (11 + j)) := if_pos h
def wC (Z : CZ) (A : Nat → Nat) (σ : St) : va_W := [
  (A 0, .inr (6, [.ref (A 1), .ref (A 2), .ref (A 3), .ref (A 6), .ref (A 7), .ref (A 8), .ref (A 9), .ref (A 17), .int (σ 0 8), .int (σ 0 9)])),
  (A 1, .inl (Z.1, 51, .inl (σ 1))), (A 2, .inl (Z.1, 3, .inl (σ 2))),
  (A 3, .inr (1, [.ref (A 1), .ref (A 4), .ref (A 5)])),
  (A 4, .inl (Z.1, 8, .inl (σ 4))), (A 5, .inl (Z.1, 7, .inl (σ 5))),
  (A 6, .inr (3, [.ref (A 1)])),
  (A 7, .inr (0, [.ref (A 1), .ref (A 3), .ref (A 6)])),
  (A 8, .inr (2, [.ref (A 1), .ref (A 3), .ref (A 7)])),
  (A 9, .inr (4, [.ref (A 1), .ref (A 10), .int (σ 9 2), .int (σ 9 3)])),
  (A 10, .inl (Z.2.1, 6, .inr (.inr (.inr (.inr (keptF A)))))),
  (A 11, .inl (Z.1, 51, .inl (σ 11))), (A 12, .inl (Z.1, 51, .inl (σ 12))), (A 13, .inl (Z.1, 51, .inl (σ 13))),
  (A 14, .inl (Z.1, 51, .inl (σ 14))), (A 15, .inl (Z.1, 51, .inl (σ 15))), (A 16, .inl (Z.1, 51, .inl (σ 16))),
  (A 17, .inr (5, [.ref (A 18), .ref (A 19), .ref (A 20), .ref (A 21), .int (σ 17 4), .int (σ 17 5), .int (σ 17 6)])),
  (A 18, .inl (Z.1, 150, .inl (σ 18))), (A 19, .inl (Z.1, 50, .inl (σ 19))), (A 20, .inl (Z.1, 50, .inl (σ 20))), (A 21, .inl (Z.1, 50, .inl (σ 21)))]
theorem nI_0add (n : Nat) : nI 0 + nI n = nI n := by rw [nI_add, Nat.zero_add]
theorem nI_add0 (n : Nat) : nI n + nI 0 = nI n := by rw [nI_add, Nat.add_zero]
theorem nI_inc (n k : Nat) : nI n + Int32.ofInt (k : Int) = nI (n + k) := by
  rw [← nI_add]
  rfl
theorem nc_eq {a b : Nat} (ha : a < 2 ^ 31) (hb : b < 2 ^ 31) : nI a = nI b ↔ a = b := nI_eq ha hb
theorem nc_ne {a b : Nat} (ha : a < 2 ^ 31) (hb : b < 2 ^ 31) : ¬ nI a = nI b ↔ ¬ a = b := not_congr (nI_eq ha hb)
theorem nc_lt {a b : Nat} (ha : a < 2 ^ 31) (hb : b < 2 ^ 31) : nI a < nI b ↔ a < b := nI_ltI ha hb
theorem nc_gt {a b : Nat} (ha : a < 2 ^ 31) (hb : b < 2 ^ 31) : nI b < nI a ↔ b < a := nI_ltI hb ha
theorem nc_le {a b : Nat} (ha : a < 2 ^ 31) (hb : b < 2 ^ 31) : nI a ≤ nI b ↔ a ≤ b := nI_leI ha hb
theorem nc_ge {a b : Nat} (ha : a < 2 ^ 31) (hb : b < 2 ^ 31) : nI b ≤ nI a ↔ b ≤ a := nI_leI hb ha
theorem bI_iff {b : Bool} : bI b = nI 1 ↔ b = true := by
  cases b with
  | true => exact ⟨fun _ => rfl, fun _ => rfl⟩
  | false => exact ⟨fun h => absurd h (by decide), fun h => absurd h (by decide)⟩
theorem upd_same (f : Nat → Int32) (k : Nat) (x : Int32) : upd f k x k = x := if_pos rfl
theorem upd_ne {f : Nat → Int32} {k j : Nat} {x : Int32} (h : j ≠ k) : upd f k x j = f j := if_neg h
theorem upd_upd (f : Nat → Int32) (k : Nat) (x y : Int32) : upd (upd f k x) k y = upd f k y := by
  funext j
  unfold upd
  by_cases h : j = k <;> simp [h]
theorem upd_self (f : Nat → Int32) (k : Nat) : upd f k (f k) = f := by
  funext j
  unfold upd
  by_cases h : j = k <;> simp [h]
theorem nI_toI {n : Nat} (h : n < 2 ^ 31) : (nI n).toInt = (n : Int) := nI_toInt h
/-- beyond a switch's places -/
theorem tsw_out {x : Int32} {lo n : Nat} (h : ∀ k, lo ≤ k ∧ k < lo + n → ¬ x = nI k) (hn : lo + n < 2 ^ 31 := by decide) : x.toInt < (lo : Int) ∨ ((lo + n : Nat) : Int) - 1 < x.toInt := by
  rcases Int.lt_or_le x.toInt (lo : Int) with q | q
  · exact Or.inl q
  rcases Int.lt_or_le x.toInt ((lo + n : Nat) : Int) with q2 | q2
  · exfalso
    have hx0 : ¬ x < 0 := by
      intro z
      have := Int32.lt_iff_toInt_lt.mp z
      simp at this
      omega
    obtain ⟨j, hj, rfl⟩ := nI_of hx0
    rw [nI_toInt hj] at q q2
    exact h j (by omega) rfl
  · exact Or.inr (by omega)
/-- what is a at least and b at most is a number -/
theorem rng_of {x : Int32} {a b : Nat} (ha : a < 2 ^ 31) (hb : b < 2 ^ 31) (h1 : ¬ x < nI a) (h2 : ¬ nI b < x) : ∃ j : Nat, a ≤ j ∧ j ≤ b ∧ x = nI j := by
  have hx0 : ¬ x < 0 := by
    intro z
    have e1 := Int32.le_iff_toInt_le.mp (Int32.not_lt.mp h1)
    rw [nI_toInt ha] at e1
    have z1 := Int32.lt_iff_toInt_lt.mp z
    simp at z1
    omega
  obtain ⟨j, hj, rfl⟩ := nI_of hx0
  exact ⟨j, (nI_leI ha hj).mp (Int32.not_lt.mp h1), (nI_leI hj hb).mp (Int32.not_lt.mp h2), rfl⟩
