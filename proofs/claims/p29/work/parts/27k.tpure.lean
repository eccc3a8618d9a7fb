/-! PURE WORDS: THE TEXT as the class reads it -/
def txR (L o p : Nat) : Nat → Int32 := fun j => if j = 4 then nI L else if j = 5 then nI o else if j = 6 then nI p else 0
theorem txR_4 (L o p q : Nat) : upd (txR L o p) 4 (nI q) = txR q o p := by
  funext j
  unfold upd txR
  by_cases h : j = 4 <;> simp [h]
theorem txR_5 (L o p q : Nat) : upd (txR L o p) 5 (nI q) = txR L q p := by
  funext j
  unfold upd txR
  by_cases h : j = 5
  · simp [h]
  · simp [h]
theorem txR_6 (L o p q : Nat) : upd (txR L o p) 6 (nI q) = txR L o q := by
  funext j
  unfold upd txR
  by_cases h : j = 6
  · simp [h]
  · simp [h]
def byOK (B : Nat → Int32) (L : Nat) : Prop := ∀ j, j < L → ∃ x, x < 128 ∧ B j = nI x
