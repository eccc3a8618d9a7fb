/-! PURE WORDS: the first row, as the class lays it and as the model lays it -/
def rw1 : Nat → Nat → Int32
  | 0 => fun _ => 0
  | i + 1 => upd (upd (rw1 i) (8 + (i + 1)) (nI 20 * nI (i + 1))) (16 + (i + 1)) (nI 20 * nI (i + 1) - nI 15)
def rw2 : Nat → Nat → Int32
  | 0 => rw1 7
  | i + 1 => upd (upd (rw2 i) (29 + i) (nI 8)) (34 + i) (nI 8)
def rowC0 : Nat → Int32 := upd (upd (upd (upd (rw2 5) 42 (-1)) 47 (nI 3)) 49 (nI 5)) 50 (nI 100)
set_option maxRecDepth 100000 in
set_option maxRecDepth 100000 in
theorem rowC0_ok : rowOK rowC0 := by
  have h8 : ∀ g, g < 16 → tN (rowC0 (8 + g)) ≤ 300 ∧ rowC0 (8 + g) = nI (tN (rowC0 (8 + g))) := by decide +kernel
  refine ⟨fun g hg => ⟨0, by decide, (by decide +kernel : ∀ g, g ≤ 7 → rowC0 g = nI 0) g hg⟩, fun c hc => ⟨0, by decide, (by decide +kernel : ∀ c, c < 5 → rowC0 (24 + c) = nI 0) c hc⟩, fun c hc => ⟨8, by decide, by decide, (by decide +kernel : ∀ c, c < 5 → rowC0 (29 + c) = nI 8) c hc⟩, fun c hc => ⟨8, by decide, by decide, (by decide +kernel : ∀ c, c < 5 → rowC0 (34 + c) = nI 8) c hc⟩,
    fun g hg => ⟨_, h8 g hg⟩, ⟨0, by decide, by decide +kernel, Or.inl rfl⟩, ⟨0, by decide, by decide +kernel⟩, ⟨3, by decide, by decide +kernel⟩, ⟨0, by decide, by decide +kernel⟩, ⟨5, by decide, by decide, by decide +kernel⟩, ⟨100, by decide, by decide +kernel⟩⟩
def stC0 : St := fun k => if k = 0 then (fun j => if j = 9 then -1 else 0) else if k = 1 then rowC0 else fun _ => 0
def adr (ad : List Nat) : Nat → Nat := fun i => ad.getD i 0
theorem txR_0 : (fun _ => 0 : Nat → Int32) = txR 0 0 0 := by
  funext j
  unfold txR
  (repeat' split) <;> rfl
theorem stC0_abs : absC stC0 rowC0 (fun _ => 0) 0 (-1) (fun _ _ => 0) 0 (fun _ => 0) 0 := ⟨rfl, rfl, rfl, rfl, rfl, ⟨0, 0, txR_0⟩, 0, by decide, rfl, rfl, fun i hi => absurd hi (by omega)⟩
theorem keptF_is {q : Nat} {A : Nat → Nat} (h0 : A 11 = q + 1) (h1 : A 12 = q + 2) (h2 : A 13 = q + 3) (h3 : A 14 = q + 4) (h4 : A 15 = q + 5) (h5 : A 16 = q + 6) : (fun j => if j < 6 then some (q + 1 + j) else none) = keptF A := by
  funext j
  unfold keptF
  by_cases h : j < 6
  · rw [if_pos h, if_pos h]
    rcases (show j = 0 ∨ j = 1 ∨ j = 2 ∨ j = 3 ∨ j = 4 ∨ j = 5 by omega) with rfl | rfl | rfl | rfl | rfl | rfl
    · exact congrArg some (show q + 1 + 0 = A (11 + 0) by rw [h0])
    · exact congrArg some (show q + 1 + 1 = A (11 + 1) by rw [h1])
    · exact congrArg some (show q + 1 + 2 = A (11 + 2) by rw [h2])
    · exact congrArg some (show q + 1 + 3 = A (11 + 3) by rw [h3])
    · exact congrArg some (show q + 1 + 4 = A (11 + 4) by rw [h4])
    · exact congrArg some (show q + 1 + 5 = A (11 + 5) by rw [h5])
  · rw [if_neg h, if_neg h]
