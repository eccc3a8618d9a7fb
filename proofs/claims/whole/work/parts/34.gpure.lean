/-! PURE WORDS: the model's search, step by step -/
theorem simN_no {X : Nat → Int32} {a b : Nat} (h : simN X a b = false) : ¬ (fitN X a = true ∧ fitN X b = true ∧ adX X a b = true) := by
  intro z
  have : simN X a b = true := by
    unfold simN
    rw [z.1, z.2.1]
    exact z.2.2
  rw [this] at h
  cases h
theorem simN_yes {X : Nat → Int32} {a b : Nat} (h : simN X a b = true) : fitN X a = true ∧ adX X a b = true := by
  simp only [simN, Bool.and_eq_true] at h
  exact ⟨h.1.1, h.2⟩
theorem leastN_le {p : Nat → Bool} : ∀ {n k j : Nat}, k ≤ j → j < k + n → p j = true → leastN p n k ≤ j
  | 0, k, j, h1, h2, _ => absurd h2 (by omega)
  | n + 1, k, j, h1, h2, h3 => by
    unfold leastN
    by_cases e : p k = true
    · rw [if_pos e]; exact h1
    · rw [if_neg e]
      have : k ≠ j := fun z => e (by rw [z]; exact h3)
      exact leastN_le (by omega) (by omega) h3
theorem far_keep {fa : Nat → Int32} {f : Nat → Nat} {i : Nat} (h : ∀ k, 1 ≤ k → k ≤ 7 → fa k = nI (f k)) : ∀ k, 1 ≤ k → k ≤ 7 → upd fa i (nI (f i)) k = nI (f k) := by
  intro k k1 k2
  by_cases e : k = i
  · rw [e, upd_same]
  · rw [upd_ne e]; exact h k k1 k2
theorem far_set {fa : Nat → Int32} {f : Nat → Nat} {i v : Nat} (h : ∀ k, 1 ≤ k → k ≤ 7 → fa k = nI (f k)) : ∀ k, 1 ≤ k → k ≤ 7 → upd fa i (nI v) k = nI ((fun k9 => if k9 = i then v else f k9) k) := by
  intro k k1 k2
  by_cases e : k = i
  · rw [e, upd_same]
    show nI v = nI (if i = i then v else f i)
    rw [if_pos rfl]
  · rw [upd_ne e]
    show fa k = nI (if k = i then v else f k)
    rw [if_neg e]; exact h k k1 k2
theorem gs_cur {X : Nat → Int32} {f : Nat → Nat} {g to i : Nat} (h : gsI (fitN X) (adX X) to 7 1 1 f) (hF : fitN X to = true) (g1 : 1 ≤ g) (g2 : g ≤ 7) (hi : i ≤ wyN X g to) : (1 ≤ wyG X g to i ∧ wyG X g to i ≤ 7) ∧ ((f (wyG X g to i) < 100 ∧ f (wyG X g to i) = wyN X g to - i) ∨ (f (wyG X g to i) = 100 ∧ wyN X g to = 0)) := by
  obtain ⟨t1, t2⟩ := fitN_rng hF
  have h7 : wyG X g to i ≤ 7 := wayG_le _ _ _ g2 _
  have h6 : wyN X g to ≤ 6 := wayN_le _ _ _ _
  by_cases z : wyN X g to = 0
  · have i0 : i = 0 := by omega
    subst i0
    have e : wyG X g to 0 = g := rfl
    rw [e]
    refine ⟨⟨g1, g2⟩, ?_⟩
    rcases gs_N (fitN X) (adX X) to h t1 t2 g1 g2 with ⟨q1, q2⟩ | ⟨q1, q2⟩
    · refine Or.inl ⟨q1, ?_⟩
      have : wyN X g to = f g := q2
      omega
    · exact Or.inr ⟨q1, q2⟩
  · obtain ⟨q1, q2⟩ := gs_at (fitN X) (adX X) to h t1 t2 g1 g2 hi z
    have q3 : f (wyG X g to i) = wyN X g to - i := q2
    exact ⟨⟨q1, h7⟩, Or.inl ⟨by omega, q3⟩⟩
theorem gs_goes {X : Nat → Int32} {f : Nat → Nat} {g to i : Nat} (h : gsI (fitN X) (adX X) to 7 1 1 f) (hF : fitN X to = true) (g1 : 1 ≤ g) (g2 : g ≤ 7) (hi : i < wyN X g to) : simN X (wyG X g to i) (wyG X g to (i + 1)) = true ∧ f (wyG X g to (i + 1)) + 1 = f (wyG X g to i) ∧ 1 ≤ wyG X g to (i + 1) ∧ wyG X g to (i + 1) ≤ 7 := by
  obtain ⟨a1, a2⟩ := gs_cur h hF g1 g2 (Nat.le_of_lt hi)
  obtain ⟨b1, b2⟩ := gs_cur h hF g1 g2 (show i + 1 ≤ wyN X g to from hi)
  refine ⟨go_sim hF hi, ?_, b1.1, b1.2⟩
  rcases a2 with a2 | a2 <;> rcases b2 with b2 | b2 <;> omega
theorem gs_found {X : Nat → Int32} {f : Nat → Nat} {g to i y : Nat} (h : gsI (fitN X) (adX X) to 7 1 1 f) (hF : fitN X to = true) (g1 : 1 ≤ g) (g2 : g ≤ 7) (hi : i < wyN X g to) (y1 : 1 ≤ y) (y2 : y ≤ 7) (ha : simN X (wyG X g to i) y = true) (he : f y + 1 = f (wyG X g to i)) : wyG X g to (i + 1) ≤ y := by
  obtain ⟨t1, t2⟩ := fitN_rng hF
  obtain ⟨a1, a2⟩ := gs_cur h hF g1 g2 (Nat.le_of_lt hi)
  have h6 : wyN X g to ≤ 6 := wayN_le _ _ _ _
  have e : f y + 1 = wyN X g to - i := by rcases a2 with a2 | a2 <;> omega
  exact leastN_le y1 (by omega) ((gs_next (fitN X) (adX X) to h t1 t2 (g := g) hi y1 y2).mp ⟨(simN_yes ha).2, e⟩)
