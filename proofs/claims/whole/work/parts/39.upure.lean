/-! PURE WORDS: what is put in, the rules -/
theorem put_bad {X : Nat → Int32} {g : Int32} (h : withinB g (nI 0) (nI 7) = false) : putR X g = -2 ∧ putX X g = X := by
  have h0 : ¬ g = 0 := fun q => by
    rw [q] at h
    exact absurd h (by decide)
  have h1 : ¬ gearB g = true := fun q => by
    obtain ⟨j, j1, j2, rfl⟩ := gearB_t q
    rw [withinB_N (by omega) (by decide) (by decide)] at h
    simp at h
    omega
  exact ⟨by rw [putR, if_neg h0, if_neg h1], by rw [putX, if_neg h0, if_neg h1]⟩
theorem put_no {X : Nat → Int32} {j : Nat} (h1 : ¬ j ≤ 0) (h2 : j ≤ 7) (h : fitN X j = false) : putR X (nI j) = -3 ∧ putX X (nI j) = X := by
  have h0 : ¬ nI j = 0 := nI_ne0 (by omega) (by omega)
  have hg : gearB (nI j) = true := by rw [gearB_N (by omega)]; simp; omega
  have hf : ¬ fitI X (nI j) = true := by rw [fitI_N (by omega), h]; decide
  exact ⟨by rw [putR, if_neg h0, if_pos hg, if_neg hf], by rw [putX, if_neg h0, if_pos hg, if_neg hf]⟩
theorem put_0 {X : Nat → Int32} {j : Nat} (h1 : j ≤ 0) : putR X (nI j) = X 39 ∧ putX X (nI j) = upd X 39 (nI j) := by
  have h0 : nI j = 0 := by rw [show j = 0 by omega]; rfl
  exact ⟨by rw [putR, if_pos h0], by rw [putX, if_pos h0]⟩
theorem put_yes {X : Nat → Int32} {j : Nat} (h1 : ¬ j ≤ 0) (h2 : j ≤ 7) (h : fitN X j = true) : putR X (nI j) = X 39 ∧ putX X (nI j) = upd X 39 (nI j) := by
  have h0 : ¬ nI j = 0 := nI_ne0 (by omega) (by omega)
  have hg : gearB (nI j) = true := by rw [gearB_N (by omega)]; simp; omega
  have hf : fitI X (nI j) = true := by rw [fitI_N (by omega), h]
  exact ⟨by rw [putR, if_neg h0, if_pos hg, if_pos hf], by rw [putX, if_neg h0, if_pos hg, if_pos hf]⟩
theorem absM_rows {σ σ1 : St} {X Y F : Nat → Int32} {ck co : Int32} {K : Nat → Nat → Int32} {nn : Nat} {B : Nat → Int32} {L : Nat} (h : absM σ X F ck co K nn B L) (e1 : σ1 1 = mrow Y) (e3 : σ1 3 = σ 3) (e4 : σ1 4 = σ 4) (e5 : σ1 5 = σ 5) (e0 : ∀ k, k < 15 → σ1 0 k = σ 0 k) : absM σ1 Y F ck co K nn B L := by
  obtain ⟨m1, m2, m3, m4, m5, m6, m7, m8⟩ := h
  exact ⟨e1, e4.trans m2, (e0 5 (by decide)).trans m3, (e0 6 (by decide)).trans m4, (e0 3 (by decide)).trans m5, by rw [e3]; exact m6, e5.trans m7, (e0 8 (by decide)).trans m8⟩
