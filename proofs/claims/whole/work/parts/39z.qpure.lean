/-! PURE WORDS: what the model is asked -/
theorem absM_ref {σ : St} {X F : Nat → Int32} {ck co : Int32} {K : Nat → Nat → Int32} {nn : Nat} {B : Nat → Int32} {L : Nat} (h : absM σ X F ck co K nn B L) (k : Nat) : absM (up2 σ 4 (upd (σ 4) k (σ 4 k + nI 1))) X (cntF F k) ck co K nn B L := by
  obtain ⟨m1, m2, m3, m4, m5, m6, m7, m8⟩ := h
  refine ⟨by rw [up2_ne _ _ (by decide), m1], by rw [up2_eq, m2]; rfl, by rw [up2_ne _ _ (by decide), m3], by rw [up2_ne _ _ (by decide), m4], by rw [up2_ne _ _ (by decide), m5], by rw [up2_ne _ _ (by decide)]; exact m6, by rw [up2_ne _ _ (by decide), m7], by rw [up2_ne _ _ (by decide), m8]⟩
theorem toA_at {F : Nat → Int32} {nn L j : Nat} (h : j ≤ 4) : toA F nn L (nI j) = .inl (if j < 3 then F j else if j = 3 then nI L else nI nn) := by
  rcases (show j = 0 ∨ j = 1 ∨ j = 2 ∨ j = 3 ∨ j = 4 by omega) with rfl | rfl | rfl | rfl | rfl
  · rw [toA, if_pos rfl]; rfl
  · rw [toA, if_neg (by decide), if_pos rfl]; rfl
  · rw [toA, if_neg (by decide), if_neg (by decide), if_pos rfl]; rfl
  · rw [toA, if_neg (by decide), if_neg (by decide), if_neg (by decide), if_pos rfl]; rfl
  · rw [toA, if_neg (by decide), if_neg (by decide), if_neg (by decide), if_neg (by decide), if_pos rfl]; rfl
theorem toA_no {F : Nat → Int32} {nn L : Nat} {w : Int32} (h : withinB w (nI 0) (nI 4) = false) : toA F nn L w = .inr 0 := by
  have n : ∀ j, j ≤ 4 → ¬ w = nI j := fun j hj q => by
    rw [q, withinB_N (by omega) (by decide) (by decide)] at h
    simp at h
    omega
  rw [toA, if_neg (n 0 (by decide)), if_neg (n 1 (by decide)), if_neg (n 2 (by decide)), if_neg (n 3 (by decide)), if_neg (n 4 (by decide))]
theorem whA_at {ck co w : Int32} (h : withinB w (nI 0) (nI 1) = true) : whA ck co w = .inl (if w = 0 then ck else co) := by
  rw [whA, if_pos h]
  split <;> rfl
theorem whA_no {ck co w : Int32} (h : withinB w (nI 0) (nI 1) = false) : whA ck co w = .inr 0 := by rw [whA, if_neg (by rw [h]; decide)]
