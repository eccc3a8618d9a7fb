/-! PURE WORDS: the model's whole object, and how a change of it ends -/
def absM (σ : St) (X F : Nat → Int32) (ck co : Int32) (K : Nat → Nat → Int32) (nn : Nat) (B : Nat → Int32) (L : Nat) : Prop :=
  σ 1 = mrow X ∧ σ 4 = F ∧ σ 0 5 = ck ∧ σ 0 6 = co ∧ σ 0 3 = nI nn ∧ pastOK (σ 3) K nn ∧ σ 5 = B ∧ σ 0 8 = nI L
theorem absM_aside {X : Nat → Int32} {G : Nat → Int32} : ∀ k, k < 51 → va_cpy (mrow X) G 0 0 51 k = mrow X k := by
  intro k hk
  have e := cpy_at (f := mrow X) (g := G) (i := 0) (j := 0) hk
  rw [Nat.zero_add] at e
  exact e
/-- what a change of the row ends with: σ2 stands before it is finished -/
def chM (σ' : St) (R : Int32) (Y X F : Nat → Int32) (ck co : Int32) (K : Nat → Nat → Int32) (nn : Nat) (B : Nat → Int32) (L : Nat) (r : Int32) : Prop :=
  (0 ≤ R ∧ r = R ∧ absM σ' Y F ck co (psh K nn X) (min (nn + 1) 5) B L) ∨ (∃ kk, kk < 2 ∧ R = refV kk ∧ r = refV kk ∧ absM σ' X (cntF F kk) ck co K nn B L)
theorem chM_of {σ2 σ' : St} {R r : Int32} {Y X F : Nat → Int32} {ck co : Int32} {K : Nat → Nat → Int32} {nn : Nat} {B : Nat → Int32} {L : Nat} (hc : ordC X Y R) (hM : absM σ2 Y F ck co K nn B L)
    (hf : r = R ∧ ((R = -2 ∧ σ' = up2 σ2 4 (upd (σ2 4) 0 (σ2 4 0 + nI 1))) ∨ (R = -3 ∧ σ' = up2 σ2 4 (upd (σ2 4) 1 (σ2 4 1 + nI 1))) ∨ (¬ R = -2 ∧ ¬ R = -3 ∧ ∃ P : Nat → Int32, σ' = up2 (up2 σ2 0 (upd (σ2 0) 3 (nI (min (nn + 1) 5)))) 3 P ∧ pastOK P (psh K nn X) (min (nn + 1) 5)))) : chM σ' R Y X F ck co K nn B L r := by
  obtain ⟨m1, m2, m3, m4, m5, m6, m7, m8⟩ := hM
  obtain ⟨hr, hf⟩ := hf
  rcases hf with ⟨h1, rfl⟩ | ⟨h1, rfl⟩ | ⟨h1, h2, P, rfl, hP⟩
  · rcases Or.symm hc with z | z
    · refine Or.inr ⟨0, by decide, h1, hr.trans h1, ?_⟩
      have e : Y = X := z.2
      refine ⟨by rw [up2_ne _ _ (by decide), m1, e], by rw [up2_eq, m2]; rfl, by rw [up2_ne _ _ (by decide), m3], by rw [up2_ne _ _ (by decide), m4], by rw [up2_ne _ _ (by decide), m5], by rw [up2_ne _ _ (by decide)]; exact m6, by rw [up2_ne _ _ (by decide), m7], by rw [up2_ne _ _ (by decide), m8]⟩
    · exact absurd z.1 (by rw [h1]; decide)
  · rcases Or.symm hc with z | z
    · refine Or.inr ⟨1, by decide, h1, hr.trans h1, ?_⟩
      have e : Y = X := z.2
      refine ⟨by rw [up2_ne _ _ (by decide), m1, e], by rw [up2_eq, m2]; rfl, by rw [up2_ne _ _ (by decide), m3], by rw [up2_ne _ _ (by decide), m4], by rw [up2_ne _ _ (by decide), m5], by rw [up2_ne _ _ (by decide)]; exact m6, by rw [up2_ne _ _ (by decide), m7], by rw [up2_ne _ _ (by decide), m8]⟩
    · exact absurd z.1 (by rw [h1]; decide)
  · rcases Or.symm hc with z | z
    · exact absurd z.1 (fun q => q.elim h1 h2)
    · refine Or.inl ⟨z.1, hr, ?_⟩
      have e0 : up2 (up2 σ2 0 (upd (σ2 0) 3 (nI (min (nn + 1) 5)))) 3 P 0 = upd (σ2 0) 3 (nI (min (nn + 1) 5)) := by rw [up2_ne _ _ (by decide), up2_eq]
      have en : ∀ k, k ≠ 3 → k ≠ 0 → up2 (up2 σ2 0 (upd (σ2 0) 3 (nI (min (nn + 1) 5)))) 3 P k = σ2 k := fun k k1 k2 => by rw [up2_ne _ _ k1, up2_ne _ _ k2]
      refine ⟨by rw [en 1 (by decide) (by decide), m1], by rw [en 4 (by decide) (by decide), m2], by rw [e0, upd_ne (by decide), m3], by rw [e0, upd_ne (by decide), m4], by rw [e0, upd_same], by rw [up2_eq]; exact hP, by rw [en 5 (by decide) (by decide), m7], by rw [e0, upd_ne (by decide), m8]⟩
