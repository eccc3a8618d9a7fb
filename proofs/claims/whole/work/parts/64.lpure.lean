/-! PURE WORDS: the class and the model stand alike -/
def Lsm (σ τ : St) : Prop := ∃ (X F : Nat → Int32) (ck co : Int32) (K : Nat → Nat → Int32) (nn : Nat) (B : Nat → Int32) (L : Nat), absC σ X F ck co K nn B L ∧ absI X K nn B L ∧ absM τ X F ck co K nn B L
theorem absI_psh {X Y : Nat → Int32} {K : Nat → Nat → Int32} {nn : Nat} {B : Nat → Int32} {L : Nat} (h : absI X K nn B L) (hY : rowOK Y) : absI Y (psh K nn X) (min (nn + 1) 5) B L := by
  obtain ⟨h1, h2, h3, h4, h5⟩ := h
  refine ⟨hY, fun i hi => ?_, by omega, h4, h5⟩
  unfold psh
  by_cases q : nn = 5
  · rw [if_pos q]
    by_cases z : i = 4
    · rw [if_pos z]; exact h1
    · rw [if_neg z]; exact h2 _ (by omega)
  · rw [if_neg q]
    by_cases z : i = nn
    · rw [if_pos z]; exact h1
    · rw [if_neg z]; exact h2 _ (by omega)
theorem ref_neg {R : Int32} {k : Nat} (h : 0 ≤ R) (hk : k < 2) : ¬ R = refV k := by
  intro e
  rw [e] at h
  rcases (show k = 0 ∨ k = 1 by omega) with rfl | rfl
  · exact absurd h (by decide)
  · exact absurd h (by decide)
theorem refV_inj {i j : Nat} (hi : i < 2) (hj : j < 2) (h : refV i = refV j) : i = j := by
  rcases (show i = 0 ∨ i = 1 by omega) with rfl | rfl <;> rcases (show j = 0 ∨ j = 1 by omega) with rfl | rfl
  · rfl
  · exact absurd h (by decide)
  · exact absurd h (by decide)
  · rfl
/-- a change of both -/
theorem Lsm_ch {σ τ : St} {X F : Nat → Int32} {ck co : Int32} {K : Nat → Nat → Int32} {nn : Nat} {B : Nat → Int32} {L o : Nat} {a b r r' : Int32} (ho : o < 10) (hI : absI X K nn B L)
    (hc : (0 ≤ oR X o a b ∧ r = oR X o a b ∧ absC σ (oX X o a b) F ck co (psh K nn X) (min (nn + 1) 5) B L) ∨ (∃ kk, kk < 2 ∧ oR X o a b = refV kk ∧ r = refV kk ∧ absC σ X (cntF F kk) ck co K nn B L)) (hm : chM τ (oR X o a b) (oX X o a b) X F ck co K nn B L r') : r = r' ∧ Lsm σ τ := by
  rcases hc with ⟨c1, c2, c3⟩ | ⟨k, c1, c2, c3, c4⟩ <;> rcases hm with ⟨m1, m2, m3⟩ | ⟨k', m1, m2, m3, m4⟩
  · have hY : rowOK (oX X o a b) := by
      rcases ord_all hI.1 ho a b with z | z
      · exact z.2
      · exact absurd z.1 (fun q => q.elim (fun y => by rw [y] at c1; exact absurd c1 (by decide)) (fun y => by rw [y] at c1; exact absurd c1 (by decide)))
    exact ⟨c2.trans m2.symm, _, _, _, _, _, _, _, _, c3, absI_psh hI hY, m3⟩
  · exact absurd m2 (ref_neg c1 m1)
  · exact absurd c2 (ref_neg m1 c1)
  · obtain rfl := refV_inj c1 m1 (c2.symm.trans m2)
    exact ⟨c3.trans m3.symm, _, _, _, _, _, _, _, _, c4, hI, m4⟩
/-- a question of both -/
theorem Lsm_q {σ τ : St} {X F : Nat → Int32} {ck co : Int32} {K : Nat → Nat → Int32} {nn : Nat} {B : Nat → Int32} {L : Nat} {q : Ans} {r r' : Int32} (hI : absI X K nn B L) (hc : r = ansV q ∧ absC σ X (ansF F q) ck co K nn B L) (hm : r' = ansV q ∧ absM τ X (ansF F q) ck co K nn B L) : r = r' ∧ Lsm σ τ :=
  ⟨hc.1.trans hm.1.symm, _, _, _, _, _, _, _, _, hc.2, hI, hm.2⟩
theorem Lsm_ty {σ τ : St} {X F : Nat → Int32} {ck co : Int32} {K : Nat → Nat → Int32} {nn : Nat} {B : Nat → Int32} {L : Nat} {v r r' : Int32} (hI : absI X K nn B L) (hc : r = ansV (tyA L v) ∧ absC σ X (ansF F (tyA L v)) ck co K nn (tyT B L v) (tyL L v)) (hm : r' = ansV (tyA L v) ∧ absM τ X (ansF F (tyA L v)) ck co K nn (tyT B L v) (tyL L v)) : r = r' ∧ Lsm σ τ := by
  refine ⟨hc.1.trans hm.1.symm, _, _, _, _, _, _, _, _, hc.2, ⟨hI.1, hI.2.1, hI.2.2.1, ?_, ?_⟩, hm.2⟩
  · unfold tyL
    by_cases q : tyB L v = true
    · rw [if_pos q]
      simp only [tyB, Bool.and_eq_true, decide_eq_true_eq] at q
      omega
    · rw [if_neg q]; exact hI.2.2.2.1
  · unfold tyL tyT
    by_cases q : tyB L v = true
    · rw [if_pos q, if_pos q]
      simp only [tyB, Bool.and_eq_true, decide_eq_true_eq] at q
      obtain ⟨x, -, hx, rfl⟩ := withinB_t (by decide) (by decide) q.1
      intro j hj
      by_cases e : j = L
      · subst e
        exact ⟨x, by omega, upd_same _ _ _⟩
      · rw [upd_ne e]
        exact hI.2.2.2.2 j (by omega)
    · rw [if_neg q, if_neg q]; exact hI.2.2.2.2
theorem Lsm_cl {σ τ : St} {X F : Nat → Int32} {ck co : Int32} {K : Nat → Nat → Int32} {nn : Nat} {B : Nat → Int32} {L : Nat} {r r' : Int32} (hI : absI X K nn B L) (hc : r = nI L ∧ absC σ X F ck co K nn B 0) (hm : r' = nI L ∧ absM τ X F ck co K nn B 0) : r = r' ∧ Lsm σ τ :=
  ⟨hc.1.trans hm.1.symm, _, _, _, _, _, _, _, _, hc.2, ⟨hI.1, hI.2.1, hI.2.2.1, Nat.zero_le _, fun j hj => absurd hj (by omega)⟩, hm.2⟩
theorem Lsm_bk {σ τ : St} {X F : Nat → Int32} {ck co : Int32} {K : Nat → Nat → Int32} {nn : Nat} {B : Nat → Int32} {L : Nat} {r r' : Int32} (hI : absI X K nn B L) (hc : (nn = 0 ∧ r = -3 ∧ absC σ X (cntF F 1) ck co K nn B L) ∨ (nn ≠ 0 ∧ r = nI (nn - 1) ∧ absC σ (K (nn - 1)) F ck co K (nn - 1) B L)) (hm : (nn = 0 ∧ r' = -3 ∧ absM τ X (cntF F 1) ck co K nn B L) ∨ (nn ≠ 0 ∧ r' = nI (nn - 1) ∧ absM τ (K (nn - 1)) F ck co K (nn - 1) B L)) : r = r' ∧ Lsm σ τ := by
  rcases hc with ⟨c1, c2, c3⟩ | ⟨c1, c2, c3⟩ <;> rcases hm with ⟨m1, m2, m3⟩ | ⟨m1, m2, m3⟩
  · exact ⟨c2.trans m2.symm, _, _, _, _, _, _, _, _, c3, hI, m3⟩
  · exact absurd c1 m1
  · exact absurd m1 c1
  · exact ⟨c2.trans m2.symm, _, _, _, _, _, _, _, _, c3, ⟨hI.2.1 _ (by omega), fun i hi => hI.2.1 i (by omega), by have := hI.2.2.1; omega, hI.2.2.2⟩, m3⟩
theorem rdX_ok {B : Nat → Int32} {L : Nat} {X : Nat → Int32} (hX : rowOK X) : ∀ n, (∀ j, j < n → oF B L (oP B L j) = none) → (∀ j, j < n → 0 ≤ rdR B L X j) → rowOK (rdX B L X n)
  | 0, _, _ => hX
  | n + 1, hf, h => by
    have ih := rdX_ok hX n (fun j hj => hf j (by omega)) (fun j hj => h j (by omega))
    rcases ord_all ih (show oL B L (oP B L n) < 10 by have := (oF_none (hf n (by omega))); omega) (oAs B L (oP B L n)) (oB B L (oP B L n)) with z | z
    · exact z.2
    · have h9 : 0 ≤ oR (rdX B L X n) (oL B L (oP B L n)) (oAs B L (oP B L n)) (oB B L (oP B L n)) := h n (by omega)
      exact absurd z.1 (fun q => q.elim (fun y => by rw [y] at h9; exact absurd h9 (by decide)) (fun y => by rw [y] at h9; exact absurd h9 (by decide)))
theorem Lsm_rd {σ τ : St} {X F : Nat → Int32} {ck co : Int32} {K : Nat → Nat → Int32} {nn : Nat} {B : Nat → Int32} {L : Nat} {r r' : Int32} (hI : absI X K nn B L)
    (hc : ∃ (n : Nat) (r0 : Int32), prsC B L n r0 ∧ ((¬ r0 = -1 ∧ r = (-10) - r0 ∧ absC σ X F ck co K nn B L) ∨ (r0 = -1 ∧ (∀ j, j < n → 0 ≤ rdR B L X j) ∧ r = nI n ∧ absC σ (rdX B L X n) F ck co (psh K nn X) (min (nn + 1) 5) B L) ∨ (r0 = -1 ∧ ∃ i, i < n ∧ (∀ j, j < i → 0 ≤ rdR B L X j) ∧ rdR B L X i < 0 ∧ r = (-1000) - nI i ∧ absC σ X F (-(rdR B L X i)) (nI i) K nn B L)))
    (hm : ∃ (n : Nat) (r0 : Int32), prsC B L n r0 ∧ ((¬ r0 = -1 ∧ r' = (-10) - r0 ∧ absM τ X F ck co K nn B L) ∨ (r0 = -1 ∧ (∀ j, j < n → 0 ≤ rdR B L X j) ∧ r' = nI n ∧ absM τ (rdX B L X n) F ck co (psh K nn X) (min (nn + 1) 5) B L) ∨ (r0 = -1 ∧ ∃ i, i < n ∧ (∀ j, j < i → 0 ≤ rdR B L X j) ∧ rdR B L X i < 0 ∧ r' = (-1000) - nI i ∧ absM τ X F (-(rdR B L X i)) (nI i) K nn B L))) : r = r' ∧ Lsm σ τ := by
  obtain ⟨n, r0, hp, hc⟩ := hc
  obtain ⟨n', r0', hp', hm⟩ := hm
  obtain ⟨rfl, rfl⟩ := prsC_one hI.2.2.2.1 hp hp'
  rcases hc with ⟨c0, c1, c2⟩ | ⟨c0, c1, c2, c3⟩ | ⟨c0, i, c1, c2, c3, c4, c5⟩ <;> rcases hm with ⟨m0, m1, m2⟩ | ⟨m0, m1, m2, m3⟩ | ⟨m0, i', m1, m2, m3, m4, m5⟩
  · exact ⟨c1.trans m1.symm, _, _, _, _, _, _, _, _, c2, hI, m2⟩
  · exact absurd m0 c0
  · exact absurd m0 c0
  · exact absurd c0 m0
  · exact ⟨c2.trans m2.symm, _, _, _, _, _, _, _, _, c3, absI_psh hI (rdX_ok hI.1 n hp.2.1 c1), m3⟩
  · exact absurd (c1 i' m1) (Int32.not_le.mpr m3)
  · exact absurd c0 m0
  · exact absurd (m1 i c1) (Int32.not_le.mpr c3)
  · have e : i = i' := by
      rcases Nat.lt_trichotomy i i' with q | q | q
      · exact absurd (m2 i q) (Int32.not_le.mpr c3)
      · exact q
      · exact absurd (c2 i' q) (Int32.not_le.mpr m3)
    subst e
    exact ⟨c4.trans m4.symm, _, _, _, _, _, _, _, _, c5, hI, m5⟩
theorem Lsm_dg {σ τ : St} {X F : Nat → Int32} {ck co : Int32} {K : Nat → Nat → Int32} {nn : Nat} {B : Nat → Int32} {L : Nat} {r r' : Int64} (hI : absI X K nn B L) (hc : r = dgC X F ck co nn L ∧ absC σ X F ck co K nn B L) (hm : r' = dgC X F ck co nn L ∧ absM τ X F ck co K nn B L) : r = r' ∧ Lsm σ τ :=
  ⟨hc.1.trans hm.1.symm, _, _, _, _, _, _, _, _, hc.2, hI, hm.2⟩
theorem Lsm_0 : Lsm stC0 stM0 := ⟨_, _, _, _, _, _, _, _, stC0_abs, ⟨rowC0_ok, fun i hi => absurd hi (by omega), by decide, by decide, fun j hj => absurd hj (by omega)⟩, stM0_abs⟩
/-- the loop's test -/
theorem law_in {i L : Nat} (hi : i < 2 ^ 30) (hL : L ≤ 2048) (h : ¬ nI L - nI 4 < nI i) : i + 4 ≤ L := by
  rcases Nat.lt_or_ge L 4 with q | q
  · exfalso
    have h1 := pk_sneg (a := L) (b := 4) (by omega) q
    exact h (Int32.lt_of_lt_of_le h1 (nI_pos' (by omega)))
  · rw [pk_sub q, nI_ltI (by omega) (by omega)] at h
    omega
theorem cmp_same (x : Int64) : lg_cmp x x = 0 := by simp [lg_cmp]
