/-! PURE WORDS of the property: a tick; how often it hunted stays small -/
theorem lev_congr {F : Nat → Bool} {ad ae : Nat → Nat → Bool} {to : Nat} (h : ∀ a b, 1 ≤ a → a ≤ 7 → 1 ≤ b → b ≤ 7 → ad a b = ae a b) : ∀ n k, 1 ≤ k → k ≤ 7 → lev F ad to n k = lev F ae to n k
  | 0, _, _, _ => rfl
  | n + 1, k, k1, k2 => by
    show (lev F ad to n k || (F k && decide (lst (fun j => ad k j && lev F ad to n j) ≠ 0))) = (lev F ae to n k || (F k && decide (lst (fun j => ae k j && lev F ae to n j) ≠ 0)))
    rw [lev_congr h n k k1 k2, lst_congr (p := fun j => ad k j && lev F ad to n j) (q := fun j => ae k j && lev F ae to n j) (fun j j1 j2 => by
      show (ad k j && lev F ad to n j) = (ae k j && lev F ae to n j)
      rw [h k j k1 k2 j1 j2, lev_congr h n j j1 j2])]
theorem dI_congr {F : Nat → Bool} {ad ae : Nat → Nat → Bool} {to : Nat} (h : ∀ a b, 1 ≤ a → a ≤ 7 → 1 ≤ b → b ≤ 7 → ad a b = ae a b) : ∀ n k, 1 ≤ k → k ≤ 7 → dI F ad to n k = dI F ae to n k
  | 0, _, _, _ => rfl
  | n + 1, k, k1, k2 => by
    show (if dI F ad to n k = -1 then (if lev F ad to (n + 1) k = true then nI (n + 1) else -1) else dI F ad to n k) = (if dI F ae to n k = -1 then (if lev F ae to (n + 1) k = true then nI (n + 1) else -1) else dI F ae to n k)
    rw [dI_congr h n k k1 k2, lev_congr h (n + 1) k k1 k2]
theorem wy_same {X Y : Nat → Int32} (h : sameG X Y) {i j : Nat} (i1 : 1 ≤ i) (i2 : i ≤ 7) : wyN Y i j = wyN X i j := by
  have e : fitN Y = fitN X := funext (sameG_fitN h)
  unfold wyN wayN
  rw [e, dI_congr (ad := adX Y) (ae := adX X) (fun a b _ a2 _ b2 => by
    unfold adX
    rw [h.1 a a2, h.1 b b2]) 6 i i1 i2]
theorem tk0_ne {X : Nat → Int32} {j : Nat} (h : j ≠ 40 ∧ j ≠ 41) : tk0 X j = X j := by
  unfold tk0 tk1
  split
  · rw [upd_ne h.2, upd_ne h.1]
  · rw [upd_ne h.1]
theorem tk0_40 (X : Nat → Int32) : tk0 X 40 = X 40 + nI 1 := by
  unfold tk0 tk1
  split
  · rw [upd_ne (by decide), upd_same]
  · rw [upd_same]
theorem tk0_41 {X : Nat → Int32} {h : Nat} (hh : X 41 = nI h) (hl : h ≤ 10) : tk0 X 41 = nI (h - 1) := by
  have e : upd X 40 (X 40 + nI 1) 41 = nI h := (upd_ne (by decide)).trans hh
  unfold tk0 tk1
  rw [e]
  rcases Nat.eq_zero_or_pos h with q | q
  · subst q
    rw [if_neg (by decide), e]
  · rw [if_pos (nI_lt q (by omega)), upd_same, pk_sub (by omega)]
theorem tk0_same (X : Nat → Int32) : sameG X (tk0 X) := ⟨fun g hg => tk0_ne (by omega), fun c hc => tk0_ne (by omega)⟩
theorem wntS_tk0 {X : Nat → Int32} {i : Nat} {v : Int32} (hi : i ≤ 7) : wntS (tk0 X) i v = wntS X i v := by
  have e : fitN (tk0 X) = fitN X := funext (sameG_fitN (tk0_same X))
  have ea : addS (tk0 X) = addS X := by
    unfold addS
    rw [tk0_ne (by decide), tk0_ne (by decide)]
  unfold wntS abvS blwS
  rw [e, ea, tk0_ne (show 8 + i ≠ 40 ∧ 8 + i ≠ 41 by omega), tk0_ne (show 16 + i ≠ 40 ∧ 16 + i ≠ 41 by omega)]
theorem lrnS_43 (X : Nat → Int32) {c : Nat} (hc : c < 5) : lrnS X c 43 = X 43 + nI 1 := by
  unfold lrnS lrnA lrnUp lrnDn
  split
  · rw [upd_ne (by omega), upd_ne (by omega), upd_same]
  · split
    · rw [upd_ne (by omega), upd_ne (by omega), upd_same]
    · rw [upd_same]
theorem shfS_43 (w : Nat → Nat) (X : Nat → Int32) : ∀ n, shfS w X n 43 = X 43 + nI n
  | 0 => by
    show X 43 = X 43 + nI 0
    rw [nI_0, Int32.add_zero]
  | n + 1 => by
    show upd (lrnS (shfS w X n) (comS (X (w n)) (X (w (n + 1))))) 39 (nI (w (n + 1))) 43 = _
    rw [upd_ne (by decide), lrnS_43 _ (comS_lt _ _), shfS_43 w X n, Int32.add_assoc, nI_add]
/-- what a tick comes to, case by case -/
def tkC (X Y : Nat → Int32) (i to h : Nat) : Prop :=
  (i = 0 ∧ Y 39 = nI to ∧ Y 43 = X 43 ∧ Y 46 = X 46 ∧ Y 41 = nI (h - 1)) ∨
  (i ≠ 0 ∧ to = i ∧ Y = tk0 X) ∨
  (i ≠ 0 ∧ i < to ∧ 0 < h - 1 ∧ Y = tk0 X) ∨
  (i ≠ 0 ∧ to ≠ i ∧ (i < to → h - 1 = 0) ∧ wyN X i to = 0 ∧ Y = tk0 X) ∨
  (i ≠ 0 ∧ i < to ∧ h - 1 = 0 ∧ 1 ≤ wyN X i to ∧ Y 39 = nI to ∧ Y 43 = X 43 + nI (wyN X i to) ∧ Y 46 = X 46 ∧ Y 41 = nI 0 ∧ Y 42 = X 40 + nI 1) ∨
  (i ≠ 0 ∧ to < i ∧ 1 ≤ wyN X i to ∧ Y 39 = nI to ∧ Y 43 = X 43 + nI (wyN X i to) ∧ Y 46 = X 46 ∧ Y 41 = nI (h - 1)) ∨
  (i ≠ 0 ∧ to < i ∧ 1 ≤ wyN X i to ∧ Y 39 = nI to ∧ Y 43 = X 43 + nI (wyN X i to) ∧ Y 46 = X 46 + nI 1 ∧ Y 41 = nI 10 ∧ Y 42 = X 42 ∧ ¬ X 42 = -1 ∧ ¬ nI 5 < X 40 + nI 1 - X 42)
theorem tick_cases {X : Nat → Int32} {v : Int32} (hX : rowOK X) {h : Nat} (hh : X 41 = nI h) (hh2 : h ≤ 10) : tickS X v 40 = X 40 + nI 1 ∧ tkC X (tickS X v) (inN X) (wntS X (inN X) v) h := by
  obtain ⟨hi, hIN, hfi⟩ := rowOK_in hX
  have e : tickS X v = goS (tk0 X) (inN X) (wntS X (inN X) v) := by
    unfold tickS
    rw [wntS_tk0 hi]
  have hft := wntS_fit X (inN X) v
  rw [e]
  generalize inN X = i at *
  generalize wntS X i v = to at *
  have w39 : tk0 X 39 = nI i := (tk0_ne (by decide)).trans hIN
  have w41 := tk0_41 hh hh2
  have w40 := tk0_40 X
  by_cases q0 : i = 0
  · rw [← goT_0 q0 w39]
    refine ⟨by rw [upd_ne (by decide), w40], Or.inl ⟨q0, upd_same _ _ _, by rw [upd_ne (by decide), tk0_ne (by decide)], by rw [upd_ne (by decide), tk0_ne (by decide)], by rw [upd_ne (by decide), w41]⟩⟩
  by_cases q1 : to = i
  · rw [← goT_e q1]
    exact ⟨w40, Or.inr (Or.inl ⟨q0, q1, rfl⟩)⟩
  have hwy : wyN (tk0 X) i to = wyN X i to := wy_same (tk0_same X) (by omega) hi
  by_cases q2 : i < to ∧ 0 < h - 1
  · have e2 : goS (tk0 X) i to = tk0 X := by
      unfold goS
      rw [if_pos (Or.inr ⟨⟨q0, q2.1⟩, by rw [w41]; exact nI_lt q2.2 (by omega)⟩)]
    rw [e2]
    exact ⟨w40, Or.inr (Or.inr (Or.inl ⟨q0, q2.1, q2.2, rfl⟩))⟩
  have hup : i < to → h - 1 = 0 := fun z => by
    rcases Nat.eq_zero_or_pos (h - 1) with y | y
    · exact y
    · exact absurd ⟨z, y⟩ q2
  have hne : ¬ (to = i ∨ ((i ≠ 0 ∧ i < to) ∧ nI 0 < tk0 X 41)) := by
    rintro (z | z)
    · exact q1 z
    · rw [w41, hup z.1.2] at z
      exact absurd z.2 (by decide)
  by_cases q3 : wyN X i to = 0
  · have e3 : goS (tk0 X) i to = tk0 X := by
      unfold goS
      rw [if_neg hne, if_neg q0, if_pos (hwy.trans q3)]
    rw [e3]
    exact ⟨w40, Or.inr (Or.inr (Or.inr (Or.inl ⟨q0, q1, hup, q3, rfl⟩)))⟩
  have e4 : goS (tk0 X) i to = noteS (shfS (wyG (tk0 X) i to) (tk0 X) (wyN (tk0 X) i to)) (decide (i < to)) := by
    unfold goS
    rw [if_neg hne, if_neg q0, if_neg (by rw [hwy]; exact q3)]
  have hend : wyG (tk0 X) i to (wyN (tk0 X) i to) = to := wyG_end (by rw [hwy]; exact q3)
  have z39 := shfS_in (w := wyG (tk0 X) i to) (X := tk0 X) w39 (wyN (tk0 X) i to)
  have z43 := shfS_43 (wyG (tk0 X) i to) (tk0 X) (wyN (tk0 X) i to)
  have zne : ∀ j, (j = 40 ∨ j = 41 ∨ j = 42 ∨ j = 46) → shfS (wyG (tk0 X) i to) (tk0 X) (wyN (tk0 X) i to) j = tk0 X j := fun j hj => shfS_ne _ _ (by omega) _
  rw [hend] at z39
  rw [hwy, tk0_ne (by decide)] at z43
  rw [e4]
  rw [hwy] at z39 zne ⊢
  generalize shfS (wyG (tk0 X) i to) (tk0 X) (wyN X i to) = Y at *
  have y40 := (zne 40 (by omega)).trans w40
  have y41 := (zne 41 (by omega)).trans w41
  have y42 := (zne 42 (by omega)).trans (tk0_ne (by decide))
  have y46 := (zne 46 (by omega)).trans (tk0_ne (by decide))
  rcases Nat.lt_or_ge i to with z | z
  · rw [decide_eq_true z, noteS, if_pos rfl]
    refine ⟨by rw [upd_ne (by decide), y40], Or.inr (Or.inr (Or.inr (Or.inr (Or.inl ⟨q0, z, hup z, by omega, ?_, ?_, ?_, ?_, ?_⟩))))⟩
    · rw [upd_ne (by decide), z39]
    · rw [upd_ne (by decide), z43]
    · rw [upd_ne (by decide), y46]
    · rw [upd_ne (by decide), y41, hup z]
    · rw [upd_same, y40]
  · rw [decide_eq_false (by omega), noteS, if_neg (by decide)]
    by_cases k : ¬ Y 42 = -1 ∧ ¬ nI 5 < Y 40 - Y 42
    · rw [if_pos k]
      rw [y40, y42] at k
      refine ⟨by rw [upd_ne (by decide), upd_ne (by decide), y40], Or.inr (Or.inr (Or.inr (Or.inr (Or.inr (Or.inr ⟨q0, by omega, by omega, ?_, ?_, ?_, ?_, ?_, k.1, k.2⟩)))))⟩
      · rw [upd_ne (by decide), upd_ne (by decide), z39]
      · rw [upd_ne (by decide), upd_ne (by decide), z43]
      · rw [upd_ne (by decide), upd_same, y46]
      · rw [upd_same]
      · rw [upd_ne (by decide), upd_ne (by decide), y42]
    · rw [if_neg k]
      exact ⟨y40, Or.inr (Or.inr (Or.inr (Or.inr (Or.inr (Or.inl ⟨q0, by omega, by omega, z39, z43, y46, y41⟩)))))⟩
/-- how often it hunted: M at most -/
def hnt (M : Nat) (X : Nat → Int32) : Prop := ∃ a, a ≤ M ∧ X 46 = nI a
theorem hnt_le {M N : Nat} {X : Nat → Int32} (h : hnt M X) (hl : M ≤ N) : hnt N X := by
  obtain ⟨a, h1, h2⟩ := h
  exact ⟨a, by omega, h2⟩
theorem hnt_tick {M : Nat} {X : Nat → Int32} {v : Int32} (hX : rowOK X) (h : hnt M X) : hnt (M + 1) (tickS X v) := by
  obtain ⟨a, h1, h2⟩ := h
  obtain ⟨b, b1, b2⟩ := hX.2.2.2.2.2.2.1
  have h0 : tk0 X 46 = nI a := (tk0_ne (by decide)).trans h2
  rcases (tick_cases (v := v) hX b2 b1).2 with q | q | q | q | q | q | q
  · exact ⟨a, by omega, q.2.2.2.1.trans h2⟩
  · exact ⟨a, by omega, by rw [q.2.2]; exact h0⟩
  · exact ⟨a, by omega, by rw [q.2.2.2]; exact h0⟩
  · exact ⟨a, by omega, by rw [q.2.2.2.2]; exact h0⟩
  · exact ⟨a, by omega, q.2.2.2.2.2.2.1.trans h2⟩
  · exact ⟨a, by omega, q.2.2.2.2.2.1.trans h2⟩
  · exact ⟨a + 1, by omega, by rw [q.2.2.2.2.2.1, h2, nI_add]⟩
theorem hnt_ticks {M : Nat} {X : Nat → Int32} {v : Int32} (hX : rowOK X) (h : hnt M X) : ∀ n, hnt (M + n) (tksS X v n)
  | 0 => h
  | n + 1 => hnt_tick (tksS_ok hX v n) (hnt_ticks hX h n)
theorem hnt_upd {M j : Nat} {X : Nat → Int32} {v : Int32} (h : hnt M X) (hj : j ≠ 46) : hnt M (upd X j v) := by
  obtain ⟨a, h1, h2⟩ := h
  exact ⟨a, h1, by rw [upd_ne (fun q => hj q.symm)]; exact h2⟩
theorem hnt_drop {M : Nat} {X : Nat → Int32} (h : hnt M X) : hnt M (dropS X) := by
  unfold dropS
  split
  · exact h
  · exact hnt_upd h (by decide)
theorem hnt_par {M j : Nat} {X : Nat → Int32} {v : Int32} {t : Bool} (h : hnt M X) (hj : t = true → j ≠ 46) : hnt M (parX t X j v) := by
  unfold parX
  by_cases q : t = true
  · rw [if_pos q]
    exact hnt_upd h (hj q)
  · rw [if_neg q]
    exact h
theorem hnt_ord {M : Nat} {X : Nat → Int32} (hX : rowOK X) (h : hnt M X) {o : Nat} (ho : o < 10) (a b : Int32) : hnt (M + 60) (oX X o a b) := by
  have up : ∀ {Y : Nat → Int32}, hnt M Y → hnt (M + 60) Y := fun q => hnt_le q (by omega)
  rcases (show o = 0 ∨ o = 1 ∨ o = 2 ∨ o = 3 ∨ o = 4 ∨ o = 5 ∨ o = 6 ∨ o = 7 ∨ o = 8 ∨ o = 9 by omega) with rfl | rfl | rfl | rfl | rfl | rfl | rfl | rfl | rfl | rfl
  · show hnt (M + 60) (setX X a b)
    unfold setX
    by_cases q : setB a b = true
    · rw [if_pos q]
      split
      · exact up h
      · obtain ⟨q1, -⟩ := within_t (by decide) (by decide) q
        obtain ⟨j, hj1, hj2, rfl⟩ := gearB_t q1
        rw [tN_N (by omega)]
        exact up (hnt_drop (hnt_upd h (by omega)))
    · rw [if_neg q]
      exact up h
  · refine up (hnt_drop (hnt_par h (fun q => ?_)))
    obtain ⟨q1, -⟩ := within_t (by decide) (by decide) q
    obtain ⟨j, hj, rfl⟩ := clB_t q1
    rw [tN_N (by omega)]
    omega
  · refine up (hnt_par h (fun q => ?_))
    obtain ⟨q1, -⟩ := within_t (by decide) (by decide) q
    obtain ⟨j, hj, rfl⟩ := clB_t q1
    rw [tN_N (by omega)]
    omega
  · refine up (hnt_par h (fun q => ?_))
    obtain ⟨q1, -⟩ := within_t (by decide) (by decide) q
    obtain ⟨j, hj1, hj2, rfl⟩ := gearB_t q1
    rw [tN_N (by omega)]
    omega
  · refine up (hnt_par h (fun q => ?_))
    obtain ⟨q1, -⟩ := within_t (by decide) (by decide) q
    obtain ⟨j, hj1, hj2, rfl⟩ := gearB_t q1
    rw [tN_N (by omega)]
    omega
  · exact up (hnt_par h (fun _ => by decide))
  · exact up (hnt_par h (fun _ => by decide))
  · show hnt (M + 60) (drvX X a b)
    unfold drvX
    by_cases q : tkB a b = true
    · rw [if_pos q]
      obtain ⟨k, k1, k2, rfl⟩ := tkB_t q
      rw [tN_N (by omega)]
      exact hnt_le (hnt_ticks hX h k) (by omega)
    · rw [if_neg q]
      exact up h
  · show hnt (M + 60) (rulX X a b)
    unfold rulX
    split
    · exact up (hnt_par h (fun _ => by decide))
    · exact up (hnt_par h (fun _ => by decide))
  · show hnt (M + 60) (putX X a)
    unfold putX
    split
    · exact up (hnt_upd h (by decide))
    · split
      · split
        · exact up (hnt_upd h (by decide))
        · exact up h
      · exact up h
