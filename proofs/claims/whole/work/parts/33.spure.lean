/-! PURE WORDS: what a shift teaches, in the model's order -/
theorem nI_m1 {g : Nat} (h : 1 ≤ g) : nI g + (-1) = nI (g - 1) := by
  rw [← Int32.sub_eq_add_neg]
  exact pk_sub (b := 1) h
theorem nxDn_0 {X : Nat → Int32} : ∀ {n i : Nat}, i ≤ 1 → nxDn (fitN X) n i = 0
  | 0, _, _ => rfl
  | n + 1, i, h => by
    unfold nxDn
    rw [show i - 1 = 0 by omega, fitN_0, if_neg (by decide)]
    exact nxDn_0 (by omega)
theorem mr39 {τ1 X : Nat → Int32} (hT : τ1 = mrow X) : τ1 39 = X 47 - nI 3 := by rw [hT]; rfl
theorem upd_comm {f : Nat → Int32} {i j : Nat} {x y : Int32} (h : i ≠ j) : upd (upd f i x) j y = upd (upd f j y) i x := by
  funext k
  unfold upd
  by_cases e1 : k = i
  · subst e1
    rw [if_neg h]
    simp
  · by_cases e2 : k = j
    · subst e2
      simp [e1]
    · simp [e1, e2]
theorem mnF_0 {f : Nat → Int32} : ∀ {n : Nat}, (∀ t, t < n → 0 ≤ f t) → mnF f n = nI 0
  | 0, _ => rfl
  | n + 1, h => by
    show (if f n < mnF f n then f n else mnF f n) = nI 0
    rw [mnF_0 (fun t ht => h t (by omega)), if_neg (show ¬ f n < nI 0 from Int32.not_lt.mpr (h n (by omega)))]
theorem mxF_0 {f : Nat → Int32} : ∀ {n : Nat}, (∀ t, t < n → f t ≤ 0) → mxF f n = nI 0
  | 0, _ => rfl
  | n + 1, h => by
    show (if mxF f n < f n then f n else mxF f n) = nI 0
    rw [mxF_0 (fun t ht => h t (by omega)), if_neg (show ¬ nI 0 < f n from Int32.not_lt.mpr (h n (by omega)))]
set_option maxRecDepth 100000 in
theorem shS_all : ∀ a, a < 12 → ∀ x, x < 60 → (shS (nI (a + 1)) (nI x - nI 20)).toInt ≤ (shS (nI (a + 1)) (nI (x + 1) - nI 20)).toInt := by decide +kernel
theorem shS_mono {a : Nat} (h1 : 1 ≤ a) (h2 : a ≤ 12) {x : Nat} : ∀ n, x + n ≤ 60 → (shS (nI a) (nI x - nI 20)).toInt ≤ (shS (nI a) (nI (x + n) - nI 20)).toInt
  | 0, _ => Int.le_refl _
  | n + 1, h => by
    have e := shS_all (a - 1) (by omega) (x + n) (by omega)
    rw [show a - 1 + 1 = a by omega] at e
    exact Int.le_trans (shS_mono h1 h2 n (by omega)) e
theorem sh_at {t a : Nat} (h1 : a ≤ 20) : nI t - nI a = nI (t + 20 - a) - nI 20 := by
  have e : nI (t + 20 - a) = nI t + nI 20 - nI a := by
    rw [nI_add]
    exact (pk_sub (by omega)).symm
  rw [e]
  simp only [Int32.sub_eq_add_neg]
  rw [Int32.add_assoc (nI t), Int32.add_comm (nI 20), Int32.add_assoc, Int32.add_assoc, Int32.add_right_neg, Int32.add_zero]
theorem shS_rng (R x : Int32) : 0 ≤ (shS R x).toInt ∧ (shS R x).toInt ≤ 1000 := clip_rng _
/-- what is late is never early -/
theorem ovN_sgn {X : Nat → Int32} {c a b m : Nat} (ha : X (29 + c) = nI a) (a2 : a ≤ 20) (hb : X (34 + c) = nI b) (b2 : b ≤ 20) (hm : X 49 = nI m) (m1 : 1 ≤ m) (m2 : m ≤ 12) {t : Nat} (ht : t ≤ 40) : (a ≤ b → 0 ≤ ovN X c t) ∧ (b ≤ a → ovN X c t ≤ 0) := by
  unfold ovN
  rw [ha, hb, hm, sh_at a2, sh_at b2]
  have r1 := shS_rng (nI m) (nI (t + 20 - a) - nI 20)
  have r2 := shS_rng (nI m) (nI (t + 20 - b) - nI 20)
  rw [Int32.le_iff_toInt_le, Int32.le_iff_toInt_le, sub_toI (by omega) (by omega)]
  constructor
  · intro h
    have := shS_mono m1 m2 (x := t + 20 - b) (b - a) (by omega)
    rw [show t + 20 - b + (b - a) = t + 20 - a by omega] at this
    show (0 : Int) ≤ _
    omega
  · intro h
    have := shS_mono m1 m2 (x := t + 20 - a) (a - b) (by omega)
    rw [show t + 20 - a + (a - b) = t + 20 - b by omega] at this
    show _ ≤ (0 : Int)
    omega
theorem not_both {X : Nat → Int32} (h : rowOK X) {c : Nat} (hc : c < 5) (h1 : X 50 < flS X c) (h2 : X 50 < bdS X c) : False := by
  obtain ⟨a, a1, a2, ha⟩ := h.2.2.1 c hc
  obtain ⟨b, b1, b2, hb⟩ := h.2.2.2.1 c hc
  obtain ⟨m, m1, m2, hm⟩ := h.2.2.2.2.2.2.2.2.2.1
  obtain ⟨z, z1, hz⟩ := h.2.2.2.2.2.2.2.2.2.2
  have hs : ∀ t, t < 41 → (a ≤ b → 0 ≤ ovN X c t) ∧ (b ≤ a → ovN X c t ≤ 0) := fun t ht => ovN_sgn ha a2 hb b2 hm m1 m2 (by omega)
  rw [hz] at h1 h2
  rcases Nat.le_total a b with q | q
  · unfold flS at h1
    rw [mnF_0 (fun t ht => (hs t ht).1 q)] at h1
    exact nI_pos (show z < 2 ^ 31 by omega) h1
  · unfold bdS at h2
    rw [mxF_0 (fun t ht => (hs t ht).2 q)] at h2
    exact nI_pos (show z < 2 ^ 31 by omega) h2
theorem ovN_upd {X : Nat → Int32} {c j : Nat} {v : Int32} (h : j ≠ 49 ∧ j ≠ 29 + c ∧ j ≠ 34 + c) : ovN (upd X j v) c = ovN X c := by
  funext t
  unfold ovN
  rw [upd_ne (Ne.symm h.1), upd_ne (Ne.symm h.2.1), upd_ne (Ne.symm h.2.2)]
/-- FILL, put right -/
def clipF (x : Int32) : Int32 := if nI 20 < x then nI 20 else if x < nI 1 then nI 1 else x
/-- the row behind a shift, as the model writes it -/
def mlS (X : Nat → Int32) (c : Nat) (d fl bd : Int32) : Nat → Int32 :=
  upd (upd (upd (upd X (34 + c) (clipF (X (34 + c) + d))) 43 (X 43 + nI 1)) 44 (X 44 + fl)) 45 (X 45 + bd)
theorem upd_add0 (f : Nat → Int32) (k : Nat) : upd f k (f k + nI 0) = f := by
  rw [nI_0, Int32.add_zero, upd_self]
theorem mlS_fl {X : Nat → Int32} (h : rowOK X) {c : Nat} (hc : c < 5) (h1 : X 50 < flS X c) : mlS X c (nI 1) (nI 1) (nI 0) = lrnS X c := by
  obtain ⟨b, b1, b2, hb⟩ := h.2.2.2.1 c hc
  unfold lrnS lrnA
  have e : flS (upd X 43 (X 43 + nI 1)) c = flS X c := by unfold flS; rw [ovN_upd (by omega)]
  rw [e, upd_ne (show 50 ≠ 43 by decide), if_pos h1]
  unfold lrnUp mlS
  rw [upd_ne (show 34 + c ≠ 44 by omega), upd_ne (show 34 + c ≠ 43 by omega), upd_ne (show 44 ≠ 43 by decide), hb]
  have v : clipF (nI b + nI 1) = if nI b + nI 1 < nI 20 then nI b + nI 1 else nI 20 := by
    unfold clipF
    rw [nI_add]
    rcases (show b + 1 < 20 ∨ b + 1 = 20 ∨ b + 1 = 21 by omega) with q | q | q
    · rw [if_neg (by rw [nI_ltI (by omega) (by omega)]; omega), if_neg (by rw [nI_ltI (by omega) (by omega)]; omega), if_pos (by rw [nI_ltI (by omega) (by omega)]; omega)]
    · rw [q]; decide
    · rw [q]; decide
  rw [v, upd_comm (f := X) (show 34 + c ≠ 43 by omega), upd_comm (f := upd X 43 (X 43 + nI 1)) (show 34 + c ≠ 44 by omega), show X 45 + nI 0 = X 45 by rw [nI_0, Int32.add_zero]]
  generalize hY : upd (upd (upd X 43 (X 43 + nI 1)) 44 (X 44 + nI 1)) (34 + c) (if nI b + nI 1 < nI 20 then nI b + nI 1 else nI 20) = Y
  have e45 : Y 45 = X 45 := by rw [← hY, upd_ne (by omega), upd_ne (by omega), upd_ne (by omega)]
  rw [← e45, upd_self]
theorem mlS_bd {X : Nat → Int32} (h : rowOK X) {c : Nat} (hc : c < 5) (h1 : ¬ X 50 < flS X c) (h2 : X 50 < bdS X c) : mlS X c (-1) (nI 0) (nI 1) = lrnS X c := by
  obtain ⟨b, b1, b2, hb⟩ := h.2.2.2.1 c hc
  unfold lrnS lrnA
  have e : flS (upd X 43 (X 43 + nI 1)) c = flS X c := by unfold flS; rw [ovN_upd (by omega)]
  have e2 : bdS (upd X 43 (X 43 + nI 1)) c = bdS X c := by unfold bdS; rw [ovN_upd (by omega)]
  rw [e, e2, upd_ne (show 50 ≠ 43 by decide), if_neg h1, if_pos h2]
  unfold lrnDn mlS
  rw [upd_ne (show 34 + c ≠ 45 by omega), upd_ne (show 34 + c ≠ 43 by omega), upd_ne (show 45 ≠ 43 by decide), hb]
  have v : clipF (nI b + (-1)) = if nI 1 < nI b - nI 1 then nI b - nI 1 else nI 1 := by
    unfold clipF
    rw [nI_m1 b1, pk_sub b1]
    rcases (show b - 1 = 0 ∨ b - 1 = 1 ∨ 1 < b - 1 by omega) with q | q | q
    · rw [q]; decide
    · rw [q]; decide
    · rw [if_neg (by rw [nI_ltI (by omega) (by omega)]; omega), if_neg (by rw [nI_ltI (by omega) (by omega)]; omega), if_pos (by rw [nI_ltI (by omega) (by omega)]; omega)]
  rw [v, show X 44 + nI 0 = X 44 by rw [nI_0, Int32.add_zero]]
  have e44 : upd (upd X (34 + c) (if nI 1 < nI b - nI 1 then nI b - nI 1 else nI 1)) 43 (X 43 + nI 1) 44 = X 44 := by rw [upd_ne (by omega), upd_ne (by omega)]
  rw [← e44, upd_self, upd_comm (f := X) (show 34 + c ≠ 43 by omega), upd_comm (f := upd X 43 (X 43 + nI 1)) (show 34 + c ≠ 45 by omega)]
theorem mlS_no {X : Nat → Int32} (h : rowOK X) {c : Nat} (hc : c < 5) (h1 : ¬ X 50 < flS X c) (h2 : ¬ X 50 < bdS X c) : mlS X c (nI 0) (nI 0) (nI 0) = lrnS X c := by
  obtain ⟨b, b1, b2, hb⟩ := h.2.2.2.1 c hc
  unfold lrnS lrnA
  have e : flS (upd X 43 (X 43 + nI 1)) c = flS X c := by unfold flS; rw [ovN_upd (by omega)]
  have e2 : bdS (upd X 43 (X 43 + nI 1)) c = bdS X c := by unfold bdS; rw [ovN_upd (by omega)]
  rw [e, e2, upd_ne (show 50 ≠ 43 by decide), if_neg h1, if_neg h2]
  unfold mlS
  have v : clipF (X (34 + c) + nI 0) = X (34 + c) := by
    rw [nI_0, Int32.add_zero, hb]
    unfold clipF
    rw [if_neg (by rw [nI_ltI (by omega) (by omega)]; omega), if_neg (by rw [nI_ltI (by omega) (by omega)]; omega)]
  rw [v, upd_self, show X 44 + nI 0 = X 44 by rw [nI_0, Int32.add_zero], show X 45 + nI 0 = X 45 by rw [nI_0, Int32.add_zero]]
  have e44 : upd X 43 (X 43 + nI 1) 44 = X 44 := upd_ne (by omega)
  have e45 : upd X 43 (X 43 + nI 1) 45 = X 45 := upd_ne (by omega)
  rw [← e44, upd_self, ← e45, upd_self]
/-- what learning does not look at -/
theorem lrn_39 (X : Nat → Int32) {c : Nat} (hc : c < 5) (v : Int32) : lrnS (upd X 39 v) c = upd (lrnS X c) 39 v := by
  unfold lrnS lrnA lrnUp lrnDn
  have f1 : ∀ Y : Nat → Int32, flS (upd Y 39 v) c = flS Y c := fun Y => by
    unfold flS ovN
    simp only [upd, if_neg (show ¬ 49 = 39 by decide), if_neg (show ¬ 29 + c = 39 by omega)]
    by_cases q : 34 + c = 39
    · omega
    · simp only [if_neg q]
  have f2 : ∀ Y : Nat → Int32, bdS (upd Y 39 v) c = bdS Y c := fun Y => by
    unfold bdS ovN
    simp only [upd, if_neg (show ¬ 49 = 39 by decide), if_neg (show ¬ 29 + c = 39 by omega)]
    by_cases q : 34 + c = 39
    · omega
    · simp only [if_neg q]
  rw [upd_ne (show 43 ≠ 39 by decide), upd_comm (f := X) (show 39 ≠ 43 by decide)]
  generalize upd X 43 (X 43 + nI 1) = Y
  rw [f1, f2, upd_ne (show 50 ≠ 39 by decide), upd_ne (show 44 ≠ 39 by decide), upd_ne (show 45 ≠ 39 by decide)]
  split
  · rw [upd_comm (f := Y) (show 39 ≠ 44 by decide), upd_ne (show 34 + c ≠ 39 by omega), upd_comm (show 39 ≠ 34 + c by omega)]
  · split
    · rw [upd_comm (f := Y) (show 39 ≠ 45 by decide), upd_ne (show 34 + c ≠ 39 by omega), upd_comm (show 39 ≠ 34 + c by omega)]
    · rfl
