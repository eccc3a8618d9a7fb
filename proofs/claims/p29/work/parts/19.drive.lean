/-! PURE WORDS: the overlap, what is learnt, the ticks (rows as the class keeps them) -/
def clipS (x : Int32) : Int32 := if (if nI 0 < x then x else nI 0) < nI 1000 then (if nI 0 < x then x else nI 0) else nI 1000
def shS (R x : Int32) : Int32 := clipS (nI 1000 * x / R)
def ovN (X : Nat → Int32) (c t : Nat) : Int32 := shS (X 49) (nI t - X (29 + c)) - shS (X 49) (nI t - X (34 + c))
def mnF (f : Nat → Int32) : Nat → Int32
  | 0 => nI 0
  | t + 1 => if f t < mnF f t then f t else mnF f t
def mxF (f : Nat → Int32) : Nat → Int32
  | 0 => nI 0
  | t + 1 => if mxF f t < f t then f t else mxF f t
def flS (X : Nat → Int32) (c : Nat) : Int32 := -(mnF (ovN X c) 41)
def bdS (X : Nat → Int32) (c : Nat) : Int32 := mxF (ovN X c) 41
theorem ov_ring (a b : Int32) : a + (nI 1000 - b) - nI 1000 = a - b := by
  simp only [Int32.sub_eq_add_neg]
  rw [Int32.add_comm (nI 1000) (-b), ← Int32.add_assoc, Int32.add_assoc (a + -b), Int32.add_right_neg, Int32.add_zero]
/-- LEARNT, and what is counted by it -/
def lrnUp (X : Nat → Int32) (c : Nat) : Nat → Int32 := upd X (34 + c) (if X (34 + c) + nI 1 < nI 20 then X (34 + c) + nI 1 else nI 20)
def lrnDn (X : Nat → Int32) (c : Nat) : Nat → Int32 := upd X (34 + c) (if nI 1 < X (34 + c) - nI 1 then X (34 + c) - nI 1 else nI 1)
def lrnA (X : Nat → Int32) (c : Nat) : Nat → Int32 :=
  if X 50 < flS X c then lrnUp (upd X 44 (X 44 + nI 1)) c
  else if X 50 < bdS X c then lrnDn (upd X 45 (X 45 + nI 1)) c
  else X
def lrnS (X : Nat → Int32) (c : Nat) : Nat → Int32 := lrnA (upd X 43 (X 43 + nI 1)) c
/-- WANT -/
def addS (X : Nat → Int32) : Int32 := nI 5 * (X 47 - nI 3) + nI 10 * X 48
def abvS (X : Nat → Int32) (i : Nat) (v : Int32) : Nat := if v < X (8 + i) + addS X then 0 else nxUp (fitN X) 7 i
def blwS (X : Nat → Int32) (i : Nat) (v : Int32) : Nat := if X (16 + i) + addS X ≤ v then 0 else nxDn (fitN X) 7 i
def wntS (X : Nat → Int32) (i : Nat) (v : Int32) : Nat :=
  if i = 0 then nxUp (fitN X) 7 0 else if ¬ abvS X i v = 0 then abvS X i v else if ¬ blwS X i v = 0 then blwS X i v else i
/-- behind a turn of GEARS -/
def noteS (X : Nat → Int32) (up : Bool) : Nat → Int32 :=
  if up = true then upd X 42 (X 40)
  else if ¬ X 42 = -1 ∧ ¬ nI 5 < X 40 - X 42 then upd (upd X 46 (X 46 + nI 1)) 41 (nI 10)
  else X
/-- the first n SHIFTS of a WAY: w 0 is the GEAR from which it goes -/
def shfS (w : Nat → Nat) (X : Nat → Int32) : Nat → Nat → Int32
  | 0 => X
  | n + 1 => upd (lrnS (shfS w X n) (comS (X (w n)) (X (w (n + 1))))) 39 (nI (w (n + 1)))
def adX (X : Nat → Int32) (g k : Nat) : Bool := swapB (X g) (X k)
def wyN (X : Nat → Int32) (i j : Nat) : Nat := wayN (fitN X) (adX X) j i
def wyG (X : Nat → Int32) (i j : Nat) : Nat → Nat := wayG (fitN X) (adX X) j i
/-- from the GEAR i to the GEAR j that is WANTED -/
def goS (X : Nat → Int32) (i j : Nat) : Nat → Int32 :=
  if j = i ∨ ((i ≠ 0 ∧ i < j) ∧ nI 0 < X 41) then X
  else if i = 0 then upd X 39 (nI j)
  else if wyN X i j = 0 then X
  else noteS (shfS (wyG X i j) X (wyN X i j)) (decide (i < j))
def tk1 (X : Nat → Int32) : Nat → Int32 := if nI 0 < X 41 then upd X 41 (X 41 - nI 1) else X
def tk0 (X : Nat → Int32) : Nat → Int32 := tk1 (upd X 40 (X 40 + nI 1))
def inN (X : Nat → Int32) : Nat := (X 39).toNatClampNeg
def tickS (X : Nat → Int32) (v : Int32) : Nat → Int32 := goS (tk0 X) (inN X) (wntS (tk0 X) (inN X) v)
def tksS (X : Nat → Int32) (v : Int32) : Nat → Nat → Int32
  | 0 => X
  | n + 1 => tickS (tksS X v n) v
/-- what the row keeps to, always -/
def rowOK (X : Nat → Int32) : Prop :=
  setsOK X ∧ (∀ c, c < 5 → ∃ a, a ≤ 2 ∧ X (24 + c) = nI a) ∧ (∀ c, c < 5 → ∃ a, 1 ≤ a ∧ a ≤ 20 ∧ X (29 + c) = nI a) ∧ (∀ c, c < 5 → ∃ a, 1 ≤ a ∧ a ≤ 20 ∧ X (34 + c) = nI a) ∧
  (∀ g, g < 16 → ∃ a, a ≤ 300 ∧ X (8 + g) = nI a) ∧ (∃ i, i ≤ 7 ∧ X 39 = nI i ∧ (i = 0 ∨ fitN X i = true)) ∧ (∃ a, a ≤ 10 ∧ X 41 = nI a) ∧ (∃ a, a ≤ 6 ∧ X 47 = nI a) ∧ (∃ a, a ≤ 3 ∧ X 48 = nI a) ∧ (∃ a, 1 ≤ a ∧ a ≤ 12 ∧ X 49 = nI a) ∧ (∃ a, a ≤ 999 ∧ X 50 = nI a)
theorem rowOK_in {X : Nat → Int32} (h : rowOK X) : inN X ≤ 7 ∧ X 39 = nI (inN X) ∧ (inN X = 0 ∨ fitN X (inN X) = true) := by
  obtain ⟨i, h1, h2, h3⟩ := h.2.2.2.2.2.1
  have : inN X = i := by unfold inN; rw [h2, nI_clamp (by omega)]
  rw [this]
  exact ⟨h1, h2, h3⟩
/-- fit and beside one another: by SETS and STATES alone -/
def sameG (X Y : Nat → Int32) : Prop := (∀ g, g ≤ 7 → Y g = X g) ∧ ∀ c, c < 5 → Y (24 + c) = X (24 + c)
theorem sameG_rf {X : Nat → Int32} : sameG X X := ⟨fun _ _ => rfl, fun _ _ => rfl⟩
theorem sameG_tr {X Y W : Nat → Int32} (h : sameG X Y) (k : sameG Y W) : sameG X W := ⟨fun g hg => (k.1 g hg).trans (h.1 g hg), fun c hc => (k.2 c hc).trans (h.2 c hc)⟩
theorem sameG_upd {X : Nat → Int32} {j : Nat} {v : Int32} (h1 : 7 < j) (h2 : j < 24 ∨ 28 < j) : sameG X (upd X j v) := ⟨fun g hg => upd_ne (by omega), fun c hc => upd_ne (by omega)⟩
theorem sameG_fitS {X Y : Nat → Int32} (h : sameG X Y) (a : Int32) : fitS a (stC Y) = fitS a (stC X) := by
  have : allB (okB a (stC Y)) 5 = allB (okB a (stC X)) 5 := by
    have e : ∀ c, c < 5 → okB a (stC Y) c = okB a (stC X) c := fun c hc => by unfold okB stC; rw [h.2 c hc]
    have : ∀ n, n ≤ 5 → allB (okB a (stC Y)) n = allB (okB a (stC X)) n := by
      intro n
      induction n with
      | zero => intro _; rfl
      | succ n ih => intro hn; show (_ && _) = (_ && _); rw [ih (by omega), e n (by omega)]
    exact this 5 (Nat.le_refl _)
  unfold fitS
  rw [this]
theorem sameG_fitN {X Y : Nat → Int32} (h : sameG X Y) (g : Nat) : fitN Y g = fitN X g := by
  unfold fitN
  by_cases h1 : 1 ≤ g
  · by_cases h2 : g ≤ 7
    · rw [sameG_fitS h, h.1 g h2]
    · simp [h2]
  · simp [h1]
theorem sameG_sim {X Y : Nat → Int32} (h : sameG X Y) {g k : Nat} (hg : g ≤ 7) (hk : k ≤ 7) : simN Y g k = simN X g k := by
  unfold simN
  rw [sameG_fitN h, sameG_fitN h, h.1 g hg, h.1 k hk]
theorem sameG_sets {X Y : Nat → Int32} (h : sameG X Y) (hX : setsOK X) : setsOK Y := fun g hg => by
  rw [h.1 g hg]
  exact hX g hg
theorem lrnS_same (X : Nat → Int32) {c : Nat} (hc : c < 5) : sameG X (lrnS X c) := by
  unfold lrnS lrnA lrnUp lrnDn
  split
  · exact sameG_tr (sameG_tr (sameG_upd (by omega) (by omega)) (sameG_upd (by omega) (by omega))) (sameG_upd (by omega) (by omega))
  · split
    · exact sameG_tr (sameG_tr (sameG_upd (by omega) (by omega)) (sameG_upd (by omega) (by omega))) (sameG_upd (by omega) (by omega))
    · exact sameG_upd (by omega) (by omega)
theorem shfS_same (w : Nat → Nat) (X : Nat → Int32) : ∀ n, sameG X (shfS w X n)
  | 0 => sameG_rf
  | n + 1 => sameG_tr (sameG_tr (shfS_same w X n) (lrnS_same _ (comS_lt _ _))) (sameG_upd (by omega) (by omega))
/-- reads of the row that learning does not touch -/
theorem lrnS_ne (X : Nat → Int32) {c j : Nat} (h : j ≠ 43 ∧ j ≠ 44 ∧ j ≠ 45 ∧ j ≠ 34 + c) : lrnS X c j = X j := by
  unfold lrnS lrnA lrnUp lrnDn
  obtain ⟨h1, h2, h3, h4⟩ := h
  split
  · rw [upd_ne h4, upd_ne h2, upd_ne h1]
  · split
    · rw [upd_ne h4, upd_ne h3, upd_ne h1]
    · rw [upd_ne h1]
theorem shfS_ne (w : Nat → Nat) (X : Nat → Int32) {j : Nat} (h : j < 34 ∨ j = 40 ∨ j = 41 ∨ j = 42 ∨ 45 < j) : ∀ n, shfS w X n j = X j
  | 0 => rfl
  | n + 1 => by
    have hc := comS_lt (X (w n)) (X (w (n + 1)))
    show upd (lrnS (shfS w X n) _) 39 _ j = X j
    rw [upd_ne (by omega), lrnS_ne _ (by omega), shfS_ne w X h n]
theorem shfS_in {w : Nat → Nat} {X : Nat → Int32} (h : X 39 = nI (w 0)) : ∀ n, shfS w X n 39 = nI (w n)
  | 0 => h
  | n + 1 => upd_same _ _ _
theorem go_sim {X : Nat → Int32} {i to j : Nat} (hft : fitN X to = true) (h : j < wyN X i to) : simN X (wyG X i to j) (wyG X i to (j + 1)) = true := by
  obtain ⟨h1, h2, h3, h4, h5⟩ := wayG_ok (fitN X) (adX X) to j h
  have hk : fitN X (wyG X i to (j + 1)) = true := by
    rcases Nat.lt_or_ge (j + 1) (wyN X i to) with q | q
    · exact (wayG_ok (fitN X) (adX X) to (j + 1) q).2.2.1
    · have e2 : wayN (fitN X) (adX X) to i - (j + 1) = 0 := by
        show wyN X i to - (j + 1) = 0
        omega
      rw [e2] at h5
      have h6 := (((dI_lev (fitN X) (adX X) to (show 6 < 100 by omega) _).2 0 (by omega)).mp h5).1
      simp only [lev, decide_eq_true_eq] at h6
      show fitN X (wayG (fitN X) (adX X) to i (j + 1)) = true
      rw [h6]
      exact hft
  unfold simN
  rw [Bool.and_eq_true, Bool.and_eq_true]
  exact ⟨⟨h3, hk⟩, h4⟩
theorem rowOK_R {X : Nat → Int32} (h : rowOK X) : ¬ X 49 = 0 := by
  obtain ⟨a, h1, h2, h3⟩ := h.2.2.2.2.2.2.2.2.2.1
  rw [h3]
  exact nI_ne0 (by omega) (by omega)
theorem wntS_le {X : Nat → Int32} {i : Nat} {v : Int32} (hi : i ≤ 7) : wntS X i v ≤ 7 := by
  have up : ∀ g, nxUp (fitN X) 7 g ≤ 7 := fun g => by
    by_cases h : nxUp (fitN X) 7 g = 0
    · omega
    · exact (fitN_rng (nxUp_fit h)).2
  have dn : nxDn (fitN X) 7 i ≤ 7 := by
    by_cases h : nxDn (fitN X) 7 i = 0
    · omega
    · exact (fitN_rng (nxDn_fit h)).2
  have h1 := up 0
  have h2 := up i
  unfold wntS abvS blwS
  repeat' split
  all_goals omega
theorem wntS_fit (X : Nat → Int32) (i : Nat) (v : Int32) : wntS X i v = i ∨ fitN X (wntS X i v) = true := by
  unfold wntS
  by_cases h0 : i = 0
  · rw [if_pos h0]
    by_cases q : nxUp (fitN X) 7 0 = 0
    · exact Or.inl (by omega)
    · exact Or.inr (nxUp_fit q)
  · rw [if_neg h0]
    by_cases h1 : abvS X i v = 0
    · rw [if_neg (by simp [h1])]
      by_cases h2 : blwS X i v = 0
      · rw [if_neg (by simp [h2])]
        exact Or.inl rfl
      · rw [if_pos h2]
        refine Or.inr ?_
        unfold blwS at h2 ⊢
        by_cases q : X (16 + i) + addS X ≤ v
        · rw [if_pos q] at h2
          exact absurd rfl h2
        · rw [if_neg q] at h2 ⊢
          exact nxDn_fit h2
    · rw [if_pos h1]
      refine Or.inr ?_
      unfold abvS at h1 ⊢
      by_cases q : v < X (8 + i) + addS X
      · rw [if_pos q] at h1
        exact absurd rfl h1
      · rw [if_neg q] at h1 ⊢
        exact nxUp_fit h1
theorem rowOK_upd {X : Nat → Int32} {j : Nat} {v : Int32} (h : rowOK X) (hj : 7 < j ∧ (j < 24 ∨ 28 < j))
    (c1 : ∀ c, c < 5 → 29 + c = j → ∃ a, 1 ≤ a ∧ a ≤ 20 ∧ v = nI a := by intro _ _ _; omega) (c2 : ∀ c, c < 5 → 34 + c = j → ∃ a, 1 ≤ a ∧ a ≤ 20 ∧ v = nI a := by intro _ _ _; omega)
    (c3 : ∀ g, g < 16 → 8 + g = j → ∃ a, a ≤ 300 ∧ v = nI a := by intro _ _ _; omega) (c4 : 39 = j → ∃ i, i ≤ 7 ∧ v = nI i ∧ (i = 0 ∨ fitN X i = true) := by intro _; omega) (c5 : 41 = j → ∃ a, a ≤ 10 ∧ v = nI a := by intro _; omega)
    (c6 : 47 = j → ∃ a, a ≤ 6 ∧ v = nI a := by intro _; omega) (c7 : 48 = j → ∃ a, a ≤ 3 ∧ v = nI a := by intro _; omega) (c8 : 49 = j → ∃ a, 1 ≤ a ∧ a ≤ 12 ∧ v = nI a := by intro _; omega) (c9 : 50 = j → ∃ a, a ≤ 999 ∧ v = nI a := by intro _; omega) : rowOK (upd X j v) := by
  obtain ⟨h1, h2, h3, h4, h5, h6, h7, h8, h9, h10, h11⟩ := h
  have hs : sameG X (upd X j v) := sameG_upd hj.1 hj.2
  have at1 : ∀ k, k = j → upd X j v k = v := fun k e => by rw [e, upd_same]
  refine ⟨sameG_sets hs h1, fun c hc => ?_, fun c hc => ?_, fun c hc => ?_, fun g hg => ?_, ?_, ?_, ?_, ?_, ?_, ?_⟩
  · rw [hs.2 c hc]; exact h2 c hc
  · by_cases e : 29 + c = j
    · rw [at1 _ e]; exact c1 c hc e
    · rw [upd_ne e]; exact h3 c hc
  · by_cases e : 34 + c = j
    · rw [at1 _ e]; exact c2 c hc e
    · rw [upd_ne e]; exact h4 c hc
  · by_cases e : 8 + g = j
    · rw [at1 _ e]; exact c3 g hg e
    · rw [upd_ne e]; exact h5 g hg
  · by_cases e : 39 = j
    · rw [at1 _ e]
      obtain ⟨i, q1, q2, q3⟩ := c4 e
      exact ⟨i, q1, q2, by rw [sameG_fitN hs]; exact q3⟩
    · rw [upd_ne e]
      obtain ⟨i, q1, q2, q3⟩ := h6
      exact ⟨i, q1, q2, by rw [sameG_fitN hs]; exact q3⟩
  · by_cases e : 41 = j
    · rw [at1 _ e]; exact c5 e
    · rw [upd_ne e]; exact h7
  · by_cases e : 47 = j
    · rw [at1 _ e]; exact c6 e
    · rw [upd_ne e]; exact h8
  · by_cases e : 48 = j
    · rw [at1 _ e]; exact c7 e
    · rw [upd_ne e]; exact h9
  · by_cases e : 49 = j
    · rw [at1 _ e]; exact c8 e
    · rw [upd_ne e]; exact h10
  · by_cases e : 50 = j
    · rw [at1 _ e]; exact c9 e
    · rw [upd_ne e]; exact h11
theorem tk0_ok {X : Nat → Int32} (h : rowOK X) : rowOK (tk0 X) := by
  have h1 : rowOK (upd X 40 (X 40 + nI 1)) := rowOK_upd h (by omega)
  unfold tk0 tk1
  obtain ⟨a, ha, e⟩ := h1.2.2.2.2.2.2.1
  by_cases q : nI 0 < upd X 40 (X 40 + nI 1) 41
  · rw [if_pos q]
    refine rowOK_upd h1 (by omega) (c5 := fun _ => ⟨a - 1, by omega, ?_⟩)
    rw [e] at q ⊢
    rw [nI_ltI (by omega) (by omega)] at q
    exact pk_sub (by omega)
  · rw [if_neg q]
    exact h1
theorem lrnS_ok {X : Nat → Int32} (h : rowOK X) {c : Nat} (hc : c < 5) : rowOK (lrnS X c) := by
  have h1 : rowOK (upd X 43 (X 43 + nI 1)) := rowOK_upd h (by omega)
  unfold lrnS
  generalize upd X 43 (X 43 + nI 1) = Y at h1 ⊢
  unfold lrnA
  by_cases q1 : Y 50 < flS Y c
  · rw [if_pos q1]
    have h2 : rowOK (upd Y 44 (Y 44 + nI 1)) := rowOK_upd h1 (by omega)
    generalize upd Y 44 (Y 44 + nI 1) = W at h2 ⊢
    obtain ⟨a, a1, a2, a3⟩ := h2.2.2.2.1 c hc
    refine rowOK_upd h2 (by omega) (c2 := fun c' _ _ => ?_)
    rw [a3, nI_add]
    by_cases z : nI (a + 1) < nI 20
    · rw [if_pos z]
      rw [nI_ltI (by omega) (by omega)] at z
      exact ⟨a + 1, by omega, by omega, rfl⟩
    · rw [if_neg z]
      exact ⟨20, by omega, by omega, rfl⟩
  · rw [if_neg q1]
    by_cases q2 : Y 50 < bdS Y c
    · rw [if_pos q2]
      have h2 : rowOK (upd Y 45 (Y 45 + nI 1)) := rowOK_upd h1 (by omega)
      generalize upd Y 45 (Y 45 + nI 1) = W at h2 ⊢
      obtain ⟨a, a1, a2, a3⟩ := h2.2.2.2.1 c hc
      refine rowOK_upd h2 (by omega) (c2 := fun c' _ _ => ?_)
      rw [a3, pk_sub (by omega)]
      by_cases z : nI 1 < nI (a - 1)
      · rw [if_pos z]
        rw [nI_ltI (by omega) (by omega)] at z
        exact ⟨a - 1, by omega, by omega, rfl⟩
      · rw [if_neg z]
        exact ⟨1, by omega, by omega, rfl⟩
    · rw [if_neg q2]
      exact h1
theorem noteS_ok {X : Nat → Int32} (h : rowOK X) (up : Bool) : rowOK (noteS X up) := by
  unfold noteS
  split
  · exact rowOK_upd h (by omega)
  · split
    · exact rowOK_upd (rowOK_upd h (by omega)) (by omega) (c5 := fun _ => ⟨10, by omega, rfl⟩)
    · exact h
theorem shfS_ok {X : Nat → Int32} (h : rowOK X) {w : Nat → Nat} : ∀ n, (∀ j, j < n → fitN X (w (j + 1)) = true) → rowOK (shfS w X n)
  | 0, _ => h
  | n + 1, hw => by
    have h1 := shfS_ok h n (fun j hj => hw j (by omega))
    have h2 := lrnS_ok h1 (comS_lt (X (w n)) (X (w (n + 1))))
    have hf := hw n (by omega)
    refine rowOK_upd h2 (by omega) (c4 := fun _ => ⟨w (n + 1), (fitN_rng hf).2, rfl, Or.inr ?_⟩)
    rw [sameG_fitN (lrnS_same _ (comS_lt _ _)), sameG_fitN (shfS_same w X n)]
    exact hf
theorem goS_ok {X : Nat → Int32} (h : rowOK X) {i j : Nat} (hf : j = i ∨ fitN X j = true) : rowOK (goS X i j) := by
  unfold goS
  by_cases q1 : j = i ∨ ((i ≠ 0 ∧ i < j) ∧ nI 0 < X 41)
  · rw [if_pos q1]; exact h
  · rw [if_neg q1]
    have hf' : fitN X j = true := by
      rcases hf with z | z
      · exact absurd (Or.inl z) q1
      · exact z
    by_cases q2 : i = 0
    · rw [if_pos q2]
      exact rowOK_upd h (by omega) (c4 := fun _ => ⟨j, (fitN_rng hf').2, rfl, Or.inr hf'⟩)
    · rw [if_neg q2]
      by_cases q3 : wyN X i j = 0
      · rw [if_pos q3]; exact h
      · rw [if_neg q3]
        refine noteS_ok (shfS_ok h _ (fun k hk => ?_)) _
        have := go_sim hf' hk
        simp only [simN, Bool.and_eq_true] at this
        exact this.1.2
theorem tickS_ok {X : Nat → Int32} (h : rowOK X) (v : Int32) : rowOK (tickS X v) := by
  have h1 := tk0_ok h
  have e : inN (tk0 X) = inN X := by
    have : tk0 X 39 = X 39 := by
      unfold tk0 tk1
      split
      · rw [upd_ne (by omega), upd_ne (by omega)]
      · rw [upd_ne (by omega)]
    unfold inN
    rw [this]
  unfold tickS
  exact goS_ok h1 (wntS_fit _ _ _)
theorem tksS_ok {X : Nat → Int32} (h : rowOK X) (v : Int32) : ∀ n, rowOK (tksS X v n)
  | 0 => h
  | n + 1 => tickS_ok (tksS_ok h v n) v
theorem tk0_in (X : Nat → Int32) : inN (tk0 X) = inN X := by
  have : tk0 X 39 = X 39 := by
    unfold tk0 tk1
    split
    · rw [upd_ne (by omega), upd_ne (by omega)]
    · rw [upd_ne (by omega)]
  unfold inN
  rw [this]
theorem tickS_eq (X : Nat → Int32) (v : Int32) : goS (tk0 X) (inN (tk0 X)) (wntS (tk0 X) (inN (tk0 X)) v) = tickS X v := by
  rw [tk0_in]
  rfl
/-! the class as it stands since 8d0c652: the tick in its loop -/
theorem pos_ne {x : Int32} (h : 0 < x) : ¬ x = 0 := fun q => by
  rw [q] at h
  exact absurd h (by decide)
theorem ramp_max {x : Int32} (h : 0 < x) : (if nI 1 < x then x else nI 1) = x := by
  by_cases q : nI 1 < x
  · rw [if_pos q]
  · rw [if_neg q]
    have h1 := Int32.lt_iff_toInt_lt.mp h
    simp at h1
    have q1 := Int32.le_iff_toInt_le.mp (Int32.not_lt.mp q)
    rw [nI_toInt (by decide)] at q1
    apply Int32.toInt_inj.mp
    rw [nI_toInt (by decide)]
    omega
theorem gear_ne {i : Nat} (h : gearB (nI i) = true) : ¬ i = 0 := by
  intro q
  subst q
  exact absurd h (by decide)
theorem gear_z {i : Nat} (hi : i ≤ 7) (h : gearB (nI i) = false) : i = 0 := by
  rw [gearB_N (by omega)] at h
  by_cases q : 1 ≤ i
  · rw [decide_eq_true q, decide_eq_true hi] at h
    cases h
  · omega
theorem rowOK_P {X : Nat → Int32} (h : rowOK X) : 0 < X 49 := by
  obtain ⟨a, h1, h2, h3⟩ := h.2.2.2.2.2.2.2.2.2.1
  rw [h3]
  exact nI_lt (a := 0) (by omega) (by omega)
/-- behind the SHIFTS of a TICK: the GEAR that is in now, the GEAR from which it went -/
def noteT (X : Nat → Int32) (i f : Nat) : Nat → Int32 := if f < i then noteS X true else if i < f then noteS X false else X
theorem goT_0 {Y : Nat → Int32} {i to : Nat} (h0 : i = 0) (hIN : Y 39 = nI i) : upd Y 39 (nI to) = goS Y i to := by
  subst h0
  unfold goS
  by_cases q : to = 0
  · subst q
    rw [if_pos (Or.inl rfl), ← hIN, upd_self]
  · rw [if_neg (fun z => z.elim q (fun y => y.1.1 rfl)), if_pos rfl]
theorem goT_e {Y : Nat → Int32} {i to : Nat} (h : to = i) : Y = goS Y i to := by
  unfold goS
  rw [if_pos (Or.inl h)]
theorem goT_u {Y : Nat → Int32} {i to : Nat} (h0 : ¬ i = 0) (h : i < to) (hH : ∃ a, a ≤ 10 ∧ Y 41 = nI a) (h2 : ¬ Y 41 = 0) : Y = goS Y i to := by
  obtain ⟨a, a1, a2⟩ := hH
  have hp : nI 0 < Y 41 := by
    rw [a2] at h2 ⊢
    rcases Nat.eq_zero_or_pos a with z | z
    · subst z
      exact absurd (by decide) h2
    · exact nI_lt z (by omega)
  unfold goS
  rw [if_pos (Or.inr ⟨⟨h0, h⟩, hp⟩)]
theorem ne_dn {Y : Nat → Int32} {i to : Nat} (h : to < i) : ¬ (to = i ∨ ((i ≠ 0 ∧ i < to) ∧ nI 0 < Y 41)) := fun z => z.elim (fun q => by omega) (fun y => absurd y.1.2 (by omega))
theorem ne_up {Y : Nat → Int32} {i to : Nat} (h : ¬ to ≤ i) (h2 : Y 41 = 0) : ¬ (to = i ∨ ((i ≠ 0 ∧ i < to) ∧ nI 0 < Y 41)) := fun z => z.elim (fun q => by omega) (fun y => by
  rw [h2] at y
  exact absurd y.2 (by decide))
theorem wyG_end {X : Nat → Int32} {i to : Nat} (h : ¬ wyN X i to = 0) : wyG X i to (wyN X i to) = to := by
  obtain ⟨n, hn⟩ : ∃ n, wyN X i to = n + 1 := ⟨wyN X i to - 1, by omega⟩
  have hn2 : wayN (fitN X) (adX X) to i = n + 1 := hn
  have h5 := (wayG_ok (fitN X) (adX X) to n (show n < wayN (fitN X) (adX X) to i by omega)).2.2.2.2
  rw [hn2, Nat.sub_self] at h5
  have h6 := (((dI_lev (fitN X) (adX X) to (show 6 < 100 by omega) _).2 0 (by omega)).mp h5).1
  simp only [lev, decide_eq_true_eq] at h6
  rw [hn]
  exact h6
theorem goT_w {Y : Nat → Int32} {i to : Nat} (hne : ¬ (to = i ∨ ((i ≠ 0 ∧ i < to) ∧ nI 0 < Y 41))) (h0 : ¬ i = 0) : noteT (shfS (wyG Y i to) Y (wyN Y i to)) (wyG Y i to (wyN Y i to)) i = goS Y i to := by
  unfold goS
  rw [if_neg hne, if_neg h0]
  by_cases q : wyN Y i to = 0
  · rw [if_pos q, q]
    show noteT Y i i = Y
    unfold noteT
    rw [if_neg (by omega), if_neg (by omega)]
  · rw [if_neg q, wyG_end q]
    unfold noteT
    rcases Nat.lt_trichotomy i to with z | z | z
    · rw [if_pos z, decide_eq_true z]
    · exact absurd (Or.inl z.symm) hne
    · rw [if_neg (by omega), if_pos z, decide_eq_false (by omega)]
theorem tk0_max {Y : Nat → Int32} (h : rowOK Y) : upd (upd Y 40 (Y 40 + nI 1)) 41 (if nI 0 < Y 41 - nI 1 then Y 41 - nI 1 else nI 0) = tk0 Y := by
  obtain ⟨a, a1, a2⟩ := h.2.2.2.2.2.2.1
  have e41 : upd Y 40 (Y 40 + nI 1) 41 = nI a := (upd_ne (by decide)).trans a2
  unfold tk0 tk1
  rw [e41, a2]
  rcases a with _ | a
  · rw [if_neg (by decide), if_neg (by decide)]
    exact (congrArg (upd _ 41) e41.symm).trans (upd_self _ _)
  · have e : nI (a + 1) - nI 1 = nI a := (pk_sub (by omega)).trans (by rw [Nat.add_sub_cancel])
    rw [e, if_pos (nI_lt (a := 0) (b := a + 1) (by omega) (by omega))]
    rcases Nat.eq_zero_or_pos a with z | z
    · subst z
      rw [if_neg (by decide)]
    · rw [if_pos (nI_lt z (by omega))]
theorem n4x (S : St) (b c b' c' : Nat → Int32) : up2 (up2 (up2 (up2 S 4 b) 5 c) 4 b') 5 c' = up2 (up2 S 4 b') 5 c' := by
  funext i
  unfold up2
  by_cases h5 : i = 5
  · simp [h5]
  · by_cases h4 : i = 4
    · simp [h4]
    · simp [h4, h5]
