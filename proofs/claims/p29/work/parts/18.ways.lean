/-! PURE WORDS: the WAY -/
def leastN (p : Nat → Bool) : Nat → Nat → Nat
  | 0, _ => 0
  | n + 1, k => if p k = true then k else leastN p n (k + 1)
theorem leastN_in (p : Nat → Bool) : ∀ n k, leastN p n k = 0 ∨ (k ≤ leastN p n k ∧ leastN p n k < k + n ∧ p (leastN p n k) = true)
  | 0, _ => Or.inl rfl
  | n + 1, k => by
    unfold leastN
    by_cases h : p k = true
    · rw [if_pos h]
      exact Or.inr ⟨Nat.le_refl _, by omega, h⟩
    · rw [if_neg h]
      rcases leastN_in p n (k + 1) with q | ⟨q1, q2, q3⟩
      · exact Or.inl q
      · exact Or.inr ⟨by omega, by omega, q3⟩
theorem leastN_no {p : Nat → Bool} : ∀ {n k : Nat}, 0 < k → leastN p n k = 0 → ∀ j, k ≤ j → j < k + n → p j = false
  | 0, _, _, _, j, h1, h2 => absurd h2 (by omega)
  | n + 1, k, hk, h, j, h1, h2 => by
    unfold leastN at h
    by_cases hp : p k = true
    · rw [if_pos hp] at h
      omega
    · rw [if_neg hp] at h
      rcases Nat.eq_or_lt_of_le h1 with q | q
      · rw [← q]
        simpa using hp
      · exact leastN_no (by omega) h j (by omega) (by omega)
theorem leastN_congr {p q : Nat → Bool} : ∀ {n k : Nat}, (∀ j, k ≤ j → j < k + n → p j = q j) → leastN p n k = leastN q n k
  | 0, _, _ => rfl
  | n + 1, k, h => by
    unfold leastN
    rw [h k (Nat.le_refl _) (by omega), leastN_congr (fun j h1 h2 => h j (by omega) (by omega))]
/-- the least of 1 .. 7 with p, 0 if there is none -/
def lst (p : Nat → Bool) : Nat := leastN p 7 1
theorem lst_le (p : Nat → Bool) : lst p ≤ 7 := by
  rcases leastN_in p 7 1 with h | h
  · unfold lst; omega
  · unfold lst; omega
theorem lst_in {p : Nat → Bool} (h : lst p ≠ 0) : 1 ≤ lst p ∧ lst p ≤ 7 ∧ p (lst p) = true := by
  rcases leastN_in p 7 1 with q | q
  · exact absurd q h
  · exact ⟨q.1, lst_le p, q.2.2⟩
theorem lst_no {p : Nat → Bool} (h : lst p = 0) {j : Nat} (h1 : 1 ≤ j) (h2 : j ≤ 7) : p j = false := leastN_no (by omega) h j h1 (by omega)
theorem lst_ne {p : Nat → Bool} {j : Nat} (h1 : 1 ≤ j) (h2 : j ≤ 7) (h : p j = true) : lst p ≠ 0 := fun q => by
  rw [lst_no q h1 h2] at h
  cases h
theorem lst_congr {p q : Nat → Bool} (h : ∀ j, 1 ≤ j → j ≤ 7 → p j = q j) : lst p = lst q := leastN_congr (fun j h1 h2 => h j h1 (by omega))
section WAYS
variable (F : Nat → Bool) (ad : Nat → Nat → Bool) (to : Nat)
/-- k leads to 'to' by n steps at most -/
def lev : Nat → Nat → Bool
  | 0, k => decide (k = to)
  | n + 1, k => lev n k || (F k && decide (lst (fun j => ad k j && lev n j) ≠ 0))
/-- how many at least, n at most; -1: more -/
def dI : Nat → Nat → Int32
  | 0, k => if k = to then nI 0 else -1
  | n + 1, k => if dI n k = -1 then (if lev F ad to (n + 1) k = true then nI (n + 1) else -1) else dI n k
theorem nI_nm1 {n : Nat} (h : n < 2 ^ 31) : nI n ≠ -1 := by
  intro q
  have := congrArg Int32.toInt q
  rw [nI_toInt h] at this
  simp at this
theorem dI_lev {n : Nat} (hn : n < 100) : ∀ k, (dI F ad to n k = -1 ↔ lev F ad to n k = false) ∧ ∀ i, i ≤ n → (dI F ad to n k = nI i ↔ lev F ad to i k = true ∧ ∀ j, j < i → lev F ad to j k = false) := by
  induction n with
  | zero =>
    intro k
    by_cases h : k = to
    · refine ⟨by simp [dI, lev, h, nI_nm1], fun i hi => ?_⟩
      obtain rfl : i = 0 := by omega
      simp [dI, lev, h]
    · refine ⟨by simp [dI, lev, h], fun i hi => ?_⟩
      obtain rfl : i = 0 := by omega
      have : ¬ (-1 : Int32) = nI 0 := fun q => nI_nm1 (n := 0) (by decide) q.symm
      simp [dI, lev, h, this]
  | succ n ih =>
    intro k
    obtain ⟨h1, h2⟩ := ih (by omega) k
    have m1 : ∀ i, i ≤ n + 1 → ¬ (-1 : Int32) = nI i := fun i hi q => nI_nm1 (n := i) (by omega) q.symm
    by_cases hd : dI F ad to n k = -1
    · have hl := h1.mp hd
      have hlow : ∀ i, i ≤ n → lev F ad to i k = false := by
        intro i hi
        cases e : lev F ad to i k with
        | false => rfl
        | true =>
          exfalso
          have mono : ∀ a b, lev F ad to a k = true → lev F ad to (a + b) k = true := by
            intro a b ha
            induction b with
            | zero => exact ha
            | succ b ihb =>
              show (lev F ad to (a + b) k || _) = true
              rw [ihb]; rfl
          have := mono i (n - i) e
          rw [show i + (n - i) = n by omega, hl] at this
          cases this
      by_cases hs : lev F ad to (n + 1) k = true
      · have e : dI F ad to (n + 1) k = nI (n + 1) := by simp [dI, hd, hs]
        rw [e]
        refine ⟨by simp [hs, nI_nm1 (n := n + 1) (by omega)], fun i hi => ?_⟩
        rw [nI_eq (by omega) (by omega)]
        constructor
        · intro q
          subst q
          exact ⟨hs, fun j hj => hlow j (by omega)⟩
        · intro q
          rcases Nat.lt_or_ge i (n + 1) with z | z
          · rw [hlow i (by omega)] at q
            exact absurd q.1 (by simp)
          · omega
      · have hs' : lev F ad to (n + 1) k = false := by simpa using hs
        have e : dI F ad to (n + 1) k = -1 := by simp [dI, hd, hs']
        rw [e]
        refine ⟨by simp [hs'], fun i hi => ?_⟩
        constructor
        · intro q
          exact absurd q (m1 i hi)
        · intro q
          rcases Nat.lt_or_ge i (n + 1) with z | z
          · rw [hlow i (by omega)] at q
            exact absurd q.1 (by simp)
          · rw [show i = n + 1 by omega, hs'] at q
            exact absurd q.1 (by simp)
    · have e : dI F ad to (n + 1) k = dI F ad to n k := by simp [dI, hd]
      rw [e]
      have hl : lev F ad to n k = true := by
        cases q : lev F ad to n k with
        | true => rfl
        | false => exact absurd (h1.mpr q) hd
      have hl1 : lev F ad to (n + 1) k = true := by
        show (lev F ad to n k || _) = true
        rw [hl]; rfl
      refine ⟨by simp [hd, hl1], fun i hi => ?_⟩
      rcases Nat.lt_or_ge i (n + 1) with z | z
      · exact h2 i (by omega)
      · obtain rfl : i = n + 1 := by omega
        constructor
        · intro q
          exfalso
          -- dI n k is some nI i with i at most n
          have : ∀ m, m ≤ n → dI F ad to m k = -1 ∨ ∃ i, i ≤ m ∧ dI F ad to m k = nI i := by
            intro m hm
            induction m with
            | zero =>
              unfold dI
              by_cases hk : k = to
              · exact Or.inr ⟨0, Nat.le_refl _, by simp [hk]⟩
              · exact Or.inl (by simp [hk])
            | succ m ihm =>
              unfold dI
              rcases ihm (by omega) with r | ⟨i, r1, r2⟩
              · rw [if_pos r]
                by_cases hk : lev F ad to (m + 1) k = true
                · exact Or.inr ⟨m + 1, Nat.le_refl _, by simp [hk]⟩
                · exact Or.inl (by simp [hk])
              · rw [if_neg (by rw [r2]; exact nI_nm1 (by omega))]
                exact Or.inr ⟨i, by omega, r2⟩
          rcases this n (Nat.le_refl _) with r | ⟨i, r1, r2⟩
          · exact hd r
          · rw [r2, nI_eq (by omega) (by omega)] at q
            omega
        · intro q
          rw [q.2 n (by omega)] at hl
          cases hl
theorem dI_cases (n k : Nat) (hn : n < 100) : dI F ad to n k = -1 ∨ ∃ i, i ≤ n ∧ dI F ad to n k = nI i := by
  induction n with
  | zero =>
    unfold dI
    by_cases hk : k = to
    · exact Or.inr ⟨0, Nat.le_refl _, by simp [hk]⟩
    · exact Or.inl (by simp [hk])
  | succ m ihm =>
    unfold dI
    rcases ihm (by omega) with r | ⟨i, r1, r2⟩
    · rw [if_pos r]
      by_cases hk : lev F ad to (m + 1) k = true
      · exact Or.inr ⟨m + 1, Nat.le_refl _, by simp [hk]⟩
      · exact Or.inl (by simp [hk])
    · rw [if_neg (by rw [r2]; exact nI_nm1 (by omega))]
      exact Or.inr ⟨i, by omega, r2⟩
theorem lev_mono {a k : Nat} (b : Nat) (ha : lev F ad to a k = true) : lev F ad to (a + b) k = true := by
  induction b with
  | zero => exact ha
  | succ b ihb =>
    show (lev F ad to (a + b) k || _) = true
    rw [ihb]; rfl
/-- one place of the search: what the next round makes of it, out of what stands in the row -/
theorem dI_step {f g : Nat} (hf : f < 50) (h : dI F ad to f g = -1) : (lev F ad to (f + 1) g = true) ↔ (F g = true ∧ lst (fun k => decide (dI F ad to f k = nI f) && ad g k) ≠ 0) := by
  have hl := (dI_lev F ad to (show f < 100 by omega) g).1.mp h
  show (lev F ad to f g || (F g && decide (lst (fun j => ad g j && lev F ad to f j) ≠ 0))) = true ↔ _
  rw [hl, Bool.false_or, Bool.and_eq_true, decide_eq_true_eq]
  constructor
  · intro q
    refine ⟨q.1, ?_⟩
    obtain ⟨a1, a2, a3⟩ := lst_in q.2
    rw [Bool.and_eq_true] at a3
    refine lst_ne a1 a2 ?_
    rw [Bool.and_eq_true, decide_eq_true_eq]
    refine ⟨((dI_lev F ad to (show f < 100 by omega) _).2 f (Nat.le_refl _)).mpr ⟨a3.2, fun j hj => ?_⟩, a3.1⟩
    cases e : lev F ad to j (lst (fun j => ad g j && lev F ad to f j)) with
    | false => rfl
    | true =>
      exfalso
      have : lev F ad to (j + 1) g = true := by
        show (lev F ad to j g || (F g && decide (lst (fun j' => ad g j' && lev F ad to j j') ≠ 0))) = true
        have : lst (fun j' => ad g j' && lev F ad to j j') ≠ 0 := lst_ne a1 a2 (by rw [a3.1, e]; rfl)
        simp [q.1, this]
      have := lev_mono F ad to (f - (j + 1)) this
      rw [show j + 1 + (f - (j + 1)) = f by omega, hl] at this
      cases this
  · intro q
    refine ⟨q.1, ?_⟩
    obtain ⟨a1, a2, a3⟩ := lst_in q.2
    rw [Bool.and_eq_true, decide_eq_true_eq] at a3
    refine lst_ne a1 a2 ?_
    rw [a3.2, (((dI_lev F ad to (show f < 100 by omega) _).2 f (Nat.le_refl _)).mp a3.1).1]
    rfl
/-- the search's inner loop: the row when 1 .. i are done for f + 1 -/
def fwI (aw : Nat → Int32) (f i : Nat) : Prop := ∀ k, 1 ≤ k → k ≤ 7 → aw k = if k ≤ i then dI F ad to (f + 1) k else dI F ad to f k
variable {F ad to}
theorem fwI_lst {aw : Nat → Int32} {f i : Nat} (hf : f < 50) (h : fwI F ad to aw f i) (g : Nat) : lst (fun k => decide (aw k = nI f) && ad g k) = lst (fun k => decide (dI F ad to f k = nI f) && ad g k) := by
  refine lst_congr (fun k k1 k2 => ?_)
  have e : (aw k = nI f) ↔ (dI F ad to f k = nI f) := by
    rw [h k k1 k2]
    by_cases q : k ≤ i
    · rw [if_pos q]
      show (if dI F ad to f k = -1 then _ else _) = nI f ↔ _
      by_cases z : dI F ad to f k = -1
      · rw [if_pos z, z]
        have m1 : ¬ (-1 : Int32) = nI f := fun w => nI_nm1 (n := f) (by omega) w.symm
        by_cases y : lev F ad to (f + 1) k = true
        · rw [if_pos y]
          exact ⟨fun w => absurd ((nI_eq (by omega) (by omega)).mp w) (by omega), fun w => absurd w m1⟩
        · rw [if_neg y]
      · rw [if_neg z]
    · rw [if_neg q]
  by_cases w : dI F ad to f k = nI f
  · rw [decide_eq_true (e.mpr w), decide_eq_true w]
  · rw [decide_eq_false (fun v => w (e.mp v)), decide_eq_false w]
theorem fwI_keep {aw : Nat → Int32} {f i : Nat} (h : fwI F ad to aw f i) (hi : i < 7) (he : dI F ad to (f + 1) (i + 1) = dI F ad to f (i + 1)) : fwI F ad to aw f (i + 1) := by
  intro k k1 k2
  rw [h k k1 k2]
  by_cases q : k ≤ i
  · rw [if_pos q, if_pos (by omega)]
  · rw [if_neg q]
    by_cases z : k ≤ i + 1
    · rw [if_pos z, show k = i + 1 by omega, he]
    · rw [if_neg z]
theorem fwI_set {aw : Nat → Int32} {f i : Nat} (h : fwI F ad to aw f i) (hi : i < 7) {v : Int32} (he : dI F ad to (f + 1) (i + 1) = v) : fwI F ad to (upd aw (i + 1) v) f (i + 1) := by
  intro k k1 k2
  by_cases z : k = i + 1
  · subst z
    rw [upd_same, if_pos (Nat.le_refl _), he]
  · rw [upd_ne z, h k k1 k2]
    by_cases q : k ≤ i
    · rw [if_pos q, if_pos (by omega)]
    · rw [if_neg q, if_neg (by omega)]
theorem fwI_at {aw : Nat → Int32} {f i : Nat} (h : fwI F ad to aw f i) (hi : i < 7) : aw (i + 1) = dI F ad to f (i + 1) := by
  rw [h (i + 1) (by omega) (by omega), if_neg (by omega)]
/-- not open: it has its number -/
theorem fwI_a {aw : Nat → Int32} {f i : Nat} (h : fwI F ad to aw f i) (hi : i < 7) (h1 : ¬ aw (i + 1) = -1) : fwI F ad to aw f (i + 1) := by
  rw [fwI_at h hi] at h1
  exact fwI_keep h hi (if_neg h1)
/-- not open: it is not FIT, or nothing is beside it -/
theorem fwI_b {aw : Nat → Int32} {f i : Nat} (hf : f < 50) (h : fwI F ad to aw f i) (hi : i < 7) (h1 : aw (i + 1) = -1) (h2 : F (i + 1) = false ∨ lst (fun k => decide (aw k = nI f) && ad (i + 1) k) = 0) : fwI F ad to aw f (i + 1) := by
  rw [fwI_at h hi] at h1
  refine fwI_keep h hi ?_
  show (if dI F ad to f (i + 1) = -1 then _ else _) = _
  rw [if_pos h1, if_neg, h1]
  intro q
  obtain ⟨q1, q2⟩ := (dI_step F ad to hf h1).mp q
  rcases h2 with z | z
  · rw [z] at q1; cases q1
  · rw [fwI_lst hf h] at z
    exact q2 z
theorem fwI_c {aw : Nat → Int32} {f i : Nat} (hf : f < 50) (h : fwI F ad to aw f i) (hi : i < 7) (h1 : aw (i + 1) = -1) (h2 : F (i + 1) = true) (h3 : ¬ lst (fun k => decide (aw k = nI f) && ad (i + 1) k) = 0) : fwI F ad to (upd aw (i + 1) (nI (f + 1))) f (i + 1) := by
  rw [fwI_at h hi] at h1
  refine fwI_set h hi ?_
  show (if dI F ad to f (i + 1) = -1 then _ else _) = _
  rw [if_pos h1, if_pos]
  rw [fwI_lst hf h] at h3
  exact (dI_step F ad to hf h1).mpr ⟨h2, h3⟩
theorem fwI_0 {aw : Nat → Int32} {f : Nat} (h : ∀ k, 1 ≤ k → k ≤ 7 → aw k = dI F ad to f k) : fwI F ad to aw f 0 := fun k k1 k2 => by
  rw [if_neg (by omega), h k k1 k2]
theorem fwI_7 {aw : Nat → Int32} {f : Nat} (h : fwI F ad to aw f 7) : ∀ k, 1 ≤ k → k ≤ 7 → aw k = dI F ad to (f + 1) k := fun k k1 k2 => by
  rw [h k k1 k2, if_pos k2]
theorem up_ext {f G : Nat → Int32} {i : Nat} {v : Int32} (h : ∀ k, 1 ≤ k → k ≤ i → f k = G k) (hv : v = G (i + 1)) : ∀ k, 1 ≤ k → k ≤ i + 1 → upd f (i + 1) v k = G k := by
  intro k k1 k2
  by_cases z : k = i + 1
  · subst z
    rw [upd_same, hv]
  · rw [upd_ne z]
    exact h k k1 (by omega)
variable (F ad to)
/-- how many steps the WAY has: 0 if there is none -/
def wayN (frm : Nat) : Nat := if dI F ad to 6 frm = -1 then 0 else (dI F ad to 6 frm).toNatClampNeg
/-- its GEARS, that from which it goes as the 0-th -/
def wayG (frm : Nat) : Nat → Nat
  | 0 => frm
  | i + 1 => lst (fun k => decide (dI F ad to 6 k = nI (wayN F ad to frm - i - 1)) && ad (wayG frm i) k)
theorem wayN_le (frm : Nat) : wayN F ad to frm ≤ 6 := by
  unfold wayN
  rcases dI_cases F ad to 6 frm (by decide) with h | ⟨i, h1, h2⟩
  · rw [if_pos h]; omega
  · rw [if_neg (by rw [h2]; exact nI_nm1 (by omega)), h2, nI_clamp (by omega)]; exact h1
theorem wayN_dI {frm : Nat} (h : wayN F ad to frm ≠ 0) : dI F ad to 6 frm = nI (wayN F ad to frm) := by
  unfold wayN at h ⊢
  rcases dI_cases F ad to 6 frm (by decide) with q | ⟨i, h1, h2⟩
  · rw [if_pos q] at h; exact absurd rfl h
  · rw [if_neg (by rw [h2]; exact nI_nm1 (by omega)), h2, nI_clamp (by omega)]
theorem wayN_max {aw : Nat → Int32} {frm : Nat} (h : aw frm = dI F ad to 6 frm) : (if nI 0 < aw frm then aw frm else nI 0) = nI (wayN F ad to frm) := by
  rw [h]
  unfold wayN
  rcases dI_cases F ad to 6 frm (by decide) with q | ⟨i, h1, h2⟩
  · rw [q, if_pos rfl, if_neg (by decide)]
  · rw [h2, if_neg (nI_nm1 (by omega)), nI_clamp (by omega)]
    rcases Nat.eq_zero_or_pos i with z | z
    · rw [z, if_neg (by decide)]
    · rw [if_pos (nI_lt z (by omega))]
theorem wayG_lst {aw : Nat → Int32} {frm : Nat} (h : ∀ k, 1 ≤ k → k ≤ 7 → aw k = dI F ad to 6 k) (i : Nat) : lst (fun k => decide (aw k = nI (wayN F ad to frm - i - 1)) && ad (wayG F ad to frm i) k) = wayG F ad to frm (i + 1) := by
  refine lst_congr (fun k k1 k2 => ?_)
  rw [h k k1 k2]
theorem wayG_0 (frm : Nat) : wayG F ad to frm 0 = frm := rfl
theorem wayG_s (frm i : Nat) : wayG F ad to frm (i + 1) = lst (fun k => decide (dI F ad to 6 k = nI (wayN F ad to frm - i - 1)) && ad (wayG F ad to frm i) k) := rfl
/-- each GEAR of the WAY is that much nearer, and the next one beside it -/
theorem wayG_ok {frm : Nat} : ∀ i, i < wayN F ad to frm → dI F ad to 6 (wayG F ad to frm i) = nI (wayN F ad to frm - i) ∧ wayG F ad to frm (i + 1) ≠ 0 ∧ F (wayG F ad to frm i) = true ∧ ad (wayG F ad to frm i) (wayG F ad to frm (i + 1)) = true ∧ dI F ad to 6 (wayG F ad to frm (i + 1)) = nI (wayN F ad to frm - (i + 1)) := by
  have hle := wayN_le F ad to frm
  -- what a GEAR at m + 1 steps has beside it
  have key : ∀ g m, m < 6 → dI F ad to 6 g = nI (m + 1) → F g = true ∧ lst (fun k => decide (dI F ad to 6 k = nI m) && ad g k) ≠ 0 := by
    intro g m hm hg
    obtain ⟨g1, g2⟩ := ((dI_lev F ad to (show 6 < 100 by omega) g).2 (m + 1) (by omega)).mp hg
    have hm0 := g2 m (by omega)
    have hdm := (dI_lev F ad to (show m < 100 by omega) g).1.mpr hm0
    obtain ⟨q1, q2⟩ := (dI_step F ad to (show m < 50 by omega) hdm).mp g1
    refine ⟨q1, ?_⟩
    obtain ⟨a1, a2, a3⟩ := lst_in q2
    rw [Bool.and_eq_true, decide_eq_true_eq] at a3
    refine lst_ne a1 a2 ?_
    rw [Bool.and_eq_true, decide_eq_true_eq]
    exact ⟨((dI_lev F ad to (show 6 < 100 by omega) _).2 m (by omega)).mpr (((dI_lev F ad to (show m < 100 by omega) _).2 m (Nat.le_refl _)).mp a3.1), a3.2⟩
  have step : ∀ i, i < wayN F ad to frm → dI F ad to 6 (wayG F ad to frm i) = nI (wayN F ad to frm - i) → wayG F ad to frm (i + 1) ≠ 0 ∧ F (wayG F ad to frm i) = true ∧ ad (wayG F ad to frm i) (wayG F ad to frm (i + 1)) = true ∧ dI F ad to 6 (wayG F ad to frm (i + 1)) = nI (wayN F ad to frm - i - 1) := by
    intro i hi h0
    obtain ⟨k1, k2⟩ := key (wayG F ad to frm i) (wayN F ad to frm - i - 1) (by omega) (h0.trans (congrArg nI (by omega)))
    rw [← wayG_s] at k2
    have a := lst_in (p := fun k => decide (dI F ad to 6 k = nI (wayN F ad to frm - i - 1)) && ad (wayG F ad to frm i) k) (by rw [← wayG_s]; exact k2)
    rw [← wayG_s] at a
    obtain ⟨a1, a2, a3⟩ := a
    rw [Bool.and_eq_true, decide_eq_true_eq] at a3
    exact ⟨k2, k1, a3.2, a3.1⟩
  have all : ∀ i, i < wayN F ad to frm → dI F ad to 6 (wayG F ad to frm i) = nI (wayN F ad to frm - i) := by
    intro i
    induction i with
    | zero =>
      intro hi
      rw [wayG_0, wayN_dI F ad to (by omega), Nat.sub_zero]
    | succ i ih =>
      intro hi
      rw [(step i (by omega) (ih (by omega))).2.2.2, Nat.sub_sub]
  intro i hi
  obtain ⟨s1, s2, s3, s4⟩ := step i hi (all i hi)
  exact ⟨all i hi, s1, s2, s3, by rw [s4, Nat.sub_sub]⟩
theorem wayG_le {frm : Nat} (h : frm ≤ 7) (i : Nat) : wayG F ad to frm i ≤ 7 := by
  cases i with
  | zero => exact h
  | succ i => exact lst_le _
end WAYS
/-- the bits of fbits -/
def pick7 (b1 b2 b3 b4 b5 b6 b7 : Bool) : Nat → Bool
  | 1 => b1 | 2 => b2 | 3 => b3 | 4 => b4 | 5 => b5 | 6 => b6 | 7 => b7 | _ => false
theorem fbits_congr {F G : Nat → Bool} : ∀ {n : Nat}, (∀ j, j < n → F (j + 1) = G (j + 1)) → fbits F n = fbits G n
  | 0, _ => rfl
  | n + 1, h => by
    unfold fbits
    rw [h n (by omega), fbits_congr (fun j hj => h j (by omega))]
set_option maxRecDepth 100000 in
theorem fbits_all : ∀ b1 b2 b3 b4 b5 b6 b7 : Bool, ∀ g, g < 8 → sbit (fbits (pick7 b1 b2 b3 b4 b5 b6 b7) 7) g = bI (pick7 b1 b2 b3 b4 b5 b6 b7 g) := by decide +kernel
theorem fbits_bit {F : Nat → Bool} {g : Nat} (h1 : 1 ≤ g) (h2 : g ≤ 7) : sbit (fbits F 7) g = bI (F g) := by
  have e : fbits F 7 = fbits (pick7 (F 1) (F 2) (F 3) (F 4) (F 5) (F 6) (F 7)) 7 := fbits_congr (fun j hj => by
    rcases (show j = 0 ∨ j = 1 ∨ j = 2 ∨ j = 3 ∨ j = 4 ∨ j = 5 ∨ j = 6 by omega) with rfl | rfl | rfl | rfl | rfl | rfl | rfl <;> rfl)
  rw [e, fbits_all _ _ _ _ _ _ _ g (by omega)]
  rcases (show g = 1 ∨ g = 2 ∨ g = 3 ∨ g = 4 ∨ g = 5 ∨ g = 6 ∨ g = 7 by omega) with rfl | rfl | rfl | rfl | rfl | rfl | rfl <;> rfl
