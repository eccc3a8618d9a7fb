/-! PURE WORDS: ways by distances -/
theorem cntN_mono {p q : Nat → Bool} : ∀ {n : Nat}, (∀ i, i < n → p i = true → q i = true) → cntN p n ≤ cntN q n
  | 0, _ => Nat.le_refl _
  | n + 1, h => by
    have h1 := cntN_mono (n := n) (fun i hi => h i (by omega))
    have h2 := h n (by omega)
    show cntN p n + (if p n = true then 1 else 0) ≤ cntN q n + (if q n = true then 1 else 0)
    by_cases z : p n = true
    · rw [if_pos z, if_pos (h2 z)]; omega
    · rw [if_neg z]; omega
theorem cntN_lt {p q : Nat → Bool} {k : Nat} (hp : p k = false) (hq : q k = true) : ∀ {n : Nat}, k < n → (∀ i, i < n → p i = true → q i = true) → cntN p n < cntN q n
  | 0, hk, _ => absurd hk (by omega)
  | n + 1, hk, h => by
    show cntN p n + (if p n = true then 1 else 0) < cntN q n + (if q n = true then 1 else 0)
    by_cases e : k = n
    · subst e
      have h1 := cntN_mono (n := k) (p := p) (q := q) (fun i hi => h i (by omega))
      rw [if_neg (by rw [hp]; decide), if_pos hq]; omega
    · have h1 := cntN_lt hp hq (n := n) (by omega) (fun i hi => h i (by omega))
      have h2 := h n (by omega)
      by_cases z : p n = true
      · rw [if_pos z, if_pos (h2 z)]; omega
      · rw [if_neg z]; omega
section FAR
variable (F : Nat → Bool) (ad : Nat → Nat → Bool) (to : Nat)
theorem lev_s {n k : Nat} : lev F ad to (n + 1) k = true ↔ (lev F ad to n k = true ∨ (F k = true ∧ ∃ j, 1 ≤ j ∧ j ≤ 7 ∧ ad k j = true ∧ lev F ad to n j = true)) := by
  show (lev F ad to n k || (F k && decide (lst (fun j => ad k j && lev F ad to n j) ≠ 0))) = true ↔ _
  rw [Bool.or_eq_true, Bool.and_eq_true, decide_eq_true_eq]
  constructor
  · intro h
    rcases h with h | ⟨h1, h2⟩
    · exact Or.inl h
    · obtain ⟨a1, a2, a3⟩ := lst_in h2
      rw [Bool.and_eq_true] at a3
      exact Or.inr ⟨h1, _, a1, a2, a3.1, a3.2⟩
  · intro h
    rcases h with h | ⟨h1, j, h2, h3, h4, h5⟩
    · exact Or.inl h
    · exact Or.inr ⟨h1, lst_ne h2 h3 (by rw [h4, h5]; rfl)⟩
theorem lev_fit (hto : F to = true) : ∀ {n k : Nat}, lev F ad to n k = true → F k = true
  | 0, k, h => by
    have : k = to := of_decide_eq_true h
    rw [this]; exact hto
  | n + 1, k, h => by
    rcases (lev_s F ad to).mp h with q | q
    · exact lev_fit hto q
    · exact q.1
theorem lev_le {a b k : Nat} (h : a ≤ b) (ha : lev F ad to a k = true) : lev F ad to b k = true := by
  have := lev_mono F ad to (b - a) ha
  rwa [show a + (b - a) = b by omega] at this
theorem lev_sat {n : Nat} (h : ∀ k, 1 ≤ k → k ≤ 7 → lev F ad to (n + 1) k = lev F ad to n k) : ∀ m, n ≤ m → ∀ k, 1 ≤ k → k ≤ 7 → lev F ad to m k = true → lev F ad to n k = true := by
  intro m
  induction m with
  | zero =>
    intro hm k k1 k2 hk
    rwa [show n = 0 by omega]
  | succ m ih =>
    intro hm k k1 k2 hk
    by_cases e : n = m + 1
    · rwa [e]
    · rcases (lev_s F ad to).mp hk with q | ⟨q1, j, j1, j2, j3, j4⟩
      · exact ih (by omega) k k1 k2 q
      · rw [← h k k1 k2]
        exact (lev_s F ad to).mpr (Or.inr ⟨q1, j, j1, j2, j3, ih (by omega) j j1 j2 j4⟩)
/-- whom no way of six steps leads, none leads -/
theorem lev_6 (t1 : 1 ≤ to) (t2 : to ≤ 7) (m : Nat) {k : Nat} (k1 : 1 ≤ k) (k2 : k ≤ 7) (h : lev F ad to m k = true) : lev F ad to 6 k = true := by
  have main : ∀ n, (∃ i, i < n ∧ ∀ k, 1 ≤ k → k ≤ 7 → lev F ad to (i + 1) k = lev F ad to i k) ∨ n + 1 ≤ cntN (fun i => lev F ad to n (i + 1)) 7 := by
    intro n
    induction n with
    | zero =>
      refine Or.inr ?_
      have := cntN_lt (p := fun _ => false) (q := fun i => lev F ad to 0 (i + 1)) (k := to - 1) rfl (decide_eq_true (by omega)) (n := 7) (by omega) (fun i _ hi => by cases hi)
      omega
    | succ n ih =>
      rcases ih with ⟨i, i1, i2⟩ | ih
      · exact Or.inl ⟨i, by omega, i2⟩
      · by_cases s : ∀ k, 1 ≤ k → k ≤ 7 → lev F ad to (n + 1) k = lev F ad to n k
        · exact Or.inl ⟨n, by omega, s⟩
        · refine Or.inr ?_
          obtain ⟨j, hj⟩ := Classical.not_forall.mp s
          obtain ⟨j1, hj⟩ := Classical.not_forall.mp hj
          obtain ⟨j2, hj⟩ := Classical.not_forall.mp hj
          have a : lev F ad to n j = false := by
            cases z : lev F ad to n j with
            | false => rfl
            | true => exact absurd ((lev_le F ad to (Nat.le_succ n) z).trans z.symm) hj
          have b : lev F ad to (n + 1) j = true := by
            cases z : lev F ad to (n + 1) j with
            | true => rfl
            | false => exact absurd (z.trans a.symm) hj
          have := cntN_lt (p := fun i => lev F ad to n (i + 1)) (q := fun i => lev F ad to (n + 1) (i + 1)) (k := j - 1) (by show lev F ad to n (j - 1 + 1) = false; rw [show j - 1 + 1 = j by omega]; exact a) (by show lev F ad to (n + 1) (j - 1 + 1) = true; rw [show j - 1 + 1 = j by omega]; exact b) (n := 7) (by omega) (fun i _ hi => lev_le F ad to (Nat.le_succ n) hi)
          omega
  rcases main 7 with ⟨i, i1, i2⟩ | q
  · rcases Nat.lt_or_ge m i with z | z
    · exact lev_le F ad to (by omega) h
    · exact lev_le F ad to (by omega) (lev_sat F ad to i2 m z k k1 k2 h)
  · have := cntN_le (fun i => lev F ad to 7 (i + 1)) 7
    omega
/-- what the row of distances keeps to, in round r, before the pair i, j -/
def gsI (r i j : Nat) (f : Nat → Nat) : Prop := ∀ k, 1 ≤ k → k ≤ 7 → f k ≤ 100 ∧ (f k < 100 → lev F ad to (f k) k = true) ∧ (∀ n, n ≤ r → lev F ad to n k = true → f k ≤ n) ∧ (k < i → lev F ad to (r + 1) k = true → f k ≤ r + 1) ∧ (k = i → ∀ y, 1 ≤ y → y < j → F k = true → ad k y = true → lev F ad to r y = true → f k ≤ r + 1)
theorem gs_0 {f : Nat → Nat} (h : ∀ k, 1 ≤ k → k ≤ 7 → f k = if k = to then 0 else 100) : gsI F ad to 0 1 1 f := by
  intro k k1 k2
  rw [h k k1 k2]
  by_cases e : k = to
  · rw [if_pos e]
    exact ⟨by omega, fun _ => decide_eq_true e, fun n _ _ => by omega, fun q => by omega, fun _ y y1 y2 => by omega⟩
  · rw [if_neg e]
    refine ⟨by omega, fun q => by omega, fun n n1 n2 => ?_, fun q => by omega, fun _ y y1 y2 => by omega⟩
    rw [show n = 0 by omega] at n2
    exact absurd (of_decide_eq_true n2) e
theorem gs_keep {r i j : Nat} {f : Nat → Nat} (h : gsI F ad to r i j f) (i1 : 1 ≤ i) (i2 : i ≤ 7) (j1 : 1 ≤ j) (j2 : j ≤ 7) (c : ¬ (F i = true ∧ F j = true ∧ ad i j = true) ∨ ¬ f j + 1 < f i) (hto : F to = true) : gsI F ad to r i (j + 1) f := by
  intro k k1 k2
  obtain ⟨a1, a2, a3, a4, a5⟩ := h k k1 k2
  refine ⟨a1, a2, a3, a4, fun e y y1 y2 y3 y4 y5 => ?_⟩
  by_cases z : y = j
  · subst z
    subst e
    have hj := (h y y1 j2).2.2.1 r (Nat.le_refl r) y5
    rcases c with c | c
    · exact absurd ⟨y3, lev_fit F ad to hto y5, y4⟩ c
    · omega
  · exact a5 e y y1 (by omega) y3 y4 y5
theorem gs_set {r i j : Nat} {f : Nat → Nat} (h : gsI F ad to r i j f) (i1 : 1 ≤ i) (i2 : i ≤ 7) (j1 : 1 ≤ j) (j2 : j ≤ 7) (hF : F i = true) (ha : ad i j = true) (c : f j + 1 < f i) : gsI F ad to r i (j + 1) (fun k => if k = i then f j + 1 else f k) := by
  intro k k1 k2
  obtain ⟨a1, a2, a3, a4, a5⟩ := h k k1 k2
  show (if k = i then f j + 1 else f k) ≤ 100 ∧ ((if k = i then f j + 1 else f k) < 100 → lev F ad to (if k = i then f j + 1 else f k) k = true) ∧ (∀ n, n ≤ r → lev F ad to n k = true → (if k = i then f j + 1 else f k) ≤ n) ∧ (k < i → lev F ad to (r + 1) k = true → (if k = i then f j + 1 else f k) ≤ r + 1) ∧ (k = i → ∀ y, 1 ≤ y → y < j + 1 → F k = true → ad k y = true → lev F ad to r y = true → (if k = i then f j + 1 else f k) ≤ r + 1)
  by_cases e : k = i
  · rw [if_pos e]
    subst e
    obtain ⟨b1, b2, b3, b4, b5⟩ := h j j1 j2
    refine ⟨by omega, fun q => (lev_s F ad to).mpr (Or.inr ⟨hF, j, j1, j2, ha, b2 (by omega)⟩), fun n n1 n2 => ?_, fun q => by omega, fun _ y y1 y2 y3 y4 y5 => ?_⟩
    · have := a3 n n1 n2
      omega
    · by_cases z : y = j
      · subst z
        have := b3 r (Nat.le_refl r) y5
        omega
      · have := a5 rfl y y1 (by omega) y3 y4 y5
        omega
  · rw [if_neg e]
    exact ⟨a1, a2, a3, a4, fun q => absurd q e⟩
theorem gs_i {r i : Nat} {f : Nat → Nat} (h : gsI F ad to r i 8 f) : gsI F ad to r (i + 1) 1 f := by
  intro k k1 k2
  obtain ⟨a1, a2, a3, a4, a5⟩ := h k k1 k2
  refine ⟨a1, a2, a3, fun q hq => ?_, fun _ y y1 y2 => by omega⟩
  by_cases e : k = i
  · rcases (lev_s F ad to).mp hq with z | ⟨z1, y, y1, y2, y3, y4⟩
    · have := a3 r (Nat.le_refl r) z
      omega
    · exact a5 e y y1 (by omega) z1 y3 y4
  · exact a4 (by omega) hq
theorem gs_r {r : Nat} {f : Nat → Nat} (h : gsI F ad to r 8 1 f) : gsI F ad to (r + 1) 1 1 f := by
  intro k k1 k2
  obtain ⟨a1, a2, a3, a4, a5⟩ := h k k1 k2
  refine ⟨a1, a2, fun n n1 n2 => ?_, fun q => by omega, fun _ y y1 y2 => by omega⟩
  by_cases e : n = r + 1
  · subst e
    exact a4 (by omega) n2
  · exact a3 n (by omega) n2
/-- in the end -/
theorem gs_end {f : Nat → Nat} (h : gsI F ad to 7 1 1 f) (t1 : 1 ≤ to) (t2 : to ≤ 7) {k : Nat} (k1 : 1 ≤ k) (k2 : k ≤ 7) : (f k ≤ 6 ∧ dI F ad to 6 k = nI (f k)) ∨ (f k = 100 ∧ dI F ad to 6 k = -1) := by
  obtain ⟨a1, a2, a3, a4, a5⟩ := h k k1 k2
  cases z : lev F ad to 6 k with
  | true =>
    have b := a3 6 (by omega) z
    refine Or.inl ⟨b, ((dI_lev F ad to (show 6 < 100 by omega) k).2 (f k) b).mpr ⟨a2 (by omega), fun j hj => ?_⟩⟩
    cases y : lev F ad to j k with
    | false => rfl
    | true =>
      have := a3 j (by omega) y
      omega
  | false =>
    refine Or.inr ⟨?_, (dI_lev F ad to (show 6 < 100 by omega) k).1.mpr z⟩
    rcases Nat.lt_or_ge (f k) 100 with q | q
    · rw [lev_6 F ad to t1 t2 (f k) k1 k2 (a2 q)] at z
      cases z
    · omega
/-- the distances say how far it is -/
theorem gs_N {f : Nat → Nat} (h : gsI F ad to 7 1 1 f) (t1 : 1 ≤ to) (t2 : to ≤ 7) {g : Nat} (k1 : 1 ≤ g) (k2 : g ≤ 7) : (f g < 100 ∧ wayN F ad to g = f g) ∨ (f g = 100 ∧ wayN F ad to g = 0) := by
  unfold wayN
  rcases gs_end F ad to h t1 t2 k1 k2 with ⟨q1, q2⟩ | ⟨q1, q2⟩
  · rw [q2, if_neg (nI_nm1 (by omega)), nI_clamp (by omega)]
    exact Or.inl ⟨by omega, rfl⟩
  · rw [q2, if_pos rfl]
    exact Or.inr ⟨q1, rfl⟩
/-- on the way: how far it still is -/
theorem gs_at {f : Nat → Nat} (h : gsI F ad to 7 1 1 f) (t1 : 1 ≤ to) (t2 : to ≤ 7) {g i : Nat} (k1 : 1 ≤ g) (k2 : g ≤ 7) (hi : i ≤ wayN F ad to g) (hp : ¬ wayN F ad to g = 0) : 1 ≤ wayG F ad to g i ∧ f (wayG F ad to g i) = wayN F ad to g - i := by
  have hN := wayN_le F ad to g
  have key : dI F ad to 6 (wayG F ad to g i) = nI (wayN F ad to g - i) ∧ wayG F ad to g i ≠ 0 := by
    rcases Nat.lt_or_ge i (wayN F ad to g) with q | q
    · refine ⟨(wayG_ok F ad to (frm := g) i q).1, ?_⟩
      cases i with
      | zero => exact fun z => by rw [wayG_0] at z; omega
      | succ i => exact (wayG_ok F ad to (frm := g) i (by omega)).2.1
    · cases i with
      | zero => exact absurd (show wayN F ad to g = 0 by omega) hp
      | succ i =>
        have := wayG_ok F ad to (frm := g) i (by omega)
        exact ⟨this.2.2.2.2, this.2.1⟩
  have h7 := wayG_le F ad to k2 i
  refine ⟨by omega, ?_⟩
  rcases gs_end F ad to h t1 t2 (k := wayG F ad to g i) (by omega) h7 with ⟨q1, q2⟩ | ⟨q1, q2⟩
  · rw [key.1] at q2
    exact ((nI_eq (by omega) (by omega)).mp q2).symm
  · rw [key.1] at q2
    exact absurd q2 (nI_nm1 (by omega))
/-- the next one on the way is the first that is that much nearer -/
theorem gs_next {f : Nat → Nat} (h : gsI F ad to 7 1 1 f) (t1 : 1 ≤ to) (t2 : to ≤ 7) {g i : Nat} (hi : i < wayN F ad to g) {y : Nat} (y1 : 1 ≤ y) (y2 : y ≤ 7) : (ad (wayG F ad to g i) y = true ∧ f y + 1 = wayN F ad to g - i) ↔ (decide (dI F ad to 6 y = nI (wayN F ad to g - i - 1)) && ad (wayG F ad to g i) y) = true := by
  have hN := wayN_le F ad to g
  rw [Bool.and_eq_true, decide_eq_true_eq]
  rcases gs_end F ad to h t1 t2 y1 y2 with ⟨q1, q2⟩ | ⟨q1, q2⟩
  · rw [q2, nI_eq (by omega) (by omega)]
    constructor
    · intro z; exact ⟨by omega, z.1⟩
    · intro z; exact ⟨z.2, by omega⟩
  · rw [q2]
    constructor
    · intro z; omega
    · intro z; exact absurd z.1.symm (nI_nm1 (by omega))
theorem leastN_at {p : Nat → Bool} : ∀ {n k y : Nat}, k ≤ y → y < k + n → (∀ j, k ≤ j → j < y → p j = false) → p y = true → leastN p n k = y
  | 0, k, y, h1, h2, _, _ => absurd h2 (by omega)
  | n + 1, k, y, h1, h2, h3, h4 => by
    unfold leastN
    by_cases e : k = y
    · subst e
      rw [if_pos h4]
    · rw [if_neg (by rw [h3 k (Nat.le_refl k) (by omega)]; decide)]
      exact leastN_at (by omega) (by omega) (fun j j1 j2 => h3 j (by omega) j2) h4
end FAR
