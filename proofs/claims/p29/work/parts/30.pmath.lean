/-! PURE WORDS of the property: what is simple, what ties, ways either way -/
theorem swapB_comm (a b : Int32) : swapB a b = swapB b a := by
  unfold swapB
  exact Bool.and_comm _ _
theorem simN_comm (X : Nat → Int32) (g k : Nat) : simN X g k = simN X k g := by
  unfold simN
  rw [swapB_comm, Bool.and_comm (fitN X g)]
set_option maxRecDepth 100000 in
theorem swap_irr : ∀ a, a < 32 → swapB (nI a) (nI a) = false := by decide +kernel
theorem simN_irr {X : Nat → Int32} (hX : setsOK X) {g : Nat} (hg : g ≤ 7) : simN X g g = false := by
  obtain ⟨a, ha, e⟩ := hX g hg
  unfold simN
  rw [e, swap_irr a ha, Bool.and_false]
theorem simN_ne {X : Nat → Int32} (hX : setsOK X) {g k : Nat} (hg : g ≤ 7) (h : simN X g k = true) : ¬ g = k := by
  intro q
  subst q
  rw [simN_irr hX hg] at h
  cases h
set_option maxRecDepth 100000 in
theorem tie_all : ∀ a, a < 32 → ∀ b, b < 32 → withinB (nI a ||| nI b) (nI 0) (nI 31) = true ∧ nI a &&& ((nI a ||| nI b) ^^^ (-1)) = 0 ∧ nI b &&& ((nI a ||| nI b) ^^^ (-1)) = 0 := by decide +kernel
theorem cntN_one {p : Nat → Bool} {i : Nat} (h : p i = true) : ∀ {n : Nat}, i < n → 1 ≤ cntN p n
  | 0, hi => absurd hi (by omega)
  | n + 1, hi => by
    show 1 ≤ cntN p n + (if p n = true then 1 else 0)
    rcases Nat.lt_succ_iff_lt_or_eq.mp hi with q | q
    · have := cntN_one h (n := n) q
      omega
    · rw [← q, if_pos h]
      omega
theorem cntN_two {p : Nat → Bool} {i j : Nat} (hne : ¬ i = j) (h1 : p i = true) (h2 : p j = true) : ∀ {n : Nat}, i < n → j < n → 2 ≤ cntN p n
  | 0, hi, _ => absurd hi (by omega)
  | n + 1, hi, hj => by
    show 2 ≤ cntN p n + (if p n = true then 1 else 0)
    rcases Nat.lt_succ_iff_lt_or_eq.mp hi with q | q
    · rcases Nat.lt_succ_iff_lt_or_eq.mp hj with z | z
      · have := cntN_two hne h1 h2 (n := n) q z
        omega
      · have := cntN_one h1 (n := n) q
        rw [if_pos (show p n = true by rw [← z]; exact h2)]
        omega
    · have := cntN_one h2 (n := n) (by omega)
      rw [if_pos (show p n = true by rw [← q]; exact h1)]
      omega
theorem fitN_ne0 {X : Nat → Int32} {g : Nat} (h : fitN X g = true) : ¬ X g = 0 := by
  unfold fitN fitS at h
  simp only [Bool.and_eq_true, Bool.not_eq_true', decide_eq_false_iff_not] at h
  exact h.2.1
theorem simN_fit {X : Nat → Int32} {g k : Nat} (h : simN X g k = true) : fitN X g = true ∧ fitN X k = true ∧ swapB (X g) (X k) = true := by
  unfold simN at h
  rw [Bool.and_eq_true, Bool.and_eq_true] at h
  exact ⟨h.1.1, h.1.2, h.2⟩
/-- two simple GEARS tie what is of both -/
theorem tie_two {X : Nat → Int32} (hX : setsOK X) {g k : Nat} (h : simN X g k = true) : tiA X (X g ||| X k) = .inl 1 := by
  obtain ⟨g1, g2, k1, k2⟩ := simN_rng h
  obtain ⟨h1, h2, h3⟩ := simN_fit h
  have hne := simN_ne hX g2 h
  obtain ⟨a, ha, ea⟩ := hX g g2
  obtain ⟨b, hb, eb⟩ := hX k k2
  obtain ⟨t1, t2, t3⟩ := tie_all a ha b hb
  have w1 : withP (X (g - 1 + 1)) (X g ||| X k) = true := by
    rw [show g - 1 + 1 = g by omega]
    unfold withP
    rw [decide_eq_false (fitN_ne0 h1), ea, eb, t2]
    rfl
  have w2 : withP (X (k - 1 + 1)) (X g ||| X k) = true := by
    rw [show k - 1 + 1 = k by omega]
    unfold withP
    rw [decide_eq_false (fitN_ne0 h2), ea, eb, t3]
    rfl
  have hc : 2 ≤ cntN (fun q9 => withP (X (q9 + 1)) (X g ||| X k)) 7 := cntN_two (i := g - 1) (j := k - 1) (by omega) w1 w2 (by omega) (by omega)
  unfold tiA
  rw [if_pos (by rw [ea, eb]; exact t1), decide_eq_true hc]
  rfl
section SYM
variable {F : Nat → Bool} {ad : Nat → Nat → Bool}
theorem lev_s {to n k : Nat} : lev F ad to (n + 1) k = true ↔ lev F ad to n k = true ∨ (F k = true ∧ ∃ j, 1 ≤ j ∧ j ≤ 7 ∧ ad k j = true ∧ lev F ad to n j = true) := by
  show (lev F ad to n k || (F k && decide (lst (fun j => ad k j && lev F ad to n j) ≠ 0))) = true ↔ _
  rw [Bool.or_eq_true, Bool.and_eq_true, decide_eq_true_eq]
  constructor
  · rintro (h | ⟨h1, h2⟩)
    · exact Or.inl h
    · obtain ⟨a1, a2, a3⟩ := lst_in h2
      rw [Bool.and_eq_true] at a3
      exact Or.inr ⟨h1, _, a1, a2, a3.1, a3.2⟩
  · rintro (h | ⟨h1, j, j1, j2, j3, j4⟩)
    · exact Or.inl h
    · exact Or.inr ⟨h1, lst_ne j1 j2 (by rw [j3, j4]; rfl)⟩
theorem lev_fit {to n k : Nat} (hF : F to = true) (h : lev F ad to n k = true) : F k = true := by
  induction n with
  | zero =>
    simp only [lev, decide_eq_true_eq] at h
    rw [h]
    exact hF
  | succ n ih =>
    rcases lev_s.mp h with q | q
    · exact ih q
    · exact q.1
theorem lev_app {c d : Nat} (hF : F c = true) (h1 : 1 ≤ d) (h2 : d ≤ 7) (had : ad c d = true) : ∀ (n x : Nat), lev F ad c n x = true → lev F ad d (n + 1) x = true
  | 0, x, h => by
    simp only [lev, decide_eq_true_eq] at h
    subst h
    exact lev_s.mpr (Or.inr ⟨hF, d, h1, h2, had, by simp [lev]⟩)
  | n + 1, x, h => by
    rcases lev_s.mp h with q | ⟨q, j, j1, j2, j3, j4⟩
    · exact lev_s.mpr (Or.inl (lev_app hF h1 h2 had n x q))
    · exact lev_s.mpr (Or.inr ⟨q, j, j1, j2, j3, lev_app hF h1 h2 had n j j4⟩)
theorem lev_sym (hs : ∀ a b, ad a b = ad b a) {b : Nat} (hF : F b = true) : ∀ (n a : Nat), 1 ≤ a → a ≤ 7 → lev F ad b n a = true → lev F ad a n b = true
  | 0, a, _, _, h => by
    simp only [lev, decide_eq_true_eq] at h ⊢
    exact h.symm
  | n + 1, a, a1, a2, h => by
    rcases lev_s.mp h with q | ⟨q, j, j1, j2, j3, j4⟩
    · exact lev_s.mpr (Or.inl (lev_sym hs hF n a a1 a2 q))
    · exact lev_app (lev_fit hF j4) a1 a2 ((hs j a).trans j3) n b (lev_sym hs hF n j j1 j2 j4)
theorem lev_eq (hs : ∀ a b, ad a b = ad b a) {a b : Nat} (ha : F a = true) (hb : F b = true) (a1 : 1 ≤ a) (a2 : a ≤ 7) (b1 : 1 ≤ b) (b2 : b ≤ 7) (n : Nat) : lev F ad b n a = lev F ad a n b := by
  cases e : lev F ad b n a with
  | true => exact (lev_sym hs hb n a a1 a2 e).symm
  | false =>
    cases e2 : lev F ad a n b with
    | false => rfl
    | true =>
      rw [lev_sym hs ha n b b1 b2 e2] at e
      cases e
theorem dI_sym (hs : ∀ a b, ad a b = ad b a) {a b : Nat} (ha : F a = true) (hb : F b = true) (a1 : 1 ≤ a) (a2 : a ≤ 7) (b1 : 1 ≤ b) (b2 : b ≤ 7) : dI F ad b 6 a = dI F ad a 6 b := by
  have E := lev_eq (F := F) hs ha hb a1 a2 b1 b2
  rcases dI_cases F ad b 6 a (by decide) with h | ⟨i, hi, h⟩
  · rw [h]
    exact ((dI_lev F ad a (show 6 < 100 by omega) b).1.mpr ((E 6).symm.trans ((dI_lev F ad b (show 6 < 100 by omega) a).1.mp h))).symm
  · rw [h]
    have q := ((dI_lev F ad b (show 6 < 100 by omega) a).2 i hi).mp h
    exact (((dI_lev F ad a (show 6 < 100 by omega) b).2 i hi).mpr ⟨(E i).symm.trans q.1, fun j hj => (E j).symm.trans (q.2 j hj)⟩).symm
end SYM
theorem wy_sym {X : Nat → Int32} {g k : Nat} (hg : fitN X g = true) (hk : fitN X k = true) : wyN X g k = wyN X k g := by
  have g1 := fitN_rng hg
  have k1 := fitN_rng hk
  unfold wyN wayN
  rw [dI_sym (F := fitN X) (ad := adX X) (fun a b => swapB_comm _ _) hg hk g1.1 g1.2 k1.1 k1.2]
theorem wy_one {X : Nat → Int32} {g k : Nat} (h : simN X g k = true) (hne : ¬ g = k) : wyN X g k = 1 := by
  obtain ⟨h1, h2, h3⟩ := simN_fit h
  have k1 := fitN_rng h2
  have e : dI (fitN X) (adX X) k 6 g = nI 1 := by
    refine ((dI_lev (fitN X) (adX X) k (show 6 < 100 by omega) g).2 1 (by omega)).mpr ⟨lev_s.mpr (Or.inr ⟨h1, k, k1.1, k1.2, h3, by simp [lev]⟩), fun j hj => ?_⟩
    obtain rfl : j = 0 := by omega
    simp [lev, hne]
  unfold wyN wayN
  rw [e, if_neg (nI_nm1 (by omega)), nI_clamp (by omega)]
theorem wy_two {X : Nat → Int32} {g k : Nat} (h : simN X g k = true) (hne : ¬ g = k) : wyG X g k 1 = k := by
  have e := wy_one h hne
  have q := wyG_end (X := X) (i := g) (to := k) (by rw [e]; decide)
  rw [e] at q
  exact q
/-! the words that the law asks for -/
theorem pair_ok {g k : Nat} (g1 : 1 ≤ g) (g2 : g ≤ 7) (k1 : 1 ≤ k) (k2 : k ≤ 7) (hne : ¬ g = k) : pairB (nI g) (nI k) = true := by
  rw [pairB_N (by omega) (by omega)]
  simp [g1, g2, k1, k2, hne]
theorem wyA_m1 {X : Nat → Int32} {g k : Nat} (hg : fitN X g = true) (hk : fitN X k = true) (hne : ¬ g = k) : wyA X (nI g) (nI k) (-1) = .inl (if wyN X g k = 0 then -5 else nI (wyN X g k)) := by
  have g1 := fitN_rng hg
  have k1 := fitN_rng hk
  have hs : wyN X g k ≤ 6 := wayN_le _ _ _ _
  unfold wyA
  rw [if_pos ⟨pair_ok g1.1 g1.2 k1.1 k1.2 hne, by decide⟩, tN_N (by omega), tN_N (by omega), if_pos ⟨hg, hk⟩]
  by_cases q : wyN X g k = 0
  · rw [if_pos (Or.inl q), if_pos q]
  · rw [if_neg (by
      rintro (z | z)
      · exact q z
      · have := Int32.le_iff_toInt_le.mp z
        rw [nI_toInt (by omega)] at this
        simp at this
        omega), if_pos rfl, if_neg q]
theorem wyA_i {X : Nat → Int32} {g k i : Nat} (hg : fitN X g = true) (hk : fitN X k = true) (hne : ¬ g = k) (hi : i < wyN X g k) : wyA X (nI g) (nI k) (nI i) = .inl (nI (wyG X g k (i + 1))) := by
  have g1 := fitN_rng hg
  have k1 := fitN_rng hk
  have hs : wyN X g k ≤ 6 := wayN_le _ _ _ _
  unfold wyA
  rw [if_pos ⟨pair_ok g1.1 g1.2 k1.1 k1.2 hne, Int32.le_iff_toInt_le.mpr (by rw [nI_toInt (by omega)]; simp <;> omega)⟩, tN_N (by omega), tN_N (by omega), if_pos ⟨hg, hk⟩, if_neg (by
      rintro (z | z)
      · omega
      · rw [nI_leI (by omega) (by omega)] at z
        omega), if_neg (nI_nm1 (by omega)), tN_N (by omega)]
theorem smA_0 {X : Nat → Int32} {g k : Nat} (g1 : 1 ≤ g) (g2 : g ≤ 7) (k1 : 1 ≤ k) (k2 : k ≤ 7) (hne : ¬ g = k) : smA X (nI g) (nI k) (nI 0) = .inl (bI (simN X g k)) := by
  unfold smA
  rw [if_pos (pair_ok g1 g2 k1 k2 hne), if_pos rfl, tN_N (by omega), tN_N (by omega)]
theorem smA_1 {X : Nat → Int32} {g k : Nat} (g1 : 1 ≤ g) (g2 : g ≤ 7) (k1 : 1 ≤ k) (k2 : k ≤ 7) (hne : ¬ g = k) : smA X (nI g) (nI k) (nI 1) = .inl (comN X g k) := by
  unfold smA
  rw [if_pos (pair_ok g1 g2 k1 k2 hne), if_neg (by decide), if_pos rfl, tN_N (by omega), tN_N (by omega)]
theorem smA_2 {X : Nat → Int32} {g k : Nat} (g1 : 1 ≤ g) (g2 : g ≤ 7) (k1 : 1 ≤ k) (k2 : k ≤ 7) (hne : ¬ g = k) : smA X (nI g) (nI k) (nI 2) = .inl (comN X k g) := by
  unfold smA
  rw [if_pos (pair_ok g1 g2 k1 k2 hne), if_neg (by decide), if_neg (by decide), if_pos rfl, tN_N (by omega), tN_N (by omega)]
theorem gear_ok {g : Nat} (g1 : 1 ≤ g) (g2 : g ≤ 7) : gearB (nI g) = true := by
  rw [gearB_N (by omega)]
  simp [g1, g2]
theorem clu_ok {c : Nat} (h : c < 5) : clB (nI c) = true := by
  rw [clB_N (by omega)]
  simp [h]
theorem ofA_0 {X : Nat → Int32} {g : Nat} (g1 : 1 ≤ g) (g2 : g ≤ 7) : ofA X (nI g) (nI 0) = .inl (X g) := by
  unfold ofA
  rw [if_pos (gear_ok g1 g2), if_pos rfl, tN_N (by omega)]
theorem ofA_1 {X : Nat → Int32} {g : Nat} (g1 : 1 ≤ g) (g2 : g ≤ 7) : ofA X (nI g) (nI 1) = .inl (bI (fitN X g)) := by
  unfold ofA
  rw [if_pos (gear_ok g1 g2), if_neg (by decide), if_pos rfl, tN_N (by omega)]
theorem ofA_4 {X : Nat → Int32} {g : Nat} (g1 : 1 ≤ g) (g2 : g ≤ 7) : ofA X (nI g) (nI 4) = .inl (nI (cntN (fun q9 => simN X g (q9 + 1)) 7)) := by
  unfold ofA
  rw [if_pos (gear_ok g1 g2), if_neg (by decide), if_neg (by decide), if_neg (by decide), if_neg (by decide), if_pos rfl, tN_N (by omega)]
theorem clA_0 {X : Nat → Int32} {c : Nat} (h : c < 5) : clA X (nI c) (nI 0) = .inl (X (24 + c)) := by
  unfold clA
  rw [if_pos (clu_ok h), if_pos rfl, tN_N (by omega)]
theorem clA_1 {X : Nat → Int32} {c : Nat} (h : c < 5) : clA X (nI c) (nI 1) = .inl (X (29 + c)) := by
  unfold clA
  rw [if_pos (clu_ok h), if_neg (by decide), if_pos rfl, tN_N (by omega)]
theorem clA_2 {X : Nat → Int32} {c : Nat} (h : c < 5) : clA X (nI c) (nI 2) = .inl (X (34 + c)) := by
  unfold clA
  rw [if_pos (clu_ok h), if_neg (by decide), if_neg (by decide), if_pos rfl, tN_N (by omega)]
theorem saA_k {X : Nat → Int32} {k : Nat} (h : k ≤ 11) : saA X (nI k) = .inl (X (39 + k)) := by
  unfold saA
  rw [if_neg (fun q => by have := (nI_eq (a := k) (b := 12) (by omega) (by omega)).mp q; omega), if_pos (by rw [withinB_N (by omega) (by omega) (by omega)]; simp; omega), tN_N (by omega)]
theorem saA_12 (X : Nat → Int32) : saA X (nI 12) = .inl (fbits (fitN X) 7) := if_pos rfl
theorem wsA_0 {X : Nat → Int32} (hX : setsOK X) {g k : Nat} (h : simN X g k = true) : wsA X (nI g) (nI k) (nI 0) = .inl (flS X (comS (X g) (X k))) := by
  obtain ⟨g1, g2, k1, k2⟩ := simN_rng h
  unfold wsA
  rw [if_pos ⟨pair_ok g1 g2 k1 k2 (simN_ne hX g2 h), by decide⟩, tN_N (by omega), tN_N (by omega), if_pos h, if_pos (by decide)]
theorem wsA_1 {X : Nat → Int32} (hX : setsOK X) {g k : Nat} (h : simN X g k = true) : wsA X (nI g) (nI k) (nI 1) = .inl (bdS X (comS (X g) (X k))) := by
  obtain ⟨g1, g2, k1, k2⟩ := simN_rng h
  unfold wsA
  rw [if_pos ⟨pair_ok g1 g2 k1 k2 (simN_ne hX g2 h), by decide⟩, tN_N (by omega), tN_N (by omega), if_pos h, if_neg (by decide)]
theorem ovA_t {X : Nat → Int32} (hX : setsOK X) {g k t : Nat} (h : simN X g k = true) (ht : t ≤ 40) : ovA X (nI g) (nI k) (nI t) = .inl (ovN X (comS (X g) (X k)) t + nI 1000) := by
  obtain ⟨g1, g2, k1, k2⟩ := simN_rng h
  unfold ovA
  rw [if_pos ⟨pair_ok g1 g2 k1 k2 (simN_ne hX g2 h), by rw [withinB_N (by omega) (by omega) (by omega)]; simp [ht]⟩, tN_N (by omega), tN_N (by omega), tN_N (by omega), if_pos h]
theorem wnA_v {X : Nat → Int32} {v : Int32} (h : withinB v (nI 0) (nI 300) = true) : wnA X v = .inl (nI (wntS X (inN X) v)) := by
  unfold wnA
  rw [if_pos h]
