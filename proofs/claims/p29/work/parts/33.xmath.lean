/-! THE OBJECT as the law looks at it: row X, refused F, states K 0 .. nn - 1, M hunts at most; what each call comes to -/
def absP (σ : St) (X F : Nat → Int32) (K : Nat → Nat → Int32) (nn M : Nat) : Prop := absC σ X F 0 (-1) K nn (fun _ => 0) 0 ∧ absI X K nn (fun _ => 0) 0 ∧ hnt M X ∧ ∀ i, i < nn → hnt M (K i)
theorem psh_all {P : (Nat → Int32) → Prop} {X : Nat → Int32} {K : Nat → Nat → Int32} {nn : Nat} (hX : P X) (hK : ∀ i, i < nn → P (K i)) (hnn : nn ≤ 5) : ∀ i, i < min (nn + 1) 5 → P (psh K nn X i) := by
  intro i hi
  unfold psh
  split
  · split
    · exact hX
    · exact hK _ (by omega)
  · split
    · exact hX
    · exact hK _ (by omega)
/-- what a call that changes comes to -/
def chP (σ' : St) (X F : Nat → Int32) (K : Nat → Nat → Int32) (nn M o : Nat) (a b r : Int32) : Prop :=
  (0 ≤ oR X o a b ∧ r = oR X o a b ∧ absP σ' (oX X o a b) F (psh K nn X) (min (nn + 1) 5) (M + 60)) ∨ (∃ kk, kk < 2 ∧ oR X o a b = refV kk ∧ r = refV kk ∧ absP σ' X (cntF F kk) K nn M)
theorem refV_neg {kk : Nat} (h : kk < 2) : ¬ 0 ≤ refV kk := by
  rcases (show kk = 0 ∨ kk = 1 by omega) with rfl | rfl <;> decide
theorem chP_of {σ σ' : St} {X F : Nat → Int32} {K : Nat → Nat → Int32} {nn M o : Nat} {a b r : Int32} (h : absP σ X F K nn M) (ho : o < 10)
    (hc : (0 ≤ oR X o a b ∧ r = oR X o a b ∧ absC σ' (oX X o a b) F 0 (-1) (psh K nn X) (min (nn + 1) 5) (fun _ => 0) 0) ∨ (∃ kk, kk < 2 ∧ oR X o a b = refV kk ∧ r = refV kk ∧ absC σ' X (cntF F kk) 0 (-1) K nn (fun _ => 0) 0)) : chP σ' X F K nn M o a b r := by
  obtain ⟨h1, ⟨i1, i2, i3, i4, i5⟩, h3, h4⟩ := h
  rcases hc with ⟨c1, c2, c3⟩ | ⟨kk, c1, c2, c3, c4⟩
  · have hY : rowOK (oX X o a b) := by
      rcases ord_all i1 ho a b with q | ⟨q, -⟩
      · exact q.2
      · rcases q with q | q <;> rw [q] at c1 <;> exact absurd c1 (by decide)
    refine Or.inl ⟨c1, c2, c3, ⟨hY, psh_all (P := rowOK) i1 i2 i3, by omega, i4, i5⟩, hnt_ord i1 h3 ho a b, psh_all (P := hnt (M + 60)) (hnt_le h3 (by omega)) (fun i hi => hnt_le (h4 i hi) (by omega)) i3⟩
  · exact Or.inr ⟨kk, c1, c2, c3, c4, ⟨i1, i2, i3, i4, i5⟩, h3, h4⟩
theorem chP_ok {σ' : St} {X F : Nat → Int32} {K : Nat → Nat → Int32} {nn M o : Nat} {a b r v : Int32} {Y : Nat → Int32} (h : chP σ' X F K nn M o a b r) (e : oR X o a b = v) (e0 : 0 ≤ v) (eY : oX X o a b = Y) : r = v ∧ absP σ' Y F (psh K nn X) (min (nn + 1) 5) (M + 60) := by
  subst eY
  subst e
  rcases h with ⟨c1, c2, c3⟩ | ⟨kk, c1, c2, c3, c4⟩
  · exact ⟨c2, c3⟩
  · rw [c2] at e0
    exact absurd e0 (refV_neg c1)
theorem chP_bad {σ' : St} {X F : Nat → Int32} {K : Nat → Nat → Int32} {nn M o : Nat} {a b r : Int32} (h : chP σ' X F K nn M o a b r) (e : oR X o a b = -2) : r = -2 ∧ absP σ' X (cntF F 0) K nn M := by
  rcases h with ⟨c1, c2, c3⟩ | ⟨kk, c1, c2, c3, c4⟩
  · rw [e] at c1
    exact absurd c1 (by decide)
  · rcases (show kk = 0 ∨ kk = 1 by omega) with rfl | rfl
    · exact ⟨c3, c4⟩
    · rw [e] at c2
      exact absurd c2 (by decide)
/-! the law's own words -/
def lowI (v : Int32) (n : Nat) : Int32 := (v &&& 2147483647) - (v &&& 2147483647) / nI n * nI n
theorem lowI_rng (v : Int32) {n : Nat} (hn : 0 < n) (hn2 : n < 2 ^ 31) : ∃ j, j < n ∧ lowI v n = nI j := by
  obtain ⟨a, ha, e⟩ := pk_andE v (m := 2147483647) 31 (by decide)
  unfold lowI
  rw [e, pk_rem ha hn hn2]
  exact ⟨a % n, Nat.mod_lt _ hn, rfl⟩
theorem lowI_within (v : Int32) {n : Nat} (hn : 0 < n) (hn2 : n ≤ 300) : withinB (lowI v n) (nI 0) (nI 300) = true := by
  obtain ⟨j, hj, e⟩ := lowI_rng v hn (by omega)
  rw [e, withinB_N (by omega) (by omega) (by omega)]
  simp
  omega
/-- all that can be asked of the object, as one number -/
def wfO (X : Nat → Int32) : Nat → Int32 := fun k => ansV (ofA X (nI (1 + k / 5)) (nI (k % 5)))
def wfC (X : Nat → Int32) : Nat → Int32 := fun k => ansV (clA X (nI (k / 4)) (nI (k % 4)))
def wfS (X : Nat → Int32) : Nat → Int32 := fun k => ansV (saA X (nI k))
def whF (X : Nat → Int32) : Int64 := dgF (wfS X) 13 (dgF (wfC X) 20 (dgF (wfO X) 35 41))
/-- how often refused, n times more -/
def cF (F : Nat → Int32) : Nat → Nat → Int32
  | 0 => F
  | n + 1 => cntF (cF F n) 0
theorem cF_0 (F : Nat → Int32) : ∀ n, cF F n 0 = F 0 + nI n
  | 0 => by
    show F 0 = F 0 + nI 0
    rw [nI_0, Int32.add_zero]
  | n + 1 => by
    show cntF (cF F n) 0 0 = _
    unfold cntF
    rw [upd_same, cF_0 F n, Int32.add_assoc, nI_add]
theorem off_le {T f : Nat} (hT : T ≤ 20) (hf : f ≤ 20) : (nI T - nI f ≤ 0) ↔ T ≤ f := by
  rw [Int32.le_iff_toInt_le, nI_subI (by omega) (by omega)]
  simp
  omega
theorem off_ge {T f : Nat} (hT : T ≤ 20) (hf : f ≤ 20) : (0 ≤ nI T - nI f) ↔ f ≤ T := by
  rw [Int32.le_iff_toInt_le, nI_subI (by omega) (by omega)]
  simp <;> omega
theorem fit_okc {X : Nat → Int32} {g c : Nat} (h : fitN X g = true) (hc : c < 5) : (sbit (X g) c = nI 1 → ¬ X (24 + c) = nI 1) ∧ (¬ sbit (X g) c = nI 1 → ¬ X (24 + c) = nI 2) := by
  have g1 := fitN_rng h
  rw [fitN_in g1.1 g1.2] at h
  unfold fitS at h
  rw [Bool.and_eq_true] at h
  have h1 := allB_t.mp h.2 c hc
  unfold okB at h1
  constructor
  · intro q q2
    rw [if_pos q, show stC X c = X (24 + c) from rfl, q2] at h1
    exact absurd h1 (by decide)
  · intro q q2
    rw [if_neg q, show stC X c = X (24 + c) from rfl, q2] at h1
    exact absurd h1 (by decide)
theorem wyA_one {X : Nat → Int32} {g k : Nat} (h : simN X g k = true) (hne : ¬ g = k) : wyA X (nI g) (nI k) (-1) = .inl (nI 1) := by
  obtain ⟨h1, h2, -⟩ := simN_fit h
  rw [wyA_m1 h1 h2 hne, wy_one h hne, if_neg (by decide)]
theorem wyA_fst {X : Nat → Int32} {g k : Nat} (h : simN X g k = true) (hne : ¬ g = k) : wyA X (nI g) (nI k) (nI 0) = .inl (nI k) := by
  obtain ⟨h1, h2, -⟩ := simN_fit h
  rw [wyA_i h1 h2 hne (by rw [wy_one h hne]; decide), wy_two h hne]
theorem wyA_none {X : Nat → Int32} {g k : Nat} (hg : fitN X g = true) (hk : fitN X k = true) (hne : ¬ g = k) (h0 : wyN X g k = 0) : wyA X (nI g) (nI k) (-1) = .inl (-5) := by
  rw [wyA_m1 hg hk hne, if_pos h0]
theorem wyA_some {X : Nat → Int32} {g k : Nat} (hg : fitN X g = true) (hk : fitN X k = true) (hne : ¬ g = k) (h0 : ¬ wyN X g k = 0) : wyA X (nI g) (nI k) (-1) = .inl (nI (wyN X g k)) := by
  rw [wyA_m1 hg hk hne, if_neg h0]
theorem inN_of {X : Nat → Int32} {i : Nat} (h : X 39 = nI i) (hi : i ≤ 7) : inN X = i := by
  unfold inN
  rw [h, nI_clamp (by omega)]
theorem drv_tk {X : Nat → Int32} {v : Int32} (hv : withinB v (nI 0) (nI 300) = true) {n : Nat} (hn : 1 ≤ n) (hn2 : n ≤ 60) : oR X 7 v (nI n) = nI (inN (tksS X v n)) ∧ oX X 7 v (nI n) = tksS X v n := by
  have ht : tkB v (nI n) = true := by
    unfold tkB
    rw [hv, withinB_N (by omega) (by omega) (by omega)]
    simp [hn, hn2]
  show drvR X v (nI n) = _ ∧ drvX X v (nI n) = _
  unfold drvR drvX
  rw [if_pos ht, if_pos ht, tN_N (by omega)]
  exact ⟨rfl, rfl⟩
/-! what is refused -/
theorem ior_out {x : Int32} {n : Nat} (m : Int32) (hm : x ||| m < 0 ∨ nI n < x ||| m) : withinB (x ||| m) (nI 0) (nI n) = false := by
  unfold withinB
  rcases hm with q | q
  · rw [show decide (x ||| m < nI 0) = true from decide_eq_true q]
    rfl
  · rw [show decide (nI n < x ||| m) = true from decide_eq_true q, Bool.not_true, Bool.and_false]
theorem ior_ge (x : Int32) {j : Nat} (hj : j < 31) : x ||| nI (2 ^ j) < 0 ∨ nI (2 ^ j) ≤ x ||| nI (2 ^ j) := by
  by_cases h : x ||| nI (2 ^ j) < 0
  · exact Or.inl h
  · obtain ⟨a, ha, e⟩ := nI_of h
    rw [e]
    have hp : 2 ^ j < 2 ^ 31 := Nat.pow_lt_pow_right (by decide) hj
    refine Or.inr ((nI_leI hp ha).mpr ?_)
    have hb : a.testBit j = true := by
      have e2 : (x ||| nI (2 ^ j)).toBitVec.getLsbD j = true := by
        rw [Int32.toBitVec_or, BitVec.getLsbD_or]
        have : (nI (2 ^ j)).toBitVec.getLsbD j = true := by
          have : (nI (2 ^ j)).toBitVec = BitVec.ofNat 32 (2 ^ j) := rfl
          rw [this, BitVec.getLsbD_ofNat]
          simp [Nat.testBit_two_pow]
          omega
        rw [this, Bool.or_true]
      rw [e] at e2
      have e3 : (nI a).toBitVec = BitVec.ofNat 32 a := rfl
      rw [e3, BitVec.getLsbD_ofNat, Bool.and_eq_true] at e2
      exact e2.2
    rcases Nat.lt_or_ge a (2 ^ j) with z | z
    · rw [Nat.testBit_lt_two_pow z] at hb
      cases hb
    · exact z
theorem ior_wout (x : Int32) {j n : Nat} (hj : j < 31) (hn : n < 2 ^ j) : withinB (x ||| nI (2 ^ j)) (nI 0) (nI n) = false := by
  have hp : 2 ^ j < 2 ^ 31 := Nat.pow_lt_pow_right (by decide) hj
  refine ior_out _ ?_
  rcases ior_ge x hj with q | q
  · exact Or.inl q
  · exact Or.inr (Int32.lt_of_lt_of_le (nI_lt hn hp) q)
theorem ior_ne (x : Int32) {j n : Nat} (hj : j < 31) (hn : n < 2 ^ j) : ¬ x ||| nI (2 ^ j) = nI n := by
  have hp : 2 ^ j < 2 ^ 31 := Nat.pow_lt_pow_right (by decide) hj
  intro h
  rcases ior_ge x hj with q | q
  · rw [h] at q
    exact absurd q (nI_pos (by omega))
  · rw [h, nI_leI hp (by omega)] at q
    omega
theorem bad_gear1 (X : Nat → Int32) : oR X 0 (nI 0) (nI 0) = -2 := by
  show setR X (nI 0) (nI 0) = -2
  unfold setR
  rw [if_neg (by decide)]
theorem bad_gear2 (X : Nat → Int32) (x : Int32) : oR X 0 (nI 1) (x ||| nI 32) = -2 := by
  show setR X (nI 1) (x ||| nI 32) = -2
  unfold setR setB
  rw [ior_wout x (j := 5) (n := 31) (by decide) (by decide), Bool.and_false, if_neg (by decide)]
theorem bad_fails1 (X : Nat → Int32) : oR X 1 (nI 5) (nI 0) = -2 := rfl
theorem bad_fails2 (X : Nat → Int32) (x : Int32) : oR X 1 (nI 0) (x ||| nI 4) = -2 := by
  show parR (clB (nI 0) && withinB (x ||| nI 4) (nI 0) (nI 2)) X _ = -2
  unfold parR
  rw [ior_wout x (j := 2) (n := 2) (by decide) (by decide), Bool.and_false, if_neg (by decide)]
theorem bad_trues (X : Nat → Int32) : oR X 2 (nI 0) (nI 0) = -2 := rfl
theorem bad_up (X : Nat → Int32) : oR X 3 (nI 8) (nI 0) = -2 := rfl
theorem bad_down (X : Nat → Int32) : oR X 4 (nI 1) (nI 301) = -2 := rfl
theorem bad_slope (X : Nat → Int32) : oR X 5 (-4) (nI 0) = -2 := rfl
theorem bad_driver (X : Nat → Int32) (y : Int32) : oR X 6 (y ||| nI 4) (nI 0) = -2 := by
  show parR (withinB (y ||| nI 4) (nI 0) (nI 3)) X _ = -2
  unfold parR
  rw [ior_wout y (j := 2) (n := 3) (by decide) (by decide), if_neg (by decide)]
theorem bad_sets1 (X : Nat → Int32) : oR X 8 (nI 0) (nI 0) = -2 := rfl
theorem bad_sets2 (X : Nat → Int32) (x : Int32) : oR X 8 (x ||| nI 2) (nI 1) = -2 := by
  show rulR X (x ||| nI 2) (nI 1) = -2
  unfold rulR parR
  rw [if_neg (show ¬ x ||| nI 2 = 0 from ior_ne x (j := 1) (n := 0) (by decide) (by decide)), decide_eq_false (ior_ne x (j := 1) (n := 1) (by decide) (by decide)), Bool.false_and, if_neg (by decide)]
theorem bad_of (X : Nat → Int32) : ofA X (nI 0) (nI 0) = .inr 0 := rfl
theorem bad_clutch (X : Nat → Int32) : clA X (-1) (nI 0) = .inr 0 := rfl
theorem bad_ties (X : Nat → Int32) (y : Int32) : tiA X (y ||| nI 32) = .inr 0 := by
  unfold tiA
  rw [ior_wout y (j := 5) (n := 31) (by decide) (by decide), if_neg (by decide)]
theorem bad_simple (X : Nat → Int32) : smA X (nI 1) (nI 1) (nI 0) = .inr 0 := rfl
theorem bad_way (X : Nat → Int32) : wyA X (nI 1) (nI 2) (-2) = .inr 0 := by
  unfold wyA
  rw [if_neg (fun q => absurd q.2 (by decide))]
theorem bad_over (X : Nat → Int32) : ovA X (nI 1) (nI 2) (nI 41) = .inr 0 := by
  unfold ovA
  rw [if_neg (fun q => absurd q.2 (by decide))]
theorem bad_worst (X : Nat → Int32) : wsA X (nI 1) (nI 2) (nI 2) = .inr 0 := by
  unfold wsA
  rw [if_neg (fun q => absurd q.2 (by decide))]
theorem bad_want (X : Nat → Int32) : wnA X (-1) = .inr 0 := rfl
theorem bad_drives (X : Nat → Int32) : oR X 7 (nI 0) (nI 0) = -2 := rfl
theorem bad_puts (X : Nat → Int32) : oR X 9 (nI 8) (nI 0) = -2 := rfl
theorem bad_state (X : Nat → Int32) : saA X (nI 13) = .inr 0 := rfl
theorem bad_why : whA 0 (-1) (nI 2) = .inr 0 := rfl
theorem bad_type : tyA 0 (-1) = .inr 0 := rfl
theorem bad_told (F : Nat → Int32) (nn : Nat) (y : Int32) : toA F nn 0 (y ||| nI 8) = .inr 0 := by
  unfold toA
  rw [if_neg (ior_ne y (j := 3) (n := 0) (by decide) (by decide)), if_neg (ior_ne y (j := 3) (n := 1) (by decide) (by decide)), if_neg (ior_ne y (j := 3) (n := 2) (by decide) (by decide)), if_neg (ior_ne y (j := 3) (n := 3) (by decide) (by decide)), if_neg (ior_ne y (j := 3) (n := 4) (by decide) (by decide))]
theorem cnt_at {p : Nat → Bool} {k : Nat} (h : 1 ≤ k) : cntN p k = cntN p (k - 1) + (if p (k - 1) = true then 1 else 0) := by
  obtain ⟨j, rfl⟩ : ∃ j, k = j + 1 := ⟨k - 1, by omega⟩
  rfl
