/-! PURE WORDS of the property: late or early, not both; what is learnt in the end -/
def cl1 (n : Nat) : Nat := if 1000 ≤ n then 1000 else n
theorem cl1_le (n : Nat) : cl1 n ≤ 1000 := by
  unfold cl1
  split <;> omega
theorem cl1_mono {a b : Nat} (h : a ≤ b) : cl1 a ≤ cl1 b := by
  unfold cl1
  split <;> split <;> omega
theorem cl1_pos {n : Nat} (h : 1 ≤ n) : 1 ≤ cl1 n := by
  unfold cl1
  split <;> omega
theorem cl1_big {n : Nat} (h : 1000 ≤ n) : cl1 n = 1000 := if_pos h
set_option maxRecDepth 100000 in
theorem shS_pos : ∀ R, R < 13 → ∀ d, d < 41 → 1 ≤ R → shS (nI R) (nI d) = nI (cl1 (1000 * d / R)) := by decide +kernel
set_option maxRecDepth 100000 in
theorem shS_neg : ∀ R, R < 13 → ∀ d, d < 21 → 1 ≤ R → shS (nI R) (-(nI d)) = nI 0 := by decide +kernel
def shA (R t T : Nat) : Nat := cl1 (1000 * (t - T) / R)
theorem shS_sub {R t T : Nat} (h1 : 1 ≤ R) (h2 : R < 13) (ht : t < 41) (hT : T ≤ 20) : shS (nI R) (nI t - nI T) = nI (shA R t T) := by
  unfold shA
  rcases Nat.le_total T t with q | q
  · rw [pk_sub q, shS_pos R h2 (t - T) (by omega) h1]
  · rw [show nI t - nI T = -(nI (T - t)) by first | (rw [← pk_sub q, Int32.neg_sub]; done) | (rw [← pk_sub q, Int32.sub_eq_add_neg, Int32.sub_eq_add_neg, Int32.neg_add, Int32.neg_neg, Int32.add_comm]; done) | (rw [← pk_sub q]; simp [Int32.sub_eq_add_neg, Int32.neg_add, Int32.add_comm]), shS_neg R h2 (T - t) (by omega) h1, show t - T = 0 by omega, Nat.mul_zero, Nat.zero_div]
    rfl
theorem nI_subI {a b : Nat} (ha : a ≤ 1000) (hb : b ≤ 1000) : (nI a - nI b).toInt = (a : Int) - (b : Int) := by
  rw [Int32.toInt_sub, nI_toInt (by omega), nI_toInt (by omega)]
  exact Int.bmod_eq_of_le (by omega) (by omega)
theorem ovN_toInt {X : Nat → Int32} {c t R T f : Nat} (hR : X 49 = nI R) (hT : X (29 + c) = nI T) (hf : X (34 + c) = nI f) (h1 : 1 ≤ R) (h2 : R < 13) (ht : t < 41) (hT2 : T ≤ 20) (hf2 : f ≤ 20) : (ovN X c t).toInt = (shA R t T : Int) - (shA R t f : Int) := by
  unfold ovN
  rw [hR, hT, hf, shS_sub h1 h2 ht hT2, shS_sub h1 h2 ht hf2]
  exact nI_subI (cl1_le _) (cl1_le _)
theorem mnF_le0 (f : Nat → Int32) : ∀ n, (mnF f n).toInt ≤ 0
  | 0 => (by decide : (nI 0).toInt ≤ 0)
  | n + 1 => by
    show (if f n < mnF f n then f n else mnF f n).toInt ≤ 0
    have h := mnF_le0 f n
    by_cases q : f n < mnF f n
    · rw [if_pos q]
      have := Int32.lt_iff_toInt_lt.mp q
      omega
    · rw [if_neg q]
      exact h
theorem mnF_le (f : Nat → Int32) {t : Nat} : ∀ {n : Nat}, t < n → (mnF f n).toInt ≤ (f t).toInt
  | 0, h => absurd h (by omega)
  | n + 1, h => by
    show (if f n < mnF f n then f n else mnF f n).toInt ≤ _
    by_cases q : f n < mnF f n
    · rw [if_pos q]
      have q2 := Int32.lt_iff_toInt_lt.mp q
      rcases Nat.lt_succ_iff_lt_or_eq.mp h with z | z
      · have := mnF_le f (n := n) z
        omega
      · rw [z]
        exact Int.le_refl _
    · rw [if_neg q]
      rcases Nat.lt_succ_iff_lt_or_eq.mp h with z | z
      · exact mnF_le f z
      · rw [z]
        exact Int32.le_iff_toInt_le.mp (Int32.not_lt.mp q)
theorem mnF_in (f : Nat → Int32) : ∀ n, (mnF f n).toInt = 0 ∨ ∃ t, t < n ∧ (mnF f n).toInt = (f t).toInt
  | 0 => Or.inl (by decide : (nI 0).toInt = 0)
  | n + 1 => by
    show (if f n < mnF f n then f n else mnF f n).toInt = 0 ∨ ∃ t, t < n + 1 ∧ (if f n < mnF f n then f n else mnF f n).toInt = (f t).toInt
    by_cases q : f n < mnF f n
    · rw [if_pos q]
      exact Or.inr ⟨n, by omega, rfl⟩
    · rw [if_neg q]
      rcases mnF_in f n with h | ⟨t, h1, h2⟩
      · exact Or.inl h
      · exact Or.inr ⟨t, by omega, h2⟩
theorem mxF_ge0 (f : Nat → Int32) : ∀ n, 0 ≤ (mxF f n).toInt
  | 0 => (by decide : 0 ≤ (nI 0).toInt)
  | n + 1 => by
    show 0 ≤ (if mxF f n < f n then f n else mxF f n).toInt
    have h := mxF_ge0 f n
    by_cases q : mxF f n < f n
    · rw [if_pos q]
      have := Int32.lt_iff_toInt_lt.mp q
      omega
    · rw [if_neg q]
      exact h
theorem mxF_ge (f : Nat → Int32) {t : Nat} : ∀ {n : Nat}, t < n → (f t).toInt ≤ (mxF f n).toInt
  | 0, h => absurd h (by omega)
  | n + 1, h => by
    show _ ≤ (if mxF f n < f n then f n else mxF f n).toInt
    by_cases q : mxF f n < f n
    · rw [if_pos q]
      have q2 := Int32.lt_iff_toInt_lt.mp q
      rcases Nat.lt_succ_iff_lt_or_eq.mp h with z | z
      · have := mxF_ge f (n := n) z
        omega
      · rw [z]
        exact Int.le_refl _
    · rw [if_neg q]
      rcases Nat.lt_succ_iff_lt_or_eq.mp h with z | z
      · exact mxF_ge f z
      · rw [z]
        exact Int32.le_iff_toInt_le.mp (Int32.not_lt.mp q)
theorem mxF_in (f : Nat → Int32) : ∀ n, (mxF f n).toInt = 0 ∨ ∃ t, t < n ∧ (mxF f n).toInt = (f t).toInt
  | 0 => Or.inl (by decide : (nI 0).toInt = 0)
  | n + 1 => by
    show (if mxF f n < f n then f n else mxF f n).toInt = 0 ∨ ∃ t, t < n + 1 ∧ (if mxF f n < f n then f n else mxF f n).toInt = (f t).toInt
    by_cases q : mxF f n < f n
    · rw [if_pos q]
      exact Or.inr ⟨n, by omega, rfl⟩
    · rw [if_neg q]
      rcases mxF_in f n with h | ⟨t, h1, h2⟩
      · exact Or.inl h
      · exact Or.inr ⟨t, by omega, h2⟩
theorem shA_mono {R t T f : Nat} (h : f ≤ T) : shA R t T ≤ shA R t f := cl1_mono (Nat.div_le_div_right (Nat.mul_le_mul_left 1000 (by omega)))
theorem shA_0 {R t T : Nat} (h : t ≤ T) : shA R t T = 0 := by
  unfold shA
  rw [show t - T = 0 by omega, Nat.mul_zero, Nat.zero_div]
  rfl
theorem shA_pos {R t T : Nat} (h1 : 1 ≤ R) (h2 : R < 13) (h : T < t) : 1 ≤ shA R t T := cl1_pos ((Nat.le_div_iff_mul_le (by omega)).mpr (by omega))
theorem shA_big {R t T : Nat} (h1 : 1 ≤ R) (h2 : R < 13) (h : T + 20 ≤ t) : shA R t T = 1000 := cl1_big ((Nat.le_div_iff_mul_le (by omega)).mpr (by omega))
theorem fl_facts {X : Nat → Int32} {c R T f : Nat} (hR : X 49 = nI R) (hT : X (29 + c) = nI T) (hf : X (34 + c) = nI f) (h1 : 1 ≤ R) (h2 : R < 13) (hT2 : T ≤ 20) (hf2 : f ≤ 20) :
    ∃ p q : Nat, flS X c = nI p ∧ bdS X c = nI q ∧ p ≤ 1000 ∧ q ≤ 1000 ∧ (f < T → 0 < p ∧ q = 0) ∧ (T < f → p = 0 ∧ 0 < q) ∧ (T = f → p = 0 ∧ q = 0) := by
  have ho : ∀ t, t < 41 → (ovN X c t).toInt = (shA R t T : Int) - (shA R t f : Int) := fun t ht => ovN_toInt hR hT hf h1 h2 ht hT2 hf2
  have hb : ∀ t T, shA R t T ≤ 1000 := fun t T => cl1_le _
  have m0 := mnF_le0 (ovN X c) 41
  have x0 := mxF_ge0 (ovN X c) 41
  have m1 : -1000 ≤ (mnF (ovN X c) 41).toInt := by
    rcases mnF_in (ovN X c) 41 with z | ⟨t, t1, z⟩
    · omega
    · have a1 := hb t T
      have a2 := hb t f
      have := ho t t1
      omega
  have x1 : (mxF (ovN X c) 41).toInt ≤ 1000 := by
    rcases mxF_in (ovN X c) 41 with z | ⟨t, t1, z⟩
    · omega
    · have a1 := hb t T
      have a2 := hb t f
      have := ho t t1
      omega
  refine ⟨(-(mnF (ovN X c) 41).toInt).toNat, ((mxF (ovN X c) 41).toInt).toNat, ?_, ?_, by omega, by omega, fun q => ?_, fun q => ?_, fun q => ?_⟩
  · refine Int32.toInt_inj.mp ?_
    unfold flS
    rw [nI_toInt (by omega), Int32.toInt_neg]
    have : (-(mnF (ovN X c) 41).toInt).bmod (2 ^ 32) = -(mnF (ovN X c) 41).toInt := Int.bmod_eq_of_le (by omega) (by omega)
    rw [this]
    omega
  · refine Int32.toInt_inj.mp ?_
    unfold bdS
    rw [nI_toInt (by omega)]
    omega
  · have e1 := ho T (by omega)
    have e2 := shA_0 (R := R) (Nat.le_refl T)
    have e3 := shA_pos h1 h2 q
    have e4 := mnF_le (ovN X c) (t := T) (n := 41) (by omega)
    refine ⟨by omega, ?_⟩
    rcases mxF_in (ovN X c) 41 with z | ⟨t, t1, z⟩
    · omega
    · have a1 := ho t t1
      have a2 := shA_mono (R := R) (t := t) (Nat.le_of_lt q)
      omega
  · have e1 := ho f (by omega)
    have e2 := shA_0 (R := R) (Nat.le_refl f)
    have e3 := shA_pos h1 h2 q
    have e4 := mxF_ge (ovN X c) (t := f) (n := 41) (by omega)
    refine ⟨?_, by omega⟩
    rcases mnF_in (ovN X c) 41 with z | ⟨t, t1, z⟩
    · omega
    · have a1 := ho t t1
      have a2 := shA_mono (R := R) (t := t) (Nat.le_of_lt q)
      omega
  · subst q
    constructor
    · rcases mnF_in (ovN X c) 41 with z | ⟨t, t1, z⟩
      · omega
      · have a1 := ho t t1
        omega
    · rcases mxF_in (ovN X c) 41 with z | ⟨t, t1, z⟩
      · omega
      · have a1 := ho t t1
        omega
/-- at the first tick, and at the last: nothing over -/
theorem ov_ends {X : Nat → Int32} {c R T f : Nat} (hR : X 49 = nI R) (hT : X (29 + c) = nI T) (hf : X (34 + c) = nI f) (h1 : 1 ≤ R) (h2 : R < 13) (hT2 : T ≤ 20) (hf2 : f ≤ 20) : ovN X c 0 + nI 1000 = nI 1000 ∧ ovN X c 40 + nI 1000 = nI 1000 := by
  unfold ovN
  rw [hR, hT, hf, shS_sub h1 h2 (by omega) hT2, shS_sub h1 h2 (by omega) hf2, shS_sub h1 h2 (by omega) hT2, shS_sub h1 h2 (by omega) hf2]
  rw [shA_0 (by omega), shA_0 (by omega), shA_big h1 h2 (by omega), shA_big h1 h2 (by omega)]
  exact ⟨by decide, by decide⟩
/-! what is learnt: FILL alone counts -/
def rowF (R T f : Nat) : Nat → Int32 := fun j => if j = 49 then nI R else if j = 29 then nI T else nI f
def pN (R T f : Nat) : Nat := tN (flS (rowF R T f) 0)
def qN (R T f : Nat) : Nat := tN (bdS (rowF R T f) 0)
theorem ovN_row {X : Nat → Int32} {c R T f : Nat} (hR : X 49 = nI R) (hT : X (29 + c) = nI T) (hf : X (34 + c) = nI f) : ovN X c = ovN (rowF R T f) 0 := by
  funext t
  unfold ovN
  rw [hR, hT, hf]
  rfl
theorem fl_p {X : Nat → Int32} {c R T f : Nat} (hR : X 49 = nI R) (hT : X (29 + c) = nI T) (hf : X (34 + c) = nI f) (h1 : 1 ≤ R) (h2 : R < 13) (hT2 : T ≤ 20) (hf2 : f ≤ 20) : flS X c = nI (pN R T f) ∧ bdS X c = nI (qN R T f) := by
  obtain ⟨p, q, a1, a2, a3, a4, -⟩ := fl_facts hR hT hf h1 h2 hT2 hf2
  have e1 : flS (rowF R T f) 0 = flS X c := by
    unfold flS
    rw [ovN_row hR hT hf]
  have e2 : bdS (rowF R T f) 0 = bdS X c := by
    unfold bdS
    rw [ovN_row hR hT hf]
  unfold pN qN
  rw [e1, e2, a1, a2, tN_N (by omega), tN_N (by omega)]
  exact ⟨rfl, rfl⟩
theorem pq_facts {R T f : Nat} (h1 : 1 ≤ R) (h2 : R < 13) (hT2 : T ≤ 20) (hf2 : f ≤ 20) : pN R T f ≤ 1000 ∧ qN R T f ≤ 1000 ∧ (f < T → 0 < pN R T f ∧ qN R T f = 0) ∧ (T < f → pN R T f = 0 ∧ 0 < qN R T f) ∧ (T = f → pN R T f = 0 ∧ qN R T f = 0) := by
  obtain ⟨p, q, a1, a2, a3, a4, a5⟩ := fl_facts (X := rowF R T f) (c := 0) (R := R) (T := T) (f := f) rfl rfl rfl h1 h2 hT2 hf2
  have e1 : pN R T f = p := by
    unfold pN
    rw [a1, tN_N (by omega)]
  have e2 : qN R T f = q := by
    unfold qN
    rw [a2, tN_N (by omega)]
  rw [e1, e2]
  exact ⟨a3, a4, a5⟩
def stepF (R T lim f : Nat) : Nat := if lim < pN R T f then (if f + 1 < 20 then f + 1 else 20) else if lim < qN R T f then (if 1 < f - 1 then f - 1 else 1) else f
def itF (R T lim : Nat) : Nat → Nat → Nat
  | 0, f => f
  | n + 1, f => stepF R T lim (itF R T lim n f)
def goodF (R T lim f : Nat) : Prop := pN R T f ≤ lim ∧ qN R T f ≤ lim
theorem itF_ok {R T lim f : Nat} (h1 : 1 ≤ R) (h2 : R < 13) (hT1 : 1 ≤ T) (hT2 : T ≤ 20) (hf1 : 1 ≤ f) (hf2 : f ≤ 20) : ∀ n, (1 ≤ itF R T lim n f ∧ itF R T lim n f ≤ 20) ∧ (goodF R T lim (itF R T lim n f) ∨ (T - itF R T lim n f) + (itF R T lim n f - T) + n ≤ (T - f) + (f - T))
  | 0 => ⟨⟨hf1, hf2⟩, Or.inr (Nat.le_refl _)⟩
  | n + 1 => by
    obtain ⟨⟨b1, b2⟩, h⟩ := itF_ok h1 h2 hT1 hT2 hf1 hf2 n
    show (1 ≤ stepF R T lim (itF R T lim n f) ∧ stepF R T lim (itF R T lim n f) ≤ 20) ∧ (goodF R T lim (stepF R T lim (itF R T lim n f)) ∨ (T - stepF R T lim (itF R T lim n f)) + (stepF R T lim (itF R T lim n f) - T) + (n + 1) ≤ (T - f) + (f - T))
    generalize itF R T lim n f = g at b1 b2 h
    obtain ⟨-, -, c1, c2, c3⟩ := pq_facts (T := T) (f := g) h1 h2 hT2 b2
    by_cases k1 : lim < pN R T g
    · have hg : g < T := by
        rcases Nat.lt_trichotomy g T with z | z | z
        · exact z
        · have := c3 z.symm
          omega
        · have := c2 z
          omega
      have e : stepF R T lim g = g + 1 := by
        unfold stepF
        rw [if_pos k1]
        split <;> omega
      rw [e]
      refine ⟨by omega, Or.inr ?_⟩
      rcases h with ⟨z1, z2⟩ | z
      · omega
      · omega
    · by_cases k2 : lim < qN R T g
      · have hg : T < g := by
          rcases Nat.lt_trichotomy g T with z | z | z
          · have := c1 z
            omega
          · have := c3 z.symm
            omega
          · exact z
        have e : stepF R T lim g = g - 1 := by
          unfold stepF
          rw [if_neg k1, if_pos k2]
          split <;> omega
        rw [e]
        refine ⟨by omega, Or.inr ?_⟩
        rcases h with ⟨z1, z2⟩ | z
        · omega
        · omega
      · have e : stepF R T lim g = g := by
          unfold stepF
          rw [if_neg k1, if_neg k2]
        rw [e]
        exact ⟨⟨b1, b2⟩, Or.inl ⟨by omega, by omega⟩⟩
theorem itF_good {R T lim : Nat} (h1 : 1 ≤ R) (h2 : R < 13) (hT1 : 1 ≤ T) (hT2 : T ≤ 20) : goodF R T lim (itF R T lim 20 8) := by
  rcases (itF_ok (lim := lim) h1 h2 hT1 hT2 (f := 8) (by omega) (by omega) 20).2 with z | z
  · exact z
  · omega
theorem lrnS_fill {X : Nat → Int32} {c R T f lim : Nat} (hc : c < 5) (hR : X 49 = nI R) (hT : X (29 + c) = nI T) (hf : X (34 + c) = nI f) (hl : X 50 = nI lim) (h1 : 1 ≤ R) (h2 : R < 13) (hT2 : T ≤ 20) (hf1 : 1 ≤ f) (hf2 : f ≤ 20) (hl2 : lim ≤ 999) : lrnS X c (34 + c) = nI (stepF R T lim f) := by
  obtain ⟨p1, p2, -⟩ := pq_facts (R := R) (T := T) (f := f) h1 h2 hT2 hf2
  have g : ∀ j, j ≠ 43 → upd X 43 (X 43 + nI 1) j = X j := fun j hj => upd_ne hj
  obtain ⟨e1, e2⟩ := fl_p (X := upd X 43 (X 43 + nI 1)) (c := c) ((g 49 (by omega)).trans hR) ((g (29 + c) (by omega)).trans hT) ((g (34 + c) (by omega)).trans hf) h1 h2 hT2 hf2
  unfold lrnS lrnA
  rw [e1, e2, g 50 (by omega), hl]
  unfold stepF
  by_cases k1 : lim < pN R T f
  · rw [if_pos k1, if_pos (nI_lt k1 (by omega))]
    unfold lrnUp
    rw [upd_same, upd_ne (by omega), upd_ne (by omega), hf, nI_add]
    by_cases k : f + 1 < 20
    · rw [if_pos k, if_pos (nI_lt k (by omega))]
    · rw [if_neg k, if_neg (fun z => k ((nI_ltI (by omega) (by omega)).mp z))]
  · rw [if_neg k1, if_neg (fun z => k1 ((nI_ltI (by omega) (by omega)).mp z))]
    by_cases k2 : lim < qN R T f
    · rw [if_pos k2, if_pos (nI_lt k2 (by omega))]
      unfold lrnDn
      rw [upd_same, upd_ne (by omega), upd_ne (by omega), hf, pk_sub (by omega)]
      by_cases k : 1 < f - 1
      · rw [if_pos k, if_pos (nI_lt k (by omega))]
      · rw [if_neg k, if_neg (fun z => k ((nI_ltI (by omega) (by omega)).mp z))]
    · rw [if_neg k2, if_neg (fun z => k2 ((nI_ltI (by omega) (by omega)).mp z)), upd_ne (by omega), hf]
