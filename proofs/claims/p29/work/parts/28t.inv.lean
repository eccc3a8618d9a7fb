/-! PURE WORDS: what an order keeps -/
def rowW (X : Nat → Int32) : Prop :=
  setsOK X ∧ (∀ c, c < 5 → ∃ a, a ≤ 2 ∧ X (24 + c) = nI a) ∧ (∀ c, c < 5 → ∃ a, 1 ≤ a ∧ a ≤ 20 ∧ X (29 + c) = nI a) ∧ (∀ c, c < 5 → ∃ a, 1 ≤ a ∧ a ≤ 20 ∧ X (34 + c) = nI a) ∧
  (∀ g, g < 16 → ∃ a, a ≤ 300 ∧ X (8 + g) = nI a) ∧ (∃ i, i ≤ 7 ∧ X 39 = nI i) ∧ (∃ a, a ≤ 10 ∧ X 41 = nI a) ∧ (∃ a, a ≤ 6 ∧ X 47 = nI a) ∧ (∃ a, a ≤ 3 ∧ X 48 = nI a) ∧ (∃ a, 1 ≤ a ∧ a ≤ 12 ∧ X 49 = nI a) ∧ (∃ a, a ≤ 999 ∧ X 50 = nI a)
theorem rowW_of {X : Nat → Int32} (h : rowOK X) : rowW X := by
  obtain ⟨h1, h2, h3, h4, h5, ⟨i, q1, q2, -⟩, h7⟩ := h
  exact ⟨h1, h2, h3, h4, h5, ⟨i, q1, q2⟩, h7⟩
theorem dropS_ok {X : Nat → Int32} (h : rowW X) : rowOK (dropS X) := by
  obtain ⟨h1, h2, h3, h4, h5, ⟨i, q1, q2⟩, h7, h8, h9, h10, h11⟩ := h
  unfold dropS
  by_cases q : fitI X (X 39) = true
  · rw [if_pos q]
    rw [q2, fitI_N (by omega)] at q
    exact ⟨h1, h2, h3, h4, h5, ⟨i, q1, q2, Or.inr q⟩, h7, h8, h9, h10, h11⟩
  · rw [if_neg q]
    refine ⟨fun g hg => ?_, fun c hc => ?_, fun c hc => ?_, fun c hc => ?_, fun g hg => ?_, ⟨0, by omega, upd_same _ _ _, Or.inl rfl⟩, ?_, ?_, ?_, ?_, ?_⟩
    · rw [upd_ne (by omega)]; exact h1 g hg
    · rw [upd_ne (by omega)]; exact h2 c hc
    · rw [upd_ne (by omega)]; exact h3 c hc
    · rw [upd_ne (by omega)]; exact h4 c hc
    · rw [upd_ne (by omega)]; exact h5 g hg
    · rw [upd_ne (by omega)]; exact h7
    · rw [upd_ne (by omega)]; exact h8
    · rw [upd_ne (by omega)]; exact h9
    · rw [upd_ne (by omega)]; exact h10
    · rw [upd_ne (by omega)]; exact h11
theorem dropS_id {X : Nat → Int32} (h : rowOK X) : dropS X = X := by
  obtain ⟨i, q1, q2, q3⟩ := h.2.2.2.2.2.1
  unfold dropS
  by_cases q : fitI X (X 39) = true
  · rw [if_pos q]
  · rw [if_neg q]
    rw [q2, fitI_N (by omega)] at q
    have : i = 0 := q3.resolve_right q
    rw [this] at q2
    rw [← q2, upd_self]
theorem rowW_set {X : Nat → Int32} (h : rowW X) {j a : Nat} (h1j : 1 ≤ j) (hj : j ≤ 7) (ha : a < 32) : rowW (upd X j (nI a)) := by
  obtain ⟨h1, h2, h3, h4, h5, ⟨i, q1, q2⟩, h7, h8, h9, h10, h11⟩ := h
  refine ⟨fun g hg => ?_, fun c hc => ?_, fun c hc => ?_, fun c hc => ?_, fun g hg => ?_, ⟨i, q1, by rw [upd_ne (by omega)]; exact q2⟩, ?_, ?_, ?_, ?_, ?_⟩
  · by_cases e : g = j
    · rw [e, upd_same]; exact ⟨a, ha, rfl⟩
    · rw [upd_ne e]; exact h1 g hg
  · rw [upd_ne (by omega)]; exact h2 c hc
  · rw [upd_ne (by omega)]; exact h3 c hc
  · rw [upd_ne (by omega)]; exact h4 c hc
  · rw [upd_ne (by omega)]; exact h5 g hg
  · rw [upd_ne (by omega)]; exact h7
  · rw [upd_ne (by omega)]; exact h8
  · rw [upd_ne (by omega)]; exact h9
  · rw [upd_ne (by omega)]; exact h10
  · rw [upd_ne (by omega)]; exact h11
theorem rowW_sta {X : Nat → Int32} (h : rowW X) {j a : Nat} (hj : j < 5) (ha : a ≤ 2) : rowW (upd X (24 + j) (nI a)) := by
  obtain ⟨h1, h2, h3, h4, h5, ⟨i, q1, q2⟩, h7, h8, h9, h10, h11⟩ := h
  refine ⟨fun g hg => ?_, fun c hc => ?_, fun c hc => ?_, fun c hc => ?_, fun g hg => ?_, ⟨i, q1, by rw [upd_ne (by omega)]; exact q2⟩, ?_, ?_, ?_, ?_, ?_⟩
  · rw [upd_ne (by omega)]; exact h1 g hg
  · by_cases e : 24 + c = 24 + j
    · rw [e, upd_same]; exact ⟨a, ha, rfl⟩
    · rw [upd_ne e]; exact h2 c hc
  · rw [upd_ne (by omega)]; exact h3 c hc
  · rw [upd_ne (by omega)]; exact h4 c hc
  · rw [upd_ne (by omega)]; exact h5 g hg
  · rw [upd_ne (by omega)]; exact h7
  · rw [upd_ne (by omega)]; exact h8
  · rw [upd_ne (by omega)]; exact h9
  · rw [upd_ne (by omega)]; exact h10
  · rw [upd_ne (by omega)]; exact h11
theorem nn0 {x : Int32} {a : Nat} (ha : a < 2 ^ 31) (h : x = nI a) : 0 ≤ x := by rw [h]; exact nI_pos' ha
def ordC (X Y : Nat → Int32) (r : Int32) : Prop := (0 ≤ r ∧ rowOK Y) ∨ ((r = -2 ∨ r = -3) ∧ Y = X)
theorem ordC_par {t : Bool} {X : Nat → Int32} {j : Nat} {v : Int32} (h0 : t = true → 0 ≤ X j) (h1 : t = true → rowOK (upd X j v)) : ordC X (parX t X j v) (parR t X j) := by
  cases t with
  | true => exact Or.inl ⟨h0 rfl, h1 rfl⟩
  | false => exact Or.inr ⟨Or.inl rfl, rfl⟩
theorem within_t {v : Int32} {a b : Nat} (ha : a < 2 ^ 31) (hb : b < 2 ^ 31) {p : Bool} (h : (p && withinB v (nI a) (nI b)) = true) : p = true ∧ ∃ j, a ≤ j ∧ j ≤ b ∧ v = nI j := by
  rw [Bool.and_eq_true] at h
  exact ⟨h.1, withinB_t ha hb h.2⟩
theorem ord_set {X : Nat → Int32} (hX : rowOK X) (g v : Int32) : ordC X (setX X g v) (setR X g v) := by
  unfold setX setR
  by_cases q : setB g v = true
  · rw [if_pos q, if_pos q]
    by_cases k : takB X g v = true
    · rw [if_pos k, if_pos k]
      exact Or.inr ⟨Or.inr rfl, rfl⟩
    · rw [if_neg k, if_neg k]
      obtain ⟨q1, a, -, ha, rfl⟩ := within_t (by decide) (by decide) q
      obtain ⟨j, hj1, hj2, rfl⟩ := gearB_t q1
      rw [tN_N (by omega)]
      obtain ⟨b, hb, e⟩ := hX.1 j hj2
      exact Or.inl ⟨nn0 (by omega) e, dropS_ok (rowW_set (rowW_of hX) hj1 hj2 (by omega))⟩
  · rw [if_neg q, if_neg q]
    exact Or.inr ⟨Or.inl rfl, rfl⟩
theorem ord_sta {X : Nat → Int32} (hX : rowOK X) (c v : Int32) : ordC X (staX X c v) (staR X c v) := by
  unfold staX staR
  by_cases q : staB c v = true
  · obtain ⟨q1, a, -, ha, rfl⟩ := within_t (by decide) (by decide) q
    obtain ⟨j, hj, rfl⟩ := clB_t q1
    rw [parR, parX, if_pos q, if_pos q, tN_N (by omega)]
    obtain ⟨b, hb, e⟩ := hX.2.1 j hj
    exact Or.inl ⟨nn0 (by omega) e, dropS_ok (rowW_sta (rowW_of hX) hj (by omega))⟩
  · rw [parR, parX, if_neg q, if_neg q, dropS_id hX]
    exact Or.inr ⟨Or.inl rfl, rfl⟩
theorem ord_slo {v : Int32} (h : sloB v = true) : ∃ a, a ≤ 6 ∧ v + nI 3 = nI a := by
  unfold sloB withinB at h
  simp only [Bool.and_eq_true, Bool.not_eq_true', decide_eq_false_iff_not] at h
  have e1 := Int32.le_iff_toInt_le.mp (Int32.not_lt.mp h.1)
  have e2 := Int32.le_iff_toInt_le.mp (Int32.not_lt.mp h.2)
  have e3 : (-3 : Int32).toInt = -3 := by decide
  have e4 : (nI 3).toInt = 3 := by decide
  rw [e3] at e1
  rw [e4] at e2
  refine ⟨(v.toInt + 3).toNat, by omega, ?_⟩
  refine Int32.toInt_inj.mp ?_
  rw [nI_toInt (by omega), Int32.toInt_add, e4]
  have : (v.toInt + 3).bmod (2 ^ 32) = v.toInt + 3 := Int.bmod_eq_of_le (by omega) (by omega)
  rw [this]
  omega
theorem ord_all {X : Nat → Int32} (hX : rowOK X) {o : Nat} (ho : o < 10) (a b : Int32) : ordC X (oX X o a b) (oR X o a b) := by
  rcases (show o = 0 ∨ o = 1 ∨ o = 2 ∨ o = 3 ∨ o = 4 ∨ o = 5 ∨ o = 6 ∨ o = 7 ∨ o = 8 ∨ o = 9 by omega) with rfl | rfl | rfl | rfl | rfl | rfl | rfl | rfl | rfl | rfl
  · exact ord_set hX a b
  · exact ord_sta hX a b
  · refine ordC_par (fun q => ?_) (fun q => ?_) <;> obtain ⟨q1, x, hx1, hx2, rfl⟩ := within_t (by decide) (by decide) q <;> obtain ⟨j, hj, rfl⟩ := clB_t q1 <;> rw [tN_N (by omega)]
    · obtain ⟨y, _, hy, e⟩ := hX.2.2.1 j hj
      exact nn0 (by omega) e
    · exact rowOK_upd hX (by omega) (c1 := fun _ _ _ => ⟨x, hx1, hx2, rfl⟩)
  · refine ordC_par (fun q => ?_) (fun q => ?_) <;> obtain ⟨q1, x, hx1, hx2, rfl⟩ := within_t (by decide) (by decide) q <;> obtain ⟨j, hj1, hj2, rfl⟩ := gearB_t q1 <;> rw [tN_N (by omega)]
    · obtain ⟨y, hy, e⟩ := hX.2.2.2.2.1 j (by omega)
      exact nn0 (by omega) e
    · exact rowOK_upd hX (by omega) (c3 := fun _ _ _ => ⟨x, hx2, rfl⟩)
  · refine ordC_par (fun q => ?_) (fun q => ?_) <;> obtain ⟨q1, x, hx1, hx2, rfl⟩ := within_t (by decide) (by decide) q <;> obtain ⟨j, hj1, hj2, rfl⟩ := gearB_t q1 <;> rw [tN_N (by omega)]
    · obtain ⟨y, hy, e⟩ := hX.2.2.2.2.1 (8 + j) (by omega)
      rw [show 8 + (8 + j) = 16 + j by omega] at e
      exact nn0 (by omega) e
    · exact rowOK_upd hX (by omega) (c3 := fun _ _ _ => ⟨x, hx2, rfl⟩)
  · refine ordC_par (fun q => ?_) (fun q => ?_)
    · obtain ⟨y, hy, e⟩ := hX.2.2.2.2.2.2.2.1
      exact nn0 (by omega) e
    · exact rowOK_upd hX (by omega) (c6 := fun _ => ord_slo q)
  · refine ordC_par (fun q => ?_) (fun q => ?_)
    · obtain ⟨y, hy, e⟩ := hX.2.2.2.2.2.2.2.2.1
      exact nn0 (by omega) e
    · obtain ⟨x, hx1, hx2, rfl⟩ := withinB_t (by decide) (by decide) (show withinB a (nI 0) (nI 3) = true from q)
      exact rowOK_upd hX (by omega) (c7 := fun _ => ⟨x, hx2, rfl⟩)
  · show ordC X (drvX X a b) (drvR X a b)
    unfold drvX drvR
    by_cases q : tkB a b = true
    · rw [if_pos q, if_pos q]
      have hY := tksS_ok hX a (tN b)
      exact Or.inl ⟨nI_pos' (by have := (rowOK_in hY).1; omega), hY⟩
    · rw [if_neg q, if_neg q]
      exact Or.inr ⟨Or.inl rfl, rfl⟩
  · show ordC X (rulX X a b) (rulR X a b)
    unfold rulX rulR
    by_cases q : a = 0
    · rw [if_pos q, if_pos q]
      refine ordC_par (fun q => ?_) (fun q => ?_)
      · obtain ⟨y, _, hy, e⟩ := hX.2.2.2.2.2.2.2.2.2.1
        exact nn0 (by omega) e
      · obtain ⟨x, hx1, hx2, rfl⟩ := withinB_t (by decide) (by decide) q
        exact rowOK_upd hX (by omega) (c8 := fun _ => ⟨x, hx1, hx2, rfl⟩)
    · rw [if_neg q, if_neg q]
      refine ordC_par (fun q => ?_) (fun q => ?_)
      · obtain ⟨y, hy, e⟩ := hX.2.2.2.2.2.2.2.2.2.2
        exact nn0 (by omega) e
      · obtain ⟨-, x, hx1, hx2, rfl⟩ := within_t (by decide) (by decide) q
        exact rowOK_upd hX (by omega) (c9 := fun _ => ⟨x, hx2, rfl⟩)
  · show ordC X (putX X a) (putR X a)
    obtain ⟨i, hi, e, -⟩ := hX.2.2.2.2.2.1
    unfold putX putR
    by_cases q : a = 0
    · rw [if_pos q, if_pos q, q]
      exact Or.inl ⟨nn0 (by omega) e, rowOK_upd hX (by omega) (c4 := fun _ => ⟨0, by omega, rfl, Or.inl rfl⟩)⟩
    · rw [if_neg q, if_neg q]
      by_cases k : gearB a = true
      · rw [if_pos k, if_pos k]
        by_cases f : fitI X a = true
        · rw [if_pos f, if_pos f]
          obtain ⟨j, hj1, hj2, rfl⟩ := gearB_t k
          rw [fitI_N (by omega)] at f
          exact Or.inl ⟨nn0 (by omega) e, rowOK_upd hX (by omega) (c4 := fun _ => ⟨j, hj2, rfl, Or.inr f⟩)⟩
        · rw [if_neg f, if_neg f]
          exact Or.inr ⟨Or.inr rfl, rfl⟩
      · rw [if_neg k, if_neg k]
        exact Or.inr ⟨Or.inl rfl, rfl⟩
def tyB (L : Nat) (c : Int32) : Bool := withinB c (nI 0) (nI 127) && decide (L < 150)
def tyA (L : Nat) (c : Int32) : Ans := if withinB c (nI 0) (nI 127) = true then (if L < 150 then .inl (nI (L + 1)) else .inr 2) else .inr 0
def tyT (B : Nat → Int32) (L : Nat) (c : Int32) : Nat → Int32 := if tyB L c = true then upd B L c else B
def tyL (L : Nat) (c : Int32) : Nat := if tyB L c = true then L + 1 else L
theorem n7 (σ : St) (a b c t a' b' c' : Nat → Int32) : up2 (up2 (up2 (up2 (up2 (up2 (up2 σ 1 a) 4 b) 5 c) 17 t) 1 a') 4 b') 5 c' = up2 (up2 (up2 (up2 σ 1 a') 4 b') 5 c') 17 t := by
  funext i
  unfold up2
  by_cases h1 : i = 17
  · simp [h1]
  · by_cases h5 : i = 5
    · simp [h5]
    · by_cases h4 : i = 4
      · simp [h4]
      · by_cases h3 : i = 1
        · simp [h3]
        · simp [h1, h3, h4, h5]
def dgF (f : Nat → Int32) : Nat → Int64 → Int64
  | 0, h => h
  | n + 1, h => 31 * dgF f n h + (f n).toInt64
def dgG (f : Nat → Nat → Int32) (m : Nat) : Nat → Int64 → Int64
  | 0, h => h
  | n + 1, h => dgF (f n) m (dgG f m n h)
def dgC (X F : Nat → Int32) (ck co : Int32) (nn L : Nat) : Int64 :=
  dgF (fun w => ansV (saA X (nI w))) 13 (dgG (fun c w => ansV (clA X (nI c) (nI w))) 4 5 (dgG (fun g w => ansV (ofA X (nI (g + 1)) (nI w))) 5 7 (dgF (fun w => ansV (whA ck co (nI w))) 2 (dgF (fun w => ansV (toA F nn L (nI w))) 5 2411))))
theorem ansF_inl {F : Nat → Int32} {q : Ans} (h : ∃ v, q = .inl v) : ansF F q = F := by
  obtain ⟨v, rfl⟩ := h
  rfl
theorem ansF_to {F : Nat → Int32} {nn L k : Nat} (h : k < 5) : ansF F (toA F nn L (nI k)) = F := by
  rcases (show k = 0 ∨ k = 1 ∨ k = 2 ∨ k = 3 ∨ k = 4 by omega) with rfl | rfl | rfl | rfl | rfl <;> rfl
theorem ansF_wh {F : Nat → Int32} {ck co : Int32} {k : Nat} (h : k < 2) : ansF F (whA ck co (nI k)) = F := by
  rcases (show k = 0 ∨ k = 1 by omega) with rfl | rfl <;> rfl
theorem ansF_of {F X : Nat → Int32} {g k : Nat} (h1 : 1 ≤ g) (h2 : g ≤ 7) (h : k < 5) : ansF F (ofA X (nI g) (nI k)) = F := by
  refine ansF_inl ?_
  unfold ofA
  rw [if_pos (show gearB (nI g) = true by rw [gearB_N (by omega)]; simp [h1, h2])]
  rcases (show k = 0 ∨ k = 1 ∨ k = 2 ∨ k = 3 ∨ k = 4 by omega) with rfl | rfl | rfl | rfl | rfl
  · exact ⟨_, rfl⟩
  · exact ⟨_, rfl⟩
  · exact ⟨_, rfl⟩
  · exact ⟨_, rfl⟩
  · exact ⟨_, rfl⟩
theorem ansF_cl {F X : Nat → Int32} {c k : Nat} (h1 : c < 5) (h : k < 4) : ansF F (clA X (nI c) (nI k)) = F := by
  refine ansF_inl ?_
  unfold clA
  rw [if_pos (show clB (nI c) = true by rw [clB_N (by omega)]; simp [h1])]
  rcases (show k = 0 ∨ k = 1 ∨ k = 2 ∨ k = 3 by omega) with rfl | rfl | rfl | rfl
  · exact ⟨_, rfl⟩
  · exact ⟨_, rfl⟩
  · exact ⟨_, rfl⟩
  · exact ⟨_, rfl⟩
theorem ansF_sa {F X : Nat → Int32} {k : Nat} (h : k < 13) : ansF F (saA X (nI k)) = F := by
  refine ansF_inl ?_
  unfold saA
  by_cases q : nI k = nI 12
  · rw [if_pos q]
    exact ⟨_, rfl⟩
  · rw [if_neg q]
    have : ¬ k = 12 := fun z => q (by rw [z])
    rw [if_pos (show withinB (nI k) (nI 0) (nI 11) = true by rw [withinB_N (by omega) (by omega) (by omega)]; simp; omega)]
    exact ⟨_, rfl⟩
theorem dgF_z (f : Nat → Int32) (h : Int64) : dgF f 0 h = h := rfl
theorem dgF_s (f : Nat → Int32) (n : Nat) (h : Int64) : dgF f (n + 1) h = 31 * dgF f n h + (f n).toInt64 := rfl
theorem dgG_z (f : Nat → Nat → Int32) (m : Nat) (h : Int64) : dgG f m 0 h = h := rfl
theorem dgG_s (f : Nat → Nat → Int32) (m n : Nat) (h : Int64) : dgG f m (n + 1) h = dgF (f n) m (dgG f m n h) := rfl
theorem dgC_is (X F : Nat → Int32) (ck co : Int32) (nn L : Nat) : dgC X F ck co nn L = dgF (fun w => ansV (saA X (nI w))) 13 (dgG (fun c w => ansV (clA X (nI c) (nI w))) 4 5 (dgG (fun g w => ansV (ofA X (nI (g + 1)) (nI w))) 5 7 (dgF (fun w => ansV (whA ck co (nI w))) 2 (dgF (fun w => ansV (toA F nn L (nI w))) 5 2411)))) := rfl
