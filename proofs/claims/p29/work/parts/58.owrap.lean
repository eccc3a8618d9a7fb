theorem w_of (l : Launch) (D : va_G) (Z : CZ) (A : Nat → Nat) (σ : St) (X F : Nat → Int32) (K : Nat → Nat → Int32) (nn M : Nat) (g : Int32) (w : Int32) (h : absP σ X F K nn M) : CTi l yX6_of wsX6_of 4 86 D Z (wC Z A) σ [.ref (A 0), .int g, .int w] (fun r σ' => r = ansV (ofA X g w) ∧ absP σ' X (ansF F (ofA X g w)) K nn M) :=
  (c_X6_of l D Z A σ X F 0 (-1) K nn (fun _ => 0) 0 g w h.1 h.2.1).imp (fun r σ' q => ⟨q.1, q.2, h.2⟩)

theorem w_clutch (l : Launch) (D : va_G) (Z : CZ) (A : Nat → Nat) (σ : St) (X F : Nat → Int32) (K : Nat → Nat → Int32) (nn M : Nat) (g : Int32) (w : Int32) (h : absP σ X F K nn M) : CTi l yX6_clutch wsX6_clutch 2 43 D Z (wC Z A) σ [.ref (A 0), .int g, .int w] (fun r σ' => r = ansV (clA X g w) ∧ absP σ' X (ansF F (clA X g w)) K nn M) :=
  (c_X6_clutch l D Z A σ X F 0 (-1) K nn (fun _ => 0) 0 g w h.1 h.2.1).imp (fun r σ' q => ⟨q.1, q.2, h.2⟩)

theorem w_ties (l : Launch) (D : va_G) (Z : CZ) (A : Nat → Nat) (σ : St) (X F : Nat → Int32) (K : Nat → Nat → Int32) (nn M : Nat) (g : Int32) (h : absP σ X F K nn M) : CTi l yX6_ties wsX6_ties 2 43 D Z (wC Z A) σ [.ref (A 0), .int g] (fun r σ' => r = ansV (tiA X g) ∧ absP σ' X (ansF F (tiA X g)) K nn M) :=
  (c_X6_ties l D Z A σ X F 0 (-1) K nn (fun _ => 0) 0 g h.1 h.2.1).imp (fun r σ' q => ⟨q.1, q.2, h.2⟩)

theorem w_simple (l : Launch) (D : va_G) (Z : CZ) (A : Nat → Nat) (σ : St) (X F : Nat → Int32) (K : Nat → Nat → Int32) (nn M : Nat) (g : Int32) (k : Int32) (w : Int32) (h : absP σ X F K nn M) : CTi l yX6_simple wsX6_simple 4 85 D Z (wC Z A) σ [.ref (A 0), .int g, .int k, .int w] (fun r σ' => r = ansV (smA X g k w) ∧ absP σ' X (ansF F (smA X g k w)) K nn M) :=
  (c_X6_simple l D Z A σ X F 0 (-1) K nn (fun _ => 0) 0 g k w h.1 h.2.1).imp (fun r σ' q => ⟨q.1, q.2, h.2⟩)

theorem w_way (l : Launch) (D : va_G) (Z : CZ) (A : Nat → Nat) (σ : St) (X F : Nat → Int32) (K : Nat → Nat → Int32) (nn M : Nat) (g : Int32) (k : Int32) (w : Int32) (h : absP σ X F K nn M) : CTi l yX6_way wsX6_way 4 90 D Z (wC Z A) σ [.ref (A 0), .int g, .int k, .int w] (fun r σ' => r = ansV (wyA X g k w) ∧ absP σ' X (ansF F (wyA X g k w)) K nn M) :=
  (c_X6_way l D Z A σ X F 0 (-1) K nn (fun _ => 0) 0 g k w h.1 h.2.1).imp (fun r σ' q => ⟨q.1, q.2, h.2⟩)

theorem w_over (l : Launch) (D : va_G) (Z : CZ) (A : Nat → Nat) (σ : St) (X F : Nat → Int32) (K : Nat → Nat → Int32) (nn M : Nat) (g : Int32) (k : Int32) (w : Int32) (h : absP σ X F K nn M) : CTi l yX6_over wsX6_over 4 85 D Z (wC Z A) σ [.ref (A 0), .int g, .int k, .int w] (fun r σ' => r = ansV (ovA X g k w) ∧ absP σ' X (ansF F (ovA X g k w)) K nn M) :=
  (c_X6_over l D Z A σ X F 0 (-1) K nn (fun _ => 0) 0 g k w h.1 h.2.1).imp (fun r σ' q => ⟨q.1, q.2, h.2⟩)

theorem w_worst (l : Launch) (D : va_G) (Z : CZ) (A : Nat → Nat) (σ : St) (X F : Nat → Int32) (K : Nat → Nat → Int32) (nn M : Nat) (g : Int32) (k : Int32) (w : Int32) (h : absP σ X F K nn M) : CTi l yX6_worst wsX6_worst 4 85 D Z (wC Z A) σ [.ref (A 0), .int g, .int k, .int w] (fun r σ' => r = ansV (wsA X g k w) ∧ absP σ' X (ansF F (wsA X g k w)) K nn M) :=
  (c_X6_worst l D Z A σ X F 0 (-1) K nn (fun _ => 0) 0 g k w h.1 h.2.1).imp (fun r σ' q => ⟨q.1, q.2, h.2⟩)

theorem w_want (l : Launch) (D : va_G) (Z : CZ) (A : Nat → Nat) (σ : St) (X F : Nat → Int32) (K : Nat → Nat → Int32) (nn M : Nat) (g : Int32) (h : absP σ X F K nn M) : CTi l yX6_want wsX6_want 3 72 D Z (wC Z A) σ [.ref (A 0), .int g] (fun r σ' => r = ansV (wnA X g) ∧ absP σ' X (ansF F (wnA X g)) K nn M) :=
  (c_X6_want l D Z A σ X F 0 (-1) K nn (fun _ => 0) 0 g h.1 h.2.1).imp (fun r σ' q => ⟨q.1, q.2, h.2⟩)

theorem w_state (l : Launch) (D : va_G) (Z : CZ) (A : Nat → Nat) (σ : St) (X F : Nat → Int32) (K : Nat → Nat → Int32) (nn M : Nat) (g : Int32) (h : absP σ X F K nn M) : CTi l yX6_state wsX6_state 2 45 D Z (wC Z A) σ [.ref (A 0), .int g] (fun r σ' => r = ansV (saA X g) ∧ absP σ' X (ansF F (saA X g)) K nn M) :=
  (c_X6_state l D Z A σ X F 0 (-1) K nn (fun _ => 0) 0 g h.1 h.2.1).imp (fun r σ' q => ⟨q.1, q.2, h.2⟩)

theorem w_why (l : Launch) (D : va_G) (Z : CZ) (A : Nat → Nat) (σ : St) (X F : Nat → Int32) (K : Nat → Nat → Int32) (nn M : Nat) (g : Int32) (h : absP σ X F K nn M) : CTi l yX6_why wsX6_why 2 43 D Z (wC Z A) σ [.ref (A 0), .int g] (fun r σ' => r = ansV (whA 0 (-1) g) ∧ absP σ' X (ansF F (whA 0 (-1) g)) K nn M) :=
  (c_X6_why l D Z A σ X F 0 (-1) K nn (fun _ => 0) 0 g h.1 h.2.1).imp (fun r σ' q => ⟨q.1, q.2, h.2⟩)

theorem w_told (l : Launch) (D : va_G) (Z : CZ) (A : Nat → Nat) (σ : St) (X F : Nat → Int32) (K : Nat → Nat → Int32) (nn M : Nat) (g : Int32) (h : absP σ X F K nn M) : CTi l yX6_told wsX6_told 2 43 D Z (wC Z A) σ [.ref (A 0), .int g] (fun r σ' => r = ansV (toA F nn 0 g) ∧ absP σ' X (ansF F (toA F nn 0 g)) K nn M) :=
  (c_X6_told l D Z A σ X F 0 (-1) K nn (fun _ => 0) 0 g h.1 h.2.1).imp (fun r σ' q => ⟨q.1, q.2, h.2⟩)

theorem w_gear (l : Launch) (D : va_G) (Z : CZ) (A : Nat → Nat) (σ : St) (X F : Nat → Int32) (K : Nat → Nat → Int32) (nn M : Nat) (a : Int32) (b : Int32) (h : absP σ X F K nn M) : CTi l yX6_gear wsX6_gear 7 166 D Z (wC Z A) σ [.ref (A 0), .int a, .int b] (fun r σ' => chP σ' X F K nn M 0 a b r) :=
  (c_X6_gear l D Z A σ X F 0 (-1) K nn (fun _ => 0) 0 a b h.1 h.2.1).imp (fun r σ' q => chP_of h (by omega) q)

theorem w_fails (l : Launch) (D : va_G) (Z : CZ) (A : Nat → Nat) (σ : St) (X F : Nat → Int32) (K : Nat → Nat → Int32) (nn M : Nat) (a : Int32) (b : Int32) (h : absP σ X F K nn M) : CTi l yX6_fails wsX6_fails 7 166 D Z (wC Z A) σ [.ref (A 0), .int a, .int b] (fun r σ' => chP σ' X F K nn M 1 a b r) :=
  (c_X6_fails l D Z A σ X F 0 (-1) K nn (fun _ => 0) 0 a b h.1 h.2.1).imp (fun r σ' q => chP_of h (by omega) q)

theorem w_trues (l : Launch) (D : va_G) (Z : CZ) (A : Nat → Nat) (σ : St) (X F : Nat → Int32) (K : Nat → Nat → Int32) (nn M : Nat) (a : Int32) (b : Int32) (h : absP σ X F K nn M) : CTi l yX6_trues wsX6_trues 7 166 D Z (wC Z A) σ [.ref (A 0), .int a, .int b] (fun r σ' => chP σ' X F K nn M 2 a b r) :=
  (c_X6_trues l D Z A σ X F 0 (-1) K nn (fun _ => 0) 0 a b h.1 h.2.1).imp (fun r σ' q => chP_of h (by omega) q)

theorem w_up (l : Launch) (D : va_G) (Z : CZ) (A : Nat → Nat) (σ : St) (X F : Nat → Int32) (K : Nat → Nat → Int32) (nn M : Nat) (a : Int32) (b : Int32) (h : absP σ X F K nn M) : CTi l yX6_up wsX6_up 7 166 D Z (wC Z A) σ [.ref (A 0), .int a, .int b] (fun r σ' => chP σ' X F K nn M 3 a b r) :=
  (c_X6_up l D Z A σ X F 0 (-1) K nn (fun _ => 0) 0 a b h.1 h.2.1).imp (fun r σ' q => chP_of h (by omega) q)

theorem w_down (l : Launch) (D : va_G) (Z : CZ) (A : Nat → Nat) (σ : St) (X F : Nat → Int32) (K : Nat → Nat → Int32) (nn M : Nat) (a : Int32) (b : Int32) (h : absP σ X F K nn M) : CTi l yX6_down wsX6_down 7 166 D Z (wC Z A) σ [.ref (A 0), .int a, .int b] (fun r σ' => chP σ' X F K nn M 4 a b r) :=
  (c_X6_down l D Z A σ X F 0 (-1) K nn (fun _ => 0) 0 a b h.1 h.2.1).imp (fun r σ' q => chP_of h (by omega) q)

theorem w_slope (l : Launch) (D : va_G) (Z : CZ) (A : Nat → Nat) (σ : St) (X F : Nat → Int32) (K : Nat → Nat → Int32) (nn M : Nat) (a : Int32) (h : absP σ X F K nn M) : CTi l yX6_slope wsX6_slope 7 166 D Z (wC Z A) σ [.ref (A 0), .int a] (fun r σ' => chP σ' X F K nn M 5 a (nI 0) r) :=
  (c_X6_slope l D Z A σ X F 0 (-1) K nn (fun _ => 0) 0 a h.1 h.2.1).imp (fun r σ' q => chP_of h (by omega) q)

theorem w_driver (l : Launch) (D : va_G) (Z : CZ) (A : Nat → Nat) (σ : St) (X F : Nat → Int32) (K : Nat → Nat → Int32) (nn M : Nat) (a : Int32) (h : absP σ X F K nn M) : CTi l yX6_driver wsX6_driver 7 166 D Z (wC Z A) σ [.ref (A 0), .int a] (fun r σ' => chP σ' X F K nn M 6 a (nI 0) r) :=
  (c_X6_driver l D Z A σ X F 0 (-1) K nn (fun _ => 0) 0 a h.1 h.2.1).imp (fun r σ' q => chP_of h (by omega) q)

theorem w_drives (l : Launch) (D : va_G) (Z : CZ) (A : Nat → Nat) (σ : St) (X F : Nat → Int32) (K : Nat → Nat → Int32) (nn M : Nat) (a : Int32) (b : Int32) (h : absP σ X F K nn M) : CTi l yX6_drives wsX6_drives 7 166 D Z (wC Z A) σ [.ref (A 0), .int a, .int b] (fun r σ' => chP σ' X F K nn M 7 a b r) :=
  (c_X6_drives l D Z A σ X F 0 (-1) K nn (fun _ => 0) 0 a b h.1 h.2.1).imp (fun r σ' q => chP_of h (by omega) q)

theorem w_sets (l : Launch) (D : va_G) (Z : CZ) (A : Nat → Nat) (σ : St) (X F : Nat → Int32) (K : Nat → Nat → Int32) (nn M : Nat) (a : Int32) (b : Int32) (h : absP σ X F K nn M) : CTi l yX6_sets wsX6_sets 7 166 D Z (wC Z A) σ [.ref (A 0), .int a, .int b] (fun r σ' => chP σ' X F K nn M 8 a b r) :=
  (c_X6_sets l D Z A σ X F 0 (-1) K nn (fun _ => 0) 0 a b h.1 h.2.1).imp (fun r σ' q => chP_of h (by omega) q)

theorem w_puts (l : Launch) (D : va_G) (Z : CZ) (A : Nat → Nat) (σ : St) (X F : Nat → Int32) (K : Nat → Nat → Int32) (nn M : Nat) (a : Int32) (h : absP σ X F K nn M) : CTi l yX6_puts wsX6_puts 7 166 D Z (wC Z A) σ [.ref (A 0), .int a] (fun r σ' => chP σ' X F K nn M 9 a (nI 0) r) :=
  (c_X6_puts l D Z A σ X F 0 (-1) K nn (fun _ => 0) 0 a h.1 h.2.1).imp (fun r σ' q => chP_of h (by omega) q)

theorem w_back (l : Launch) (D : va_G) (Z : CZ) (A : Nat → Nat) (σ : St) (X F : Nat → Int32) (K : Nat → Nat → Int32) (nn M : Nat)  (h : absP σ X F K nn M) : CTi l yX6_back wsX6_back 3 80 D Z (wC Z A) σ [.ref (A 0)] (fun r σ' => (nn = 0 ∧ r = -3 ∧ absP σ' X (cntF F 1) K nn M) ∨ (nn ≠ 0 ∧ r = nI (nn - 1) ∧ absP σ' (K (nn - 1)) F K (nn - 1) M)) :=
  (c_X6_back l D Z A σ X F 0 (-1) K nn (fun _ => 0) 0 h.1 h.2.1).imp (fun r σ' q => by
    obtain ⟨h1, ⟨i1, i2, i3, i4, i5⟩, h3, h4⟩ := h
    rcases q with ⟨q1, q2, q3⟩ | ⟨q1, q2, q3⟩
    · exact Or.inl ⟨q1, q2, q3, ⟨i1, i2, i3, i4, i5⟩, h3, h4⟩
    · exact Or.inr ⟨q1, q2, q3, ⟨i2 _ (by omega), fun i hi => i2 i (by omega), by omega, i4, i5⟩, h4 _ (by omega), fun i hi => h4 i (by omega)⟩)

theorem w_type (l : Launch) (D : va_G) (Z : CZ) (A : Nat → Nat) (σ : St) (X F : Nat → Int32) (K : Nat → Nat → Int32) (nn M : Nat) (g : Int32) (h : absP σ X F K nn M) (hb : tyB 0 g = false) : CTi l yX6_type wsX6_type 2 43 D Z (wC Z A) σ [.ref (A 0), .int g] (fun r σ' => r = ansV (tyA 0 g) ∧ absP σ' X (ansF F (tyA 0 g)) K nn M) :=
  (c_X6_type l D Z A σ X F 0 (-1) K nn (fun _ => 0) 0 g h.1 h.2.1).imp (fun r σ' q => by
    have q2 := q.2
    rw [tyT, tyL, if_neg (by rw [hb]; decide), if_neg (by rw [hb]; decide)] at q2
    exact ⟨q.1, q2, h.2⟩)

