/-! MORE ROWS OF THE LAYER -/
section CWL2
variable {p : Program} {l : Launch} {e : Env} {R : Room} {s : State} {m : MethodId} {args : Array Value} {below : List Frame} {meth : Method} {c : Code} {D : va_G} {Z : CZ} {A0 : Nat → Prop} {nL : Nat} {w : St → va_W} {Q : State → Prop} {σ σ1 σ2 : St} {pc pc' : Nat} {lv lv' : List (Nat × Value)} {st : List Value} {cc : ByteArray} {Ts : List Cond} {own : String}
/-- the table may be another one, if it makes the same world -/
theorem cw_w (σ2 : St) (h : w σ = w σ2) (k : CW p l e R s m args below meth c D A0 nL w Q σ2 pc lv st) : CW p l e R s m args below meth c D A0 nL w Q σ pc lv st := by
  intro H locs ls hP hD hS hl
  rw [h] at hP hD
  exact k H locs ls hP hD hS hl
theorem cw_eff {v : Int32} {P : Int32 → St → Prop} (hP : ∀ r σ', P r σ' → r = v ∧ σ' = σ1) (σ2 : St) (hw : w σ1 = w σ2) (k : CW p l e R s m args below meth c D A0 nL w Q σ2 pc lv (.int v :: st)) : ∀ (r : Int32) (σ' : St), P r σ' → CW p l e R s m args below meth c D A0 nL w Q σ' pc lv (.int r :: st) := by
  intro r σ' h
  obtain ⟨h1, h2⟩ := hP r σ' h
  rw [h1, h2]
  exact cw_w σ2 hw k
theorem cw_effz {b : Bool} {P : Bool → St → Prop} (hP : ∀ r σ', P r σ' → r = b ∧ σ' = σ1) (σ2 : St) (hw : w σ1 = w σ2) (k : CW p l e R s m args below meth c D A0 nL w Q σ2 pc lv (.int (bI b) :: st)) : ∀ (r : Int32) (σ' : St), (∃ b : Bool, r = bI b ∧ P b σ') → CW p l e R s m args below meth c D A0 nL w Q σ' pc lv (.int r :: st) := by
  intro r σ' h
  obtain ⟨b', h0, h⟩ := h
  obtain ⟨h1, h2⟩ := hP b' σ' h
  rw [h0, h1, h2]
  exact cw_w σ2 hw k
theorem cw_effv {P : St → Prop} (hP : ∀ σ', P σ' → σ' = σ1) (σ2 : St) (hw : w σ1 = w σ2) (k : CW p l e R s m args below meth c D A0 nL w Q σ2 pc lv st) : ∀ (σ' : St), P σ' → CW p l e R s m args below meth c D A0 nL w Q σ' pc lv st := by
  intro σ' h
  rw [hP σ' h]
  exact cw_w σ2 hw k
theorem cw_iald2 (C : CX p s m args c cc nL Ts own D Z A0) (hd : decode cc pc = .ok (.iaload, 1)) (q0 k : Nat) {a n : Nat} (ha : ∀ σ : St, (w σ)[q0]? = some (a, .inl (Z.1, n, .inl (σ k)))) {f : Nat → Int32} (hf : σ k = f) {i : Int32} (j : Nat) (hi : i = nI j) (hj : j < n) (hn : n < 2 ^ 31) (K : CW p l e R s m args below meth c D A0 nL w Q σ (pc + 1) lv (.int (f j) :: st)) : CW p l e R s m args below meth c D A0 nL w Q σ pc lv (.int i :: .ref a :: st) := by
  subst hf
  exact cw_iald C hd q0 (ha σ) j hi hj hn K
theorem cw_iast2 (C : CX p s m args c cc nL Ts own D Z A0) (hd : decode cc pc = .ok (.iastore, 1)) (q0 k : Nat) {a n : Nat} (ha : ∀ σ : St, (w σ)[q0]? = some (a, .inl (Z.1, n, .inl (σ k)))) (hs : ∀ (σ : St) (f : Nat → Int32), (w σ).set q0 (a, .inl (Z.1, n, .inl f)) = w (up2 σ k f)) {f : Nat → Int32} (hf : σ k = f) {i x : Int32} (j : Nat) (hi : i = nI j) (hj : j < n) (hn : n < 2 ^ 31) (σ2 : St) (hσ : up2 σ k (upd f j x) = σ2) (K : CW p l e R s m args below meth c D A0 nL w Q σ2 (pc + 1) lv st) : CW p l e R s m args below meth c D A0 nL w Q σ pc lv (.int x :: .int i :: .ref a :: st) := by
  subst hf
  exact cw_iast C hd q0 (ha σ) j hi hj hn σ2 ((hs σ _).trans (congrArg w hσ)) K
end CWL2
theorem up3_145 (σ : St) (X : Nat → Int32) : up2 σ 1 X = up2 (up2 (up2 σ 1 X) 4 (σ 4)) 5 (σ 5) := by
  funext i
  unfold up2
  by_cases h5 : i = 5
  · subst h5; simp
  · by_cases h4 : i = 4
    · subst h4; simp
    · simp [h4, h5]
theorem up3_self (σ : St) : σ = up2 (up2 (up2 σ 1 (σ 1)) 4 (σ 4)) 5 (σ 5) := by
  rw [← up3_145, up2_self]
theorem nxUp_le (F : Nat → Bool) : ∀ n g, nxUp F n g ≤ g + n
  | 0, g => by show 0 ≤ _; omega
  | n + 1, g => by
    unfold nxUp
    have := nxUp_le F n (g + 1)
    split <;> omega
theorem nxDn_le (F : Nat → Bool) : ∀ n g, nxDn F n g ≤ g
  | 0, g => by show 0 ≤ _; omega
  | n + 1, g => by
    unfold nxDn
    have := nxDn_le F n (g - 1)
    split <;> omega
theorem nxUp_fit {F : Nat → Bool} : ∀ {n g : Nat}, ¬ nxUp F n g = 0 → F (nxUp F n g) = true
  | 0, g, h => absurd rfl h
  | n + 1, g, h => by
    unfold nxUp at h ⊢
    by_cases q : F (g + 1) = true
    · rw [if_pos q]; exact q
    · rw [if_neg q] at h ⊢
      exact nxUp_fit h
theorem nxDn_fit {F : Nat → Bool} : ∀ {n g : Nat}, ¬ nxDn F n g = 0 → F (nxDn F n g) = true
  | 0, g, h => absurd rfl h
  | n + 1, g, h => by
    unfold nxDn at h ⊢
    by_cases q : F (g - 1) = true
    · rw [if_pos q]; exact q
    · rw [if_neg q] at h ⊢
      exact nxDn_fit h
/-! a store into a world, as a change of its table -/
theorem wC_p0_8 (Z : CZ) (A : Nat → Nat) (σ : St) (x : Int32) : (wC Z A σ).set 0 (A 0, .inr (6, [.ref (A 1), .ref (A 2), .ref (A 3), .ref (A 6), .ref (A 7), .ref (A 8), .ref (A 9), .ref (A 17), .int x, .int (σ 0 9)])) = wC Z A (up2 σ 0 (upd (σ 0) 8 x)) := rfl
theorem wC_p0_9 (Z : CZ) (A : Nat → Nat) (σ : St) (x : Int32) : (wC Z A σ).set 0 (A 0, .inr (6, [.ref (A 1), .ref (A 2), .ref (A 3), .ref (A 6), .ref (A 7), .ref (A 8), .ref (A 9), .ref (A 17), .int (σ 0 8), .int x])) = wC Z A (up2 σ 0 (upd (σ 0) 9 x)) := rfl
theorem wC_s1 (Z : CZ) (A : Nat → Nat) (σ : St) (f : Nat → Int32) : (wC Z A σ).set 1 (A 1, .inl (Z.1, 51, .inl f)) = wC Z A (up2 σ 1 f) := rfl
theorem wC_s2 (Z : CZ) (A : Nat → Nat) (σ : St) (f : Nat → Int32) : (wC Z A σ).set 2 (A 2, .inl (Z.1, 3, .inl f)) = wC Z A (up2 σ 2 f) := rfl
theorem wC_s4 (Z : CZ) (A : Nat → Nat) (σ : St) (f : Nat → Int32) : (wC Z A σ).set 4 (A 4, .inl (Z.1, 8, .inl f)) = wC Z A (up2 σ 4 f) := rfl
theorem wC_s5 (Z : CZ) (A : Nat → Nat) (σ : St) (f : Nat → Int32) : (wC Z A σ).set 5 (A 5, .inl (Z.1, 7, .inl f)) = wC Z A (up2 σ 5 f) := rfl
theorem wC_s11 (Z : CZ) (A : Nat → Nat) (σ : St) (f : Nat → Int32) : (wC Z A σ).set 11 (A 11, .inl (Z.1, 51, .inl f)) = wC Z A (up2 σ 11 f) := rfl
theorem wC_s12 (Z : CZ) (A : Nat → Nat) (σ : St) (f : Nat → Int32) : (wC Z A σ).set 12 (A 12, .inl (Z.1, 51, .inl f)) = wC Z A (up2 σ 12 f) := rfl
theorem wC_s13 (Z : CZ) (A : Nat → Nat) (σ : St) (f : Nat → Int32) : (wC Z A σ).set 13 (A 13, .inl (Z.1, 51, .inl f)) = wC Z A (up2 σ 13 f) := rfl
theorem wC_s14 (Z : CZ) (A : Nat → Nat) (σ : St) (f : Nat → Int32) : (wC Z A σ).set 14 (A 14, .inl (Z.1, 51, .inl f)) = wC Z A (up2 σ 14 f) := rfl
theorem wC_s15 (Z : CZ) (A : Nat → Nat) (σ : St) (f : Nat → Int32) : (wC Z A σ).set 15 (A 15, .inl (Z.1, 51, .inl f)) = wC Z A (up2 σ 15 f) := rfl
theorem wC_s16 (Z : CZ) (A : Nat → Nat) (σ : St) (f : Nat → Int32) : (wC Z A σ).set 16 (A 16, .inl (Z.1, 51, .inl f)) = wC Z A (up2 σ 16 f) := rfl
theorem wC_s18 (Z : CZ) (A : Nat → Nat) (σ : St) (f : Nat → Int32) : (wC Z A σ).set 18 (A 18, .inl (Z.1, 150, .inl f)) = wC Z A (up2 σ 18 f) := rfl
theorem wC_s19 (Z : CZ) (A : Nat → Nat) (σ : St) (f : Nat → Int32) : (wC Z A σ).set 19 (A 19, .inl (Z.1, 50, .inl f)) = wC Z A (up2 σ 19 f) := rfl
theorem wC_s20 (Z : CZ) (A : Nat → Nat) (σ : St) (f : Nat → Int32) : (wC Z A σ).set 20 (A 20, .inl (Z.1, 50, .inl f)) = wC Z A (up2 σ 20 f) := rfl
theorem wC_s21 (Z : CZ) (A : Nat → Nat) (σ : St) (f : Nat → Int32) : (wC Z A σ).set 21 (A 21, .inl (Z.1, 50, .inl f)) = wC Z A (up2 σ 21 f) := rfl
theorem wC_p9_2 (Z : CZ) (A : Nat → Nat) (σ : St) (x : Int32) : (wC Z A σ).set 9 (A 9, .inr (4, [.ref (A 1), .ref (A 10), .int x, .int (σ 9 3)])) = wC Z A (up2 σ 9 (upd (σ 9) 2 x)) := rfl
theorem wC_p9_3 (Z : CZ) (A : Nat → Nat) (σ : St) (x : Int32) : (wC Z A σ).set 9 (A 9, .inr (4, [.ref (A 1), .ref (A 10), .int (σ 9 2), .int x])) = wC Z A (up2 σ 9 (upd (σ 9) 3 x)) := rfl
theorem wC_p17_4 (Z : CZ) (A : Nat → Nat) (σ : St) (x : Int32) : (wC Z A σ).set 17 (A 17, .inr (5, [.ref (A 18), .ref (A 19), .ref (A 20), .ref (A 21), .int x, .int (σ 17 5), .int (σ 17 6)])) = wC Z A (up2 σ 17 (upd (σ 17) 4 x)) := rfl
theorem wC_p17_5 (Z : CZ) (A : Nat → Nat) (σ : St) (x : Int32) : (wC Z A σ).set 17 (A 17, .inr (5, [.ref (A 18), .ref (A 19), .ref (A 20), .ref (A 21), .int (σ 17 4), .int x, .int (σ 17 6)])) = wC Z A (up2 σ 17 (upd (σ 17) 5 x)) := rfl
theorem wC_p17_6 (Z : CZ) (A : Nat → Nat) (σ : St) (x : Int32) : (wC Z A σ).set 17 (A 17, .inr (5, [.ref (A 18), .ref (A 19), .ref (A 20), .ref (A 21), .int (σ 17 4), .int (σ 17 5), .int x])) = wC Z A (up2 σ 17 (upd (σ 17) 6 x)) := rfl
theorem n6 (σ : St) (a b c a' b' c' : Nat → Int32) : up2 (up2 (up2 (up2 (up2 (up2 σ 1 a) 4 b) 5 c) 1 a') 4 b') 5 c' = up2 (up2 (up2 σ 1 a') 4 b') 5 c' := by
  funext i
  unfold up2
  by_cases h5 : i = 5
  · simp [h5]
  · by_cases h4 : i = 4
    · simp [h4]
    · by_cases h1 : i = 1
      · simp [h1]
      · simp [h1, h4, h5]
/-! what lies at a place -/
theorem wC_g1 (Z : CZ) (A : Nat → Nat) (σ : St) : (wC Z A σ)[1]? = some (A 1, .inl (Z.1, 51, .inl (σ 1))) := rfl
theorem wC_g2 (Z : CZ) (A : Nat → Nat) (σ : St) : (wC Z A σ)[2]? = some (A 2, .inl (Z.1, 3, .inl (σ 2))) := rfl
theorem wC_g4 (Z : CZ) (A : Nat → Nat) (σ : St) : (wC Z A σ)[4]? = some (A 4, .inl (Z.1, 8, .inl (σ 4))) := rfl
theorem wC_g5 (Z : CZ) (A : Nat → Nat) (σ : St) : (wC Z A σ)[5]? = some (A 5, .inl (Z.1, 7, .inl (σ 5))) := rfl
theorem wC_g11 (Z : CZ) (A : Nat → Nat) (σ : St) : (wC Z A σ)[11]? = some (A 11, .inl (Z.1, 51, .inl (σ 11))) := rfl
theorem wC_g12 (Z : CZ) (A : Nat → Nat) (σ : St) : (wC Z A σ)[12]? = some (A 12, .inl (Z.1, 51, .inl (σ 12))) := rfl
theorem wC_g13 (Z : CZ) (A : Nat → Nat) (σ : St) : (wC Z A σ)[13]? = some (A 13, .inl (Z.1, 51, .inl (σ 13))) := rfl
theorem wC_g14 (Z : CZ) (A : Nat → Nat) (σ : St) : (wC Z A σ)[14]? = some (A 14, .inl (Z.1, 51, .inl (σ 14))) := rfl
theorem wC_g15 (Z : CZ) (A : Nat → Nat) (σ : St) : (wC Z A σ)[15]? = some (A 15, .inl (Z.1, 51, .inl (σ 15))) := rfl
theorem wC_g16 (Z : CZ) (A : Nat → Nat) (σ : St) : (wC Z A σ)[16]? = some (A 16, .inl (Z.1, 51, .inl (σ 16))) := rfl
theorem wC_g18 (Z : CZ) (A : Nat → Nat) (σ : St) : (wC Z A σ)[18]? = some (A 18, .inl (Z.1, 150, .inl (σ 18))) := rfl
theorem wC_g19 (Z : CZ) (A : Nat → Nat) (σ : St) : (wC Z A σ)[19]? = some (A 19, .inl (Z.1, 50, .inl (σ 19))) := rfl
theorem wC_g20 (Z : CZ) (A : Nat → Nat) (σ : St) : (wC Z A σ)[20]? = some (A 20, .inl (Z.1, 50, .inl (σ 20))) := rfl
theorem wC_g21 (Z : CZ) (A : Nat → Nat) (σ : St) : (wC Z A σ)[21]? = some (A 21, .inl (Z.1, 50, .inl (σ 21))) := rfl
