/-! MORE ROWS OF THE LAYER -/
section CWL2
variable {p : Program} {l : Launch} {e : Env} {R : Room} {s : State} {m : MethodId} {args : Array Value} {below : List Frame} {meth : Method} {c : Code} {D : va_G} {Z : CZ} {A0 : Nat → Prop} {nL : Nat} {w : St → va_W} {Q : State → Prop} {σ σ1 σ2 : St} {pc pc' : Nat} {lv lv' : List (Nat × Value)} {st : List Value} {cc : ByteArray} {Ts : List Cond} {own : String}
/-- the table may be another one, if it makes the same world -/
theorem cw_w (σ2 : St) (h : w σ = w σ2) (k : CW p l e R s m args below meth c D A0 nL w Q σ2 pc lv st) : CW p l e R s m args below meth c D A0 nL w Q σ pc lv st := by
  intro H locs ls hP hD hS hl
  rw [h] at hP hD
  exact k H locs ls hP hD hS hl
theorem cw_eff {v : Int32} {P : Int32 → St → Prop} (hP : ∀ r σ', P r σ' → r = v ∧ σ' = σ1) (σ2 : St) (hw : w σ1 = w σ2) (k : CW p l e R s m args below meth c D A0 nL w Q σ2 pc lv (.int v :: st)) : ∀ (r : Int32) (σ' : St), P r σ' → CW p l e R s m args below meth c D A0 nL w Q σ' pc lv (.int r :: st) := by
  intro r σ' h
  obtain ⟨h1, h2⟩ := hP r σ' h
  rw [h1, h2]
  exact cw_w σ2 hw k
theorem cw_effz {b : Bool} {P : Bool → St → Prop} (hP : ∀ r σ', P r σ' → r = b ∧ σ' = σ1) (σ2 : St) (hw : w σ1 = w σ2) (k : CW p l e R s m args below meth c D A0 nL w Q σ2 pc lv (.int (bI b) :: st)) : ∀ (r : Int32) (σ' : St), (∃ b : Bool, r = bI b ∧ P b σ') → CW p l e R s m args below meth c D A0 nL w Q σ' pc lv (.int r :: st) := by
  intro r σ' h
  obtain ⟨b', h0, h⟩ := h
  obtain ⟨h1, h2⟩ := hP b' σ' h
  rw [h0, h1, h2]
  exact cw_w σ2 hw k
theorem cw_effv {P : St → Prop} (hP : ∀ σ', P σ' → σ' = σ1) (σ2 : St) (hw : w σ1 = w σ2) (k : CW p l e R s m args below meth c D A0 nL w Q σ2 pc lv st) : ∀ (σ' : St), P σ' → CW p l e R s m args below meth c D A0 nL w Q σ' pc lv st := by
  intro σ' h
  rw [hP σ' h]
  exact cw_w σ2 hw k
end CWL2
theorem up3_145 (σ : St) (X : Nat → Int32) : up2 σ 1 X = up2 (up2 (up2 σ 1 X) 4 (σ 4)) 5 (σ 5) := by
  funext i
  unfold up2
  by_cases h5 : i = 5
  · subst h5; simp
  · by_cases h4 : i = 4
    · subst h4; simp
    · simp [h4, h5]
theorem up3_self (σ : St) : σ = up2 (up2 (up2 σ 1 (σ 1)) 4 (σ 4)) 5 (σ 5) := by
  rw [← up3_145, up2_self]
theorem nxUp_le (F : Nat → Bool) : ∀ n g, nxUp F n g ≤ g + n
  | 0, g => by show 0 ≤ _; omega
  | n + 1, g => by
    unfold nxUp
    have := nxUp_le F n (g + 1)
    split <;> omega
theorem nxDn_le (F : Nat → Bool) : ∀ n g, nxDn F n g ≤ g
  | 0, g => by show 0 ≤ _; omega
  | n + 1, g => by
    unfold nxDn
    have := nxDn_le F n (g - 1)
    split <;> omega
theorem nxUp_fit {F : Nat → Bool} : ∀ {n g : Nat}, ¬ nxUp F n g = 0 → F (nxUp F n g) = true
  | 0, g, h => absurd rfl h
  | n + 1, g, h => by
    unfold nxUp at h ⊢
    by_cases q : F (g + 1) = true
    · rw [if_pos q]; exact q
    · rw [if_neg q] at h ⊢
      exact nxUp_fit h
theorem nxDn_fit {F : Nat → Bool} : ∀ {n g : Nat}, ¬ nxDn F n g = 0 → F (nxDn F n g) = true
  | 0, g, h => absurd rfl h
  | n + 1, g, h => by
    unfold nxDn at h ⊢
    by_cases q : F (g - 1) = true
    · rw [if_pos q]; exact q
    · rw [if_neg q] at h ⊢
      exact nxDn_fit h
