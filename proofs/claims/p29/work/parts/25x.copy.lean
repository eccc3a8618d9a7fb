/-! A ROW COPIED: System.arraycopy over 51 ints -/
def cpyS (f g : Nat → Int32) : Nat → Int32 := va_cpy f g 0 0 51
theorem cpyS_at {f g : Nat → Int32} {j : Nat} (h : j < 51) : cpyS f g j = f j := by
  unfold cpyS
  rw [pk_cpy_in (Nat.zero_le _) (by omega)]
  exact congrArg f (by omega)
theorem cpyS_out {f g : Nat → Int32} {j : Nat} (h : 51 ≤ j) : cpyS f g j = g j := by
  unfold cpyS
  exact pk_cpy_out (Or.inr (by omega))
section CWL3
variable {p : Program} {l : Launch} {e : Env} {R : Room} {s : State} {m : MethodId} {args : Array Value} {below : List Frame} {meth : Method} {c : Code} {D : va_G} {Z : CZ} {A0 : Nat → Prop} {nL : Nat} {w : St → va_W} {Q : State → Prop} {σ σ1 σ2 : St} {pc pc' : Nat} {lv lv' : List (Nat × Value)} {st : List Value} {cc : ByteArray} {Ts : List Cond} {own : String}
theorem cw_copy (C : CX p s m args c cc nL Ts own D Z A0) {ix : Nat} (hd : decode cc pc = .ok (.invokestatic ix, 3)) (h1 : Cond.methodLink own ix arraycopyName ∈ Ts) (h2 : Cond.native arraycopyName ∈ Ts) (h3 : Cond.static arraycopyName ∈ Ts) (h4 : Cond.initialized "java/lang/System" ∈ Ts) (q0 q1 : Nat) {a0 a1 : Nat} {f g : Nat → Int32} (ha0 : (w σ)[q0]? = some (a0, .inl (Z.1, 51, .inl f))) (ha1 : (w σ)[q1]? = some (a1, .inl (Z.1, 51, .inl g))) (hf : 1 ≤ R.frames) (hlo : (st.map fun v => v.category).sum + (nativeFrameWords "java/lang/System" "arraycopy" 5 + 11) ≤ R.locals) (σ2 : St) (hset : (w σ).set q1 (a1, .inl (Z.1, 51, .inl (cpyS f g))) = w σ2) (K : CW p l e R s m args below meth c D A0 nL w Q σ2 (pc + 3) lv st) : CW p l e R s m args below meth c D A0 nL w Q σ pc lv (.int (nI 51) :: .int (nI 0) :: .ref a1 :: .int (nI 0) :: .ref a0 :: st) := by
  intro H locs ls hP hD hS hl
  refine va_copyi C.1.1 C.1.2.1 (C.1.2.2.1.trans hl.1.symm) C.1.2.2.2.1 (C.1.2.2.2.2 _ h1) (C.1.2.2.2.2 _ h2) (C.1.2.2.2.2 _ h3) (C.1.2.2.2.2 _ h4) C.2.1 hP hD hS q0 q1 0 0 ha0 ha1 rfl rfl rfl (by decide) (by decide) (by decide) (by decide) (by decide) (fun _ _ => rfl) hf hlo hd ?_
  intro H1 locs1 hP1 hD1 hS1
  refine K H1 locs1 ls ?_ ?_ hS1 hl
  · rw [← hset]; exact hP1
  · rw [← hset]; exact hD1
end CWL3
theorem wC_gk (Z : CZ) (A : Nat → Nat) (σ : St) {k : Nat} (hk : k < 6) : (wC Z A σ)[11 + k]? = some (A (11 + k), .inl (Z.1, 51, .inl (σ (11 + k)))) := by
  rcases (show k = 0 ∨ k = 1 ∨ k = 2 ∨ k = 3 ∨ k = 4 ∨ k = 5 by omega) with rfl | rfl | rfl | rfl | rfl | rfl <;> rfl
theorem wC_sk (Z : CZ) (A : Nat → Nat) (σ : St) (f : Nat → Int32) {k : Nat} (hk : k < 6) : (wC Z A σ).set (11 + k) (A (11 + k), .inl (Z.1, 51, .inl f)) = wC Z A (up2 σ (11 + k) f) := by
  rcases (show k = 0 ∨ k = 1 ∨ k = 2 ∨ k = 3 ∨ k = 4 ∨ k = 5 by omega) with rfl | rfl | rfl | rfl | rfl | rfl <;> rfl
theorem min5 {n : Nat} (h : n ≤ 5) : (if nI 5 < nI (n + 1) then nI 5 else nI (n + 1)) = nI (min (n + 1) 5) := by
  by_cases q : n = 5
  · subst q; rfl
  · rw [if_neg (by rw [nI_ltI (by omega) (by omega)]; omega), Nat.min_eq_left (by omega)]
theorem arrV_ext {c : ClassId} {N : Nat} {f g : Nat → Value} (h : ∀ j, j < N → f j = g j) : arrV c N f = arrV c N g := by
  have : (fun j : Fin N => f j.val) = fun j => g j.val := funext fun j => h j.val j.isLt
  unfold arrV
  rw [this]
section CWL5
variable {p : Program} {l : Launch} {e : Env} {R : Room} {s : State} {m : MethodId} {args : Array Value} {below : List Frame} {meth : Method} {c : Code} {D : va_G} {Z : CZ} {A0 : Nat → Prop} {nL : Nat} {w : St → va_W} {Q : State → Prop} {σ σ1 σ2 : St} {pc pc' : Nat} {lv lv' : List (Nat × Value)} {st : List Value} {cc : ByteArray} {Ts : List Cond} {own : String}
/-- a row may be another one that holds the same numbers -/
theorem cw_row {q0 k a n : Nat} (ha : ∀ σ : St, (w σ)[q0]? = some (a, .inl (Z.1, n, .inl (σ k)))) (hs : ∀ (σ : St) (f : Nat → Int32), (w σ).set q0 (a, .inl (Z.1, n, .inl f)) = w (up2 σ k f)) (g : Nat → Int32) (h : ∀ j, j < n → σ k j = g j) (K : CW p l e R s m args below meth c D A0 nL w Q (up2 σ k g) pc lv st) : CW p l e R s m args below meth c D A0 nL w Q σ pc lv st := by
  intro H locs ls hP hD hS hl
  have hc : vp_cell Z.1 (n, .inl (σ k)) = vp_cell Z.1 (n, .inl g) := by
    rw [vp_cell_i, vp_cell_i]
    exact arrV_ext (fun j hj => congrArg Value.int (h j hj))
  have he : va_at D vwCl (a, .inl (Z.1, n, .inl g)) H := by
    show H[a]? = some (vp_cell Z.1 (n, .inl g))
    rw [← hc]
    exact hP q0 _ (ha σ)
  have hP2 := hP.set hD (ha σ) he (fun _ _ => rfl)
  have hD2 := hD.set (e := .inl (Z.1, n, .inl g)) (ha σ)
  rw [hs] at hP2 hD2
  exact K H locs ls hP2 hD2 hS hl
end CWL5
