/-! MORE ROWS OF THE LAYER: longs compared, a static method that answers a long, the script -/
theorem cmp_same (x : Int64) : lg_cmp x x = 0 := by simp [lg_cmp]
section CWL3
variable {p : Program} {l : Launch} {e : Env} {R : Room} {s : State} {m : MethodId} {args : Array Value} {below : List Frame} {meth : Method} {c : Code} {D : va_G} {Z : CZ} {A0 : Nat → Prop} {nL : Nat} {w : St → va_W} {Q : State → Prop} {σ : St} {pc pc' : Nat} {lv lv' : List (Nat × Value)} {st : List Value} {cc : ByteArray} {Ts : List Cond} {own : String}
variable {y : MethodName} {bytes : ByteArray} {maxL ix n fr lo : Nat} {ret : Option FieldType} {wsy : List Cond} {As : List Value} {stk : List Value}
theorem cw_lcmp (C : CX p s m args c cc nL Ts own D Z A0) {x y : Int64} (hd : decode cc pc = .ok (.lcmp, 1)) (k : CW p l e R s m args below meth c D A0 nL w Q σ (pc + 1) lv (.int (lg_cmp x y) :: st)) : CW p l e R s m args below meth c D A0 nL w Q σ pc lv (.long y :: .long x :: st) :=
  fun H locs ls hP hD hS hl => W.lcmp C.1.1 C.1.2.1 hd (k H locs ls hP hD hS hl)
theorem cw_callsl (C : CX p s m args c cc nL Ts own D Z A0) (hd : decode cc pc = .ok (.invokestatic ix, 3)) {post : Int64 → St → Prop} (hM : CTl l y wsy fr lo D Z w σ As post) (cw : CallB R s args own ix y bytes maxL ret wsy (rmC fr lo) 0 0 n ∧ (Cond.static y).before args s = true) (hn : As.length = n) (hst : stk = As.reverse ++ st) (hcat : (st.map fun v => v.category).sum ≤ 8) (k : ∀ (r : Int64) (σ' : St), post r σ' → CW p l e R s m args below meth c D A0 nL w Q σ' (pc + 3) lv (.long r :: st)) : CW p l e R s m args below meth c D A0 nL w Q σ pc lv stk := by
  intro H locs ls hP hD hS hl
  have hF := cw_free (w := w) (σ := σ) hD hS C.2.2.2.1
  refine va_calll (va_runS (As := As) (rest := st) C.1 (hM H.size) cw ⟨PreC.blind, fun U hU hW => ⟨rfl, by rw [hU], by rw [hU]; exact hP, va_K.moved hW.alike C.2.1, NWs.warm hW C.2.2.1, hD.weaken (fun _ _ _ _ => trivial), by rw [hU]; exact SW.call C.2.2.2.2 hS hF hW⟩⟩ rfl hn hl.1 hst (lv_room hcat) hd ⟨Nat.zero_le _, Nat.zero_le _⟩) hS (fun q _ h => hF q h) hF (fun r u t H1 locs1 ht hvm hw hB hz1 hk1 hS1 => ?_)
  obtain ⟨hP1, hD1⟩ := hB
  rw [ht] at hP1
  exact k r u hw H1 locs1 ls hP1 (hD1.weaken (fun _ q _ h => hF q.1 h)) hS1 hl
theorem cw_slen (C : CX p s m args c cc nL Ts own D Z A0) (hd : decode cc pc = .ok (.arraylength, 1)) (k : CW p l e R s m args below meth c D A0 nL w Q σ (pc + 1) lv (.int (nI Z.2.2.2.1) :: st)) : CW p l e R s m args below meth c D A0 nL w Q σ pc lv (.ref Z.2.2.1 :: st) :=
  fun H locs ls hP hD hS hl => va_slen C.1.1 C.1.2.1 C.2.2.2.2.1 C.2.2.2.2.2.1 C.2.2.2.2.2.2 hS hd (k H locs ls hP hD hS hl)
theorem cw_sld (C : CX p s m args c cc nL Ts own D Z A0) (hd : decode cc pc = .ok (.iaload, 1)) {i : Int32} (j : Nat) (hi : i = nI j) (hj : j < Z.2.2.2.1) (hL : Z.2.2.2.1 < 2 ^ 31) (k : CW p l e R s m args below meth c D A0 nL w Q σ (pc + 1) lv (.int (Z.2.2.2.2.1 j) :: st)) : CW p l e R s m args below meth c D A0 nL w Q σ pc lv (.int i :: .ref Z.2.2.1 :: st) := by
  intro H locs ls hP hD hS hl
  obtain ⟨h1, h2⟩ := vp_in_j hi hj hL
  refine va_sld C.1.1 C.1.2.1 C.2.2.2.2.1 C.2.2.2.2.2.1 C.2.2.2.2.2.2 hS h1 hd ?_
  rw [h2]
  exact k H locs ls hP hD hS hl
end CWL3
