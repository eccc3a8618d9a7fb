/-! ROWS of the law: the script, the calls of the class's and the model's methods over both worlds -/
section LRW
variable {p : Program} {l : Launch} {e : Env} {R : Room} {s : State} {m : MethodId} {args : Array Value} {below : List Frame} {meth : Method} {c : Code} {D : va_G} {Z : CZ} {A0 : Nat → Prop} {nL : Nat} {w w' : va_W} {Q : State → Prop} {mc ms pc : Nat} {lv lv' : List (Nat × Value)} {st : List Value} {cc : ByteArray} {Ts : List Cond} {own : String}
theorem kw_slen (C : KX p s m args c cc nL Ts own D Z A0) {b L : Nat} {xs : Nat → Int32} (hX : va_X b L xs s s.heap) (hbl : b < s.heap.size) (hbA : ¬ A0 b) (hd : decode cc pc = .ok (.arraylength, 1)) (k : KW p l e R s m args below meth c D A0 nL Q w mc ms (pc + 1) lv (.int (nI L) :: st)) : KW p l e R s m args below meth c D A0 nL Q w mc ms pc lv (.ref b :: st) :=
  fun H locs ls hP hD hS hl => va_slen C.1.1 C.1.2.1 hX hbl hbA hS hd (k H locs ls hP hD hS hl)
theorem kw_sld (C : KX p s m args c cc nL Ts own D Z A0) {b L : Nat} {xs : Nat → Int32} (hX : va_X b L xs s s.heap) (hbl : b < s.heap.size) (hbA : ¬ A0 b) (hd : decode cc pc = .ok (.iaload, 1)) {i : Int32} (j : Nat) (hi : i = nI j) (hj : j < L) (hL : L < 2 ^ 31) (k : KW p l e R s m args below meth c D A0 nL Q w mc ms (pc + 1) lv (.int (xs j) :: st)) : KW p l e R s m args below meth c D A0 nL Q w mc ms pc lv (.int i :: .ref b :: st) := by
  intro H locs ls hP hD hS hl
  obtain ⟨h1, h2⟩ := vp_in_j hi hj hL
  refine va_sld C.1.1 C.1.2.1 hX hbl hbA hS h1 hd ?_
  rw [h2]
  exact k H locs ls hP hD hS hl
theorem kw_lcmp (C : KX p s m args c cc nL Ts own D Z A0) {x y : Int64} (hd : decode cc pc = .ok (.lcmp, 1)) (k : KW p l e R s m args below meth c D A0 nL Q w mc ms (pc + 1) lv (.int (lg_cmp x y) :: st)) : KW p l e R s m args below meth c D A0 nL Q w mc ms pc lv (.long y :: .long x :: st) :=
  fun H locs ls hP hD hS hl => W.lcmp C.1.1 C.1.2.1 hd (k H locs ls hP hD hS hl)
theorem kw_calli {y : MethodName} {bytes : ByteArray} {maxL ix n fr lo : Nat} {ret : Option FieldType} {wsy : List Cond} {As stk : List Value} {wv : St → va_W} {σ : St} {wr : va_W} (C : KX p s m args c cc nL Ts own D Z A0) (hN : NWs s) (hSW : SW Z A0 s s.heap) (hd : decode cc pc = .ok (.invokevirtual ix, 3)) {RC : String} {T : u_T} {N ci b : Nat} {fs : List Value} {post : Int32 → St → Prop} (hM : CTi l y wsy fr lo D Z wv σ (.ref b :: As) post) (cw : CallW R s args own RC ix y bytes maxL ret wsy (rmC fr lo) 0 0 n)
    (isC isR : List Nat) (hC : isC.map (fun i => w[i]?) = (wv σ).map some) (hsub : isC.filterMap (fun i => w[i]?) = wv σ) (hR : isR.map (fun i => w[i]?) = wr.map some) (hnd : va_nd isR = true) (hndC : va_nd isC = true) (hdis : ∀ i ∈ isR, i ∉ isC) (he : (wv σ)[0]? = some (b, .inr (ci, fs))) (hc : vwCl[ci]? = some (RC, T, N)) (hn : As.length = n) (hst : stk = As.reverse ++ .ref b :: st) (hcat : (st.map fun v => v.category).sum ≤ 8) (h1 : mc + 0 ≤ R.cells) (h2 : ms + 0 ≤ R.slots)
    (k : ∀ (r : Int32) (σ' : St), post r σ' → KW p l e R s m args below meth c D A0 nL Q (wr ++ wv σ') mc ms (pc + 3) lv (.int r :: st)) : KW p l e R s m args below meth c D A0 nL Q w mc ms pc lv stk := by
  intro H locs ls hP hD hS hl
  have hPc := hP.sub (ws' := wv σ) isC hsub
  have hDc := hD.sub (ws' := wv σ) isC hndC hC
  have hFc := va_free (wc := wv σ) hD hS C.2.2 isC hC
  refine va_calli (va_runV (As := As) (rest := st) C.1 (hM H.size) cw ⟨PreC.blind, va_recv C.2.1 hPc hc he, fun U hU hW => ⟨rfl, by rw [hU], by rw [hU]; exact hPc, va_K.moved hW.alike C.2.1, NWs.warm hW hN, hDc.weaken (fun _ _ _ _ => trivial), by rw [hU]; exact SW.call hSW hS hFc hW⟩⟩ rfl hn hl.1 hst (lv_room hcat) hd ⟨h1, h2⟩) hS (fun q _ h => hFc q h) hFc (fun r u t H1 locs1 ht hvm hw hB hz1 hk1 hS1 => ?_)
  obtain ⟨hP1, hD1⟩ := hB
  rw [ht] at hP1
  obtain ⟨hP2, hD2⟩ := va_join (wr := wr) (w1 := wv u) hP hD isC isR hC hR hnd hdis hk1 hFc hP1 hD1
  exact k r u hw H1 locs1 ls hP2 hD2 hS1 hl
theorem kw_calll {y : MethodName} {bytes : ByteArray} {maxL ix n fr lo : Nat} {ret : Option FieldType} {wsy : List Cond} {As stk : List Value} {wv : St → va_W} {σ : St} {wr : va_W} (C : KX p s m args c cc nL Ts own D Z A0) (hN : NWs s) (hSW : SW Z A0 s s.heap) (hd : decode cc pc = .ok (.invokevirtual ix, 3)) {RC : String} {T : u_T} {N ci b : Nat} {fs : List Value} {post : Int64 → St → Prop} (hM : CTl l y wsy fr lo D Z wv σ (.ref b :: As) post) (cw : CallW R s args own RC ix y bytes maxL ret wsy (rmC fr lo) 0 0 n)
    (isC isR : List Nat) (hC : isC.map (fun i => w[i]?) = (wv σ).map some) (hsub : isC.filterMap (fun i => w[i]?) = wv σ) (hR : isR.map (fun i => w[i]?) = wr.map some) (hnd : va_nd isR = true) (hndC : va_nd isC = true) (hdis : ∀ i ∈ isR, i ∉ isC) (he : (wv σ)[0]? = some (b, .inr (ci, fs))) (hc : vwCl[ci]? = some (RC, T, N)) (hn : As.length = n) (hst : stk = As.reverse ++ .ref b :: st) (hcat : (st.map fun v => v.category).sum ≤ 8) (h1 : mc + 0 ≤ R.cells) (h2 : ms + 0 ≤ R.slots)
    (k : ∀ (r : Int64) (σ' : St), post r σ' → KW p l e R s m args below meth c D A0 nL Q (wr ++ wv σ') mc ms (pc + 3) lv (.long r :: st)) : KW p l e R s m args below meth c D A0 nL Q w mc ms pc lv stk := by
  intro H locs ls hP hD hS hl
  have hPc := hP.sub (ws' := wv σ) isC hsub
  have hDc := hD.sub (ws' := wv σ) isC hndC hC
  have hFc := va_free (wc := wv σ) hD hS C.2.2 isC hC
  refine va_calll (va_runV (As := As) (rest := st) C.1 (hM H.size) cw ⟨PreC.blind, va_recv C.2.1 hPc hc he, fun U hU hW => ⟨rfl, by rw [hU], by rw [hU]; exact hPc, va_K.moved hW.alike C.2.1, NWs.warm hW hN, hDc.weaken (fun _ _ _ _ => trivial), by rw [hU]; exact SW.call hSW hS hFc hW⟩⟩ rfl hn hl.1 hst (lv_room hcat) hd ⟨h1, h2⟩) hS (fun q _ h => hFc q h) hFc (fun r u t H1 locs1 ht hvm hw hB hz1 hk1 hS1 => ?_)
  obtain ⟨hP1, hD1⟩ := hB
  rw [ht] at hP1
  obtain ⟨hP2, hD2⟩ := va_join (wr := wr) (w1 := wv u) hP hD isC isR hC hR hnd hdis hk1 hFc hP1 hD1
  exact k r u hw H1 locs1 ls hP2 hD2 hS1 hl
end LRW
