/-! ROWS of the law: what its own two bodies need, over a list of cells -/
section LRW
variable {p : Program} {l : Launch} {e : Env} {R : Room} {s : State} {m : MethodId} {args : Array Value} {below : List Frame} {meth : Method} {c : Code} {D : va_G} {Z : CZ} {A0 : Nat → Prop} {nL : Nat} {w w' : va_W} {Q : State → Prop} {mc ms pc : Nat} {lv lv' : List (Nat × Value)} {st : List Value} {cc : ByteArray} {Ts : List Cond} {own : String}
theorem kw_if_ne (C : KX p s m args c cc nL Ts own D Z A0) {x : Int32} {off : Int} {tgt : Nat} (hd : decode cc pc = .ok (.ifCond .ne off, 3)) (ht : (pc : Int) + off = (tgt : Int)) (kt : ¬ x = 0 → KW p l e R s m args below meth c D A0 nL Q w mc ms tgt lv st) (kf : x = 0 → KW p l e R s m args below meth c D A0 nL Q w mc ms (pc + 3) lv st) : KW p l e R s m args below meth c D A0 nL Q w mc ms pc lv (.int x :: st) :=
  fun H locs ls hP hD hS hl => lv_if_ne C.1.1 C.1.2.1 hd ht (fun h => kt h H locs ls hP hD hS hl) (fun h => kf h H locs ls hP hD hS hl)
theorem kw_if_le (C : KX p s m args c cc nL Ts own D Z A0) {x : Int32} {off : Int} {tgt : Nat} (hd : decode cc pc = .ok (.ifCond .le off, 3)) (ht : (pc : Int) + off = (tgt : Int)) (kt : x ≤ 0 → KW p l e R s m args below meth c D A0 nL Q w mc ms tgt lv st) (kf : ¬ x ≤ 0 → KW p l e R s m args below meth c D A0 nL Q w mc ms (pc + 3) lv st) : KW p l e R s m args below meth c D A0 nL Q w mc ms pc lv (.int x :: st) :=
  fun H locs ls hP hD hS hl => lv_if_le C.1.1 C.1.2.1 hd ht (fun h => kt h H locs ls hP hD hS hl) (fun h => kf h H locs ls hP hD hS hl)
theorem kw_icmp_ne (C : KX p s m args c cc nL Ts own D Z A0) {x y : Int32} {off : Int} {tgt : Nat} (hd : decode cc pc = .ok (.if_icmp .ne off, 3)) (ht : (pc : Int) + off = (tgt : Int)) (kt : ¬ x = y → KW p l e R s m args below meth c D A0 nL Q w mc ms tgt lv st) (kf : x = y → KW p l e R s m args below meth c D A0 nL Q w mc ms (pc + 3) lv st) : KW p l e R s m args below meth c D A0 nL Q w mc ms pc lv (.int y :: .int x :: st) :=
  fun H locs ls hP hD hS hl => lv_icmp_ne C.1.1 C.1.2.1 hd ht (fun h => kt h H locs ls hP hD hS hl) (fun h => kf h H locs ls hP hD hS hl)
theorem kw_ishr (C : KX p s m args c cc nL Ts own D Z A0) {x y : Int32} (hd : decode cc pc = .ok (.ishr, 1)) {z : Int32} (hz : x >>> (y &&& 31) = z) (k : KW p l e R s m args below meth c D A0 nL Q w mc ms (pc + 1) lv (.int z :: st)) : KW p l e R s m args below meth c D A0 nL Q w mc ms pc lv (.int y :: .int x :: st) := by
  subst hz
  exact fun H locs ls hP hD hS hl => lv_ishr C.1.1 C.1.2.1 hd (k H locs ls hP hD hS hl)
theorem kw_irem (C : KX p s m args c cc nL Ts own D Z A0) {x y : Int32} (hd : decode cc pc = .ok (.irem, 1)) (hne : ¬ y = 0) {z : Int32} (hz : x - x / y * y = z) (k : KW p l e R s m args below meth c D A0 nL Q w mc ms (pc + 1) lv (.int z :: st)) : KW p l e R s m args below meth c D A0 nL Q w mc ms pc lv (.int y :: .int x :: st) := by
  subst hz
  exact fun H locs ls hP hD hS hl => lv_irem C.1.1 C.1.2.1 hd hne (k H locs ls hP hD hS hl)
theorem kw_lcmp (C : KX p s m args c cc nL Ts own D Z A0) {x y : Int64} (hd : decode cc pc = .ok (.lcmp, 1)) (k : KW p l e R s m args below meth c D A0 nL Q w mc ms (pc + 1) lv (.int (lg_cmp x y) :: st)) : KW p l e R s m args below meth c D A0 nL Q w mc ms pc lv (.long y :: .long x :: st) :=
  fun H locs ls hP hD hS hl => W.lcmp C.1.1 C.1.2.1 hd (k H locs ls hP hD hS hl)
theorem kw_calli {y : MethodName} {bytes : ByteArray} {maxL ix n fr lo : Nat} {ret : Option FieldType} {wsy : List Cond} {As stk : List Value} {wv : St → va_W} {σ : St} {wr : va_W} (C : KX p s m args c cc nL Ts own D Z A0) (hN : NWs s) (hSW : SW Z A0 s s.heap) (hd : decode cc pc = .ok (.invokevirtual ix, 3)) {RC : String} {T : u_T} {N ci b : Nat} {fs : List Value} {post : Int32 → St → Prop} (hM : CTi l y wsy fr lo D Z wv σ (.ref b :: As) post) (cw : CallW R s args own RC ix y bytes maxL ret wsy (rmC fr lo) 0 0 n)
    (isC isR : List Nat) (hC : isC.map (fun i => w[i]?) = (wv σ).map some) (hsub : isC.filterMap (fun i => w[i]?) = wv σ) (hR : isR.map (fun i => w[i]?) = wr.map some) (hnd : va_nd isR = true) (hndC : va_nd isC = true) (hdis : ∀ i ∈ isR, i ∉ isC) (he : (wv σ)[0]? = some (b, .inr (ci, fs))) (hc : vwCl[ci]? = some (RC, T, N)) (hn : As.length = n) (hst : stk = As.reverse ++ .ref b :: st) (hcat : (st.map fun v => v.category).sum ≤ 8) (h1 : mc + 0 ≤ R.cells) (h2 : ms + 0 ≤ R.slots)
    (k : ∀ (r : Int32) (σ' : St), post r σ' → KW p l e R s m args below meth c D A0 nL Q (wr ++ wv σ') mc ms (pc + 3) lv (.int r :: st)) : KW p l e R s m args below meth c D A0 nL Q w mc ms pc lv stk := by
  intro H locs ls hP hD hS hl
  have hPc := hP.sub (ws' := wv σ) isC hsub
  have hDc := hD.sub (ws' := wv σ) isC hndC hC
  have hFc := va_free (wc := wv σ) hD hS C.2.2 isC hC
  refine va_calli (va_runV (As := As) (rest := st) C.1 (hM H.size) cw ⟨PreC.blind, va_recv C.2.1 hPc hc he, fun U hU hW => ⟨rfl, by rw [hU], by rw [hU]; exact hPc, va_K.moved hW.alike C.2.1, NWs.warm hW hN, hDc.weaken (fun _ _ _ _ => trivial), by rw [hU]; exact SW.call hSW hS hFc hW⟩⟩ rfl hn hl.1 hst (lv_room hcat) hd ⟨h1, h2⟩) hS (fun q _ h => hFc q h) hFc (fun r u t H1 locs1 ht hvm hw hB hz1 hk1 hS1 => ?_)
  obtain ⟨hP1, hD1⟩ := hB
  rw [ht] at hP1
  obtain ⟨hP2, hD2⟩ := va_join (wr := wr) (w1 := wv u) hP hD isC isR hC hR hnd hdis hk1 hFc hP1 hD1
  exact k r u hw H1 locs1 ls hP2 hD2 hS1 hl
theorem kw_calll {y : MethodName} {bytes : ByteArray} {maxL ix n fr lo : Nat} {ret : Option FieldType} {wsy : List Cond} {As stk : List Value} {wv : St → va_W} {σ : St} {wr : va_W} (C : KX p s m args c cc nL Ts own D Z A0) (hN : NWs s) (hSW : SW Z A0 s s.heap) (hd : decode cc pc = .ok (.invokevirtual ix, 3)) {RC : String} {T : u_T} {N ci b : Nat} {fs : List Value} {post : Int64 → St → Prop} (hM : CTl l y wsy fr lo D Z wv σ (.ref b :: As) post) (cw : CallW R s args own RC ix y bytes maxL ret wsy (rmC fr lo) 0 0 n)
    (isC isR : List Nat) (hC : isC.map (fun i => w[i]?) = (wv σ).map some) (hsub : isC.filterMap (fun i => w[i]?) = wv σ) (hR : isR.map (fun i => w[i]?) = wr.map some) (hnd : va_nd isR = true) (hndC : va_nd isC = true) (hdis : ∀ i ∈ isR, i ∉ isC) (he : (wv σ)[0]? = some (b, .inr (ci, fs))) (hc : vwCl[ci]? = some (RC, T, N)) (hn : As.length = n) (hst : stk = As.reverse ++ .ref b :: st) (hcat : (st.map fun v => v.category).sum ≤ 8) (h1 : mc + 0 ≤ R.cells) (h2 : ms + 0 ≤ R.slots)
    (k : ∀ (r : Int64) (σ' : St), post r σ' → KW p l e R s m args below meth c D A0 nL Q (wr ++ wv σ') mc ms (pc + 3) lv (.long r :: st)) : KW p l e R s m args below meth c D A0 nL Q w mc ms pc lv stk := by
  intro H locs ls hP hD hS hl
  have hPc := hP.sub (ws' := wv σ) isC hsub
  have hDc := hD.sub (ws' := wv σ) isC hndC hC
  have hFc := va_free (wc := wv σ) hD hS C.2.2 isC hC
  refine va_calll (va_runV (As := As) (rest := st) C.1 (hM H.size) cw ⟨PreC.blind, va_recv C.2.1 hPc hc he, fun U hU hW => ⟨rfl, by rw [hU], by rw [hU]; exact hPc, va_K.moved hW.alike C.2.1, NWs.warm hW hN, hDc.weaken (fun _ _ _ _ => trivial), by rw [hU]; exact SW.call hSW hS hFc hW⟩⟩ rfl hn hl.1 hst (lv_room hcat) hd ⟨h1, h2⟩) hS (fun q _ h => hFc q h) hFc (fun r u t H1 locs1 ht hvm hw hB hz1 hk1 hS1 => ?_)
  obtain ⟨hP1, hD1⟩ := hB
  rw [ht] at hP1
  obtain ⟨hP2, hD2⟩ := va_join (wr := wr) (w1 := wv u) hP hD isC isR hC hR hnd hdis hk1 hFc hP1 hD1
  exact k r u hw H1 locs1 ls hP2 hD2 hS1 hl

theorem kw_csi {y : MethodName} {bytes : ByteArray} {maxL ix n fr lo : Nat} {ret : Option FieldType} {wsy : List Cond} {As stk : List Value} {wv : St → va_W} {σ : St} {wr : va_W} (C : KX p s m args c cc nL Ts own D Z A0) (hN : NWs s) (hSW : SW Z A0 s s.heap) (hd : decode cc pc = .ok (.invokestatic ix, 3)) {post : Int32 → St → Prop} (hM : CTi l y wsy fr lo D Z wv σ As post) (cw : CallB R s args own ix y bytes maxL ret wsy (rmC fr lo) 0 0 n ∧ (Cond.static y).before args s = true)
    (isC isR : List Nat) (hC : isC.map (fun i => w[i]?) = (wv σ).map some) (hsub : isC.filterMap (fun i => w[i]?) = wv σ) (hR : isR.map (fun i => w[i]?) = wr.map some) (hnd : va_nd isR = true) (hndC : va_nd isC = true) (hdis : ∀ i ∈ isR, i ∉ isC) (hn : As.length = n) (hst : stk = As.reverse ++ st) (hcat : (st.map fun v => v.category).sum ≤ 8) (h1 : mc + 0 ≤ R.cells) (h2 : ms + 0 ≤ R.slots)
    (k : ∀ (r : Int32) (σ' : St), post r σ' → KW p l e R s m args below meth c D A0 nL Q (wr ++ wv σ') mc ms (pc + 3) lv (.int r :: st)) : KW p l e R s m args below meth c D A0 nL Q w mc ms pc lv stk := by
  intro H locs ls hP hD hS hl
  have hPc := hP.sub (ws' := wv σ) isC hsub
  have hDc := hD.sub (ws' := wv σ) isC hndC hC
  have hFc := va_free (wc := wv σ) hD hS C.2.2 isC hC
  refine va_calli (va_runS (As := As) (rest := st) C.1 (hM H.size) cw ⟨PreC.blind, fun U hU hW => ⟨rfl, by rw [hU], by rw [hU]; exact hPc, va_K.moved hW.alike C.2.1, NWs.warm hW hN, hDc.weaken (fun _ _ _ _ => trivial), by rw [hU]; exact SW.call hSW hS hFc hW⟩⟩ rfl hn hl.1 hst (lv_room hcat) hd ⟨h1, h2⟩) hS (fun q _ h => hFc q h) hFc (fun r u t H1 locs1 ht hvm hw hB hz1 hk1 hS1 => ?_)
  obtain ⟨hP1, hD1⟩ := hB
  rw [ht] at hP1
  obtain ⟨hP2, hD2⟩ := va_join (wr := wr) (w1 := wv u) hP hD isC isR hC hR hnd hdis hk1 hFc hP1 hD1
  exact k r u hw H1 locs1 ls hP2 hD2 hS1 hl
theorem kw_csl {y : MethodName} {bytes : ByteArray} {maxL ix n fr lo : Nat} {ret : Option FieldType} {wsy : List Cond} {As stk : List Value} {wv : St → va_W} {σ : St} {wr : va_W} (C : KX p s m args c cc nL Ts own D Z A0) (hN : NWs s) (hSW : SW Z A0 s s.heap) (hd : decode cc pc = .ok (.invokestatic ix, 3)) {post : Int64 → St → Prop} (hM : CTl l y wsy fr lo D Z wv σ As post) (cw : CallB R s args own ix y bytes maxL ret wsy (rmC fr lo) 0 0 n ∧ (Cond.static y).before args s = true)
    (isC isR : List Nat) (hC : isC.map (fun i => w[i]?) = (wv σ).map some) (hsub : isC.filterMap (fun i => w[i]?) = wv σ) (hR : isR.map (fun i => w[i]?) = wr.map some) (hnd : va_nd isR = true) (hndC : va_nd isC = true) (hdis : ∀ i ∈ isR, i ∉ isC) (hn : As.length = n) (hst : stk = As.reverse ++ st) (hcat : (st.map fun v => v.category).sum ≤ 8) (h1 : mc + 0 ≤ R.cells) (h2 : ms + 0 ≤ R.slots)
    (k : ∀ (r : Int64) (σ' : St), post r σ' → KW p l e R s m args below meth c D A0 nL Q (wr ++ wv σ') mc ms (pc + 3) lv (.long r :: st)) : KW p l e R s m args below meth c D A0 nL Q w mc ms pc lv stk := by
  intro H locs ls hP hD hS hl
  have hPc := hP.sub (ws' := wv σ) isC hsub
  have hDc := hD.sub (ws' := wv σ) isC hndC hC
  have hFc := va_free (wc := wv σ) hD hS C.2.2 isC hC
  refine va_calll (va_runS (As := As) (rest := st) C.1 (hM H.size) cw ⟨PreC.blind, fun U hU hW => ⟨rfl, by rw [hU], by rw [hU]; exact hPc, va_K.moved hW.alike C.2.1, NWs.warm hW hN, hDc.weaken (fun _ _ _ _ => trivial), by rw [hU]; exact SW.call hSW hS hFc hW⟩⟩ rfl hn hl.1 hst (lv_room hcat) hd ⟨h1, h2⟩) hS (fun q _ h => hFc q h) hFc (fun r u t H1 locs1 ht hvm hw hB hz1 hk1 hS1 => ?_)
  obtain ⟨hP1, hD1⟩ := hB
  rw [ht] at hP1
  obtain ⟨hP2, hD2⟩ := va_join (wr := wr) (w1 := wv u) hP hD isC isR hC hR hnd hdis hk1 hFc hP1 hD1
  exact k r u hw H1 locs1 ls hP2 hD2 hS1 hl

theorem kw_lload (C : KX p s m args c cc nL Ts own D Z A0) {i : Nat} {x : Int64} (hd : decode cc pc = .ok (.lload i, 2)) (q : Nat) (hq : lv[q]? = some (i, .long x)) (k : KW p l e R s m args below meth c D A0 nL Q w mc ms (pc + 2) lv (.long x :: st)) : KW p l e R s m args below meth c D A0 nL Q w mc ms pc lv st :=
  fun H locs ls hP hD hS hl => lv_lload C.1.1 C.1.2.1 hd (lv_at hl q hq) (k H locs ls hP hD hS hl)
theorem kw_lstore (C : KX p s m args c cc nL Ts own D Z A0) {i : Nat} {x : Int64} (hd : decode cc pc = .ok (.lstore i, 2)) (hn : i + 1 < nL) (hl' : (i, Value.long x) :: lv.filter (fun q => !(q.1 == i) && (!(q.1 == i + 1) && !(q.1 + 1 == i && q.2.category == 2))) = lv') (k : KW p l e R s m args below meth c D A0 nL Q w mc ms (pc + 2) lv' st) : KW p l e R s m args below meth c D A0 nL Q w mc ms pc lv (.long x :: st) :=
  fun H locs ls hP hD hS hl => lv_lstore C.1.1 C.1.2.1 hd hl hn hl' (fun ls' h => k H locs ls' hP hD hS h)
theorem kw_newl (C : KX p s m args c cc nL Ts own D Z A0) (hd : decode cc pc = .ok (.newarray .long, 2)) (hc : Cond.arrayClass .long ∈ Ts) (N : Nat) {n : Int32} (hn : n = nI N) (hN : N < 1000) (h1 : mc + 1 ≤ R.cells) (h2 : ms + N ≤ R.slots) (k : ∀ q : Nat, KW p l e R s m args below meth c D A0 nL Q (w ++ [(q, .inl (Z.2.2.2.2.2, N, .inr (.inl (fun _ => 0))))]) (mc + 1) (ms + N) (pc + 2) lv (.ref q :: st)) : KW p l e R s m args below meth c D A0 nL Q w mc ms pc lv (.int n :: st) := by
  intro H locs ls hP hD hS hl
  subst hn
  refine va_newa (atype := .long) (ty := .long) (N' := N) (a0 := (N, .inr (.inl (fun _ => 0)))) C.1.1 C.1.2.1 (C.1.2.2.2.2 _ hc) rfl C.2.1 hP hD hS C.2.2 (fun cA => rfl) (nI_pos (by omega)) (nI_clamp (by omega)) (by show N * 8 ≤ _; omega) h1 h2 hd (fun q cA H1 hK1 hP1 hD1 hS1 => ?_)
  have e1 := (hK1.2 2 _ rfl).2
  have e2 := (hK1.2 3 _ rfl).2
  have e : cA = Z.2.2.2.2.2 := by
    have a1 : s.vm.findClass ("[" ++ (FieldType.long).toString) = some Z.2.2.2.2.2 := e1
    have a2 : s.vm.findClass ("[" ++ (FieldType.long).toString) = some cA := e2
    exact Option.some.inj (a2.symm.trans a1)
  subst e
  exact k q H1 locs ls hP1 hD1 hS1 hl
theorem kw_lald (C : KX p s m args c cc nL Ts own D Z A0) (hd : decode cc pc = .ok (.laload, 1)) (q0 : Nat) {a n : Nat} {f : Nat → Int64} (ha : w[q0]? = some (a, .inl (Z.2.2.2.2.2, n, .inr (.inl f)))) {i : Int32} (j : Nat) (hi : i = nI j) (hj : j < n) (hn : n < 2 ^ 31) (k : KW p l e R s m args below meth c D A0 nL Q w mc ms (pc + 1) lv (.long (f j) :: st)) : KW p l e R s m args below meth c D A0 nL Q w mc ms pc lv (.int i :: .ref a :: st) := by
  intro H locs ls hP hD hS hl
  obtain ⟨h1, h2⟩ := vp_in_j hi hj hn
  refine va_lald C.1.1 C.1.2.1 C.2.1 hP q0 2 ha rfl h1 hd ?_
  rw [h2]
  exact k H locs ls hP hD hS hl
def updL (f : Nat → Int64) (k : Nat) (x : Int64) : Nat → Int64 := fun j => if j = k then x else f j
theorem updL_same (f : Nat → Int64) (k : Nat) (x : Int64) : updL f k x k = x := if_pos rfl
theorem updL_ne {f : Nat → Int64} {k j : Nat} {x : Int64} (h : j ≠ k) : updL f k x j = f j := if_neg h
theorem updL_is (f : Nat → Int64) (k : Nat) (x : Int64) : vp_updL f k x = updL f k x := by
  funext j
  unfold vp_updL updL
  by_cases h : j = k <;> simp [h]
theorem kw_last (C : KX p s m args c cc nL Ts own D Z A0) (hd : decode cc pc = .ok (.lastore, 1)) (q0 : Nat) {a n : Nat} {f : Nat → Int64} (ha : w[q0]? = some (a, .inl (Z.2.2.2.2.2, n, .inr (.inl f)))) {i : Int32} {x : Int64} (j : Nat) (hi : i = nI j) (hj : j < n) (hn : n < 2 ^ 31) (k : KW p l e R s m args below meth c D A0 nL Q (w.set q0 (a, .inl (Z.2.2.2.2.2, n, .inr (.inl (updL f j x))))) mc ms (pc + 1) lv st) : KW p l e R s m args below meth c D A0 nL Q w mc ms pc lv (.long x :: .int i :: .ref a :: st) := by
  intro H locs ls hP hD hS hl
  obtain ⟨h1, h2⟩ := vp_in_j hi hj hn
  refine va_last C.1.1 C.1.2.1 C.2.1 hP hD hS q0 2 ha rfl h1 hd (fun H1 locs1 hP1 hD1 hS1 => ?_)
  rw [h2, updL_is] at hP1 hD1
  exact k H1 locs1 ls hP1 hD1 hS1 hl
/-- a law's own method that makes an object of its own: it begins and ends over no cells; what it made is forgotten -/
def CTk (l : Launch) (y : MethodName) (ws : List Cond) (fr lo cm sm : Nat) (D : va_G) (Z : CZ) (as : List Value) (post : Int32 → Prop) : Prop :=
  ∀ sz : Nat, Met l y ws { frames := fr, cells := cm, slots := sm, locals := lo } (va_Pc as (fun U => U.heap.size = sz ∧ va_K D vwCl (tysC Z) U ∧ NWs U ∧ AOK Z U ∧ SW Z (va_A [] sz) U U.heap)) (va_Qi (fun r (_ : Unit) => post r) (fun _ t => va_P D vwCl [] t.heap ∧ va_D (va_A [] sz) []) (va_A [] sz)) cm sm (va_A [] sz)
theorem CTk.blind {as : List Value} {sz : Nat} : FrameBlind (va_Pc as (fun U => U.heap.size = sz ∧ va_K D vwCl (tysC Z) U ∧ NWs U ∧ AOK Z U ∧ SW Z (va_A [] sz) U U.heap)) := fun a U g mk q => by
  obtain ⟨q0, q1, q3, q4, q5, q6⟩ := q
  exact ⟨q0, q1, va_K.moved (u := U) (U := U.calling g mk a) (Vm.Alike.refl U.vm) q3, NWs.same rfl q4, AOK.same rfl q5, SW.same rfl q6⟩
theorem CTk.mkz {y : MethodName} {ws ws' : List Cond} {fr lo cm sm : Nat} {as : List Value} {own : String} (ho : y.cls = own) (hy : plainName y.cls = true) (hw : ws = Cond.code y cc nL (some .boolean) :: ws') (hlen : (lg_sl as).length ≤ nL)
    (body : ∀ (p : Program) (e : Env) (s : State) (m : MethodId) (args : Array Value) (below : List Frame) (meth : Method) (c : Code) (A0 : Nat → Prop) (Q : State → Prop), KX p s m args c cc nL ws own D Z A0 → NWs s → AOK Z s → SW Z A0 s s.heap → (∀ (w : va_W) (pc : Nat) (lv : List (Nat × Value)), decode cc pc = .ok (.ireturn, 1) → KW p l e { frames := fr, cells := cm, slots := sm, locals := lo } s m args below meth c D A0 nL Q w cm sm pc lv [.int (nI 1)]) → KW p l e { frames := fr, cells := cm, slots := sm, locals := lo } s m args below meth c D A0 nL Q [] 0 0 0 (lv_args 0 as) []) : CTk l y ws fr lo cm sm D Z as (fun r => r = nI 1) := by
  subst ho
  intro sz
  refine Met.ofW (cc := cc) (maxL := nL) (ret := some .boolean) hy hw ?_
  intro p e s m args below meth c s₁ B hml hv
  obtain ⟨rfl, hsz, hK, hN, hAO, hSW⟩ := hv
  subst hsz
  have hts := atoms_spec (ws := ws) B.pre
  have hl := lv_entry as (n := nL) hlen
  rw [lg_entry_eq]
  refine body p e s m as.toArray below meth c (va_A [] s.heap.size) _ ⟨⟨B.exec, B.bytes, hml, findClass_of_methodNamed B.named, hts⟩, hK, (fun q h => Or.inr h)⟩ hN hAO hSW ?_ s.heap [] _ (fun k q h => by simp at h) ⟨fun i j p q h => by simp at h, fun k q h => by simp at h⟩ va_S.rf hl
  intro w pc lv hd H locs ls hP' hD' hS' hl'
  exact W.zret B.exec B.bytes B.returns (by rfl) (fun t ht hW => ⟨⟨nI 1, (), rfl, rfl, (fun k q h => by simp at h), ⟨fun i j p q h => by simp at h, fun k q h => by simp at h⟩⟩, hS'.F ht⟩) hS'.2.2 hd B.notSynchronized
theorem kw_ck {y : MethodName} {bytes : ByteArray} {maxL ix n fr lo cm sm : Nat} {ret : Option FieldType} {wsy : List Cond} {As stk : List Value} (C : KX p s m args c cc nL Ts own D Z A0) (hN : NWs s) (hAO : AOK Z s) (hSW : SW Z A0 s s.heap) (hd : decode cc pc = .ok (.invokestatic ix, 3)) {post : Int32 → Prop} (hM : CTk l y wsy fr lo cm sm D Z As post) (cw : CallB R s args own ix y bytes maxL ret wsy { frames := fr, cells := cm, slots := sm, locals := lo } cm sm n ∧ (Cond.static y).before args s = true)
    (isR : List Nat) (hR : isR.map (fun i => w[i]?) = w.map some) (hnd : va_nd isR = true) (hn : As.length = n) (hst : stk = As.reverse ++ st) (hcat : (st.map fun v => v.category).sum ≤ 8) (h1 : mc + cm ≤ R.cells) (h2 : ms + sm ≤ R.slots)
    (k : ∀ r : Int32, post r → KW p l e R s m args below meth c D A0 nL Q w (mc + cm) (ms + sm) (pc + 3) lv (.int r :: st)) : KW p l e R s m args below meth c D A0 nL Q w mc ms pc lv stk := by
  intro H locs ls hP hD hS hl
  have hFc := va_free (wc := []) hD hS C.2.2 [] rfl
  refine va_calli (va_runS (As := As) (rest := st) C.1 (hM H.size) cw ⟨CTk.blind, fun U hU hW => ⟨rfl, by rw [hU], va_K.moved hW.alike C.2.1, NWs.warm hW hN, AOK.warm hW hAO, by rw [hU]; exact SW.call hSW hS hFc hW⟩⟩ rfl hn hl.1 hst (lv_room hcat) hd ⟨h1, h2⟩) hS (fun q _ h => hFc q h) hFc (fun r u t H1 locs1 ht hvm hw hB hz1 hk1 hS1 => ?_)
  obtain ⟨hP1, hD1⟩ := hB
  rw [ht] at hP1
  obtain ⟨hP2, hD2⟩ := va_join (wr := w) (w1 := []) hP hD [] isR rfl hR hnd (fun i _ h => by simp at h) hk1 hFc hP1 hD1
  rw [List.append_nil] at hP2 hD2
  exact k r hw H1 locs1 ls hP2 hD2 hS1 hl
end LRW
