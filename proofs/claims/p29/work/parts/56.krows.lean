/-! ROWS over a world that is a list, with cells made: constructors and the law -/
def KX (p : Program) (s : State) (m : MethodId) (args : Array Value) (c : Code) (cc : ByteArray) (nL : Nat) (Ts : List Cond) (own : String) (D : va_G) (Z : CZ) (A0 : Nat → Prop) : Prop :=
  CallFix p m c cc nL s args Ts own ∧ va_K D vwCl (tysC Z) s ∧ (∀ q, s.heap.size ≤ q → A0 q)
def KW (p : Program) (l : Launch) (e : Env) (R : Room) (s : State) (m : MethodId) (args : Array Value) (below : List Frame) (meth : Method) (c : Code) (D : va_G) (A0 : Nat → Prop) (nL : Nat) (Q : State → Prop) (w : va_W) (mc ms : Nat) (pc : Nat) (lv : List (Nat × Value)) (st : List Value) : Prop :=
  ∀ (H : Heap) (locs : List Loc) (ls : Array Slot), va_P D vwCl w H → va_D A0 w → va_S A0 s.heap H locs → lv_has ls nL lv → W p l e R s m args below meth c H locs mc ms Q (F0 m pc ls st)
section KWL
variable {p : Program} {l : Launch} {e : Env} {R : Room} {s : State} {m : MethodId} {args : Array Value} {below : List Frame} {meth : Method} {c : Code} {D : va_G} {Z : CZ} {A0 : Nat → Prop} {nL : Nat} {w w' : va_W} {Q : State → Prop} {mc ms pc pc' : Nat} {lv lv' : List (Nat × Value)} {st : List Value} {cc : ByteArray} {Ts : List Cond} {own : String}
theorem kw_iconst (C : KX p s m args c cc nL Ts own D Z A0) {n : Int} (hd : decode cc pc = .ok (.iconst n, 1)) (v : Int32) (hv : Int32.ofInt n = v) (k : KW p l e R s m args below meth c D A0 nL Q w mc ms (pc + 1) lv (.int v :: st)) : KW p l e R s m args below meth c D A0 nL Q w mc ms pc lv st :=
  fun H locs ls hP hD hS hl => lv_iconst C.1.1 C.1.2.1 hd hv (k H locs ls hP hD hS hl)
theorem kw_bipush (C : KX p s m args c cc nL Ts own D Z A0) {n : Int} (hd : decode cc pc = .ok (.bipush n, 2)) (v : Int32) (hv : (Int8.ofInt n).toInt32 = v) (k : KW p l e R s m args below meth c D A0 nL Q w mc ms (pc + 2) lv (.int v :: st)) : KW p l e R s m args below meth c D A0 nL Q w mc ms pc lv st :=
  fun H locs ls hP hD hS hl => lv_bipush C.1.1 C.1.2.1 hd hv (k H locs ls hP hD hS hl)
theorem kw_sipush (C : KX p s m args c cc nL Ts own D Z A0) {n : Int} (hd : decode cc pc = .ok (.sipush n, 3)) (v : Int32) (hv : (Int16.ofInt n).toInt32 = v) (k : KW p l e R s m args below meth c D A0 nL Q w mc ms (pc + 3) lv (.int v :: st)) : KW p l e R s m args below meth c D A0 nL Q w mc ms pc lv st :=
  fun H locs ls hP hD hS hl => lv_sipush C.1.1 C.1.2.1 hd hv (k H locs ls hP hD hS hl)
theorem kw_iload_n (C : KX p s m args c cc nL Ts own D Z A0) {n : Fin 4} {i : Nat} {x : Int32} (hd : decode cc pc = .ok (.iload_n n, 1)) (hi : (n : Nat) = i) (q : Nat) (hq : lv[q]? = some (i, .int x)) (k : KW p l e R s m args below meth c D A0 nL Q w mc ms (pc + 1) lv (.int x :: st)) : KW p l e R s m args below meth c D A0 nL Q w mc ms pc lv st :=
  fun H locs ls hP hD hS hl => lv_iload_n C.1.1 C.1.2.1 hd hi (lv_at hl q hq) (k H locs ls hP hD hS hl)
theorem kw_iload (C : KX p s m args c cc nL Ts own D Z A0) {i : Nat} {x : Int32} (hd : decode cc pc = .ok (.iload i, 2)) (q : Nat) (hq : lv[q]? = some (i, .int x)) (k : KW p l e R s m args below meth c D A0 nL Q w mc ms (pc + 2) lv (.int x :: st)) : KW p l e R s m args below meth c D A0 nL Q w mc ms pc lv st :=
  fun H locs ls hP hD hS hl => lv_iload C.1.1 C.1.2.1 hd (lv_at hl q hq) (k H locs ls hP hD hS hl)
theorem kw_aload_n (C : KX p s m args c cc nL Ts own D Z A0) {n : Fin 4} {i : Nat} {x : Nat} (hd : decode cc pc = .ok (.aload_n n, 1)) (hi : (n : Nat) = i) (q : Nat) (hq : lv[q]? = some (i, .ref x)) (k : KW p l e R s m args below meth c D A0 nL Q w mc ms (pc + 1) lv (.ref x :: st)) : KW p l e R s m args below meth c D A0 nL Q w mc ms pc lv st :=
  fun H locs ls hP hD hS hl => lv_aload_n C.1.1 C.1.2.1 hd hi (lv_at hl q hq) (k H locs ls hP hD hS hl)
theorem kw_istore_n (C : KX p s m args c cc nL Ts own D Z A0) {n : Fin 4} {i : Nat} {x : Int32} (hd : decode cc pc = .ok (.istore_n n, 1)) (hi : (n : Nat) = i) (hn : i < nL) (hl' : (i, Value.int x) :: lv.filter (fun q => !(q.1 == i) && !(q.1 + 1 == i && q.2.category == 2)) = lv') (k : KW p l e R s m args below meth c D A0 nL Q w mc ms (pc + 1) lv' st) : KW p l e R s m args below meth c D A0 nL Q w mc ms pc lv (.int x :: st) :=
  fun H locs ls hP hD hS hl => lv_istore_n C.1.1 C.1.2.1 hd hi hl hn hl' (fun ls' hl'' => k H locs ls' hP hD hS hl'')
theorem kw_istore (C : KX p s m args c cc nL Ts own D Z A0) {i : Nat} {x : Int32} (hd : decode cc pc = .ok (.istore i, 2)) (hn : i < nL) (hl' : (i, Value.int x) :: lv.filter (fun q => !(q.1 == i) && !(q.1 + 1 == i && q.2.category == 2)) = lv') (k : KW p l e R s m args below meth c D A0 nL Q w mc ms (pc + 2) lv' st) : KW p l e R s m args below meth c D A0 nL Q w mc ms pc lv (.int x :: st) :=
  fun H locs ls hP hD hS hl => lv_istore C.1.1 C.1.2.1 hd hl hn hl' (fun ls' hl'' => k H locs ls' hP hD hS hl'')
theorem kw_iinc (C : KX p s m args c cc nL Ts own D Z A0) {i : Nat} {n : Int} {x : Int32} (hd : decode cc pc = .ok (.iinc i n, 3)) (q : Nat) (hq : lv[q]? = some (i, .int x)) (v : Int32) (hv : x + Int32.ofInt n = v) (hn : i < nL) (hl' : (i, Value.int v) :: lv.filter (fun q => !(q.1 == i) && !(q.1 + 1 == i && q.2.category == 2)) = lv') (k : KW p l e R s m args below meth c D A0 nL Q w mc ms (pc + 3) lv' st) : KW p l e R s m args below meth c D A0 nL Q w mc ms pc lv st :=
  fun H locs ls hP hD hS hl => lv_iinc C.1.1 C.1.2.1 hd hl hq hv hn hl' (fun ls' hl'' => k H locs ls' hP hD hS hl'')
theorem kw_lv (is : List Nat) (h : lv_pick lv is = lv') (k : KW p l e R s m args below meth c D A0 nL Q w mc ms pc lv' st) : KW p l e R s m args below meth c D A0 nL Q w mc ms pc lv st :=
  fun H locs ls hP hD hS hl => k H locs ls hP hD hS (lv_sub hl is h)
theorem kw_top {x : Int32} (y : Int32) (h : x = y) (k : KW p l e R s m args below meth c D A0 nL Q w mc ms pc lv (.int y :: st)) : KW p l e R s m args below meth c D A0 nL Q w mc ms pc lv (.int x :: st) := by
  subst h
  exact k
theorem kw_iadd (C : KX p s m args c cc nL Ts own D Z A0) {x y : Int32} (hd : decode cc pc = .ok (.iadd, 1)) {z : Int32} (hz : x + y = z) (k : KW p l e R s m args below meth c D A0 nL Q w mc ms (pc + 1) lv (.int z :: st)) : KW p l e R s m args below meth c D A0 nL Q w mc ms pc lv (.int y :: .int x :: st) := by
  subst hz
  exact fun H locs ls hP hD hS hl => lv_iadd C.1.1 C.1.2.1 hd (k H locs ls hP hD hS hl)
theorem kw_isub (C : KX p s m args c cc nL Ts own D Z A0) {x y : Int32} (hd : decode cc pc = .ok (.isub, 1)) {z : Int32} (hz : x - y = z) (k : KW p l e R s m args below meth c D A0 nL Q w mc ms (pc + 1) lv (.int z :: st)) : KW p l e R s m args below meth c D A0 nL Q w mc ms pc lv (.int y :: .int x :: st) := by
  subst hz
  exact fun H locs ls hP hD hS hl => lv_isub C.1.1 C.1.2.1 hd (k H locs ls hP hD hS hl)
theorem kw_imul (C : KX p s m args c cc nL Ts own D Z A0) {x y : Int32} (hd : decode cc pc = .ok (.imul, 1)) {z : Int32} (hz : x * y = z) (k : KW p l e R s m args below meth c D A0 nL Q w mc ms (pc + 1) lv (.int z :: st)) : KW p l e R s m args below meth c D A0 nL Q w mc ms pc lv (.int y :: .int x :: st) := by
  subst hz
  exact fun H locs ls hP hD hS hl => lv_imul C.1.1 C.1.2.1 hd (k H locs ls hP hD hS hl)
theorem kw_iand (C : KX p s m args c cc nL Ts own D Z A0) {x y : Int32} (hd : decode cc pc = .ok (.iand, 1)) {z : Int32} (hz : x &&& y = z) (k : KW p l e R s m args below meth c D A0 nL Q w mc ms (pc + 1) lv (.int z :: st)) : KW p l e R s m args below meth c D A0 nL Q w mc ms pc lv (.int y :: .int x :: st) := by
  subst hz
  exact fun H locs ls hP hD hS hl => lv_iand C.1.1 C.1.2.1 hd (k H locs ls hP hD hS hl)
theorem kw_dup (C : KX p s m args c cc nL Ts own D Z A0) {a : Value} (hd : decode cc pc = .ok (.dup, 1)) (ha : a.category = 1) (k : KW p l e R s m args below meth c D A0 nL Q w mc ms (pc + 1) lv (a :: a :: st)) : KW p l e R s m args below meth c D A0 nL Q w mc ms pc lv (a :: st) :=
  fun H locs ls hP hD hS hl => lv_dup C.1.1 C.1.2.1 hd ha (k H locs ls hP hD hS hl)
theorem kw_goto (C : KX p s m args c cc nL Ts own D Z A0) {off : Int} {tgt : Nat} (hd : decode cc pc = .ok (.goto off, 3)) (ht : (pc : Int) + off = (tgt : Int)) (k : KW p l e R s m args below meth c D A0 nL Q w mc ms tgt lv st) : KW p l e R s m args below meth c D A0 nL Q w mc ms pc lv st :=
  fun H locs ls hP hD hS hl => lv_goto C.1.1 C.1.2.1 hd ht (k H locs ls hP hD hS hl)
theorem kw_if_eq (C : KX p s m args c cc nL Ts own D Z A0) {x : Int32} {off : Int} {tgt : Nat} (hd : decode cc pc = .ok (.ifCond .eq off, 3)) (ht : (pc : Int) + off = (tgt : Int)) (kt : x = 0 → KW p l e R s m args below meth c D A0 nL Q w mc ms tgt lv st) (kf : ¬ x = 0 → KW p l e R s m args below meth c D A0 nL Q w mc ms (pc + 3) lv st) : KW p l e R s m args below meth c D A0 nL Q w mc ms pc lv (.int x :: st) :=
  fun H locs ls hP hD hS hl => lv_if_eq C.1.1 C.1.2.1 hd ht (fun h => kt h H locs ls hP hD hS hl) (fun h => kf h H locs ls hP hD hS hl)
theorem kw_icmp_eq (C : KX p s m args c cc nL Ts own D Z A0) {x y : Int32} {off : Int} {tgt : Nat} (hd : decode cc pc = .ok (.if_icmp .eq off, 3)) (ht : (pc : Int) + off = (tgt : Int)) (kt : x = y → KW p l e R s m args below meth c D A0 nL Q w mc ms tgt lv st) (kf : ¬ x = y → KW p l e R s m args below meth c D A0 nL Q w mc ms (pc + 3) lv st) : KW p l e R s m args below meth c D A0 nL Q w mc ms pc lv (.int y :: .int x :: st) :=
  fun H locs ls hP hD hS hl => lv_icmp_eq C.1.1 C.1.2.1 hd ht (fun h => kt h H locs ls hP hD hS hl) (fun h => kf h H locs ls hP hD hS hl)
theorem kw_icmp_ge (C : KX p s m args c cc nL Ts own D Z A0) {x y : Int32} {off : Int} {tgt : Nat} (hd : decode cc pc = .ok (.if_icmp .ge off, 3)) (ht : (pc : Int) + off = (tgt : Int)) (kt : y ≤ x → KW p l e R s m args below meth c D A0 nL Q w mc ms tgt lv st) (kf : ¬ y ≤ x → KW p l e R s m args below meth c D A0 nL Q w mc ms (pc + 3) lv st) : KW p l e R s m args below meth c D A0 nL Q w mc ms pc lv (.int y :: .int x :: st) :=
  fun H locs ls hP hD hS hl => lv_icmp_ge C.1.1 C.1.2.1 hd ht (fun h => kt h H locs ls hP hD hS hl) (fun h => kf h H locs ls hP hD hS hl)
theorem kw_icmp_gt (C : KX p s m args c cc nL Ts own D Z A0) {x y : Int32} {off : Int} {tgt : Nat} (hd : decode cc pc = .ok (.if_icmp .gt off, 3)) (ht : (pc : Int) + off = (tgt : Int)) (kt : y < x → KW p l e R s m args below meth c D A0 nL Q w mc ms tgt lv st) (kf : ¬ y < x → KW p l e R s m args below meth c D A0 nL Q w mc ms (pc + 3) lv st) : KW p l e R s m args below meth c D A0 nL Q w mc ms pc lv (.int y :: .int x :: st) :=
  fun H locs ls hP hD hS hl => lv_icmp_gt C.1.1 C.1.2.1 hd ht (fun h => kt h H locs ls hP hD hS hl) (fun h => kf h H locs ls hP hD hS hl)
theorem kw_tableOut (C : KX p s m args c cc nL Ts own D Z A0) {dflt lo hi : Int} {offs : Array Int} {len : Nat} {x : Int32} {tgt : Nat} (hd : decode cc pc = .ok (.tableswitch dflt lo hi offs, len)) (h : x.toInt < lo ∨ hi < x.toInt) (ht : (pc : Int) + dflt = (tgt : Int)) (k : KW p l e R s m args below meth c D A0 nL Q w mc ms tgt lv st) : KW p l e R s m args below meth c D A0 nL Q w mc ms pc lv (.int x :: st) :=
  fun H locs ls hP hD hS hl => lv_tableOut C.1.1 C.1.2.1 hd h ht (k H locs ls hP hD hS hl)
theorem kw_tableIn (C : KX p s m args c cc nL Ts own D Z A0) {dflt lo hi : Int} {offs : Array Int} {len : Nat} {x : Int32} {off : Int} {tgt : Nat} (hd : decode cc pc = .ok (.tableswitch dflt lo hi offs, len)) (h1 : ¬ x.toInt < lo) (h2 : ¬ hi < x.toInt) (ho : offs[(x.toInt - lo).toNat]? = some off) (ht : (pc : Int) + off = (tgt : Int)) (k : KW p l e R s m args below meth c D A0 nL Q w mc ms tgt lv st) : KW p l e R s m args below meth c D A0 nL Q w mc ms pc lv (.int x :: st) :=
  fun H locs ls hP hD hS hl => lv_tableIn C.1.1 C.1.2.1 hd h1 h2 ho ht (k H locs ls hP hD hS hl)
theorem kw_get (C : KX p s m args c cc nL Ts own D Z A0) {ix : Nat} (hd : decode cc pc = .ok (.getfield ix, 3)) (q0 : Nat) {a ci N : Nat} {RC : String} {T : u_T} {fs : List Value} {v : Value} (he : w[q0]? = some (a, .inr (ci, fs))) (hc : vwCl[ci]? = some (RC, T, N)) (f : Nat) (hv : fs[f]? = some v) (hin : ∀ x ∈ u_ws RC T N, x ∈ Ts) (hk : f < N) (hm : Cond.fieldLink own ix (T f).1 (T f).2.1 (T f).2.2.1 ∈ Ts) (k : KW p l e R s m args below meth c D A0 nL Q w mc ms (pc + 3) lv (v :: st)) : KW p l e R s m args below meth c D A0 nL Q w mc ms pc lv (.ref a :: st) :=
  fun H locs ls hP hD hS hl => va_get C.1.1 C.1.2.1 C.1.2.2.2.2 hin C.1.2.2.2.1 C.2.1 hP q0 he hc f hk (C.1.2.2.2.2 _ hm) (fun _ h9 => h9) hv hd (k H locs ls hP hD hS hl)
theorem kw_astore_n (C : KX p s m args c cc nL Ts own D Z A0) {n : Fin 4} {i : Nat} {x : Nat} (hd : decode cc pc = .ok (.astore_n n, 1)) (hi : (n : Nat) = i) (hn : i < nL) (hl' : (i, Value.ref x) :: lv.filter (fun q => !(q.1 == i) && !(q.1 + 1 == i && q.2.category == 2)) = lv') (k : KW p l e R s m args below meth c D A0 nL Q w mc ms (pc + 1) lv' st) : KW p l e R s m args below meth c D A0 nL Q w mc ms pc lv (.ref x :: st) :=
  fun H locs ls hP hD hS hl => lv_astore_n C.1.1 C.1.2.1 hd hi hl hn hl' (fun ls' hl'' => k H locs ls' hP hD hS hl'')
theorem kw_w (h : w = w') (k : KW p l e R s m args below meth c D A0 nL Q w' mc ms pc lv st) : KW p l e R s m args below meth c D A0 nL Q w mc ms pc lv st := by
  subst h
  exact k
/-- putfield into a field that isn't final, and into one that is (in a constructor) -/
theorem kw_put (C : KX p s m args c cc nL Ts own D Z A0) {ix : Nat} (hd : decode cc pc = .ok (.putfield ix, 3)) (q0 : Nat) {a ci N : Nat} {RC : String} {T : u_T} {ty0 : Nat → FieldType} {fs : List Value} {v : Value} {ty : FieldType} (he : w[q0]? = some (a, .inr (ci, fs))) (hc : vwCl[ci]? = some (RC, T, N)) (f : Nat) (hin : ∀ x ∈ u_ws RC T N, x ∈ Ts) (hty : ∀ k, k < N → parseFieldDescriptor (T k).2.2.1 = some (ty0 k)) (hnm : ∀ a, a < N → ∀ b, b < N → a ≠ b → (T a).2.1 ≠ (T b).2.1) (hk : f < N) (hm : Cond.fieldLink own ix (T f).1 (T f).2.1 (T f).2.2.1 ∈ Ts) (hfin : (T f).2.2.2 = false) (hdsc : parseFieldDescriptor (T f).2.2.1 = some ty) (hn : narrow ty v = v) (hfit : fits ty v = true) (hl0 : f < fs.length) (hset : w.set q0 (a, .inr (ci, fs.set f v)) = w') (k : KW p l e R s m args below meth c D A0 nL Q w' mc ms (pc + 3) lv st) : KW p l e R s m args below meth c D A0 nL Q w mc ms pc lv (v :: .ref a :: st) := by
  intro H locs ls hP hD hS hl
  refine va_put C.1.1 C.1.2.1 C.1.2.2.2.2 hin ty0 hty hnm C.1.2.2.2.1 C.2.1 hP hD hS q0 he hc f hk (C.1.2.2.2.2 _ hm) (fun _ h9 => h9) hfin hdsc hn hfit hl0 hd ?_
  rw [hset]
  exact fun H1 locs1 hP1 hD1 hS1 => k H1 locs1 ls hP1 hD1 hS1 hl
theorem kw_putF (C : KX p s m args c cc nL Ts own D Z A0) (hmn : meth.name = "<init>") {ix : Nat} (hd : decode cc pc = .ok (.putfield ix, 3)) (q0 : Nat) {a ci N : Nat} {RC : String} {T : u_T} {ty0 : Nat → FieldType} {fs : List Value} {v : Value} {ty : FieldType} (he : w[q0]? = some (a, .inr (ci, fs))) (hc : vwCl[ci]? = some (RC, T, N)) (f : Nat) (hin : ∀ x ∈ u_ws RC T N, x ∈ Ts) (hty : ∀ k, k < N → parseFieldDescriptor (T k).2.2.1 = some (ty0 k)) (hnm : ∀ a, a < N → ∀ b, b < N → a ≠ b → (T a).2.1 ≠ (T b).2.1) (hk : f < N) (hm : Cond.fieldLink own ix (T f).1 (T f).2.1 (T f).2.2.1 ∈ Ts) (hfin : (T f).2.2.2 = true) (hdecl : (T f).1 = own) (hdsc : parseFieldDescriptor (T f).2.2.1 = some ty) (hn : narrow ty v = v) (hfit : fits ty v = true) (hl0 : f < fs.length) (hset : w.set q0 (a, .inr (ci, fs.set f v)) = w') (k : KW p l e R s m args below meth c D A0 nL Q w' mc ms (pc + 3) lv st) : KW p l e R s m args below meth c D A0 nL Q w mc ms pc lv (v :: .ref a :: st) := by
  intro H locs ls hP hD hS hl
  refine va_putF C.1.1 C.1.2.1 C.1.2.2.2.2 hin ty0 hty hnm C.1.2.2.2.1 C.2.1 hP hD hS q0 he hc f hk (C.1.2.2.2.2 _ hm) (fun _ h9 => h9) hfin hmn hdecl hdsc hn hfit hl0 hd ?_
  rw [hset]
  exact fun H1 locs1 hP1 hD1 hS1 => k H1 locs1 ls hP1 hD1 hS1 hl
theorem kw_iast (C : KX p s m args c cc nL Ts own D Z A0) (hd : decode cc pc = .ok (.iastore, 1)) (q0 : Nat) {a n : Nat} {f : Nat → Int32} {i x : Int32} (ha : w[q0]? = some (a, .inl (Z.1, n, .inl f))) (j : Nat) (hi : i = nI j) (hj : j < n) (hn : n < 2 ^ 31) (hset : w.set q0 (a, .inl (Z.1, n, .inl (upd f j x))) = w') (k : KW p l e R s m args below meth c D A0 nL Q w' mc ms (pc + 1) lv st) : KW p l e R s m args below meth c D A0 nL Q w mc ms pc lv (.int x :: .int i :: .ref a :: st) := by
  intro H locs ls hP hD hS hl
  obtain ⟨h1, h2⟩ := vp_in_j hi hj hn
  refine va_iast C.1.1 C.1.2.1 C.2.1 hP hD hS q0 0 ha rfl h1 hd ?_
  rw [h2, hset]
  exact fun H1 locs1 hP1 hD1 hS1 => k H1 locs1 ls hP1 hD1 hS1 hl
theorem kw_obj (C : KX p s m args c cc nL Ts own D Z A0) {ix a : Nat} (hd : decode cc pc = .ok (.invokespecial ix, 3)) (h1 : Cond.methodLink own ix Lib.objectInit ∈ Ts) (h2 : Cond.instanceMethod Lib.objectInit ∈ Ts) (h3 : Cond.code Lib.objectInit ⟨#[0xb1]⟩ 1 none ∈ Ts) (hf : 1 ≤ R.frames) (hlo : (st.map fun v => v.category).sum + 12 ≤ R.locals) (k : KW p l e R s m args below meth c D A0 nL Q w mc ms (pc + 3) lv st) : KW p l e R s m args below meth c D A0 nL Q w mc ms pc lv (.ref a :: st) := by
  intro H locs ls hP hD hS hl
  refine W.objInit C.1.1 C.1.2.1 C.1.2.2.2.1 (C.1.2.2.2.2 _ h1) (C.1.2.2.2.2 _ h2) (C.1.2.2.2.2 _ h3) rfl (hl.1.trans C.1.2.2.1.symm) rfl hd hf (by show 2 * 0 + _ + 12 ≤ _; omega) ?_
  exact k H locs ls hP hD hS hl
/-- new int[n]: of the class that all of them are of -/
theorem kw_newi (C : KX p s m args c cc nL Ts own D Z A0) (hd : decode cc pc = .ok (.newarray .int, 2)) (hc : Cond.arrayClass .int ∈ Ts) (N : Nat) {n : Int32} (hn : n = nI N) (hN : N < 1000) (h1 : mc + 1 ≤ R.cells) (h2 : ms + N ≤ R.slots) (k : ∀ q : Nat, KW p l e R s m args below meth c D A0 nL Q (w ++ [(q, .inl (Z.1, N, .inl (fun _ => 0)))]) (mc + 1) (ms + N) (pc + 2) lv (.ref q :: st)) : KW p l e R s m args below meth c D A0 nL Q w mc ms pc lv (.int n :: st) := by
  intro H locs ls hP hD hS hl
  subst hn
  refine va_newa (atype := .int) (ty := .int) (N' := N) (a0 := (N, .inl (fun _ => 0))) C.1.1 C.1.2.1 (C.1.2.2.2.2 _ hc) rfl C.2.1 hP hD hS C.2.2 (fun cA => rfl) (nI_pos (by omega)) (nI_clamp (by omega)) (by show N * 4 ≤ _; omega) h1 h2 hd (fun q cA H1 hK1 hP1 hD1 hS1 => ?_)
  have e1 := (hK1.2 0 _ rfl).2
  have e2 := (hK1.2 3 _ rfl).2
  have e : cA = Z.1 := by
    have a1 : s.vm.findClass ("[" ++ (FieldType.int).toString) = some Z.1 := e1
    have a2 : s.vm.findClass ("[" ++ (FieldType.int).toString) = some cA := e2
    exact Option.some.inj (a2.symm.trans a1)
  subst e
  exact k q H1 locs ls hP1 hD1 hS1 hl
theorem kw_new (C : KX p s m args c cc nL Ts own D Z A0) {ix : Nat} {RC : String} {T : u_T} {N ci : Nat} (ty0 : Nat → FieldType) (hd : decode cc pc = .ok (.new ix, 3)) (hin : ∀ x ∈ u_ws RC T N, x ∈ Ts) (hty : ∀ k, k < N → parseFieldDescriptor (T k).2.2.1 = some (ty0 k)) (h1 : Cond.classLink own ix RC ∈ Ts) (h2 : Cond.instantiable RC N ∈ Ts) (h3 : Cond.initialized RC ∈ Ts) (hc : vwCl[ci]? = some (RC, T, N)) (fs : List Value) (hfs : ∀ j, j < N → defaultValue (ty0 j) = vp_V fs j) (h4 : mc + 1 ≤ R.cells) (h5 : ms + N ≤ R.slots) (k : ∀ q : Nat, KW p l e R s m args below meth c D A0 nL Q (w ++ [(q, .inr (ci, fs))]) (mc + 1) (ms + N) (pc + 3) lv (.ref q :: st)) : KW p l e R s m args below meth c D A0 nL Q w mc ms pc lv st := by
  intro H locs ls hP hD hS hl
  exact va_new C.1.1 C.1.2.1 C.1.2.2.2.2 hin ty0 hty C.1.2.2.2.1 (C.1.2.2.2.2 _ h1) (C.1.2.2.2.2 _ h2) (C.1.2.2.2.2 _ h3) C.2.1 hP hD hS C.2.2 hc hfs h4 h5 hd (fun q H1 hP1 hD1 hS1 => k q H1 locs ls hP1 hD1 hS1 hl)
theorem kw_mna (C : KX p s m args c cc nL Ts own D Z A0) {ix : Nat} (hd : decode cc pc = .ok (.multianewarray ix 2, 4)) (hm : Cond.classLink own ix "[[I" ∈ Ts) (hAO : AO2 Z s) (h1 : mc + 7 ≤ R.cells) (h2 : ms + 312 ≤ R.slots) (k : ∀ h : Nat, KW p l e R s m args below meth c D A0 nL Q (w ++ [(h, .inl (Z.2.1, 6, .inr (.inr (.inr (.inr (fun j => if j < 6 then some (h + 1 + j) else none)))))), (h + 1, .inl (Z.1, 51, .inl (fun _ => 0))), (h + 2, .inl (Z.1, 51, .inl (fun _ => 0))), (h + 3, .inl (Z.1, 51, .inl (fun _ => 0))), (h + 4, .inl (Z.1, 51, .inl (fun _ => 0))), (h + 5, .inl (Z.1, 51, .inl (fun _ => 0))), (h + 6, .inl (Z.1, 51, .inl (fun _ => 0)))]) (mc + 7) (ms + 312) (pc + 4) lv (.ref h :: st)) : KW p l e R s m args below meth c D A0 nL Q w mc ms pc lv (.int 51 :: .int 6 :: st) := by
  intro H locs ls hP hD hS hl
  exact va_mna C.1.1 C.1.2.1 C.1.2.2.2.1 (C.1.2.2.2.2 _ hm) hAO hP hD hS C.2.2 h1 h2 hd (fun h H1 _ hP1 hD1 hS1 => k h H1 locs ls hP1 hD1 hS1 hl)
/-- what the constructors' calls need beside -/
def AOK (Z : CZ) (U : State) : Prop := AO2 Z U ∧ va_Nw (.methodLinkNest RX6 59 yX5_init RX6) U
theorem AOK.warm {U : State} (hW : s.WarmedH U.vm) (h : AOK Z s) : AOK Z U := ⟨h.1.moved hW.alike, va_Nw.warmM hW h.2⟩
theorem AOK.same {u U : State} (hv : u.vm = U.vm) (h : AOK Z u) : AOK Z U := ⟨h.1.moved (by rw [hv]; exact Vm.Alike.refl _), va_Nw.same rfl hv h.2⟩
/-- a constructor's contract: it begins over the world w0, and ends over the world wf u, for a u of what post says -/
def PreK (D : va_G) (Z : CZ) (w0 : va_W) (sz : Nat) (U : State) : Prop := U.heap.size = sz ∧ va_P D vwCl w0 U.heap ∧ va_K D vwCl (tysC Z) U ∧ va_D (fun _ => True) w0 ∧ AOK Z U
def CTc {S : Type} (l : Launch) (y : MethodName) (ws : List Cond) (fr lo mc ms : Nat) (D : va_G) (Z : CZ) (w0 : va_W) (as : List Value) (post : S → Prop) (wf : S → va_W) : Prop :=
  ∀ sz : Nat, Met l y ws { frames := fr, cells := mc, slots := ms, locals := lo } (va_Pc as (PreK D Z w0 sz)) (va_Qv post (fun u t => va_P D vwCl (wf u) t.heap ∧ va_D (va_A w0 sz) (wf u)) (va_A w0 sz)) mc ms (va_A w0 sz)
theorem PreK.blind {w0 : va_W} {as : List Value} {sz : Nat} : FrameBlind (va_Pc as (PreK D Z w0 sz)) := fun a U g mk q => by
  obtain ⟨q0, q1, q2, q3, q4, q5⟩ := q
  exact ⟨q0, q1, q2, va_K.moved (u := U) (U := U.calling g mk a) (Vm.Alike.refl U.vm) q3, q4, AOK.same rfl q5⟩
theorem CTc.mk {S : Type} {y : MethodName} {ws ws' : List Cond} {fr lo cm sm : Nat} {w0 : va_W} {as : List Value} {post : S → Prop} {wf : S → va_W} {own : String} (ho : y.cls = own) (hyn : y.name = "<init>") (hy : plainName y.cls = true) (hw : ws = Cond.code y cc nL none :: ws') (hlen : (lg_sl as).length ≤ nL)
    (body : ∀ (p : Program) (e : Env) (s : State) (m : MethodId) (args : Array Value) (below : List Frame) (meth : Method) (c : Code) (A0 : Nat → Prop) (Q : State → Prop), KX p s m args c cc nL ws own D Z A0 → AOK Z s → meth.name = "<init>" → (∀ (u : S) (pc : Nat) (lv : List (Nat × Value)), decode cc pc = .ok (.return_, 1) → post u → KW p l e { frames := fr, cells := cm, slots := sm, locals := lo } s m args below meth c D A0 nL Q (wf u) cm sm pc lv []) → KW p l e { frames := fr, cells := cm, slots := sm, locals := lo } s m args below meth c D A0 nL Q w0 0 0 0 (lv_args 0 as) []) : CTc l y ws fr lo cm sm D Z w0 as post wf := by
  subst ho
  intro sz
  refine Met.ofW (cc := cc) (maxL := nL) (ret := none) hy hw ?_
  intro p e s m args below meth c s₁ B hml hv
  obtain ⟨rfl, hsz, hP, hK, hD0, hAO⟩ := hv
  subst hsz
  have hts := atoms_spec (ws := ws) B.pre
  have hD := hD0.self (sz := s.heap.size)
  have hl := lv_entry as (n := nL) hlen
  rw [lg_entry_eq]
  have hin : meth.name = "<init>" := (name_of_methodNamed B.named B.method).1.trans hyn
  refine body p e s m as.toArray below meth c (va_A w0 s.heap.size) _ ⟨⟨B.exec, B.bytes, hml, findClass_of_methodNamed B.named, hts⟩, hK, (fun q h => Or.inr h)⟩ hAO hin ?_ s.heap [] _ hP hD va_S.rf hl
  intro u pc lv hd hp H locs ls hP' hD' hS' hl'
  exact W.vret B.exec B.bytes B.returns (fun t ht hW => ⟨⟨u, rfl, hp, by rw [ht]; exact hP', hD'⟩, hS'.F ht⟩) hS'.2.2 hd B.notSynchronized
/-- a call of a constructor: the callee's cells are at the places isC, the rest at isR -/
theorem kw_init {S : Type} {y : MethodName} {bytes : ByteArray} {maxL ix n fr lo cm sm : Nat} {wsy : List Cond} {As stk : List Value} {b : Nat} {post : S → Prop} {wc wr : va_W} {wf : S → va_W} (C : KX p s m args c cc nL Ts own D Z A0) (hAO : AOK Z s) (hd : decode cc pc = .ok (.invokespecial ix, 3)) (hM : CTc l y wsy fr lo cm sm D Z wc (.ref b :: As) post wf) (cw : CallB R s args own ix y bytes maxL none wsy { frames := fr, cells := cm, slots := sm, locals := lo } cm sm n ∧ y.name = "<init>" ∧ (Cond.instanceMethod y).before args s = true)
    (isC isR : List Nat) (hC : isC.map (fun i => w[i]?) = wc.map some) (hR : isR.map (fun i => w[i]?) = wr.map some) (hn : As.length = n) (hnd : va_nd isR = true) (hndC : va_nd isC = true) (hdis : ∀ i ∈ isR, i ∉ isC) (hst : stk = As.reverse ++ .ref b :: st) (hcat : (st.map fun v => v.category).sum ≤ 8) (h1 : mc + cm ≤ R.cells) (h2 : ms + sm ≤ R.slots)
    (k : ∀ u : S, post u → KW p l e R s m args below meth c D A0 nL Q (wr ++ wf u) (mc + cm) (ms + sm) (pc + 3) lv st) : KW p l e R s m args below meth c D A0 nL Q w mc ms pc lv stk := by
  intro H locs ls hP hD hS hl
  have hsub : isC.filterMap (fun i => w[i]?) = wc := by
    have : ∀ (is : List Nat) (w2 : va_W), is.map (fun i => w[i]?) = w2.map some → is.filterMap (fun i => w[i]?) = w2 := by
      intro is
      induction is with
      | nil => intro w2 h; cases w2 with | nil => rfl | cons a t => cases h
      | cons i is ih =>
        intro w2 h
        cases w2 with
        | nil => cases h
        | cons a t =>
          rw [List.map_cons, List.map_cons] at h
          have h9 := List.cons.inj h
          rw [List.filterMap_cons, h9.1, ih t h9.2]
    exact this isC wc hC
  have hPc := hP.sub (ws' := wc) isC hsub
  have hDc := hD.sub (ws' := wc) isC hndC hC
  have hFc := va_free (wc := wc) hD hS C.2.2 isC hC
  refine va_callv (va_runI (As := As) (rest := st) C.1 (hM H.size) cw ⟨PreK.blind, fun U hU hW => ⟨rfl, by rw [hU], by rw [hU]; exact hPc, va_K.moved hW.alike C.2.1, hDc.weaken (fun _ _ _ _ => trivial), hAO.warm hW⟩⟩ rfl hn hl.1 hst (lv_room hcat) hd ⟨h1, h2⟩) hS (fun q _ h => hFc q h) hFc (fun u t H1 locs1 ht hvm hw hB hz1 hk1 hS1 => ?_)
  obtain ⟨hP1, hD1⟩ := hB
  rw [ht] at hP1
  obtain ⟨hP2, hD2⟩ := va_join (wr := wr) (w1 := wf u) hP hD isC isR hC hR hnd hdis hk1 hFc hP1 hD1
  exact k u hw H1 locs1 ls hP2 hD2 hS1 hl
/-- a call of a constructor: the callee's cells are at the places isC, the rest at isR -/
theorem kw_initN {S : Type} {y : MethodName} {host : String} {bytes : ByteArray} {maxL ix n fr lo cm sm : Nat} {wsy : List Cond} {As stk : List Value} {b : Nat} {post : S → Prop} {wc wr : va_W} {wf : S → va_W} (C : KX p s m args c cc nL Ts own D Z A0) (hAO : AOK Z s) (hd : decode cc pc = .ok (.invokespecial ix, 3)) (hM : CTc l y wsy fr lo cm sm D Z wc (.ref b :: As) post wf) (cw : va_CN R s args own ix y host bytes maxL none wsy { frames := fr, cells := cm, slots := sm, locals := lo } cm sm n ∧ y.name = "<init>" ∧ (Cond.instanceMethod y).before args s = true)
    (isC isR : List Nat) (hC : isC.map (fun i => w[i]?) = wc.map some) (hR : isR.map (fun i => w[i]?) = wr.map some) (hn : As.length = n) (hnd : va_nd isR = true) (hndC : va_nd isC = true) (hdis : ∀ i ∈ isR, i ∉ isC) (hst : stk = As.reverse ++ .ref b :: st) (hcat : (st.map fun v => v.category).sum ≤ 8) (h1 : mc + cm ≤ R.cells) (h2 : ms + sm ≤ R.slots)
    (k : ∀ u : S, post u → KW p l e R s m args below meth c D A0 nL Q (wr ++ wf u) (mc + cm) (ms + sm) (pc + 3) lv st) : KW p l e R s m args below meth c D A0 nL Q w mc ms pc lv stk := by
  intro H locs ls hP hD hS hl
  have hsub : isC.filterMap (fun i => w[i]?) = wc := by
    have : ∀ (is : List Nat) (w2 : va_W), is.map (fun i => w[i]?) = w2.map some → is.filterMap (fun i => w[i]?) = w2 := by
      intro is
      induction is with
      | nil => intro w2 h; cases w2 with | nil => rfl | cons a t => cases h
      | cons i is ih =>
        intro w2 h
        cases w2 with
        | nil => cases h
        | cons a t =>
          rw [List.map_cons, List.map_cons] at h
          have h9 := List.cons.inj h
          rw [List.filterMap_cons, h9.1, ih t h9.2]
    exact this isC wc hC
  have hPc := hP.sub (ws' := wc) isC hsub
  have hDc := hD.sub (ws' := wc) isC hndC hC
  have hFc := va_free (wc := wc) hD hS C.2.2 isC hC
  refine va_callv (va_runIN (As := As) (rest := st) C.1 (hM H.size) cw ⟨PreK.blind, fun U hU hW => ⟨rfl, by rw [hU], by rw [hU]; exact hPc, va_K.moved hW.alike C.2.1, hDc.weaken (fun _ _ _ _ => trivial), hAO.warm hW⟩⟩ rfl hn hl.1 hst (lv_room hcat) hd ⟨h1, h2⟩) hS (fun q _ h => hFc q h) hFc (fun u t H1 locs1 ht hvm hw hB hz1 hk1 hS1 => ?_)
  obtain ⟨hP1, hD1⟩ := hB
  rw [ht] at hP1
  obtain ⟨hP2, hD2⟩ := va_join (wr := wr) (w1 := wf u) hP hD isC isR hC hR hnd hdis hk1 hFc hP1 hD1
  exact k u hw H1 locs1 ls hP2 hD2 hS1 hl
end KWL
