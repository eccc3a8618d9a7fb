/-! THE LAYER: a world is a table of numbers (St) laid over fixed addresses; a goal speaks of table, place, locals, stack alone. -/
abbrev St : Type := Nat → Nat → Int32
def up2 (σ : St) (k : Nat) (f : Nat → Int32) : St := fun i => if i = k then f else σ i
theorem up2_eq (σ : St) (k : Nat) (f : Nat → Int32) : up2 σ k f k = f := if_pos rfl
theorem up2_ne (σ : St) {k i : Nat} (f : Nat → Int32) (h : i ≠ k) : up2 σ k f i = σ i := if_neg h
theorem up2_up2 (σ : St) (k : Nat) (f g : Nat → Int32) : up2 (up2 σ k f) k g = up2 σ k g := by
  funext i
  unfold up2
  by_cases h : i = k <;> simp [h]
theorem up2_self (σ : St) (k : Nat) : up2 σ k (σ k) = σ := by
  funext i
  unfold up2
  by_cases h : i = k <;> simp [h]
theorem up2_comm (σ : St) {k i : Nat} (f g : Nat → Int32) (h : k ≠ i) : up2 (up2 σ k f) i g = up2 (up2 σ i g) k f := by
  funext j
  unfold up2
  by_cases h1 : j = k
  · subst h1
    simp [h]
  · simp [h1]
def bI (b : Bool) : Int32 := cond b (nI 1) (nI 0)
theorem bI_z {b : Bool} (h : bI b = 0) : b = false := by
  cases b with
  | false => rfl
  | true => exact absurd h (by decide)
theorem bI_nz {b : Bool} (h : ¬ bI b = 0) : b = true := by
  cases b with
  | true => rfl
  | false => exact absurd rfl h
/-- the classes of int[] and int[][], the script: its cell, its length, its numbers; the class of long[] -/
abbrev CZ : Type := ClassId × ClassId × Nat × Nat × (Nat → Int32) × ClassId
abbrev tysC (Z : CZ) : List (ClassId × FieldType) := [(Z.1, .int), (Z.2.1, .array .int), (Z.2.2.2.2.2, .long)]
/-- the law's script lies where it lay -/
def SW (Z : CZ) (A : Nat → Prop) (U : State) (H : Heap) : Prop := va_X Z.2.2.1 Z.2.2.2.1 Z.2.2.2.2.1 U H ∧ Z.2.2.1 < H.size ∧ ¬ A Z.2.2.1
theorem SW.call {Z : CZ} {A B : Nat → Prop} {s U : State} {H : Heap} {locs : List Loc} (h : SW Z A s s.heap) (hS : va_S A s.heap H locs) (hAB : ∀ q, B q → A q) (hW : s.WarmedH U.vm) : SW Z B U H :=
  ⟨(h.1.kept (hS.2.1 _ h.2.1 h.2.2)).moved hW.alike, Nat.lt_of_lt_of_le h.2.1 hS.1, fun q => h.2.2 (hAB _ q)⟩
theorem SW.same {Z : CZ} {A : Nat → Prop} {u U : State} {H : Heap} (hv : u.vm = U.vm) (h : SW Z A u H) : SW Z A U H :=
  ⟨h.1.moved (by rw [hv]; exact Vm.Alike.refl U.vm), h.2⟩
def NWs (U : State) : Prop := va_Nw (.methodLinkNest RX2 42 yX6_isGear RX6) U ∧ va_Nw (.methodLinkNest RX2 34 yX6_isWithin RX6) U ∧ va_Nw (.methodLinkNest RX2 30 yX6_isClutch RX6) U ∧ va_Nw (.methodLinkNest RX3 15 yX6_isClutch RX6) U ∧ va_Nw (.methodLinkNest RX0 23 yX6_isGear RX6) U ∧ va_Nw (.methodLinkNest RX1 46 yX6_isGear RX6) U
theorem NWs.warm {s U : State} (hW : s.WarmedH U.vm) (h : NWs s) : NWs U := ⟨va_Nw.warmM hW h.1, va_Nw.warmM hW h.2.1, va_Nw.warmM hW h.2.2.1, va_Nw.warmM hW h.2.2.2.1, va_Nw.warmM hW h.2.2.2.2.1, va_Nw.warmM hW h.2.2.2.2.2⟩
theorem NWs.same {s U : State} (hW : s.vm = U.vm) (h : NWs s) : NWs U := ⟨va_Nw.same rfl hW h.1, va_Nw.same rfl hW h.2.1, va_Nw.same rfl hW h.2.2.1, va_Nw.same rfl hW h.2.2.2.1, va_Nw.same rfl hW h.2.2.2.2.1, va_Nw.same rfl hW h.2.2.2.2.2⟩
/-- what stays the same in a method's body -/
def CX (p : Program) (s : State) (m : MethodId) (args : Array Value) (c : Code) (cc : ByteArray) (nL : Nat) (Ts : List Cond) (own : String) (D : va_G) (Z : CZ) (A0 : Nat → Prop) : Prop :=
  CallFix p m c cc nL s args Ts own ∧ va_K D vwCl (tysC Z) s ∧ NWs s ∧ (∀ q, s.heap.size ≤ q → A0 q) ∧ SW Z A0 s s.heap
/-- a method's body at a place: table, pc, locals, stack -/
def CW (p : Program) (l : Launch) (e : Env) (R : Room) (s : State) (m : MethodId) (args : Array Value) (below : List Frame) (meth : Method) (c : Code) (D : va_G) (A0 : Nat → Prop) (nL : Nat) (w : St → va_W) (Q : State → Prop) (σ : St) (pc : Nat) (lv : List (Nat × Value)) (st : List Value) : Prop :=
  ∀ (H : Heap) (locs : List Loc) (ls : Array Slot), va_P D vwCl (w σ) H → va_D A0 (w σ) → va_S A0 s.heap H locs → lv_has ls nL lv → W p l e R s m args below meth c H locs 0 0 Q (F0 m pc ls st)
section CWL
variable {p : Program} {l : Launch} {e : Env} {R : Room} {s : State} {m : MethodId} {args : Array Value} {below : List Frame} {meth : Method} {c : Code} {D : va_G} {Z : CZ} {A0 : Nat → Prop} {nL : Nat} {w : St → va_W} {Q : State → Prop} {σ : St} {pc pc' : Nat} {lv lv' : List (Nat × Value)} {st : List Value} {cc : ByteArray} {Ts : List Cond} {own : String}
theorem cw_iconst (C : CX p s m args c cc nL Ts own D Z A0) {n : Int} (hd : decode cc pc = .ok (.iconst n, 1)) (v : Int32) (hv : Int32.ofInt n = v) (k : CW p l e R s m args below meth c D A0 nL w Q σ (pc + 1) lv (.int v :: st)) : CW p l e R s m args below meth c D A0 nL w Q σ pc lv st :=
  fun H locs ls hP hD hS hl => lv_iconst C.1.1 C.1.2.1 hd hv (k H locs ls hP hD hS hl)
theorem cw_bipush (C : CX p s m args c cc nL Ts own D Z A0) {n : Int} (hd : decode cc pc = .ok (.bipush n, 2)) (v : Int32) (hv : (Int8.ofInt n).toInt32 = v) (k : CW p l e R s m args below meth c D A0 nL w Q σ (pc + 2) lv (.int v :: st)) : CW p l e R s m args below meth c D A0 nL w Q σ pc lv st :=
  fun H locs ls hP hD hS hl => lv_bipush C.1.1 C.1.2.1 hd hv (k H locs ls hP hD hS hl)
theorem cw_sipush (C : CX p s m args c cc nL Ts own D Z A0) {n : Int} (hd : decode cc pc = .ok (.sipush n, 3)) (v : Int32) (hv : (Int16.ofInt n).toInt32 = v) (k : CW p l e R s m args below meth c D A0 nL w Q σ (pc + 3) lv (.int v :: st)) : CW p l e R s m args below meth c D A0 nL w Q σ pc lv st :=
  fun H locs ls hP hD hS hl => lv_sipush C.1.1 C.1.2.1 hd hv (k H locs ls hP hD hS hl)
theorem cw_ldc (C : CX p s m args c cc nL Ts own D Z A0) {ix : Nat} (hd : decode cc pc = .ok (.ldc ix, 2)) {v : Int32} (hm : Jvm.Cond.constant own ix v ∈ Ts) (k : CW p l e R s m args below meth c D A0 nL w Q σ (pc + 2) lv (.int v :: st)) : CW p l e R s m args below meth c D A0 nL w Q σ pc lv st :=
  fun H locs ls hP hD hS hl => lv_ldc C.1.1 C.1.2.1 C.1.2.2.2.1 (C.1.2.2.2.2 _ hm) hd (k H locs ls hP hD hS hl)
theorem cw_ldcw (C : CX p s m args c cc nL Ts own D Z A0) {ix : Nat} (hd : decode cc pc = .ok (.ldc_w ix, 3)) {v : Int32} (hm : Jvm.Cond.constant own ix v ∈ Ts) (k : CW p l e R s m args below meth c D A0 nL w Q σ (pc + 3) lv (.int v :: st)) : CW p l e R s m args below meth c D A0 nL w Q σ pc lv st :=
  fun H locs ls hP hD hS hl => lv_ldcw C.1.1 C.1.2.1 C.1.2.2.2.1 (C.1.2.2.2.2 _ hm) hd (k H locs ls hP hD hS hl)
theorem cw_ldc2 (C : CX p s m args c cc nL Ts own D Z A0) {ix : Nat} (hd : decode cc pc = .ok (.ldc2_w ix, 3)) {v : Int64} (hm : Jvm.Cond.constantLong own ix v ∈ Ts) (k : CW p l e R s m args below meth c D A0 nL w Q σ (pc + 3) lv (.long v :: st)) : CW p l e R s m args below meth c D A0 nL w Q σ pc lv st :=
  fun H locs ls hP hD hS hl => lv_ldc2 C.1.1 C.1.2.1 C.1.2.2.2.1 (C.1.2.2.2.2 _ hm) hd (k H locs ls hP hD hS hl)
theorem cw_iload_n (C : CX p s m args c cc nL Ts own D Z A0) {n : Fin 4} {i : Nat} {x : Int32} (hd : decode cc pc = .ok (.iload_n n, 1)) (hi : (n : Nat) = i) (q : Nat) (hq : lv[q]? = some (i, .int x)) (k : CW p l e R s m args below meth c D A0 nL w Q σ (pc + 1) lv (.int x :: st)) : CW p l e R s m args below meth c D A0 nL w Q σ pc lv st :=
  fun H locs ls hP hD hS hl => lv_iload_n C.1.1 C.1.2.1 hd hi (lv_at hl q hq) (k H locs ls hP hD hS hl)
theorem cw_iload (C : CX p s m args c cc nL Ts own D Z A0) {i : Nat} {x : Int32} (hd : decode cc pc = .ok (.iload i, 2)) (q : Nat) (hq : lv[q]? = some (i, .int x)) (k : CW p l e R s m args below meth c D A0 nL w Q σ (pc + 2) lv (.int x :: st)) : CW p l e R s m args below meth c D A0 nL w Q σ pc lv st :=
  fun H locs ls hP hD hS hl => lv_iload C.1.1 C.1.2.1 hd (lv_at hl q hq) (k H locs ls hP hD hS hl)
theorem cw_lload_n (C : CX p s m args c cc nL Ts own D Z A0) {n : Fin 4} {i : Nat} {x : Int64} (hd : decode cc pc = .ok (.lload_n n, 1)) (hi : (n : Nat) = i) (q : Nat) (hq : lv[q]? = some (i, .long x)) (k : CW p l e R s m args below meth c D A0 nL w Q σ (pc + 1) lv (.long x :: st)) : CW p l e R s m args below meth c D A0 nL w Q σ pc lv st :=
  fun H locs ls hP hD hS hl => lv_lload_n C.1.1 C.1.2.1 hd hi (lv_at hl q hq) (k H locs ls hP hD hS hl)
theorem cw_aload_n (C : CX p s m args c cc nL Ts own D Z A0) {n : Fin 4} {i : Nat} {x : Nat} (hd : decode cc pc = .ok (.aload_n n, 1)) (hi : (n : Nat) = i) (q : Nat) (hq : lv[q]? = some (i, .ref x)) (k : CW p l e R s m args below meth c D A0 nL w Q σ (pc + 1) lv (.ref x :: st)) : CW p l e R s m args below meth c D A0 nL w Q σ pc lv st :=
  fun H locs ls hP hD hS hl => lv_aload_n C.1.1 C.1.2.1 hd hi (lv_at hl q hq) (k H locs ls hP hD hS hl)
theorem cw_istore_n (C : CX p s m args c cc nL Ts own D Z A0) {n : Fin 4} {i : Nat} {x : Int32} (hd : decode cc pc = .ok (.istore_n n, 1)) (hi : (n : Nat) = i) (hn : i < nL) (hl' : (i, Value.int x) :: lv.filter (fun q => !(q.1 == i) && !(q.1 + 1 == i && q.2.category == 2)) = lv') (k : CW p l e R s m args below meth c D A0 nL w Q σ (pc + 1) lv' st) : CW p l e R s m args below meth c D A0 nL w Q σ pc lv (.int x :: st) :=
  fun H locs ls hP hD hS hl => lv_istore_n C.1.1 C.1.2.1 hd hi hl hn hl' (fun ls' hl'' => k H locs ls' hP hD hS hl'')
theorem cw_istore (C : CX p s m args c cc nL Ts own D Z A0) {i : Nat} {x : Int32} (hd : decode cc pc = .ok (.istore i, 2)) (hn : i < nL) (hl' : (i, Value.int x) :: lv.filter (fun q => !(q.1 == i) && !(q.1 + 1 == i && q.2.category == 2)) = lv') (k : CW p l e R s m args below meth c D A0 nL w Q σ (pc + 2) lv' st) : CW p l e R s m args below meth c D A0 nL w Q σ pc lv (.int x :: st) :=
  fun H locs ls hP hD hS hl => lv_istore C.1.1 C.1.2.1 hd hl hn hl' (fun ls' hl'' => k H locs ls' hP hD hS hl'')
theorem cw_lstore_n (C : CX p s m args c cc nL Ts own D Z A0) {n : Fin 4} {i : Nat} {x : Int64} (hd : decode cc pc = .ok (.lstore_n n, 1)) (hi : (n : Nat) = i) (hn : i + 1 < nL) (hl' : (i, Value.long x) :: lv.filter (fun q => !(q.1 == i) && (!(q.1 == i + 1) && !(q.1 + 1 == i && q.2.category == 2))) = lv') (k : CW p l e R s m args below meth c D A0 nL w Q σ (pc + 1) lv' st) : CW p l e R s m args below meth c D A0 nL w Q σ pc lv (.long x :: st) :=
  fun H locs ls hP hD hS hl => lv_lstore_n C.1.1 C.1.2.1 hd hi hl hn hl' (fun ls' hl'' => k H locs ls' hP hD hS hl'')
theorem cw_iinc (C : CX p s m args c cc nL Ts own D Z A0) {i : Nat} {n : Int} {x : Int32} (hd : decode cc pc = .ok (.iinc i n, 3)) (q : Nat) (hq : lv[q]? = some (i, .int x)) (v : Int32) (hv : x + Int32.ofInt n = v) (hn : i < nL) (hl' : (i, Value.int v) :: lv.filter (fun q => !(q.1 == i) && !(q.1 + 1 == i && q.2.category == 2)) = lv') (k : CW p l e R s m args below meth c D A0 nL w Q σ (pc + 3) lv' st) : CW p l e R s m args below meth c D A0 nL w Q σ pc lv st :=
  fun H locs ls hP hD hS hl => lv_iinc C.1.1 C.1.2.1 hd hl hq hv hn hl' (fun ls' hl'' => k H locs ls' hP hD hS hl'')
theorem cw_lv (is : List Nat) (h : lv_pick lv is = lv') (k : CW p l e R s m args below meth c D A0 nL w Q σ pc lv' st) : CW p l e R s m args below meth c D A0 nL w Q σ pc lv st :=
  fun H locs ls hP hD hS hl => k H locs ls hP hD hS (lv_sub hl is h)
theorem cw_eq {σ' : St} (h : σ = σ') (k : CW p l e R s m args below meth c D A0 nL w Q σ' pc lv st) : CW p l e R s m args below meth c D A0 nL w Q σ pc lv st := by
  subst h
  exact k
theorem cw_pc (h : pc = pc') (k : CW p l e R s m args below meth c D A0 nL w Q σ pc' lv st) : CW p l e R s m args below meth c D A0 nL w Q σ pc lv st := by
  subst h
  exact k
theorem cw_top {x : Int32} (y : Int32) (h : x = y) (k : CW p l e R s m args below meth c D A0 nL w Q σ pc lv (.int y :: st)) : CW p l e R s m args below meth c D A0 nL w Q σ pc lv (.int x :: st) := by
  subst h
  exact k
theorem cw_iadd (C : CX p s m args c cc nL Ts own D Z A0) {x y : Int32} (hd : decode cc pc = .ok (.iadd, 1)) {z : Int32} (hz : x + y = z) (k : CW p l e R s m args below meth c D A0 nL w Q σ (pc + 1) lv (.int z :: st)) : CW p l e R s m args below meth c D A0 nL w Q σ pc lv (.int y :: .int x :: st) := by
  subst hz
  exact fun H locs ls hP hD hS hl => lv_iadd C.1.1 C.1.2.1 hd (k H locs ls hP hD hS hl)
theorem cw_isub (C : CX p s m args c cc nL Ts own D Z A0) {x y : Int32} (hd : decode cc pc = .ok (.isub, 1)) {z : Int32} (hz : x - y = z) (k : CW p l e R s m args below meth c D A0 nL w Q σ (pc + 1) lv (.int z :: st)) : CW p l e R s m args below meth c D A0 nL w Q σ pc lv (.int y :: .int x :: st) := by
  subst hz
  exact fun H locs ls hP hD hS hl => lv_isub C.1.1 C.1.2.1 hd (k H locs ls hP hD hS hl)
theorem cw_imul (C : CX p s m args c cc nL Ts own D Z A0) {x y : Int32} (hd : decode cc pc = .ok (.imul, 1)) {z : Int32} (hz : x * y = z) (k : CW p l e R s m args below meth c D A0 nL w Q σ (pc + 1) lv (.int z :: st)) : CW p l e R s m args below meth c D A0 nL w Q σ pc lv (.int y :: .int x :: st) := by
  subst hz
  exact fun H locs ls hP hD hS hl => lv_imul C.1.1 C.1.2.1 hd (k H locs ls hP hD hS hl)
theorem cw_idiv (C : CX p s m args c cc nL Ts own D Z A0) {x y : Int32} (hd : decode cc pc = .ok (.idiv, 1)) (hne : ¬ y = 0) {z : Int32} (hz : x / y = z) (k : CW p l e R s m args below meth c D A0 nL w Q σ (pc + 1) lv (.int z :: st)) : CW p l e R s m args below meth c D A0 nL w Q σ pc lv (.int y :: .int x :: st) := by
  subst hz
  exact fun H locs ls hP hD hS hl => lv_idiv C.1.1 C.1.2.1 hd hne (k H locs ls hP hD hS hl)
theorem cw_irem (C : CX p s m args c cc nL Ts own D Z A0) {x y : Int32} (hd : decode cc pc = .ok (.irem, 1)) (hne : ¬ y = 0) {z : Int32} (hz : x - x / y * y = z) (k : CW p l e R s m args below meth c D A0 nL w Q σ (pc + 1) lv (.int z :: st)) : CW p l e R s m args below meth c D A0 nL w Q σ pc lv (.int y :: .int x :: st) := by
  subst hz
  exact fun H locs ls hP hD hS hl => lv_irem C.1.1 C.1.2.1 hd hne (k H locs ls hP hD hS hl)
theorem cw_ineg (C : CX p s m args c cc nL Ts own D Z A0) {x : Int32} (hd : decode cc pc = .ok (.ineg, 1)) {z : Int32} (hz : -x = z) (k : CW p l e R s m args below meth c D A0 nL w Q σ (pc + 1) lv (.int z :: st)) : CW p l e R s m args below meth c D A0 nL w Q σ pc lv (.int x :: st) := by
  subst hz
  exact fun H locs ls hP hD hS hl => lv_ineg C.1.1 C.1.2.1 hd (k H locs ls hP hD hS hl)
theorem cw_iand (C : CX p s m args c cc nL Ts own D Z A0) {x y : Int32} (hd : decode cc pc = .ok (.iand, 1)) {z : Int32} (hz : x &&& y = z) (k : CW p l e R s m args below meth c D A0 nL w Q σ (pc + 1) lv (.int z :: st)) : CW p l e R s m args below meth c D A0 nL w Q σ pc lv (.int y :: .int x :: st) := by
  subst hz
  exact fun H locs ls hP hD hS hl => lv_iand C.1.1 C.1.2.1 hd (k H locs ls hP hD hS hl)
theorem cw_ior (C : CX p s m args c cc nL Ts own D Z A0) {x y : Int32} (hd : decode cc pc = .ok (.ior, 1)) {z : Int32} (hz : x ||| y = z) (k : CW p l e R s m args below meth c D A0 nL w Q σ (pc + 1) lv (.int z :: st)) : CW p l e R s m args below meth c D A0 nL w Q σ pc lv (.int y :: .int x :: st) := by
  subst hz
  exact fun H locs ls hP hD hS hl => lv_ior C.1.1 C.1.2.1 hd (k H locs ls hP hD hS hl)
theorem cw_ixor (C : CX p s m args c cc nL Ts own D Z A0) {x y : Int32} (hd : decode cc pc = .ok (.ixor, 1)) {z : Int32} (hz : x ^^^ y = z) (k : CW p l e R s m args below meth c D A0 nL w Q σ (pc + 1) lv (.int z :: st)) : CW p l e R s m args below meth c D A0 nL w Q σ pc lv (.int y :: .int x :: st) := by
  subst hz
  exact fun H locs ls hP hD hS hl => lv_ixor C.1.1 C.1.2.1 hd (k H locs ls hP hD hS hl)
theorem cw_ishl (C : CX p s m args c cc nL Ts own D Z A0) {x y : Int32} (hd : decode cc pc = .ok (.ishl, 1)) {z : Int32} (hz : x <<< (y &&& 31) = z) (k : CW p l e R s m args below meth c D A0 nL w Q σ (pc + 1) lv (.int z :: st)) : CW p l e R s m args below meth c D A0 nL w Q σ pc lv (.int y :: .int x :: st) := by
  subst hz
  exact fun H locs ls hP hD hS hl => lv_ishl C.1.1 C.1.2.1 hd (k H locs ls hP hD hS hl)
theorem cw_ishr (C : CX p s m args c cc nL Ts own D Z A0) {x y : Int32} (hd : decode cc pc = .ok (.ishr, 1)) {z : Int32} (hz : x >>> (y &&& 31) = z) (k : CW p l e R s m args below meth c D A0 nL w Q σ (pc + 1) lv (.int z :: st)) : CW p l e R s m args below meth c D A0 nL w Q σ pc lv (.int y :: .int x :: st) := by
  subst hz
  exact fun H locs ls hP hD hS hl => lv_ishr C.1.1 C.1.2.1 hd (k H locs ls hP hD hS hl)
theorem cw_iushr (C : CX p s m args c cc nL Ts own D Z A0) {x y z : Int32} (hd : decode cc pc = .ok (.iushr, 1)) (hz : (x.toUInt32 >>> (y.toUInt32 &&& Int32.toUInt32 31)).toInt32 = z) (k : CW p l e R s m args below meth c D A0 nL w Q σ (pc + 1) lv (.int z :: st)) : CW p l e R s m args below meth c D A0 nL w Q σ pc lv (.int y :: .int x :: st) :=
  fun H locs ls hP hD hS hl => lv_iushr C.1.1 C.1.2.1 hd hz (k H locs ls hP hD hS hl)
theorem cw_i2c (C : CX p s m args c cc nL Ts own D Z A0) {x z : Int32} (hd : decode cc pc = .ok (.i2c, 1)) (hz : (x.toUInt32 % 65536).toInt32 = z) (k : CW p l e R s m args below meth c D A0 nL w Q σ (pc + 1) lv (.int z :: st)) : CW p l e R s m args below meth c D A0 nL w Q σ pc lv (.int x :: st) :=
  fun H locs ls hP hD hS hl => lv_i2c C.1.1 C.1.2.1 hd hz (k H locs ls hP hD hS hl)
theorem cw_i2l (C : CX p s m args c cc nL Ts own D Z A0) {x : Int32} (hd : decode cc pc = .ok (.i2l, 1)) (k : CW p l e R s m args below meth c D A0 nL w Q σ (pc + 1) lv (.long x.toInt64 :: st)) : CW p l e R s m args below meth c D A0 nL w Q σ pc lv (.int x :: st) :=
  fun H locs ls hP hD hS hl => lv_i2l C.1.1 C.1.2.1 hd rfl (k H locs ls hP hD hS hl)
theorem cw_ladd (C : CX p s m args c cc nL Ts own D Z A0) {x y : Int64} (hd : decode cc pc = .ok (.ladd, 1)) (k : CW p l e R s m args below meth c D A0 nL w Q σ (pc + 1) lv (.long (x + y) :: st)) : CW p l e R s m args below meth c D A0 nL w Q σ pc lv (.long y :: .long x :: st) :=
  fun H locs ls hP hD hS hl => lv_ladd C.1.1 C.1.2.1 hd (k H locs ls hP hD hS hl)
theorem cw_lmul (C : CX p s m args c cc nL Ts own D Z A0) {x y : Int64} (hd : decode cc pc = .ok (.lmul, 1)) (k : CW p l e R s m args below meth c D A0 nL w Q σ (pc + 1) lv (.long (x * y) :: st)) : CW p l e R s m args below meth c D A0 nL w Q σ pc lv (.long y :: .long x :: st) :=
  fun H locs ls hP hD hS hl => lv_lmul C.1.1 C.1.2.1 hd (k H locs ls hP hD hS hl)
theorem cw_dup (C : CX p s m args c cc nL Ts own D Z A0) {a : Value} (hd : decode cc pc = .ok (.dup, 1)) (ha : a.category = 1) (k : CW p l e R s m args below meth c D A0 nL w Q σ (pc + 1) lv (a :: a :: st)) : CW p l e R s m args below meth c D A0 nL w Q σ pc lv (a :: st) :=
  fun H locs ls hP hD hS hl => lv_dup C.1.1 C.1.2.1 hd ha (k H locs ls hP hD hS hl)
theorem cw_dup2 (C : CX p s m args c cc nL Ts own D Z A0) {a b : Value} (hd : decode cc pc = .ok (.dup2, 1)) (ha : a.category = 1) (hb : b.category = 1) (k : CW p l e R s m args below meth c D A0 nL w Q σ (pc + 1) lv (a :: b :: a :: b :: st)) : CW p l e R s m args below meth c D A0 nL w Q σ pc lv (a :: b :: st) :=
  fun H locs ls hP hD hS hl => lv_dup2_11 C.1.1 C.1.2.1 hd ha hb (k H locs ls hP hD hS hl)
theorem cw_pop (C : CX p s m args c cc nL Ts own D Z A0) {a : Value} (hd : decode cc pc = .ok (.pop, 1)) (ha : a.category = 1) (k : CW p l e R s m args below meth c D A0 nL w Q σ (pc + 1) lv st) : CW p l e R s m args below meth c D A0 nL w Q σ pc lv (a :: st) :=
  fun H locs ls hP hD hS hl => lv_pop C.1.1 C.1.2.1 hd ha (k H locs ls hP hD hS hl)
theorem cw_goto (C : CX p s m args c cc nL Ts own D Z A0) {off : Int} {tgt : Nat} (hd : decode cc pc = .ok (.goto off, 3)) (ht : (pc : Int) + off = (tgt : Int)) (k : CW p l e R s m args below meth c D A0 nL w Q σ tgt lv st) : CW p l e R s m args below meth c D A0 nL w Q σ pc lv st :=
  fun H locs ls hP hD hS hl => lv_goto C.1.1 C.1.2.1 hd ht (k H locs ls hP hD hS hl)
theorem cw_if_eq (C : CX p s m args c cc nL Ts own D Z A0) {x : Int32} {off : Int} {tgt : Nat} (hd : decode cc pc = .ok (.ifCond .eq off, 3)) (ht : (pc : Int) + off = (tgt : Int)) (kt : x = 0 → CW p l e R s m args below meth c D A0 nL w Q σ tgt lv st) (kf : ¬ x = 0 → CW p l e R s m args below meth c D A0 nL w Q σ (pc + 3) lv st) : CW p l e R s m args below meth c D A0 nL w Q σ pc lv (.int x :: st) :=
  fun H locs ls hP hD hS hl => lv_if_eq C.1.1 C.1.2.1 hd ht (fun h => kt h H locs ls hP hD hS hl) (fun h => kf h H locs ls hP hD hS hl)
theorem cw_icmp_eq (C : CX p s m args c cc nL Ts own D Z A0) {x y : Int32} {off : Int} {tgt : Nat} (hd : decode cc pc = .ok (.if_icmp .eq off, 3)) (ht : (pc : Int) + off = (tgt : Int)) (kt : x = y → CW p l e R s m args below meth c D A0 nL w Q σ tgt lv st) (kf : ¬ x = y → CW p l e R s m args below meth c D A0 nL w Q σ (pc + 3) lv st) : CW p l e R s m args below meth c D A0 nL w Q σ pc lv (.int y :: .int x :: st) :=
  fun H locs ls hP hD hS hl => lv_icmp_eq C.1.1 C.1.2.1 hd ht (fun h => kt h H locs ls hP hD hS hl) (fun h => kf h H locs ls hP hD hS hl)
theorem cw_if_ne (C : CX p s m args c cc nL Ts own D Z A0) {x : Int32} {off : Int} {tgt : Nat} (hd : decode cc pc = .ok (.ifCond .ne off, 3)) (ht : (pc : Int) + off = (tgt : Int)) (kt : ¬ x = 0 → CW p l e R s m args below meth c D A0 nL w Q σ tgt lv st) (kf : x = 0 → CW p l e R s m args below meth c D A0 nL w Q σ (pc + 3) lv st) : CW p l e R s m args below meth c D A0 nL w Q σ pc lv (.int x :: st) :=
  fun H locs ls hP hD hS hl => lv_if_ne C.1.1 C.1.2.1 hd ht (fun h => kt h H locs ls hP hD hS hl) (fun h => kf h H locs ls hP hD hS hl)
theorem cw_icmp_ne (C : CX p s m args c cc nL Ts own D Z A0) {x y : Int32} {off : Int} {tgt : Nat} (hd : decode cc pc = .ok (.if_icmp .ne off, 3)) (ht : (pc : Int) + off = (tgt : Int)) (kt : ¬ x = y → CW p l e R s m args below meth c D A0 nL w Q σ tgt lv st) (kf : x = y → CW p l e R s m args below meth c D A0 nL w Q σ (pc + 3) lv st) : CW p l e R s m args below meth c D A0 nL w Q σ pc lv (.int y :: .int x :: st) :=
  fun H locs ls hP hD hS hl => lv_icmp_ne C.1.1 C.1.2.1 hd ht (fun h => kt h H locs ls hP hD hS hl) (fun h => kf h H locs ls hP hD hS hl)
theorem cw_if_lt (C : CX p s m args c cc nL Ts own D Z A0) {x : Int32} {off : Int} {tgt : Nat} (hd : decode cc pc = .ok (.ifCond .lt off, 3)) (ht : (pc : Int) + off = (tgt : Int)) (kt : x < 0 → CW p l e R s m args below meth c D A0 nL w Q σ tgt lv st) (kf : ¬ x < 0 → CW p l e R s m args below meth c D A0 nL w Q σ (pc + 3) lv st) : CW p l e R s m args below meth c D A0 nL w Q σ pc lv (.int x :: st) :=
  fun H locs ls hP hD hS hl => lv_if_lt C.1.1 C.1.2.1 hd ht (fun h => kt h H locs ls hP hD hS hl) (fun h => kf h H locs ls hP hD hS hl)
theorem cw_icmp_lt (C : CX p s m args c cc nL Ts own D Z A0) {x y : Int32} {off : Int} {tgt : Nat} (hd : decode cc pc = .ok (.if_icmp .lt off, 3)) (ht : (pc : Int) + off = (tgt : Int)) (kt : x < y → CW p l e R s m args below meth c D A0 nL w Q σ tgt lv st) (kf : ¬ x < y → CW p l e R s m args below meth c D A0 nL w Q σ (pc + 3) lv st) : CW p l e R s m args below meth c D A0 nL w Q σ pc lv (.int y :: .int x :: st) :=
  fun H locs ls hP hD hS hl => lv_icmp_lt C.1.1 C.1.2.1 hd ht (fun h => kt h H locs ls hP hD hS hl) (fun h => kf h H locs ls hP hD hS hl)
theorem cw_if_ge (C : CX p s m args c cc nL Ts own D Z A0) {x : Int32} {off : Int} {tgt : Nat} (hd : decode cc pc = .ok (.ifCond .ge off, 3)) (ht : (pc : Int) + off = (tgt : Int)) (kt : 0 ≤ x → CW p l e R s m args below meth c D A0 nL w Q σ tgt lv st) (kf : ¬ 0 ≤ x → CW p l e R s m args below meth c D A0 nL w Q σ (pc + 3) lv st) : CW p l e R s m args below meth c D A0 nL w Q σ pc lv (.int x :: st) :=
  fun H locs ls hP hD hS hl => lv_if_ge C.1.1 C.1.2.1 hd ht (fun h => kt h H locs ls hP hD hS hl) (fun h => kf h H locs ls hP hD hS hl)
theorem cw_icmp_ge (C : CX p s m args c cc nL Ts own D Z A0) {x y : Int32} {off : Int} {tgt : Nat} (hd : decode cc pc = .ok (.if_icmp .ge off, 3)) (ht : (pc : Int) + off = (tgt : Int)) (kt : y ≤ x → CW p l e R s m args below meth c D A0 nL w Q σ tgt lv st) (kf : ¬ y ≤ x → CW p l e R s m args below meth c D A0 nL w Q σ (pc + 3) lv st) : CW p l e R s m args below meth c D A0 nL w Q σ pc lv (.int y :: .int x :: st) :=
  fun H locs ls hP hD hS hl => lv_icmp_ge C.1.1 C.1.2.1 hd ht (fun h => kt h H locs ls hP hD hS hl) (fun h => kf h H locs ls hP hD hS hl)
theorem cw_if_gt (C : CX p s m args c cc nL Ts own D Z A0) {x : Int32} {off : Int} {tgt : Nat} (hd : decode cc pc = .ok (.ifCond .gt off, 3)) (ht : (pc : Int) + off = (tgt : Int)) (kt : 0 < x → CW p l e R s m args below meth c D A0 nL w Q σ tgt lv st) (kf : ¬ 0 < x → CW p l e R s m args below meth c D A0 nL w Q σ (pc + 3) lv st) : CW p l e R s m args below meth c D A0 nL w Q σ pc lv (.int x :: st) :=
  fun H locs ls hP hD hS hl => lv_if_gt C.1.1 C.1.2.1 hd ht (fun h => kt h H locs ls hP hD hS hl) (fun h => kf h H locs ls hP hD hS hl)
theorem cw_icmp_gt (C : CX p s m args c cc nL Ts own D Z A0) {x y : Int32} {off : Int} {tgt : Nat} (hd : decode cc pc = .ok (.if_icmp .gt off, 3)) (ht : (pc : Int) + off = (tgt : Int)) (kt : y < x → CW p l e R s m args below meth c D A0 nL w Q σ tgt lv st) (kf : ¬ y < x → CW p l e R s m args below meth c D A0 nL w Q σ (pc + 3) lv st) : CW p l e R s m args below meth c D A0 nL w Q σ pc lv (.int y :: .int x :: st) :=
  fun H locs ls hP hD hS hl => lv_icmp_gt C.1.1 C.1.2.1 hd ht (fun h => kt h H locs ls hP hD hS hl) (fun h => kf h H locs ls hP hD hS hl)
theorem cw_if_le (C : CX p s m args c cc nL Ts own D Z A0) {x : Int32} {off : Int} {tgt : Nat} (hd : decode cc pc = .ok (.ifCond .le off, 3)) (ht : (pc : Int) + off = (tgt : Int)) (kt : x ≤ 0 → CW p l e R s m args below meth c D A0 nL w Q σ tgt lv st) (kf : ¬ x ≤ 0 → CW p l e R s m args below meth c D A0 nL w Q σ (pc + 3) lv st) : CW p l e R s m args below meth c D A0 nL w Q σ pc lv (.int x :: st) :=
  fun H locs ls hP hD hS hl => lv_if_le C.1.1 C.1.2.1 hd ht (fun h => kt h H locs ls hP hD hS hl) (fun h => kf h H locs ls hP hD hS hl)
theorem cw_icmp_le (C : CX p s m args c cc nL Ts own D Z A0) {x y : Int32} {off : Int} {tgt : Nat} (hd : decode cc pc = .ok (.if_icmp .le off, 3)) (ht : (pc : Int) + off = (tgt : Int)) (kt : x ≤ y → CW p l e R s m args below meth c D A0 nL w Q σ tgt lv st) (kf : ¬ x ≤ y → CW p l e R s m args below meth c D A0 nL w Q σ (pc + 3) lv st) : CW p l e R s m args below meth c D A0 nL w Q σ pc lv (.int y :: .int x :: st) :=
  fun H locs ls hP hD hS hl => lv_icmp_le C.1.1 C.1.2.1 hd ht (fun h => kt h H locs ls hP hD hS hl) (fun h => kf h H locs ls hP hD hS hl)
theorem cw_tableOut (C : CX p s m args c cc nL Ts own D Z A0) {dflt lo hi : Int} {offs : Array Int} {len : Nat} {x : Int32} {tgt : Nat} (hd : decode cc pc = .ok (.tableswitch dflt lo hi offs, len)) (h : x.toInt < lo ∨ hi < x.toInt) (ht : (pc : Int) + dflt = (tgt : Int)) (k : CW p l e R s m args below meth c D A0 nL w Q σ tgt lv st) : CW p l e R s m args below meth c D A0 nL w Q σ pc lv (.int x :: st) :=
  fun H locs ls hP hD hS hl => lv_tableOut C.1.1 C.1.2.1 hd h ht (k H locs ls hP hD hS hl)
theorem cw_tableIn (C : CX p s m args c cc nL Ts own D Z A0) {dflt lo hi : Int} {offs : Array Int} {len : Nat} {x : Int32} {off : Int} {tgt : Nat} (hd : decode cc pc = .ok (.tableswitch dflt lo hi offs, len)) (h1 : ¬ x.toInt < lo) (h2 : ¬ hi < x.toInt) (ho : offs[(x.toInt - lo).toNat]? = some off) (ht : (pc : Int) + off = (tgt : Int)) (k : CW p l e R s m args below meth c D A0 nL w Q σ tgt lv st) : CW p l e R s m args below meth c D A0 nL w Q σ pc lv (.int x :: st) :=
  fun H locs ls hP hD hS hl => lv_tableIn C.1.1 C.1.2.1 hd h1 h2 ho ht (k H locs ls hP hD hS hl)
theorem vp_in_j {i : Int32} {j n : Nat} (hi : i = nI j) (hj : j < n) (hn : n < 2 ^ 31) : vp_in i n ∧ i.toNatClampNeg = j := by
  subst hi
  exact ⟨vp_in_nI hj hn, nI_clamp (Nat.lt_trans hj hn)⟩
theorem cw_iald (C : CX p s m args c cc nL Ts own D Z A0) (hd : decode cc pc = .ok (.iaload, 1)) (q0 : Nat) {a n : Nat} {f : Nat → Int32} {i : Int32} (ha : (w σ)[q0]? = some (a, .inl (Z.1, n, .inl f))) (j : Nat) (hi : i = nI j) (hj : j < n) (hn : n < 2 ^ 31) (k : CW p l e R s m args below meth c D A0 nL w Q σ (pc + 1) lv (.int (f j) :: st)) : CW p l e R s m args below meth c D A0 nL w Q σ pc lv (.int i :: .ref a :: st) := by
  intro H locs ls hP hD hS hl
  obtain ⟨h1, h2⟩ := vp_in_j hi hj hn
  refine va_iald C.1.1 C.1.2.1 C.2.1 hP q0 0 ha rfl h1 hd ?_
  rw [h2]
  exact k H locs ls hP hD hS hl
theorem cw_iast (C : CX p s m args c cc nL Ts own D Z A0) (hd : decode cc pc = .ok (.iastore, 1)) (q0 : Nat) {a n : Nat} {f : Nat → Int32} {i x : Int32} (ha : (w σ)[q0]? = some (a, .inl (Z.1, n, .inl f))) (j : Nat) (hi : i = nI j) (hj : j < n) (hn : n < 2 ^ 31) (σ' : St) (hset : (w σ).set q0 (a, .inl (Z.1, n, .inl (upd f j x))) = w σ') (k : CW p l e R s m args below meth c D A0 nL w Q σ' (pc + 1) lv st) : CW p l e R s m args below meth c D A0 nL w Q σ pc lv (.int x :: .int i :: .ref a :: st) := by
  intro H locs ls hP hD hS hl
  obtain ⟨h1, h2⟩ := vp_in_j hi hj hn
  refine va_iast C.1.1 C.1.2.1 C.2.1 hP hD hS q0 0 ha rfl h1 hd ?_
  rw [h2, hset]
  exact fun H1 locs1 hP1 hD1 hS1 => k H1 locs1 ls hP1 hD1 hS1 hl
theorem cw_aald (C : CX p s m args c cc nL Ts own D Z A0) (hd : decode cc pc = .ok (.aaload, 1)) (q0 : Nat) {a n b : Nat} {f : Nat → Option Nat} {i : Int32} (ha : (w σ)[q0]? = some (a, .inl (Z.2.1, n, .inr (.inr (.inr (.inr f)))))) (j : Nat) (hi : i = nI j) (hj : j < n) (hn : n < 2 ^ 31) (hf : f j = some b) (k : CW p l e R s m args below meth c D A0 nL w Q σ (pc + 1) lv (.ref b :: st)) : CW p l e R s m args below meth c D A0 nL w Q σ pc lv (.int i :: .ref a :: st) := by
  intro H locs ls hP hD hS hl
  obtain ⟨h1, h2⟩ := vp_in_j hi hj hn
  have hlt : i.toNatClampNeg < n := Nat.not_le.mp fun q => h1 (Or.inr q)
  refine W.aald (v := .ref b) (ty := .array .int) C.1.1 C.1.2.1 (hP q0 _ ha) ((C.2.1.2 1 _ rfl).1 n (fun j => va_rf (f j))) rfl (fun q => by cases q) (by show ¬ (i < 0 ∨ (arrV _ _ _).slots.size ≤ _); rw [arrV_size]; exact h1) (by show (arrV _ _ _).slots[_]? = _; rw [arrV_read _ _ hlt, h2, hf]; rfl) rfl rfl hd (k H locs ls hP hD hS hl)
theorem cw_get (C : CX p s m args c cc nL Ts own D Z A0) {ix : Nat} (hd : decode cc pc = .ok (.getfield ix, 3)) (q0 : Nat) {a ci N : Nat} {RC : String} {T : u_T} {fs : List Value} {v : Value} (he : (w σ)[q0]? = some (a, .inr (ci, fs))) (hc : vwCl[ci]? = some (RC, T, N)) (f : Nat) (hv : fs[f]? = some v) (hin : ∀ x ∈ u_ws RC T N, x ∈ Ts) (hk : f < N) (hm : Cond.fieldLink own ix (T f).1 (T f).2.1 (T f).2.2.1 ∈ Ts) (k : CW p l e R s m args below meth c D A0 nL w Q σ (pc + 3) lv (v :: st)) : CW p l e R s m args below meth c D A0 nL w Q σ pc lv (.ref a :: st) :=
  fun H locs ls hP hD hS hl => va_get C.1.1 C.1.2.1 C.1.2.2.2.2 hin C.1.2.2.2.1 C.2.1 hP q0 he hc f hk (C.1.2.2.2.2 _ hm) (fun _ h9 => h9) hv hd (k H locs ls hP hD hS hl)
theorem cw_put (C : CX p s m args c cc nL Ts own D Z A0) {ix : Nat} (hd : decode cc pc = .ok (.putfield ix, 3)) (q0 : Nat) {a ci N : Nat} {RC : String} {T : u_T} {ty0 : Nat → FieldType} {fs : List Value} {x : Int32} {ty : FieldType} (he : (w σ)[q0]? = some (a, .inr (ci, fs))) (hc : vwCl[ci]? = some (RC, T, N)) (f : Nat) (hin : ∀ x ∈ u_ws RC T N, x ∈ Ts) (hty : ∀ k, k < N → parseFieldDescriptor (T k).2.2.1 = some (ty0 k)) (hnm : ∀ a, a < N → ∀ b, b < N → a ≠ b → (T a).2.1 ≠ (T b).2.1) (hk : f < N) (hm : Cond.fieldLink own ix (T f).1 (T f).2.1 (T f).2.2.1 ∈ Ts) (hfin : (T f).2.2.2 = false) (hdsc : parseFieldDescriptor (T f).2.2.1 = some ty) (hn : narrow ty (.int x) = .int x) (hfit : fits ty (.int x) = true) (hl0 : f < fs.length) (σ' : St) (hset : (w σ).set q0 (a, .inr (ci, fs.set f (.int x))) = w σ') (k : CW p l e R s m args below meth c D A0 nL w Q σ' (pc + 3) lv st) : CW p l e R s m args below meth c D A0 nL w Q σ pc lv (.int x :: .ref a :: st) := by
  intro H locs ls hP hD hS hl
  refine va_put C.1.1 C.1.2.1 C.1.2.2.2.2 hin ty0 hty hnm C.1.2.2.2.1 C.2.1 hP hD hS q0 he hc f hk (C.1.2.2.2.2 _ hm) (fun _ h9 => h9) hfin hdsc hn hfit hl0 hd ?_
  rw [hset]
  exact fun H1 locs1 hP1 hD1 hS1 => k H1 locs1 ls hP1 hD1 hS1 hl
theorem cw_max (C : CX p s m args c cc nL Ts own D Z A0) {ix : Nat} {x y : Int32} (hd : decode cc pc = .ok (.invokestatic ix, 3)) (h1 : Cond.methodLink own ix Lib.Math.max.name ∈ Ts) (h2 : Cond.static Lib.Math.max.name ∈ Ts) (h3 : Cond.initialized "java/lang/Math" ∈ Ts) (h4 : Cond.code Lib.Math.max.name Lib.Math.max.code 2 (some .int) ∈ Ts) (hf : 1 ≤ R.frames) (hlo : (st.map fun v => v.category).sum + 13 ≤ R.locals) (k : CW p l e R s m args below meth c D A0 nL w Q σ (pc + 3) lv (.int (if x < y then y else x) :: st)) : CW p l e R s m args below meth c D A0 nL w Q σ pc lv (.int y :: .int x :: st) :=
  fun H locs ls hP hD hS hl => va_mmax C.1.1 C.1.2.1 (C.1.2.2.1.trans hl.1.symm) C.1.2.2.2.1 (C.1.2.2.2.2 _ h1) (C.1.2.2.2.2 _ h2) (C.1.2.2.2.2 _ h3) (C.1.2.2.2.2 _ h4) hf hlo (Nat.zero_le _) (Nat.zero_le _) hd (k H locs ls hP hD hS hl)
theorem cw_min (C : CX p s m args c cc nL Ts own D Z A0) {ix : Nat} {x y : Int32} (hd : decode cc pc = .ok (.invokestatic ix, 3)) (h1 : Cond.methodLink own ix Lib.Math.min.name ∈ Ts) (h2 : Cond.static Lib.Math.min.name ∈ Ts) (h3 : Cond.initialized "java/lang/Math" ∈ Ts) (h4 : Cond.code Lib.Math.min.name Lib.Math.min.code 2 (some .int) ∈ Ts) (hf : 1 ≤ R.frames) (hlo : (st.map fun v => v.category).sum + 13 ≤ R.locals) (k : CW p l e R s m args below meth c D A0 nL w Q σ (pc + 3) lv (.int (if y < x then y else x) :: st)) : CW p l e R s m args below meth c D A0 nL w Q σ pc lv (.int y :: .int x :: st) :=
  fun H locs ls hP hD hS hl => va_mmin C.1.1 C.1.2.1 (C.1.2.2.1.trans hl.1.symm) C.1.2.2.2.1 (C.1.2.2.2.2 _ h1) (C.1.2.2.2.2 _ h2) (C.1.2.2.2.2 _ h3) (C.1.2.2.2.2 _ h4) hf hlo (Nat.zero_le _) (Nat.zero_le _) hd (k H locs ls hP hD hS hl)
/-- before and behind a method -/
def PreC (D : va_G) (Z : CZ) (w : St → va_W) (σ : St) (sz : Nat) (U : State) : Prop := U.heap.size = sz ∧ va_P D vwCl (w σ) U.heap ∧ va_K D vwCl (tysC Z) U ∧ NWs U ∧ va_D (fun _ => True) (w σ) ∧ SW Z (va_A (w σ) sz) U U.heap
def PostB (D : va_G) (w : St → va_W) (A : Nat → Prop) (σ' : St) (t : State) : Prop := va_P D vwCl (w σ') t.heap ∧ va_D A (w σ')
abbrev rmC (fr lo : Nat) : Room := { frames := fr, cells := 0, slots := 0, locals := lo }
def CTi (l : Launch) (y : MethodName) (ws : List Cond) (fr lo : Nat) (D : va_G) (Z : CZ) (w : St → va_W) (σ : St) (as : List Value) (post : Int32 → St → Prop) : Prop :=
  ∀ sz : Nat, Met l y ws (rmC fr lo) (va_Pc as (PreC D Z w σ sz)) (va_Qi post (PostB D w (va_A (w σ) sz)) (va_A (w σ) sz)) 0 0 (va_A (w σ) sz)
def CTl (l : Launch) (y : MethodName) (ws : List Cond) (fr lo : Nat) (D : va_G) (Z : CZ) (w : St → va_W) (σ : St) (as : List Value) (post : Int64 → St → Prop) : Prop :=
  ∀ sz : Nat, Met l y ws (rmC fr lo) (va_Pc as (PreC D Z w σ sz)) (va_Ql post (PostB D w (va_A (w σ) sz)) (va_A (w σ) sz)) 0 0 (va_A (w σ) sz)
def CTv (l : Launch) (y : MethodName) (ws : List Cond) (fr lo : Nat) (D : va_G) (Z : CZ) (w : St → va_W) (σ : St) (as : List Value) (post : St → Prop) : Prop :=
  ∀ sz : Nat, Met l y ws (rmC fr lo) (va_Pc as (PreC D Z w σ sz)) (va_Qv post (PostB D w (va_A (w σ) sz)) (va_A (w σ) sz)) 0 0 (va_A (w σ) sz)
/-- a method that answers true or false -/
def CTz (l : Launch) (y : MethodName) (ws : List Cond) (fr lo : Nat) (D : va_G) (Z : CZ) (w : St → va_W) (σ : St) (as : List Value) (post : Bool → St → Prop) : Prop :=
  CTi l y ws fr lo D Z w σ as (fun r σ' => ∃ b : Bool, r = bI b ∧ post b σ')
theorem PreC.blind {D : va_G} {w : St → va_W} {as : List Value} {sz : Nat} : FrameBlind (va_Pc as (PreC D Z w σ sz)) := fun a U g mk q => by
  obtain ⟨q0, q1, q2, q3, q4, q5, q6⟩ := q
  exact ⟨q0, q1, q2, va_K.moved (u := U) (U := U.calling g mk a) (Vm.Alike.refl U.vm) q3, NWs.same rfl q4, q5, SW.same rfl q6⟩
theorem CTi.mk {y : MethodName} {ws ws' : List Cond} {fr lo : Nat} {as : List Value} {post : Int32 → St → Prop} {own : String} (ho : y.cls = own) (hy : plainName y.cls = true) (hw : ws = Cond.code y cc nL (some .int) :: ws') (hlen : (lg_sl as).length ≤ nL)
    (body : ∀ (p : Program) (e : Env) (s : State) (m : MethodId) (args : Array Value) (below : List Frame) (meth : Method) (c : Code) (A0 : Nat → Prop) (Q : State → Prop), CX p s m args c cc nL ws own D Z A0 → (∀ (v : Int32) (σ' : St) (pc : Nat) (lv : List (Nat × Value)), decode cc pc = .ok (.ireturn, 1) → post v σ' → CW p l e (rmC fr lo) s m args below meth c D A0 nL w Q σ' pc lv [.int v]) → CW p l e (rmC fr lo) s m args below meth c D A0 nL w Q σ 0 (lv_args 0 as) []) : CTi l y ws fr lo D Z w σ as post := by
  subst ho
  intro sz
  refine Met.ofW (cc := cc) (maxL := nL) (ret := some .int) hy hw ?_
  intro p e s m args below meth c s₁ B hml hv
  obtain ⟨rfl, hsz, hP, hK, hN, hD0, hSW⟩ := hv
  subst hsz
  have hts := atoms_spec (ws := ws) B.pre
  have hD := hD0.self (sz := s.heap.size)
  have hl := lv_entry as (n := nL) hlen
  rw [lg_entry_eq]
  refine body p e s m as.toArray below meth c (va_A (w σ) s.heap.size) _ ⟨⟨B.exec, B.bytes, hml, findClass_of_methodNamed B.named, hts⟩, hK, hN, (fun q h => Or.inr h), hSW⟩ ?_ s.heap [] _ hP hD va_S.rf hl
  intro v σ' pc lv hd hp H locs ls hP' hD' hS' hl'
  exact W.iret B.exec B.bytes B.returns (fun t ht hW => ⟨⟨v, σ', rfl, hp, by rw [ht]; exact hP', hD'⟩, hS'.F ht⟩) hS'.2.2 hd B.notSynchronized
theorem CTz.mk {y : MethodName} {ws ws' : List Cond} {fr lo : Nat} {as : List Value} {post : Bool → St → Prop} {own : String} (ho : y.cls = own) (hy : plainName y.cls = true) (hw : ws = Cond.code y cc nL (some .boolean) :: ws') (hlen : (lg_sl as).length ≤ nL)
    (body : ∀ (p : Program) (e : Env) (s : State) (m : MethodId) (args : Array Value) (below : List Frame) (meth : Method) (c : Code) (A0 : Nat → Prop) (Q : State → Prop), CX p s m args c cc nL ws own D Z A0 → (∀ (b : Bool) (σ' : St) (pc : Nat) (lv : List (Nat × Value)), decode cc pc = .ok (.ireturn, 1) → post b σ' → CW p l e (rmC fr lo) s m args below meth c D A0 nL w Q σ' pc lv [.int (bI b)]) → CW p l e (rmC fr lo) s m args below meth c D A0 nL w Q σ 0 (lv_args 0 as) []) : CTz l y ws fr lo D Z w σ as post := by
  subst ho
  intro sz
  refine Met.ofW (cc := cc) (maxL := nL) (ret := some .boolean) hy hw ?_
  intro p e s m args below meth c s₁ B hml hv
  obtain ⟨rfl, hsz, hP, hK, hN, hD0, hSW⟩ := hv
  subst hsz
  have hts := atoms_spec (ws := ws) B.pre
  have hD := hD0.self (sz := s.heap.size)
  have hl := lv_entry as (n := nL) hlen
  rw [lg_entry_eq]
  refine body p e s m as.toArray below meth c (va_A (w σ) s.heap.size) _ ⟨⟨B.exec, B.bytes, hml, findClass_of_methodNamed B.named, hts⟩, hK, hN, (fun q h => Or.inr h), hSW⟩ ?_ s.heap [] _ hP hD va_S.rf hl
  intro v σ' pc lv hd hp H locs ls hP' hD' hS' hl'
  exact W.zret B.exec B.bytes B.returns (by cases v <;> rfl) (fun t ht hW => ⟨⟨bI v, σ', rfl, ⟨v, rfl, hp⟩, by rw [ht]; exact hP', hD'⟩, hS'.F ht⟩) hS'.2.2 hd B.notSynchronized
theorem CTl.mk {y : MethodName} {ws ws' : List Cond} {fr lo : Nat} {as : List Value} {post : Int64 → St → Prop} {own : String} (ho : y.cls = own) (hy : plainName y.cls = true) (hw : ws = Cond.code y cc nL (some .long) :: ws') (hlen : (lg_sl as).length ≤ nL)
    (body : ∀ (p : Program) (e : Env) (s : State) (m : MethodId) (args : Array Value) (below : List Frame) (meth : Method) (c : Code) (A0 : Nat → Prop) (Q : State → Prop), CX p s m args c cc nL ws own D Z A0 → (∀ (v : Int64) (σ' : St) (pc : Nat) (lv : List (Nat × Value)), decode cc pc = .ok (.lreturn, 1) → post v σ' → CW p l e (rmC fr lo) s m args below meth c D A0 nL w Q σ' pc lv [.long v]) → CW p l e (rmC fr lo) s m args below meth c D A0 nL w Q σ 0 (lv_args 0 as) []) : CTl l y ws fr lo D Z w σ as post := by
  subst ho
  intro sz
  refine Met.ofW (cc := cc) (maxL := nL) (ret := some .long) hy hw ?_
  intro p e s m args below meth c s₁ B hml hv
  obtain ⟨rfl, hsz, hP, hK, hN, hD0, hSW⟩ := hv
  subst hsz
  have hts := atoms_spec (ws := ws) B.pre
  have hD := hD0.self (sz := s.heap.size)
  have hl := lv_entry as (n := nL) hlen
  rw [lg_entry_eq]
  refine body p e s m as.toArray below meth c (va_A (w σ) s.heap.size) _ ⟨⟨B.exec, B.bytes, hml, findClass_of_methodNamed B.named, hts⟩, hK, hN, (fun q h => Or.inr h), hSW⟩ ?_ s.heap [] _ hP hD va_S.rf hl
  intro v σ' pc lv hd hp H locs ls hP' hD' hS' hl'
  exact W.lret B.exec B.bytes B.returns (fun t ht hW => ⟨⟨v, σ', rfl, hp, by rw [ht]; exact hP', hD'⟩, hS'.F ht⟩) hS'.2.2 hd B.notSynchronized
theorem CTv.mk {y : MethodName} {ws ws' : List Cond} {fr lo : Nat} {as : List Value} {post : St → Prop} {own : String} (ho : y.cls = own) (hy : plainName y.cls = true) (hw : ws = Cond.code y cc nL none :: ws') (hlen : (lg_sl as).length ≤ nL)
    (body : ∀ (p : Program) (e : Env) (s : State) (m : MethodId) (args : Array Value) (below : List Frame) (meth : Method) (c : Code) (A0 : Nat → Prop) (Q : State → Prop), CX p s m args c cc nL ws own D Z A0 → (∀ (σ' : St) (pc : Nat) (lv : List (Nat × Value)), decode cc pc = .ok (.return_, 1) → post σ' → CW p l e (rmC fr lo) s m args below meth c D A0 nL w Q σ' pc lv []) → CW p l e (rmC fr lo) s m args below meth c D A0 nL w Q σ 0 (lv_args 0 as) []) : CTv l y ws fr lo D Z w σ as post := by
  subst ho
  intro sz
  refine Met.ofW (cc := cc) (maxL := nL) (ret := none) hy hw ?_
  intro p e s m args below meth c s₁ B hml hv
  obtain ⟨rfl, hsz, hP, hK, hN, hD0, hSW⟩ := hv
  subst hsz
  have hts := atoms_spec (ws := ws) B.pre
  have hD := hD0.self (sz := s.heap.size)
  have hl := lv_entry as (n := nL) hlen
  rw [lg_entry_eq]
  refine body p e s m as.toArray below meth c (va_A (w σ) s.heap.size) _ ⟨⟨B.exec, B.bytes, hml, findClass_of_methodNamed B.named, hts⟩, hK, hN, (fun q h => Or.inr h), hSW⟩ ?_ s.heap [] _ hP hD va_S.rf hl
  intro σ' pc lv hd hp H locs ls hP' hD' hS' hl'
  exact W.vret B.exec B.bytes B.returns (fun t ht hW => ⟨⟨σ', rfl, hp, by rw [ht]; exact hP', hD'⟩, hS'.F ht⟩) hS'.2.2 hd B.notSynchronized
theorem CTi.imp {y : MethodName} {ws : List Cond} {fr lo : Nat} {as : List Value} {post post' : Int32 → St → Prop} (h : CTi l y ws fr lo D Z w σ as post) (hi : ∀ r σ', post r σ' → post' r σ') : CTi l y ws fr lo D Z w σ as post' := by
  intro sz p e ha hc hk s m args below hf hpre hP ht
  obtain ⟨k, o, h1, h2, h3, ⟨⟨r, u, e1, e2, e3⟩, e4⟩, h5⟩ := h sz p e ha hc hk s m args below hf hpre hP ht
  exact ⟨k, o, h1, h2, h3, ⟨⟨r, u, e1, hi r u e2, e3⟩, e4⟩, h5⟩
abbrev rest_free (w : St → va_W) (σ : St) : List Nat := List.range (w σ).length
theorem cw_free {H : Heap} {locs : List Loc} (hD : va_D A0 (w σ)) (hS : va_S A0 s.heap H locs) (hA : ∀ q, s.heap.size ≤ q → A0 q) : ∀ q, va_A (w σ) H.size q → A0 q := by
  intro q h
  rcases h with ⟨k, e, h⟩ | h
  · exact hD.2 k (q, e) h
  · exact hA q (Nat.le_trans hS.1 h)
section CWC
variable {y : MethodName} {bytes : ByteArray} {maxL ix n fr lo : Nat} {ret : Option FieldType} {wsy : List Cond} {As : List Value} {stk : List Value}
theorem cw_calli (C : CX p s m args c cc nL Ts own D Z A0) (hd : decode cc pc = .ok (.invokevirtual ix, 3)) {RC : String} {T : u_T} {N ci b : Nat} {fs : List Value} {post : Int32 → St → Prop} (hM : CTi l y wsy fr lo D Z w σ (.ref b :: As) post) (cw : CallW R s args own RC ix y bytes maxL ret wsy (rmC fr lo) 0 0 n) (q0 : Nat) (he : (w σ)[q0]? = some (b, .inr (ci, fs))) (hc : vwCl[ci]? = some (RC, T, N)) (hn : As.length = n) (hst : stk = As.reverse ++ .ref b :: st) (hcat : (st.map fun v => v.category).sum ≤ 8) (k : ∀ (r : Int32) (σ' : St), post r σ' → CW p l e R s m args below meth c D A0 nL w Q σ' (pc + 3) lv (.int r :: st)) : CW p l e R s m args below meth c D A0 nL w Q σ pc lv stk := by
  intro H locs ls hP hD hS hl
  have hF := cw_free (w := w) (σ := σ) hD hS C.2.2.2.1
  refine va_calli (va_runV (As := As) (rest := st) C.1 (hM H.size) cw ⟨PreC.blind, va_recv C.2.1 hP hc he, fun U hU hW => ⟨rfl, by rw [hU], by rw [hU]; exact hP, va_K.moved hW.alike C.2.1, NWs.warm hW C.2.2.1, hD.weaken (fun _ _ _ _ => trivial), by rw [hU]; exact SW.call C.2.2.2.2 hS hF hW⟩⟩ rfl hn hl.1 hst (lv_room hcat) hd ⟨Nat.zero_le _, Nat.zero_le _⟩) hS (fun q _ h => hF q h) hF (fun r u t H1 locs1 ht hvm hw hB hz1 hk1 hS1 => ?_)
  obtain ⟨hP1, hD1⟩ := hB
  rw [ht] at hP1
  exact k r u hw H1 locs1 ls hP1 (hD1.weaken (fun _ q _ h => hF q.1 h)) hS1 hl
theorem cw_calll (C : CX p s m args c cc nL Ts own D Z A0) (hd : decode cc pc = .ok (.invokevirtual ix, 3)) {RC : String} {T : u_T} {N ci b : Nat} {fs : List Value} {post : Int64 → St → Prop} (hM : CTl l y wsy fr lo D Z w σ (.ref b :: As) post) (cw : CallW R s args own RC ix y bytes maxL ret wsy (rmC fr lo) 0 0 n) (q0 : Nat) (he : (w σ)[q0]? = some (b, .inr (ci, fs))) (hc : vwCl[ci]? = some (RC, T, N)) (hn : As.length = n) (hst : stk = As.reverse ++ .ref b :: st) (hcat : (st.map fun v => v.category).sum ≤ 8) (k : ∀ (r : Int64) (σ' : St), post r σ' → CW p l e R s m args below meth c D A0 nL w Q σ' (pc + 3) lv (.long r :: st)) : CW p l e R s m args below meth c D A0 nL w Q σ pc lv stk := by
  intro H locs ls hP hD hS hl
  have hF := cw_free (w := w) (σ := σ) hD hS C.2.2.2.1
  refine va_calll (va_runV (As := As) (rest := st) C.1 (hM H.size) cw ⟨PreC.blind, va_recv C.2.1 hP hc he, fun U hU hW => ⟨rfl, by rw [hU], by rw [hU]; exact hP, va_K.moved hW.alike C.2.1, NWs.warm hW C.2.2.1, hD.weaken (fun _ _ _ _ => trivial), by rw [hU]; exact SW.call C.2.2.2.2 hS hF hW⟩⟩ rfl hn hl.1 hst (lv_room hcat) hd ⟨Nat.zero_le _, Nat.zero_le _⟩) hS (fun q _ h => hF q h) hF (fun r u t H1 locs1 ht hvm hw hB hz1 hk1 hS1 => ?_)
  obtain ⟨hP1, hD1⟩ := hB
  rw [ht] at hP1
  exact k r u hw H1 locs1 ls hP1 (hD1.weaken (fun _ q _ h => hF q.1 h)) hS1 hl
theorem cw_callv (C : CX p s m args c cc nL Ts own D Z A0) (hd : decode cc pc = .ok (.invokevirtual ix, 3)) {RC : String} {T : u_T} {N ci b : Nat} {fs : List Value} {post : St → Prop} (hM : CTv l y wsy fr lo D Z w σ (.ref b :: As) post) (cw : CallW R s args own RC ix y bytes maxL ret wsy (rmC fr lo) 0 0 n) (q0 : Nat) (he : (w σ)[q0]? = some (b, .inr (ci, fs))) (hc : vwCl[ci]? = some (RC, T, N)) (hn : As.length = n) (hst : stk = As.reverse ++ .ref b :: st) (hcat : (st.map fun v => v.category).sum ≤ 8) (k : ∀ (σ' : St), post σ' → CW p l e R s m args below meth c D A0 nL w Q σ' (pc + 3) lv st) : CW p l e R s m args below meth c D A0 nL w Q σ pc lv stk := by
  intro H locs ls hP hD hS hl
  have hF := cw_free (w := w) (σ := σ) hD hS C.2.2.2.1
  refine va_callv (va_runV (As := As) (rest := st) C.1 (hM H.size) cw ⟨PreC.blind, va_recv C.2.1 hP hc he, fun U hU hW => ⟨rfl, by rw [hU], by rw [hU]; exact hP, va_K.moved hW.alike C.2.1, NWs.warm hW C.2.2.1, hD.weaken (fun _ _ _ _ => trivial), by rw [hU]; exact SW.call C.2.2.2.2 hS hF hW⟩⟩ rfl hn hl.1 hst (lv_room hcat) hd ⟨Nat.zero_le _, Nat.zero_le _⟩) hS (fun q _ h => hF q h) hF (fun u t H1 locs1 ht hvm hw hB hz1 hk1 hS1 => ?_)
  obtain ⟨hP1, hD1⟩ := hB
  rw [ht] at hP1
  exact k u hw H1 locs1 ls hP1 (hD1.weaken (fun _ q _ h => hF q.1 h)) hS1 hl
theorem cw_calls (C : CX p s m args c cc nL Ts own D Z A0) (hd : decode cc pc = .ok (.invokestatic ix, 3)) {post : Int32 → St → Prop} (hM : CTi l y wsy fr lo D Z w σ As post) (cw : CallB R s args own ix y bytes maxL ret wsy (rmC fr lo) 0 0 n ∧ (Cond.static y).before args s = true) (hn : As.length = n) (hst : stk = As.reverse ++ st) (hcat : (st.map fun v => v.category).sum ≤ 8) (k : ∀ (r : Int32) (σ' : St), post r σ' → CW p l e R s m args below meth c D A0 nL w Q σ' (pc + 3) lv (.int r :: st)) : CW p l e R s m args below meth c D A0 nL w Q σ pc lv stk := by
  intro H locs ls hP hD hS hl
  have hF := cw_free (w := w) (σ := σ) hD hS C.2.2.2.1
  refine va_calli (va_runS (As := As) (rest := st) C.1 (hM H.size) cw ⟨PreC.blind, fun U hU hW => ⟨rfl, by rw [hU], by rw [hU]; exact hP, va_K.moved hW.alike C.2.1, NWs.warm hW C.2.2.1, hD.weaken (fun _ _ _ _ => trivial), by rw [hU]; exact SW.call C.2.2.2.2 hS hF hW⟩⟩ rfl hn hl.1 hst (lv_room hcat) hd ⟨Nat.zero_le _, Nat.zero_le _⟩) hS (fun q _ h => hF q h) hF (fun r u t H1 locs1 ht hvm hw hB hz1 hk1 hS1 => ?_)
  obtain ⟨hP1, hD1⟩ := hB
  rw [ht] at hP1
  exact k r u hw H1 locs1 ls hP1 (hD1.weaken (fun _ q _ h => hF q.1 h)) hS1 hl
theorem cw_callsv (C : CX p s m args c cc nL Ts own D Z A0) (hd : decode cc pc = .ok (.invokestatic ix, 3)) {post : St → Prop} (hM : CTv l y wsy fr lo D Z w σ As post) (cw : CallB R s args own ix y bytes maxL ret wsy (rmC fr lo) 0 0 n ∧ (Cond.static y).before args s = true) (hn : As.length = n) (hst : stk = As.reverse ++ st) (hcat : (st.map fun v => v.category).sum ≤ 8) (k : ∀ (σ' : St), post σ' → CW p l e R s m args below meth c D A0 nL w Q σ' (pc + 3) lv st) : CW p l e R s m args below meth c D A0 nL w Q σ pc lv stk := by
  intro H locs ls hP hD hS hl
  have hF := cw_free (w := w) (σ := σ) hD hS C.2.2.2.1
  refine va_callv (va_runS (As := As) (rest := st) C.1 (hM H.size) cw ⟨PreC.blind, fun U hU hW => ⟨rfl, by rw [hU], by rw [hU]; exact hP, va_K.moved hW.alike C.2.1, NWs.warm hW C.2.2.1, hD.weaken (fun _ _ _ _ => trivial), by rw [hU]; exact SW.call C.2.2.2.2 hS hF hW⟩⟩ rfl hn hl.1 hst (lv_room hcat) hd ⟨Nat.zero_le _, Nat.zero_le _⟩) hS (fun q _ h => hF q h) hF (fun u t H1 locs1 ht hvm hw hB hz1 hk1 hS1 => ?_)
  obtain ⟨hP1, hD1⟩ := hB
  rw [ht] at hP1
  exact k u hw H1 locs1 ls hP1 (hD1.weaken (fun _ q _ h => hF q.1 h)) hS1 hl
theorem cw_calln (C : CX p s m args c cc nL Ts own D Z A0) (hd : decode cc pc = .ok (.invokestatic ix, 3)) {host : String} {post : Int32 → St → Prop} (hM : CTi l y wsy fr lo D Z w σ As post) (cw : va_CN R s args own ix y host bytes maxL ret wsy (rmC fr lo) 0 0 n) (hstat : Cond.static y ∈ Ts) (hn : As.length = n) (hst : stk = As.reverse ++ st) (hcat : (st.map fun v => v.category).sum ≤ 8) (k : ∀ (r : Int32) (σ' : St), post r σ' → CW p l e R s m args below meth c D A0 nL w Q σ' (pc + 3) lv (.int r :: st)) : CW p l e R s m args below meth c D A0 nL w Q σ pc lv stk := by
  intro H locs ls hP hD hS hl
  have hF := cw_free (w := w) (σ := σ) hD hS C.2.2.2.1
  refine va_calli (va_runSN (As := As) (rest := st) C.1 (hM H.size) ⟨cw, C.1.2.2.2.2 _ hstat, trivial⟩ ⟨PreC.blind, fun U hU hW => ⟨rfl, by rw [hU], by rw [hU]; exact hP, va_K.moved hW.alike C.2.1, NWs.warm hW C.2.2.1, hD.weaken (fun _ _ _ _ => trivial), by rw [hU]; exact SW.call C.2.2.2.2 hS hF hW⟩⟩ rfl hn hl.1 hst (lv_room hcat) hd ⟨Nat.zero_le _, Nat.zero_le _⟩) hS (fun q _ h => hF q h) hF (fun r u t H1 locs1 ht hvm hw hB hz1 hk1 hS1 => ?_)
  obtain ⟨hP1, hD1⟩ := hB
  rw [ht] at hP1
  exact k r u hw H1 locs1 ls hP1 (hD1.weaken (fun _ q _ h => hF q.1 h)) hS1 hl
end CWC
theorem cw_pure {v : Int32} {P : Int32 → St → Prop} (hP : ∀ r σ', P r σ' → r = v ∧ σ' = σ) (k : CW p l e R s m args below meth c D A0 nL w Q σ pc lv (.int v :: st)) : ∀ (r : Int32) (σ' : St), P r σ' → CW p l e R s m args below meth c D A0 nL w Q σ' pc lv (.int r :: st) := by
  intro r σ' h
  obtain ⟨h1, h2⟩ := hP r σ' h
  rw [h1, h2]
  exact k
theorem cw_purez {b : Bool} {P : Bool → St → Prop} (hP : ∀ r σ', P r σ' → r = b ∧ σ' = σ) (k : CW p l e R s m args below meth c D A0 nL w Q σ pc lv (.int (bI b) :: st)) : ∀ (r : Int32) (σ' : St), (∃ b : Bool, r = bI b ∧ P b σ') → CW p l e R s m args below meth c D A0 nL w Q σ' pc lv (.int r :: st) := by
  intro r σ' h
  obtain ⟨b', h0, h⟩ := h
  obtain ⟨h1, h2⟩ := hP b' σ' h
  rw [h0, h1, h2]
  exact k
theorem cw_purev {P : St → Prop} (hP : ∀ σ', P σ' → σ' = σ) (k : CW p l e R s m args below meth c D A0 nL w Q σ pc lv st) : ∀ (σ' : St), P σ' → CW p l e R s m args below meth c D A0 nL w Q σ' pc lv st := by
  intro σ' h
  rw [hP σ' h]
  exact k
end CWL
