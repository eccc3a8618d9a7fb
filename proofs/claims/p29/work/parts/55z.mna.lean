/-! new int[6][51]: the outer array and its six rows, in the order of their making -/
def mnO (cA : ClassId) (h i : Nat) : Cell := arrV cA 6 (fun j => va_rf (if j < i then some (h + 1 + j) else none))
def mnI (cI : ClassId) : Cell := arrV cI 51 (fun _ => .int 0)
def mnS (T : State) (cA cI : ClassId) : Nat → State
  | 0 => T.pushCell (mnO cA T.heap.size 0)
  | i + 1 => ((mnS T cA cI i).pushCell (mnI cI)).setCell T.heap.size (mnO cA T.heap.size (i + 1))
theorem mnO_step (cA : ClassId) (h i : Nat) : (mnO cA h i).setSlot i (.ref (h + 1 + i)) = mnO cA h (i + 1) := by
  unfold mnO
  rw [arrV_store]
  refine congrArg (arrV cA 6) (funext fun j => ?_)
  by_cases e : j = i
  · subst e
    simp [updV, va_rf]
  · by_cases q : j < i
    · simp [updV, e, q, Nat.lt_succ_of_lt q]
    · simp [updV, e, q, show ¬ j < i + 1 by omega]
theorem mnO_new (cA : ClassId) (h : Nat) : ({ cls := cA, slots := Array.replicate 6 .null, vm := .none } : Cell) = mnO cA h 0 := by
  rw [arrV_new]
  refine congrArg (arrV cA 6) (funext fun j => ?_)
  simp [va_rf]
theorem mnI_new (cI : ClassId) : ({ cls := cI, slots := Array.replicate 51 (.int 0), vm := .none } : Cell) = mnI cI := arrV_new _ _ _
theorem mnS_heap (T : State) (cA cI : ClassId) : ∀ i, (mnS T cA cI i).heap.size = T.heap.size + 1 + i ∧ (mnS T cA cI i).heap[T.heap.size]? = some (mnO cA T.heap.size i) ∧ (mnS T cA cI i).vm = T.vm ∧ (mnS T cA cI i).slotsUsed = T.slotsUsed + 6 + i * 51
  | 0 => ⟨by simp [mnS], by simp [mnS], rfl, by simp [mnS, mnO, arrV_size]⟩
  | i + 1 => by
    obtain ⟨a, b, d, u⟩ := mnS_heap T cA cI i
    have hlt : T.heap.size < (mnS T cA cI i).heap.size := by rw [a]; omega
    have hb : ((mnS T cA cI i).pushCell (mnI cI)).heap[T.heap.size]? = some (mnO cA T.heap.size i) := by rw [State.heap_pushCell_of_lt (h := hlt)]; exact b
    refine ⟨?_, State.heap_setCell_self hb, by simp [mnS, d], ?_⟩
    · simp [mnS, State.setCell, a]; omega
    · simp [mnS, u, mnI, arrV_size]; omega
theorem mnS_old (T : State) (cA cI : ClassId) {a : Addr} (ha : a < T.heap.size) : ∀ i, (mnS T cA cI i).heap[a]? = T.heap[a]?
  | 0 => State.heap_pushCell_of_lt _ _ ha
  | i + 1 => by
    have f := (mnS_heap T cA cI i).1
    have hlt : a < (mnS T cA cI i).heap.size := Nat.lt_of_lt_of_le ha (by rw [f]; omega)
    show (((mnS T cA cI i).pushCell (mnI cI)).setCell T.heap.size _).heap[a]? = _
    rw [State.heap_setCell_other (Nat.ne_of_gt ha), State.heap_pushCell_of_lt (h := hlt)]
    exact mnS_old T cA cI ha i
theorem mnS_row (T : State) (cA cI : ClassId) : ∀ i j, j < i → (mnS T cA cI i).heap[T.heap.size + 1 + j]? = some (mnI cI)
  | 0, _, h => absurd h (Nat.not_lt_zero _)
  | i + 1, j, h => by
    have f := (mnS_heap T cA cI i).1
    have hltA : T.heap.size + 1 + i = (mnS T cA cI i).heap.size := f.symm
    show (((mnS T cA cI i).pushCell (mnI cI)).setCell T.heap.size _).heap[T.heap.size + 1 + j]? = _
    rw [State.heap_setCell_other (show T.heap.size ≠ T.heap.size + 1 + j by omega)]
    by_cases q : j < i
    · have hlt : T.heap.size + 1 + j < (mnS T cA cI i).heap.size := by rw [f]; omega
      rw [State.heap_pushCell_of_lt (h := hlt)]
      exact mnS_row T cA cI i j q
    · rw [show T.heap.size + 1 + j = (mnS T cA cI i).heap.size by rw [f]; omega]
      exact State.heap_pushCell_size _ _
theorem mnS_top (T : State) (f : JFrame) (cA cI : ClassId) : ∀ i, mnS (T.setTop f) cA cI i = (mnS T cA cI i).setTop f
  | 0 => rfl
  | i + 1 => by simp only [mnS, mnS_top T f cA cI i, State.heap_setTop, State.pushCell_setTop, State.setCell_setTop]
theorem mnS_stand {p : Program} {l : Launch} {e : Env} {R : Room} {s : State} {m : MethodId} {args : Array Value} {below : List Frame} {meth : Method} {c : Code} {T : State} {locs : List Loc} {cells slots : Nat} (X : Stand p l e R s m args below meth c T locs cells slots) (cA cI : ClassId) :
    ∀ i, Stand p l e R s m args below meth c (mnS T cA cI i) (locs ++ (List.range i).map fun j => ⟨T.heap.size, j⟩) (cells + 1 + i) (slots + 6 + i * 51)
  | 0 => by
    have h := X.pushed (mnO cA T.heap.size 0)
    rw [show (mnO cA T.heap.size 0).slots.size = 6 from arrV_size _ _ _] at h
    simpa [mnS] using h
  | i + 1 => by
    have Xi := mnS_stand X cA cI i
    obtain ⟨f1, f2, f3, f4⟩ := mnS_heap T cA cI i
    have hlt : T.heap.size < (mnS T cA cI i).heap.size := by rw [f1]; omega
    have hcell : ((mnS T cA cI i).pushCell (mnI cI)).heap[T.heap.size]? = some (mnO cA T.heap.size i) := by rw [State.heap_pushCell_of_lt (h := hlt)]; exact f2
    have h := (Xi.pushed (mnI cI)).stored hcell i (.ref (T.heap.size + 1 + i))
    rw [mnO_step, show (mnI cI).slots.size = 51 from arrV_size _ _ _] at h
    rw [show (locs ++ (List.range (i + 1)).map fun j => (⟨T.heap.size, j⟩ : Loc)) = (locs ++ (List.range i).map fun j => (⟨T.heap.size, j⟩ : Loc)) ++ [⟨T.heap.size, i⟩] by simp [List.range_succ, List.append_assoc], show slots + 6 + (i + 1) * 51 = slots + 6 + i * 51 + 51 by omega]
    exact h

section MNW
variable {E : CtlPost} {e : Env} {d : Bool} {acts : List Action} {s : State}
/-- one array made, in the machine's words -/
theorem mn_arr {cl : ClassId} {k : Class} {cc : ClassId} {ty : FieldType} {n : Nat} {v : Value} (hk : s.vm.classes[cl]? = some k) (hd : k.kind = .array cc ty) (h1 : n ≤ e.platform.arrayLengthLimit) (h2 : n * componentBytes ty ≤ e.platform.maxHeapBytes)
    (hf : fits ty v = true) (hv : v.isDefault = true) (h3 : s.heap.size < e.platform.maxCells) (h4 : s.slotsUsed + n ≤ e.platform.maxSlots) {Q : Addr → Pre} (hq : Q s.heap.size d acts (s.pushCell { cls := cl, slots := Array.replicate n v, vm := .none })) :
    wp (Jvm.newArray cl n v) Q E e d acts s := by
  have e1 : ∀ i w, (Array.replicate n v)[i]? = some w → s.fitsSlot cl .none i w = true := by
    intro i w hw
    rw [Array.getElem?_replicate] at hw
    split at hw
    · cases hw
      simp [State.fitsSlot, State.slotType?, hk, hd, hf]
    · cases hw
  have e2 : allocActs (Array.replicate n v) s.heap.size acts = acts := by
    unfold allocActs
    rw [if_pos (by rw [Array.all_replicate]; split <;> simp [hv])]
  simp only [Jvm.newArray, Jvm.arrayFits, wp_bind', W.ask, W.ite, show ¬ n > e.platform.arrayLengthLimit by omega, if_false, wp_pure', W.theClass, hk, hd, show ¬ n * componentBytes ty > e.platform.maxHeapBytes by omega, W.alloc, W.stop, Option.some.injEq, exists_eq_left', Array.size_replicate, e2]
  rw [if_neg (by omega)]
  exact ⟨h3, h4, e1, hq⟩
theorem mn_row {cI cc : ClassId} {kI : Class} (hk : s.vm.classes[cI]? = some kI) (hd : kI.kind = .array cc .int) (h1 : 51 ≤ e.platform.arrayLengthLimit) (h2 : 204 ≤ e.platform.maxHeapBytes) (h3 : s.heap.size < e.platform.maxCells) (h4 : s.slotsUsed + 51 ≤ e.platform.maxSlots) {Q : Addr → Pre} (hq : Q s.heap.size d acts (s.pushCell (mnI cI))) :
    wp (multianewarray.make cI [51]) Q E e d acts s := by
  rw [multianewarray.make]
  simp only [wp_bind', W.ite, show ¬ (51 : Int32) < 0 by decide, if_false, wp_pure', W.theClass, hk, hd, Option.some.injEq, exists_eq_left']
  refine mn_arr hk hd h1 h2 rfl rfl h3 h4 ?_
  show Q s.heap.size d acts (s.pushCell { cls := cI, slots := Array.replicate 51 (.int 0), vm := .none })
  rw [mnI_new]
  exact hq
theorem mn_all {cA cI cc : ClassId} {kA kI : Class} (hkA : s.vm.classes[cA]? = some kA) (hdA : kA.kind = .array cI (.array .int)) (hkI : s.vm.classes[cI]? = some kI) (hdI : kI.kind = .array cc .int) (h1 : 51 ≤ e.platform.arrayLengthLimit) (h2 : 204 ≤ e.platform.maxHeapBytes)
    (h3 : s.heap.size + 7 ≤ e.platform.maxCells) (h4 : s.slotsUsed + 312 ≤ e.platform.maxSlots) {Q : Addr → Pre} (hq : ∀ d' acts', Q s.heap.size d' acts' (mnS s cA cI 6)) : wp (multianewarray.make cA [6, 51]) Q E e d acts s := by
  rw [multianewarray.make]
  simp only [wp_bind', W.ite, show ¬ (6 : Int32) < 0 by decide, if_false, wp_pure', W.theClass, hkA, hdA, Option.some.injEq, exists_eq_left']
  refine mn_arr hkA hdA (n := 6) (by omega) (by show 6 * 4 ≤ _; omega) rfl rfl (by omega) (by omega) ?_
  rw [mnO_new]
  simp only [show ([51] : List Int32).find? (· < 0) = none by decide]
  rw [ite_self, wp_bind', Std.Legacy.Range.forIn_eq_forIn_range']
  show wp (forIn (List.range' 0 6 1) PUnit.unit _) _ E e d acts (mnS s cA cI 0)
  refine wp_forIn_inv (fun rest s' => ∃ i, i ≤ 6 ∧ rest = List.range' i (6 - i) ∧ s' = mnS s cA cI i) _ _ ⟨0, by omega, rfl, rfl⟩ ?_ ?_
  · rintro x rest s' d' acts' Q' ⟨i, hi, hl, rfl⟩ hnext
    have hlt : i < 6 := by
      rcases Nat.lt_or_ge i 6 with h | h
      · exact h
      · rw [show 6 - i = 0 by omega] at hl; cases hl
    rw [show 6 - i = (6 - (i + 1)) + 1 by omega, List.range'_succ] at hl
    obtain ⟨rfl, hrest⟩ := List.cons.inj hl
    obtain ⟨f1, f2, f3, f4⟩ := mnS_heap s cA cI x
    simp only [wp_bind']
    refine mn_row (by rw [f3]; exact hkI) hdI h1 h2 (by rw [f1]; omega) (by rw [f4]; omega) ?_
    have hlt0 : s.heap.size < (mnS s cA cI x).heap.size := by rw [f1]; omega
    simp only [wp_bind', W.writeLoc, wp_pure']
    refine ⟨mnO cA s.heap.size x, by rw [State.heap_pushCell_of_lt (h := hlt0)]; exact f2, (fun q => by cases q), by rw [show (mnO cA s.heap.size x).slots.size = 6 from arrV_size _ _ _]; exact hlt, ?_, hnext _ _ _ ⟨x + 1, hlt, hrest, ?_⟩⟩
    · show ((mnS s cA cI x).pushCell (mnI cI)).fitsSlot cA .none x _ = true
      simp [State.fitsSlot, State.slotType?, f3, hkA, hdA]
      rfl
    · rw [f1, mnO_step]
      rfl
  · rintro s' d' acts' ⟨i, hi, hl, rfl⟩
    have hi6 : i = 6 := by
      rcases Nat.lt_or_ge i 6 with h | h
      · rw [show 6 - i = (6 - (i + 1)) + 1 by omega, List.range'_succ] at hl; cases hl
      · omega
    subst hi6
    simp only [wp_pure']
    exact hq _ _
end MNW

/-- the two array classes, as the tables have them -/
def AO2 (Z : CZ) (U : State) : Prop := ∃ (kA kI : Class) (cc : ClassId), U.vm.classes[Z.2.1]? = some kA ∧ kA.kind = .array Z.1 (.array .int) ∧ U.vm.classes[Z.1]? = some kI ∧ kI.kind = .array cc .int ∧ U.vm.findClass "[[I" = some Z.2.1 ∧ U.vm.findClass "[I" = some Z.1
theorem AO2.moved {Z : CZ} {u U : State} (hvm : u.vm.Alike U.vm) (h : AO2 Z u) : AO2 Z U := by
  obtain ⟨kA, kI, cc, h1, h2, h3, h4, h5, h6⟩ := h
  obtain ⟨kA', hA, eA⟩ := hvm.2.2 _ _ h1
  obtain ⟨kI', hI, eI⟩ := hvm.2.2 _ _ h3
  exact ⟨kA', kI', cc, hA, by rw [eA]; exact h2, hI, by rw [eI]; exact h4, by rw [hvm.findClass]; exact h5, by rw [hvm.findClass]; exact h6⟩
theorem mn_step {p : Program} {l : Launch} {e : Env} {R : Room} {s : State} {m : MethodId} {args : Array Value} {below : List Frame} {meth : Method} {c : Code} {T : State} {locs : List Loc} {cells slots : Nat} {Z : CZ}
    (X : Stand p l e R s m args below meth c T locs cells slots) (hexec : p.tables.exec = Jvm.exec) {own : String} {index : Nat} (hown : s.vm.findClass own = some m.cls) (hclink : (Cond.classLink own index "[[I").before args s = true) (hAO : AO2 Z s)
    {g : JFrame} (hg : g.method = m) (hdg : decode c.code g.pc = .ok (.multianewarray index 2, 4)) {rest : List Value} (hstack : g.stack = .int 51 :: .int 6 :: rest) (hcells : cells + 7 ≤ R.cells) (hslots : slots + 312 ≤ R.slots) :
    ∃ vm₁ : Vm, s.WarmedH vm₁ ∧ Stand p l e R s m args below meth c (mnS (T.setVm vm₁) Z.2.1 Z.1 6) locs (cells + 1 + 6) (slots + 6 + 6 * 51) ∧
      ∀ target, Steps p.tables e below ((mnS (T.setVm vm₁) Z.2.1 Z.1 6).setTop { g with pc := g.pc + 4, stack := .ref T.heap.size :: rest }) target → Steps p.tables e below (T.setTop g) target := by
  subst hg
  have hpl : e.platform.magicAccessors = ({} : Platform).magicAccessors := by rw [X.admits.platform]
  obtain ⟨kA, kI, cc, h1, h2, h3, h4, h5, h6⟩ := hAO
  obtain ⟨c0, hfc, hcl⟩ := Cond.classLink_spec hown hclink e.platform hpl
  cases h5.symm.trans hfc
  obtain ⟨hg1, hw1, -⟩ := State.classEntry (e := e) X.warmed hcl
  generalize T.vm.noted g.method.cls index (.cls Z.2.1) = vm₁ at hg1 hw1
  obtain ⟨kA', hA, eA⟩ := hw1.alike.2.2 _ _ h1
  obtain ⟨kI', hI, eI⟩ := hw1.alike.2.2 _ _ h3
  have X1 := X.noted hw1
  obtain ⟨r1, r2⟩ := X.roomAbove hcells hslots
  have XF0 := mnS_stand X1 Z.2.1 Z.1 6
  have XF := XF0.dropFresh (fun x hx => by obtain ⟨j, -, rfl⟩ := List.mem_map.mp hx; exact X.heapGrown)
  refine ⟨vm₁, hw1, XF, fun target hrest => ?_⟩
  have l1 : 51 ≤ e.platform.arrayLengthLimit := by rw [Launch.admits_arrayLengthLimit X.admits]; decide
  have l2 : 204 ≤ e.platform.maxHeapBytes := by rw [Launch.admits_maxHeapBytes X.admits]; decide
  jvm_step X.here [hexec, hdg]
  simp only [multianewarray.sem, wp_bind', W.resolveClassAt_links (State.method?_setTop g X.here.top) hg1]
  rw [W.popN, if_neg (by decide)]
  refine ⟨g, State.topJava?_setTop' (s := T.setVm vm₁) g X.here.top, [.int 6, .int 51], rest, rfl, hstack, ?_⟩
  simp only [List.mapM_cons, List.mapM_nil, wp_bind', wp_pure']
  refine mn_all (kA := kA') (kI := kI') (cc := cc) (cI := Z.1) hA (by rw [eA]; exact h2) hI (by rw [eI]; exact h4) l1 l2 (by show T.heap.size + 7 ≤ _; exact r1) (by show T.slotsUsed + 312 ≤ _; exact r2) (fun d' acts' => ?_)
  rw [show ((T.setTop g).setVm vm₁).setTop { g with stack := rest } = (T.setVm vm₁).setTop { g with stack := rest } by show ((T.setVm vm₁).setTop g).setTop _ = _; rw [State.setTop_setTop], mnS_top]
  simp only [wp_bind', W.mark, W.pushRef, State.topJava?_setTop' _ XF.here.top, Option.some.injEq, exists_eq_left', State.setTop_setTop, State.heap_setTop]
  intro acts
  simp [jvm, XF.here.top]
  exact hrest
/-- the row: seven places more, at the world's end -/
theorem va_mna {p : Program} {l : Launch} {e : Env} {R : Room} {s : State} {m : MethodId} {args : Array Value} {below : List Frame} {meth : Method} {c : Code} {H : Heap} {locs : List Loc} {cells slots : Nat} {Q : State → Prop} {cc : ByteArray} {pc : Nat} {ls : Array Slot} {rest : List Value} {D : va_G} {cl : List vw_C} {A : Nat → Prop} {ws : va_W} {H0 : Heap} {Z : CZ}
    (hexec : p.tables.exec = Jvm.exec) (hb : c.code = cc) {own : String} {index : Nat} (hown : s.vm.findClass own = some m.cls) (hclink : (Cond.classLink own index "[[I").before args s = true) (hAO : AO2 Z s) (hP : va_P D cl ws H) (hD : va_D A ws) (hS : va_S A H0 H locs) (hA : ∀ q, H0.size ≤ q → A q)
    (hcells : cells + 7 ≤ R.cells) (hslots : slots + 312 ≤ R.slots) (hdg : decode cc pc = .ok (.multianewarray index 2, 4))
    (kk : ∀ (h : Nat) (H1 : Heap), (∀ (k : Nat) (x : Nat × va_E), ws[k]? = some x → x.1 < h) → va_P D cl (ws ++ [(h, .inl (Z.2.1, 6, .inr (.inr (.inr (.inr (fun j => if j < 6 then some (h + 1 + j) else none)))))), (h + 1, .inl (Z.1, 51, .inl (fun _ => 0))), (h + 2, .inl (Z.1, 51, .inl (fun _ => 0))), (h + 3, .inl (Z.1, 51, .inl (fun _ => 0))), (h + 4, .inl (Z.1, 51, .inl (fun _ => 0))), (h + 5, .inl (Z.1, 51, .inl (fun _ => 0))), (h + 6, .inl (Z.1, 51, .inl (fun _ => 0)))]) H1 →
      va_D A (ws ++ [(h, .inl (Z.2.1, 6, .inr (.inr (.inr (.inr (fun j => if j < 6 then some (h + 1 + j) else none)))))), (h + 1, .inl (Z.1, 51, .inl (fun _ => 0))), (h + 2, .inl (Z.1, 51, .inl (fun _ => 0))), (h + 3, .inl (Z.1, 51, .inl (fun _ => 0))), (h + 4, .inl (Z.1, 51, .inl (fun _ => 0))), (h + 5, .inl (Z.1, 51, .inl (fun _ => 0))), (h + 6, .inl (Z.1, 51, .inl (fun _ => 0)))]) → va_S A H0 H1 locs →
      W p l e R s m args below meth c H1 locs (cells + 7) (slots + 312) Q (F0 m (pc + 4) ls (.ref h :: rest))) : W p l e R s m args below meth c H locs cells slots Q (F0 m pc ls (.int 51 :: .int 6 :: rest)) := by
  intro T hT X
  obtain ⟨vm₁, -, X', st⟩ := mn_step X hexec hown hclink hAO (g := F0 m pc ls (.int 51 :: .int 6 :: rest)) rfl (by rw [hb]; exact hdg) rfl hcells hslots
  obtain ⟨f1, f2, -, -⟩ := mnS_heap (T.setVm vm₁) Z.2.1 Z.1 6
  have hTh : (T.setVm vm₁).heap = H := hT
  have hold : ∀ x : Nat, x < H.size → (mnS (T.setVm vm₁) Z.2.1 Z.1 6).heap[x]? = H[x]? := fun x hx => by
    have := mnS_old (T.setVm vm₁) Z.2.1 Z.1 (a := x) (by rw [hTh]; exact hx) 6
    rw [hTh] at this
    exact this
  have hrow : ∀ j : Nat, j < 6 → (mnS (T.setVm vm₁) Z.2.1 Z.1 6).heap[H.size + 1 + j]? = some (mnI Z.1) := fun j hj => by
    have := mnS_row (T.setVm vm₁) Z.2.1 Z.1 6 j hj
    rw [hTh] at this
    exact this
  rw [hTh] at f1 f2
  generalize hF : (mnS (T.setVm vm₁) Z.2.1 Z.1 6) = F at *
  have hlt : ∀ (k : Nat) (x : Nat × va_E), ws[k]? = some x → x.1 < H.size := fun k x hx => (hP k x hx).lt
  have hP0 : va_P D cl ws F.heap := hP.kept (fun k x hx => hold x.1 (hlt k x hx))
  have hP1 : va_P D cl (ws ++ [(H.size, .inl (Z.2.1, 6, .inr (.inr (.inr (.inr (fun j => if j < 6 then some (H.size + 1 + j) else none)))))), (H.size + 1, .inl (Z.1, 51, .inl (fun _ => 0))), (H.size + 2, .inl (Z.1, 51, .inl (fun _ => 0))), (H.size + 3, .inl (Z.1, 51, .inl (fun _ => 0))), (H.size + 4, .inl (Z.1, 51, .inl (fun _ => 0))), (H.size + 5, .inl (Z.1, 51, .inl (fun _ => 0))), (H.size + 6, .inl (Z.1, 51, .inl (fun _ => 0)))]) F.heap := hP0.app (fun k x hx => by
    match k, hx with
    | 0, hx => cases hx; exact f2
    | 1, hx => cases hx; exact hrow 0 (by decide)
    | 2, hx => cases hx; exact hrow 1 (by decide)
    | 3, hx => cases hx; exact hrow 2 (by decide)
    | 4, hx => cases hx; exact hrow 3 (by decide)
    | 5, hx => cases hx; exact hrow 4 (by decide)
    | 6, hx => cases hx; exact hrow 5 (by decide)
    | k + 7, hx => simp at hx)
  have hD1 : va_D A (ws ++ [(H.size, .inl (Z.2.1, 6, .inr (.inr (.inr (.inr (fun j => if j < 6 then some (H.size + 1 + j) else none)))))), (H.size + 1, .inl (Z.1, 51, .inl (fun _ => 0))), (H.size + 2, .inl (Z.1, 51, .inl (fun _ => 0))), (H.size + 3, .inl (Z.1, 51, .inl (fun _ => 0))), (H.size + 4, .inl (Z.1, 51, .inl (fun _ => 0))), (H.size + 5, .inl (Z.1, 51, .inl (fun _ => 0))), (H.size + 6, .inl (Z.1, 51, .inl (fun _ => 0)))]) := by
    have hnew : ∀ (k : Nat) (x : Nat × va_E), ([(H.size, .inl (Z.2.1, 6, .inr (.inr (.inr (.inr (fun j => if j < 6 then some (H.size + 1 + j) else none)))))), (H.size + 1, .inl (Z.1, 51, .inl (fun _ => 0))), (H.size + 2, .inl (Z.1, 51, .inl (fun _ => 0))), (H.size + 3, .inl (Z.1, 51, .inl (fun _ => 0))), (H.size + 4, .inl (Z.1, 51, .inl (fun _ => 0))), (H.size + 5, .inl (Z.1, 51, .inl (fun _ => 0))), (H.size + 6, .inl (Z.1, 51, .inl (fun _ => 0)))] : va_W)[k]? = some x → x.1 = H.size + k := fun k x hx => by
      match k, hx with
      | 0, hx => cases hx; rfl
      | 1, hx => cases hx; rfl
      | 2, hx => cases hx; rfl
      | 3, hx => cases hx; rfl
      | 4, hx => cases hx; rfl
      | 5, hx => cases hx; rfl
      | 6, hx => cases hx; rfl
      | k + 7, hx => simp at hx
    refine ⟨fun i j x y hi hj hxy => ?_, fun k x hx => ?_⟩
    · by_cases h1 : i < ws.length <;> by_cases h2 : j < ws.length
      · rw [List.getElem?_append_left h1] at hi
        rw [List.getElem?_append_left h2] at hj
        exact hD.1 i j x y hi hj hxy
      · rw [List.getElem?_append_left h1] at hi
        rw [List.getElem?_append_right (by omega)] at hj
        have := hlt _ _ hi
        have := hnew _ _ hj
        omega
      · rw [List.getElem?_append_right (by omega)] at hi
        rw [List.getElem?_append_left h2] at hj
        have := hlt _ _ hj
        have := hnew _ _ hi
        omega
      · rw [List.getElem?_append_right (by omega)] at hi hj
        have := hnew _ _ hi
        have := hnew _ _ hj
        omega
    · by_cases h1 : k < ws.length
      · rw [List.getElem?_append_left h1] at hx
        exact hD.2 k x hx
      · rw [List.getElem?_append_right (by omega)] at hx
        have := hnew _ _ hx
        exact hA _ (by have := hS.1; omega)
  obtain ⟨t, a1, b1⟩ := kk H.size F.heap hlt hP1 hD1 ⟨by rw [f1]; have := hS.1; omega, fun x h1 h2 => (hold x (Nat.lt_of_lt_of_le h1 hS.1)).trans (hS.2.1 x h1 h2), hS.2.2⟩ F rfl X'
  refine ⟨t, st t ?_, b1⟩
  rw [show T.heap.size = H.size by rw [hT]]
  exact a1
