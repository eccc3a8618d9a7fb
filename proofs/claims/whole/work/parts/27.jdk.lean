/-! THE STRING CONSTANT: rows, and String.indexOf of it -/
section CWL4
variable {p : Program} {l : Launch} {e : Env} {R : Room} {s : State} {m : MethodId} {args : Array Value} {below : List Frame} {meth : Method} {c : Code} {D : va_G} {Z : CZ} {A0 : Nat → Prop} {nL : Nat} {w : St → va_W} {Q : State → Prop} {σ σ1 σ2 : St} {pc pc' : Nat} {lv lv' : List (Nat × Value)} {st : List Value} {cc : ByteArray} {Ts : List Cond} {own : String}
theorem cw_ldcS (C : CX p s m args c cc nL Ts RX5 D Z A0) (hd : decode cc pc = .ok (.ldc 45, 2)) (k : CW p l e R s m args below meth c D A0 nL w Q σ (pc + 2) lv (.ref Z.2.2.1 :: st)) : CW p l e R s m args below meth c D A0 nL w Q σ pc lv st :=
  fun H locs ls hP hD hS hl => va_ldcS C.1.1 C.1.2.1 C.1.2.2.2.1 C.2.2.2.2.1 hd (k H locs ls hP hD hS hl)
theorem cw_getCS (C : CX p s m args c cc nL Ts own D Z A0) {ix : Nat} (hd : decode cc pc = .ok (.getstatic ix, 3)) (hm : Cond.fieldLink own ix "java/lang/String" "COMPACT_STRINGS" "Z" ∈ Ts) (k : CW p l e R s m args below meth c D A0 nL w Q σ (pc + 3) lv (.int (nI 1) :: st)) : CW p l e R s m args below meth c D A0 nL w Q σ pc lv st :=
  fun H locs ls hP hD hS hl => va_gets C.1.1 C.1.2.1 C.2.2.2.2.2.2 hS C.1.2.2.2.1 (C.1.2.2.2.2 _ hm) (fun _ h => h) hd (k H locs ls hP hD hS hl)
theorem cw_getCo (C : CX p s m args c cc nL Ts own D Z A0) {ix : Nat} (hd : decode cc pc = .ok (.getfield ix, 3)) (hm : Cond.fieldLink own ix "java/lang/String" "coder" "B" ∈ Ts) (k : CW p l e R s m args below meth c D A0 nL w Q σ (pc + 3) lv (.int (nI 0) :: st)) : CW p l e R s m args below meth c D A0 nL w Q σ pc lv (.ref Z.2.2.1 :: st) :=
  fun H locs ls hP hD hS hl => vk_getf C.1.1 C.1.2.1 (C.2.2.2.2.2.1.1 0 (by decide)).2.1 hS C.1.2.2.2.1 (C.1.2.2.2.2 _ hm) (fun _ h => h) hd (k H locs ls hP hD hS hl)
theorem cw_getVa (C : CX p s m args c cc nL Ts own D Z A0) {ix : Nat} (hd : decode cc pc = .ok (.getfield ix, 3)) (hm : Cond.fieldLink own ix "java/lang/String" "value" "[B" ∈ Ts) (k : CW p l e R s m args below meth c D A0 nL w Q σ (pc + 3) lv (.ref Z.2.2.2 :: st)) : CW p l e R s m args below meth c D A0 nL w Q σ pc lv (.ref Z.2.2.1 :: st) :=
  fun H locs ls hP hD hS hl => vk_getf C.1.1 C.1.2.1 (C.2.2.2.2.2.1.1 0 (by decide)).2.2.1 hS C.1.2.2.2.1 (C.1.2.2.2.2 _ hm) (fun _ h => h) hd (k H locs ls hP hD hS hl)
theorem cw_alenV (C : CX p s m args c cc nL Ts own D Z A0) (hd : decode cc pc = .ok (.arraylength, 1)) (k : CW p l e R s m args below meth c D A0 nL w Q σ (pc + 1) lv (.int (nI 8) :: st)) : CW p l e R s m args below meth c D A0 nL w Q σ pc lv (.ref Z.2.2.2 :: st) :=
  fun H locs ls hP hD hS hl => va_tlen C.1.1 C.1.2.1 (C.2.2.2.2.2.1.1 0 (by decide)).2.2.2 hS rfl hd (k H locs ls hP hD hS hl)
def letB (j : Nat) : Int32 := lettersL.getD j 0
theorem cw_baldV (C : CX p s m args c cc nL Ts own D Z A0) (hd : decode cc pc = .ok (.baload, 1)) (j : Nat) (hj : j < 8) (k : CW p l e R s m args below meth c D A0 nL w Q σ (pc + 1) lv (.int (letB j) :: st)) : CW p l e R s m args below meth c D A0 nL w Q σ pc lv (.int (nI j) :: .ref Z.2.2.2 :: st) :=
  fun H locs ls hP hD hS hl => va_tb C.1.1 C.1.2.1 (C.2.2.2.2.2.1.1 0 (by decide)).2.2.2 hS (vp_in_nI hj (by decide)) (by rw [nI_clamp (by omega)]; rfl) hd (k H locs ls hP hD hS hl)
theorem cw_i2b (C : CX p s m args c cc nL Ts own D Z A0) {x z : Int32} (hd : decode cc pc = .ok (.i2b, 1)) (hz : x.toInt8.toInt32 = z) (k : CW p l e R s m args below meth c D A0 nL w Q σ (pc + 1) lv (.int z :: st)) : CW p l e R s m args below meth c D A0 nL w Q σ pc lv (.int x :: st) :=
  fun H locs ls hP hD hS hl => lv_i2b C.1.1 C.1.2.1 hd hz (k H locs ls hP hD hS hl)
theorem cw_callK {y : MethodName} {bytes : ByteArray} {maxL ix n fr lo : Nat} {ret : Option FieldType} {wsy : List Cond} {As : List Value} {stk : List Value} (C : CX p s m args c cc nL Ts own D Z A0) (hd : decode cc pc = .ok (.invokevirtual ix, 3)) {post : Int32 → St → Prop} (hM : CTi l y wsy fr lo D Z w σ (.ref Z.2.2.1 :: As) post) (cw : CallW R s args own "java/lang/String" ix y bytes maxL ret wsy (rmC fr lo) 0 0 n) (hn : As.length = n) (hst : stk = As.reverse ++ .ref Z.2.2.1 :: st) (hcat : (st.map fun v => v.category).sum ≤ 8) (k : ∀ (r : Int32) (σ' : St), post r σ' → CW p l e R s m args below meth c D A0 nL w Q σ' (pc + 3) lv (.int r :: st)) : CW p l e R s m args below meth c D A0 nL w Q σ pc lv stk := by
  intro H locs ls hP hD hS hl
  have hF := cw_free (w := w) (σ := σ) hD hS C.2.2.2.1
  refine va_calli (va_runV (As := As) (rest := st) C.1 (hM H.size) cw ⟨PreC.blind, vk_recv C.2.2.2.2.2.1 (show 0 < 1 by decide) hS, fun U hU hW => ⟨rfl, by rw [hU], by rw [hU]; exact hP, va_K.moved hW.alike C.2.1, NWs.warm hW C.2.2.1, hD.weaken (fun _ _ _ _ => trivial), by rw [hU]; exact SW.call C.2.2.2.2 hS hF hW⟩⟩ rfl hn hl.1 hst (lv_room hcat) hd ⟨Nat.zero_le _, Nat.zero_le _⟩) hS (fun q _ h => hF q h) hF (fun r u t H1 locs1 ht hvm hw hB hz1 hk1 hS1 => ?_)
  obtain ⟨hP1, hD1⟩ := hB
  rw [ht] at hP1
  exact k r u hw H1 locs1 ls hP1 (hD1.weaken (fun _ q _ h => hF q.1 h)) hS1 hl
/-- a contract whose answer is of a small type -/
theorem CTi.mkr {ty : FieldType} {y : MethodName} {ws ws' : List Cond} {fr lo : Nat} {as : List Value} {post : Int32 → St → Prop} {own : String} (ho : y.cls = own) (hy : plainName y.cls = true) (hw : ws = Cond.code y cc nL (some ty) :: ws') (hlen : (lg_sl as).length ≤ nL) (hn : ∀ v σ', post v σ' → narrow ty (.int v) = .int v)
    (body : ∀ (p : Program) (e : Env) (s : State) (m : MethodId) (args : Array Value) (below : List Frame) (meth : Method) (c : Code) (A0 : Nat → Prop) (Q : State → Prop), CX p s m args c cc nL ws own D Z A0 → (∀ (v : Int32) (σ' : St) (pc : Nat) (lv : List (Nat × Value)), decode cc pc = .ok (.ireturn, 1) → post v σ' → CW p l e (rmC fr lo) s m args below meth c D A0 nL w Q σ' pc lv [.int v]) → CW p l e (rmC fr lo) s m args below meth c D A0 nL w Q σ 0 (lv_args 0 as) []) : CTi l y ws fr lo D Z w σ as post := by
  subst ho
  intro sz
  refine Met.ofW (cc := cc) (maxL := nL) (ret := some ty) hy hw ?_
  intro p e s m args below meth c s₁ B hml hv
  obtain ⟨rfl, hsz, hP, hK, hN, hD0, hSW⟩ := hv
  subst hsz
  have hts := atoms_spec (ws := ws) B.pre
  have hD := hD0.self (sz := s.heap.size)
  have hl := lv_entry as (n := nL) hlen
  rw [lg_entry_eq]
  refine body p e s m as.toArray below meth c (va_A (w σ) s.heap.size) _ ⟨⟨B.exec, B.bytes, hml, findClass_of_methodNamed B.named, hts⟩, hK, hN, (fun q h => Or.inr h), hSW⟩ ?_ s.heap [] _ hP hD va_S.rf hl
  intro v σ' pc lv hd hp H locs ls hP' hD' hS' hl'
  exact W.zret B.exec B.bytes B.returns (hn v σ' hp) (fun t ht hW => ⟨⟨v, σ', rfl, hp, by rw [ht]; exact hP', hD'⟩, hS'.F ht⟩) hS'.2.2 hd B.notSynchronized
end CWL4
/-- the place of a byte among the letters; -1: none -/
def lixN (x : Nat) : Nat := if x = 103 then 0 else if x = 102 then 1 else if x = 116 then 2 else if x = 117 then 3 else if x = 100 then 4 else if x = 115 then 5 else if x = 114 then 6 else if x = 118 then 7 else 8
def lixI (x : Nat) : Int32 := if lixN x < 8 then nI (lixN x) else -1
theorem lixN_le (x : Nat) : lixN x ≤ 8 := by
  unfold lixN
  repeat' split
  all_goals omega
set_option maxRecDepth 100000 in
theorem letB_all : ∀ x, x < 128 → ∀ j, j < 8 → (letB j = (nI x).toInt8.toInt32 ↔ lixN x = j) := by decide +kernel
