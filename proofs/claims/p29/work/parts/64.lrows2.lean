/-! TWO ROWS MORE of the law: another order of the cells, a long by another name -/
section LRW
variable {p : Program} {l : Launch} {e : Env} {R : Room} {s : State} {m : MethodId} {args : Array Value} {below : List Frame} {meth : Method} {c : Code} {D : va_G} {Z : CZ} {A0 : Nat → Prop} {nL : Nat} {w w' : va_W} {Q : State → Prop} {mc ms pc : Nat} {lv lv' : List (Nat × Value)} {st : List Value} {cc : ByteArray} {Ts : List Cond} {own : String}
theorem kw_perm {w' : va_W} (is : List Nat) (hsub : is.filterMap (fun i => w[i]?) = w') (hnd : va_nd is = true) (hm : is.map (fun i => w[i]?) = w'.map some) (k : KW p l e R s m args below meth c D A0 nL Q w' mc ms pc lv st) : KW p l e R s m args below meth c D A0 nL Q w mc ms pc lv st :=
  fun H locs ls hP hD hS hl => k H locs ls (hP.sub (ws' := w') is hsub) (hD.sub (ws' := w') is hnd hm) hS hl
theorem kw_topl {x : Int64} (y : Int64) (h : x = y) (k : KW p l e R s m args below meth c D A0 nL Q w mc ms pc lv (.long y :: st)) : KW p l e R s m args below meth c D A0 nL Q w mc ms pc lv (.long x :: st) := by
  subst h
  exact k
end LRW
