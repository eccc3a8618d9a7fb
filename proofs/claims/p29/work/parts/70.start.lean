/-! THE LAW, from its entry -/
theorem aover {args : Array Value} {s : State} (h : (Cond.arrayOver (.array .int)).before args s = true) : ∃ (comp c : ClassId) (k : Class), s.vm.findClass "[I" = some comp ∧ s.vm.classes[c]? = some k ∧ k.kind = .array comp (.array .int) ∧ s.vm.findClass "[[I" = some c := by
  simp only [Cond.before, Cond.holds, Cond.value, beq_iff_eq] at h
  cases hc : s.vm.findClass (FieldType.array .int).toString with
  | none => simp [hc] at h
  | some comp =>
    simp only [hc, Option.bind_some, Option.bind_eq_some_iff, Option.map_eq_some_iff] at h
    obtain ⟨c, hi, k, hk, hb⟩ := h
    obtain ⟨hlt, hp, -⟩ := Array.findIdx?_eq_some_iff_getElem.mp hi
    rw [(Array.getElem?_eq_some_iff.mp hk).2] at hp
    cases hkind : k.kind with
    | array component ty =>
      rw [hkind] at hb hp
      simp at hb hp
      exact ⟨comp, c, k, hc, hk, by rw [hkind, hp, hb.1], hb.2⟩
    | _ => rw [hkind] at hb; simp at hb
set_option maxHeartbeats 4000000 in
set_option maxRecDepth 100000 in
theorem whole_start {p : Program} {e : Env} {s : State} {m : MethodId} {below : List Frame} {meth : Method} {c : Code} (l : Launch) (hflags : l.flags = flags0) {b L : Nat} {xs : Nat → Int32} (hL : L ≤ 260) (C0 : lw_At p s m meth c b L xs) : W p l e room_1 s m #[Value.ref b] below meth c s.heap [] 0 0 (lw_Z below #[Value.ref b] s) (entryFrame m ([Value.ref b] : List Value).toArray 13) := by
  obtain ⟨hx, hb, hr, hml, hown, hts, hX, hbl, hlocks, hgv⟩ := C0
  have hnA : ∀ a : Nat, a < s.heap.size → ¬ (fun q : Nat => s.heap.size ≤ q) a := fun a h => Nat.not_le.mpr h
  have hbA : ¬ (fun q : Nat => s.heap.size ≤ q) b := Nat.not_le.mpr hbl
  have tb : ∀ (i : Nat) (w : Cond), tables_1[i]? = some w → w.before #[Value.ref b] s = true := fun i w h => hts w (List.mem_append_right _ (List.mem_of_getElem? h))
  have hs := flat_of_before _ hgv
  obtain ⟨c0, i0, k0⟩ := u_known (C := RX0) (T := TX0) (N := 3) (n := 3) hts inX0 (tb 47 (.instantiable RX0 3) (by decide +kernel))
  obtain ⟨c1, i1, k1⟩ := u_known (C := RX1) (T := TX1) (N := 3) (n := 3) hts inX1 (tb 20 (.instantiable RX1 3) (by decide +kernel))
  obtain ⟨c2, i2, k2⟩ := u_known (C := RX2) (T := TX2) (N := 3) (n := 3) hts inX2 (tb 63 (.instantiable RX2 3) (by decide +kernel))
  obtain ⟨c3, i3, k3⟩ := u_known (C := RX3) (T := TX3) (N := 1) (n := 1) hts inX3 (tb 37 (.instantiable RX3 1) (by decide +kernel))
  obtain ⟨c4, i4, k4⟩ := u_known (C := RX4) (T := TX4) (N := 4) (n := 4) hts inX4 (tb 79 (.instantiable RX4 4) (by decide +kernel))
  obtain ⟨c5, i5, k5⟩ := u_known (C := RX5) (T := TX5) (N := 7) (n := 7) hts inX5 (tb 100 (.instantiable RX5 7) (by decide +kernel))
  obtain ⟨c6, i6, k6⟩ := u_known (C := RX6) (T := TX6) (N := 10) (n := 10) hts inX6 (tb 12 (.instantiable RX6 10) (by decide +kernel))
  obtain ⟨D, hKc⟩ : ∃ D : va_G, ∀ (k : Nat) (q : vw_C), vwCl[k]? = some q → u_Kn s q.1 q.2.1 q.2.2 (D.1 k) (D.2 k) := by
    refine ⟨(fun k => if k = 0 then c0 else if k = 1 then c1 else if k = 2 then c2 else if k = 3 then c3 else if k = 4 then c4 else if k = 5 then c5 else c6, fun k => if k = 0 then i0 else if k = 1 then i1 else if k = 2 then i2 else if k = 3 then i3 else if k = 4 then i4 else if k = 5 then i5 else i6), ?_⟩
    intro k q hq
    match k, hq with
    | 0, hq => cases hq; exact k0
    | 1, hq => cases hq; exact k1
    | 2, hq => cases hq; exact k2
    | 3, hq => cases hq; exact k3
    | 4, hq => cases hq; exact k4
    | 5, hq => cases hq; exact k5
    | 6, hq => cases hq; exact k6
    | k + 7, hq => simp [vwCl] at hq
  obtain ⟨cI, kI, cc, nI1, nI2, nI3⟩ := Cond.arrayClass_spec (tb 35 (.arrayClass .int) (by decide +kernel))
  obtain ⟨comp, cII, kII, m1, m2, m3, m4⟩ := aover (tb 85 (.arrayOver (.array .int)) (by decide +kernel))
  have hcomp : comp = cI := Option.some.inj (m1.symm.trans nI1)
  subst hcomp
  obtain ⟨cG, kG, cd, nG1, nG2, nG3⟩ := Cond.arrayClass_spec (tb 478 (.arrayClass .long) (by decide +kernel))
  obtain ⟨Z, hZ⟩ : ∃ Z : CZ, Z = (comp, cII, b, L, xs, cG) := ⟨_, rfl⟩
  have hK : va_K D vwCl (tysC Z) s := by
    rw [hZ]
    refine ⟨hKc, fun k q hq => ?_⟩
    match k, hq with
    | 0, hq => cases hq; exact ⟨fun n z => ⟨(fun k h => by cases h), kI, nI2, cc, nI3⟩, nI1⟩
    | 1, hq => cases hq; exact ⟨fun n z => ⟨(fun k h => by cases h), kII, m2, comp, m3⟩, m4⟩
    | 2, hq => cases hq; exact ⟨fun n z => ⟨(fun k h => by cases h), kG, nG2, cd, nG3⟩, nG1⟩
    | k + 3, hq => simp at hq
  have hAO : AOK Z s := by
    rw [hZ]
    exact ⟨⟨kII, kI, cc, m2, m3, nI2, nI3, m4, nI1⟩, va_Nw.of rfl (tb 101 (.methodLinkNest RX6 59 yX5_init RX6) (by decide +kernel))⟩
  have hN : NWs s := ⟨va_Nw.of rfl (tb 366 (.methodLinkNest RX2 42 yX6_isGear RX6) (by decide +kernel)), va_Nw.of rfl (tb 367 (.methodLinkNest RX2 34 yX6_isWithin RX6) (by decide +kernel)), va_Nw.of rfl (tb 385 (.methodLinkNest RX2 30 yX6_isClutch RX6) (by decide +kernel)), va_Nw.of rfl (tb 312 (.methodLinkNest RX3 15 yX6_isClutch RX6) (by decide +kernel)), va_Nw.of rfl (tb 341 (.methodLinkNest RX0 23 yX6_isGear RX6) (by decide +kernel)), va_Nw.of rfl (tb 289 (.methodLinkNest RX1 46 yX6_isGear RX6) (by decide +kernel))⟩
  have hSW : SW Z (fun q : Nat => s.heap.size ≤ q) s s.heap := by
    rw [hZ]
    exact ⟨hX, hbl, hbA⟩
  have hZb : Z.2.2.1 = b := by rw [hZ]
  have hZL : Z.2.2.2.1 < 2 ^ 31 := by
    rw [hZ]
    show L < 2 ^ 31
    omega
  clear hZ
  have C : KX p s m #[Value.ref b] c cL_law 13 wsL_law RL D Z (fun q : Nat => s.heap.size ≤ q) := ⟨⟨hx, hb, hml, hown, fun w h => hts w (wsL_law_in w h)⟩, hK, fun q h => h⟩
  have hP : va_P D vwCl [] s.heap := fun k q h => by simp at h
  have hD : va_D (fun q : Nat => s.heap.size ≤ q) [] := ⟨fun i j p q h => by simp at h, fun k q h => by simp at h⟩
  have hl := lv_entry ([.ref b]) (n := 13) (Nat.le_of_ble_eq_true rfl)
  rw [lg_entry_eq]
  suffices K : KW p l e room_1 s m #[Value.ref b] below meth c D (fun q : Nat => s.heap.size ≤ q) 13 (lw_Z below #[Value.ref b] s) [] 0 0 0 (lv_args 0 [.ref b]) [] from K s.heap [] _ hP hD va_S.rf hl
  refine kw_lv (lv' := [(0, .ref Z.2.2.1)]) [0] (by rw [hZb]; rfl) ?_
  refine law_all C hN hAO hSW hZL (fun w lv => ?_)
  intro H locs ls hP hD hS hl
  refine va_forget (fun q hq => hS.2.2 q hq) ?_
  refine W.widen (k := 600000) (n := 7302250) (Nat.le_of_ble_eq_true rfl) (Nat.le_of_ble_eq_true rfl) ?_
  exact lw_ret hx hb hr hlocks dL_law_349
