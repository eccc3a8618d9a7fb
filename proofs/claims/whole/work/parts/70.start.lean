/-! THE LAW, from its entry -/
theorem aover {args : Array Value} {s : State} (h : (Cond.arrayOver (.array .int)).before args s = true) : ∃ (comp c : ClassId) (k : Class), s.vm.findClass "[I" = some comp ∧ s.vm.classes[c]? = some k ∧ k.kind = .array comp (.array .int) ∧ s.vm.findClass "[[I" = some c := by
  simp only [Cond.before, Cond.holds, Cond.value, beq_iff_eq] at h
  cases hc : s.vm.findClass (FieldType.array .int).toString with
  | none => simp [hc] at h
  | some comp =>
    simp only [hc, Option.bind_some, Option.bind_eq_some_iff, Option.map_eq_some_iff] at h
    obtain ⟨c, hi, k, hk, hb⟩ := h
    obtain ⟨hlt, hp, -⟩ := Array.findIdx?_eq_some_iff_getElem.mp hi
    rw [(Array.getElem?_eq_some_iff.mp hk).2] at hp
    cases hkind : k.kind with
    | array component ty =>
      rw [hkind] at hb hp
      simp at hb hp
      exact ⟨comp, c, k, hc, hk, by rw [hkind, hp, hb.1], hb.2⟩
    | _ => rw [hkind] at hb; simp at hb
set_option maxHeartbeats 4000000 in
set_option maxRecDepth 100000 in
theorem whole_start {p : Program} {e : Env} {s : State} {m : MethodId} {below : List Frame} {meth : Method} {c : Code} (l : Launch) (hflags : l.flags = flags0) {b L : Nat} {xs : Nat → Int32} (hL : L ≤ 2048) (C0 : lw_At p s m meth c b L xs) : W p l e room_1 s m #[Value.ref b] below meth c s.heap [] 0 0 (lw_Z below #[Value.ref b] s) (entryFrame m ([Value.ref b] : List Value).toArray 4) := by
  obtain ⟨hx, hb, hr, hml, hown, hts, hX, hbl, hlocks, hgv⟩ := C0
  have hnA : ∀ a : Nat, a < s.heap.size → ¬ (fun q : Nat => s.heap.size ≤ q) a := fun a h => Nat.not_le.mpr h
  have hbA : ¬ (fun q : Nat => s.heap.size ≤ q) b := Nat.not_le.mpr hbl
  have tb : ∀ (i : Nat) (w : Cond), tables_1[i]? = some w → w.before #[Value.ref b] s = true := fun i w h => hts w (List.mem_append_right _ (List.mem_of_getElem? h))
  have hs := flat_of_before _ hgv
  obtain ⟨c0, i0, k0⟩ := u_known (C := RX0) (T := TX0) (N := 3) (n := 3) hts inX0 (tb 53 (.instantiable RX0 3) (by decide +kernel))
  obtain ⟨c1, i1, k1⟩ := u_known (C := RX1) (T := TX1) (N := 3) (n := 3) hts inX1 (tb 26 (.instantiable RX1 3) (by decide +kernel))
  obtain ⟨c2, i2, k2⟩ := u_known (C := RX2) (T := TX2) (N := 3) (n := 3) hts inX2 (tb 69 (.instantiable RX2 3) (by decide +kernel))
  obtain ⟨c3, i3, k3⟩ := u_known (C := RX3) (T := TX3) (N := 1) (n := 1) hts inX3 (tb 43 (.instantiable RX3 1) (by decide +kernel))
  obtain ⟨c4, i4, k4⟩ := u_known (C := RX4) (T := TX4) (N := 4) (n := 4) hts inX4 (tb 85 (.instantiable RX4 4) (by decide +kernel))
  obtain ⟨c5, i5, k5⟩ := u_known (C := RX5) (T := TX5) (N := 7) (n := 7) hts inX5 (tb 106 (.instantiable RX5 7) (by decide +kernel))
  obtain ⟨c6, i6, k6⟩ := u_known (C := RX6) (T := TX6) (N := 10) (n := 10) hts inX6 (tb 18 (.instantiable RX6 10) (by decide +kernel))
  obtain ⟨c7, i7, k7⟩ := u_known (C := RX7) (T := TX7) (N := 21) (n := 21) hts inX7 (tb 606 (.instantiable RX7 21) (by decide +kernel))
  obtain ⟨D, hKc⟩ : ∃ D : va_G, ∀ (k : Nat) (q : vw_C), vwCl[k]? = some q → u_Kn s q.1 q.2.1 q.2.2 (D.1 k) (D.2 k) := by
    refine ⟨(fun k => if k = 0 then c0 else if k = 1 then c1 else if k = 2 then c2 else if k = 3 then c3 else if k = 4 then c4 else if k = 5 then c5 else if k = 6 then c6 else c7, fun k => if k = 0 then i0 else if k = 1 then i1 else if k = 2 then i2 else if k = 3 then i3 else if k = 4 then i4 else if k = 5 then i5 else if k = 6 then i6 else i7), ?_⟩
    intro k q hq
    match k, hq with
    | 0, hq => cases hq; exact k0
    | 1, hq => cases hq; exact k1
    | 2, hq => cases hq; exact k2
    | 3, hq => cases hq; exact k3
    | 4, hq => cases hq; exact k4
    | 5, hq => cases hq; exact k5
    | 6, hq => cases hq; exact k6
    | 7, hq => cases hq; exact k7
    | k + 8, hq => simp [vwCl] at hq
  obtain ⟨cI, kI, cc, nI1, nI2, nI3⟩ := Cond.arrayClass_spec (tb 41 (.arrayClass .int) (by decide +kernel))
  obtain ⟨comp, cII, kII, m1, m2, m3, m4⟩ := aover (tb 91 (.arrayOver (.array .int)) (by decide +kernel))
  have hcomp : comp = cI := Option.some.inj (m1.symm.trans nI1)
  subst hcomp
  obtain ⟨adK, adV, hVS, hVE⟩ := vk_Sof (args := #[Value.ref b]) (s := s) (N := 1) (tm := fun _ => .string RX5 45) (len := [8]) (byt := [lettersL]) (A := fun q : Nat => s.heap.size ≤ q) (fun i hi => by rw [show i = 0 by omega]; decide) (fun i hi => hs _ (by decide +kernel)) (fun i hi => hs _ (by decide +kernel)) (fun i hi => hs _ (by decide +kernel)) (fun i hi => by rw [show i = 0 by omega]; exact hs _ (by decide +kernel))
    (fun i hi j hj => by
      rw [show i = 0 by omega] at hj ⊢
      have hj8 : j < 8 := hj
      rcases (show j = 0 ∨ j = 1 ∨ j = 2 ∨ j = 3 ∨ j = 4 ∨ j = 5 ∨ j = 6 ∨ j = 7 by omega) with rfl | rfl | rfl | rfl | rfl | rfl | rfl | rfl <;> exact hs _ (by decide +kernel))
    (fun i j hi hj hij => absurd (show i = j by omega) hij) hnA
  obtain ⟨Z, hZ⟩ : ∃ Z : CZ, Z = (comp, cII, adK 0, adV 0) := ⟨_, rfl⟩
  have hK : va_K D vwCl (tysC Z) s := by
    rw [hZ]
    refine ⟨hKc, fun k q hq => ?_⟩
    match k, hq with
    | 0, hq => cases hq; exact ⟨fun n z => ⟨(fun k h => by cases h), kI, nI2, cc, nI3⟩, nI1⟩
    | 1, hq => cases hq; exact ⟨fun n z => ⟨(fun k h => by cases h), kII, m2, comp, m3⟩, m4⟩
    | k + 2, hq => simp at hq
  have hAO : AOK Z s := by
    rw [hZ]
    exact ⟨⟨kII, kI, cc, m2, m3, nI2, nI3, m4, nI1⟩, va_Nw.of rfl (tb 107 (.methodLinkNest RX6 59 yX5_init RX6) (by decide +kernel))⟩
  have hN : NWs s := ⟨va_Nw.of rfl (tb 187 (.methodLinkNest RX2 42 yX6_isGear RX6) (by decide +kernel)), va_Nw.of rfl (tb 190 (.methodLinkNest RX2 34 yX6_isWithin RX6) (by decide +kernel)), va_Nw.of rfl (tb 213 (.methodLinkNest RX2 30 yX6_isClutch RX6) (by decide +kernel)), va_Nw.of rfl (tb 279 (.methodLinkNest RX3 15 yX6_isClutch RX6) (by decide +kernel)), va_Nw.of rfl (tb 230 (.methodLinkNest RX0 23 yX6_isGear RX6) (by decide +kernel)), va_Nw.of rfl (tb 257 (.methodLinkNest RX1 46 yX6_isGear RX6) (by decide +kernel))⟩
  have hSW : SW Z (fun q : Nat => s.heap.size ≤ q) s s.heap := by
    rw [hZ]
    refine ⟨vk_R.of (A := #[Value.ref b]) (tb 457 (.stringRef RX5 45 "gftudsrv") (by decide +kernel)) (hVE 0 (by decide)), ⟨fun i hi => ?_, fun i j hi hj _ => by omega⟩, va_Zof (args := #[Value.ref b]) (tb 471 (.laysStatic "java/lang/String" "COMPACT_STRINGS" "Z") (by decide +kernel)) (tb 12 (.initialized "java/lang/String") (by decide +kernel)) (va_eqt (hs _ (by decide +kernel))) hnA⟩
    obtain rfl : i = 0 := by omega
    exact hVS.1 0 (by decide)
  clear hZ hVS hVE
  have C : KX p s m #[Value.ref b] c cL_law 4 wsL_law RL D Z (fun q : Nat => s.heap.size ≤ q) := ⟨⟨hx, hb, hml, hown, fun w h => hts w (wsL_law_in w h)⟩, hK, fun q h => h⟩
  have hP : va_P D vwCl [] s.heap := fun k q h => by simp at h
  have hD : va_D (fun q : Nat => s.heap.size ≤ q) [] := ⟨fun i j p q h => by simp at h, fun k q h => by simp at h⟩
  have hl := lv_entry ([.ref b]) (n := 4) (Nat.le_of_ble_eq_true rfl)
  rw [lg_entry_eq]
  suffices K : KW p l e room_1 s m #[Value.ref b] below meth c D (fun q : Nat => s.heap.size ≤ q) 4 (lw_Z below #[Value.ref b] s) [] 0 0 0 (lv_args 0 [.ref b]) [] from K s.heap [] _ hP hD va_S.rf hl
  refine kw_lv (lv' := [(0, .ref b)]) [0] rfl ?_
  refine kw_new (pc := 0) (ci := 6) C tyX6 dL_law_0 inlX6 tyX6_ok (List.mem_of_getElem? (i := 0) rfl) (List.mem_of_getElem? (i := 1) rfl) (List.mem_of_getElem? (i := 2) rfl) rfl [.null, .null, .null, .null, .null, .null, .null, .null, .int 0, .int 0] (fun j hj => by rcases (show j = 0 ∨ j = 1 ∨ j = 2 ∨ j = 3 ∨ j = 4 ∨ j = 5 ∨ j = 6 ∨ j = 7 ∨ j = 8 ∨ j = 9 by omega) with rfl | rfl | rfl | rfl | rfl | rfl | rfl | rfl | rfl | rfl <;> rfl) (Nat.le_of_ble_eq_true rfl) (Nat.le_of_ble_eq_true rfl) (fun q0 => ?_)
  refine kw_w (w' := [(q0, .inr (6, [.null, .null, .null, .null, .null, .null, .null, .null, .int 0, .int 0]))]) rfl ?_
  refine kw_dup (pc := 3) C dL_law_3 rfl ?_
  refine kw_init (pc := 4) C hAO dL_law_4 (c_X6_init l D Z q0) (cwI 0 C.1.2.2.2.2 gL_law_X6_init rfl rfl rfl (C.1.2.2.2.2 _ (List.mem_of_getElem? (i := 2) rfl)) (C.1.2.2.2.2 (.methodLink RL 9 yX6_init) (List.mem_of_getElem? (i := 6) rfl)) (C.1.2.2.2.2 (.instanceMethod yX6_init) (List.mem_of_getElem? (i := 7) rfl)) rfl (by decide +kernel) ⟨Nat.le_of_ble_eq_true rfl, Nat.le_of_ble_eq_true rfl⟩) [0] [] (wr := []) rfl rfl rfl (by decide) (by decide) (by decide) rfl (Nat.le_of_ble_eq_true rfl) (Nat.le_of_ble_eq_true rfl) (Nat.le_of_ble_eq_true rfl) (fun u hu => ?_)
  obtain ⟨A, σ⟩ := u
  obtain ⟨hA0, habC⟩ := hu
  have hA0 : A 0 = q0 := hA0
  subst hA0
  refine kw_w (w' := wC Z A σ) rfl ?_
  refine kw_astore_n (pc := 7) C dL_law_7 rfl (by decide) (lv' := [(1, .ref (A 0)), (0, .ref b)]) rfl ?_
  refine kw_new (pc := 8) (ci := 7) C tyX7 dL_law_8 inlX7 tyX7_ok (List.mem_of_getElem? (i := 3) rfl) (List.mem_of_getElem? (i := 4) rfl) (List.mem_of_getElem? (i := 5) rfl) rfl [.null, .null, .null, .int 0, .null, .int 0, .int 0, .null, .int 0, .null, .null, .null, .int 0, .null, .null, .int 0, .int 0, .int 0, .int 0, .int 0, .int 0] (fun j hj => by rcases (show j = 0 ∨ j = 1 ∨ j = 2 ∨ j = 3 ∨ j = 4 ∨ j = 5 ∨ j = 6 ∨ j = 7 ∨ j = 8 ∨ j = 9 ∨ j = 10 ∨ j = 11 ∨ j = 12 ∨ j = 13 ∨ j = 14 ∨ j = 15 ∨ j = 16 ∨ j = 17 ∨ j = 18 ∨ j = 19 ∨ j = 20 by omega) with rfl | rfl | rfl | rfl | rfl | rfl | rfl | rfl | rfl | rfl | rfl | rfl | rfl | rfl | rfl | rfl | rfl | rfl | rfl | rfl | rfl <;> rfl) (Nat.le_of_ble_eq_true rfl) (Nat.le_of_ble_eq_true rfl) (fun q8 => ?_)
  refine kw_dup (pc := 11) C dL_law_11 rfl ?_
  refine kw_init (pc := 12) C hAO dL_law_12 (c_X7_init l D Z q8) (cwI 0 C.1.2.2.2.2 gL_law_X7_init rfl rfl rfl (C.1.2.2.2.2 _ (List.mem_of_getElem? (i := 5) rfl)) (C.1.2.2.2.2 (.methodLink RL 12 yX7_init) (List.mem_of_getElem? (i := 86) rfl)) (C.1.2.2.2.2 (.instanceMethod yX7_init) (List.mem_of_getElem? (i := 87) rfl)) rfl (by decide +kernel) ⟨Nat.le_of_ble_eq_true rfl, Nat.le_of_ble_eq_true rfl⟩) [22] [0, 1, 2, 3, 4, 5, 6, 7, 8, 9, 10, 11, 12, 13, 14, 15, 16, 17, 18, 19, 20, 21] (wr := wC Z A σ) rfl rfl rfl (by decide) (by decide) (by decide) rfl (Nat.le_of_ble_eq_true rfl) (Nat.le_of_ble_eq_true rfl) (Nat.le_of_ble_eq_true rfl) (fun v hv => ?_)
  obtain ⟨B, τ⟩ := v
  obtain ⟨hB0, habM⟩ := hv
  have hB0 : B 0 = q8 := hB0
  subst hB0
  refine kw_w (w' := wC Z A σ ++ wM Z B τ) rfl ?_
  refine kw_astore_n (pc := 15) C dL_law_15 rfl (by decide) (lv' := [(2, .ref (B 0)), (1, .ref (A 0)), (0, .ref b)]) rfl ?_
  refine kw_iconst (pc := 16) C dL_law_16 (nI 0) (by decide) ?_
  refine kw_istore_n (pc := 17) C dL_law_17 rfl (by decide) (lv' := [(3, .int (nI 0)), (2, .ref (B 0)), (1, .ref (A 0)), (0, .ref b)]) rfl ?_
  refine kw_lv (lv' := [(0, .ref b), (1, .ref (A 0)), (2, .ref (B 0)), (3, .int (nI 0))]) [3, 2, 1, 0] rfl ?_
  refine law_loop C hN hSW hX hbl hbA hL (Nat.le_of_ble_eq_true rfl) (Nat.le_of_ble_eq_true rfl) (fun σ τ lv => ?_) (L + 5) 0 σ τ (by omega) (by omega) ⟨_, _, _, _, _, _, _, _, habC, ⟨rowC0_ok, fun i hi => absurd hi (by omega), by decide, by decide, fun j hj => absurd hj (by omega)⟩, habM⟩
  intro H locs ls hP hD hS hl
  refine va_forget (fun q hq => hS.2.2 q hq) ?_
  refine W.widen (k := 600000) (n := 7302250) (Nat.le_of_ble_eq_true rfl) (Nat.le_of_ble_eq_true rfl) ?_
  exact lw_ret hx hb hr hlocks dL_law_888
