/-! PURE WORDS: the model's row is the class's row, laid out otherwise -/
def pm (j : Nat) : Nat := if j < 8 then j else if j < 23 then j + 16 else if j < 39 then j - 15 else if j < 43 then j + 8 else j - 4
def mrow (X : Nat → Int32) : Nat → Int32 := fun j => if j < 51 then (if j = 39 then X 47 - nI 3 else X (pm j)) else 0
theorem mrow_at {X : Nat → Int32} {j : Nat} (h : j < 51) (h2 : j ≠ 39) : mrow X j = X (pm j) := by
  unfold mrow
  rw [if_pos h, if_neg h2]
theorem mrow_39 {X : Nat → Int32} : mrow X 39 = X 47 - nI 3 := rfl
theorem pm_inj {i j : Nat} (hi : i < 51) (hj : j < 51) (h : pm i = pm j) : i = j := by
  unfold pm at h
  repeat' split at h
  all_goals omega
theorem mrow_upd {X : Nat → Int32} {j : Nat} {v : Int32} (h : j < 51) (h2 : j ≠ 39) : upd (mrow X) j v = mrow (upd X (pm j) v) := by
  funext i
  by_cases e : i = j
  · subst e
    rw [upd_same, mrow_at h h2, upd_same]
  · rw [upd_ne e]
    unfold mrow
    by_cases q : i < 51
    · rw [if_pos q, if_pos q]
      by_cases z : i = 39
      · rw [if_pos z, if_pos z, upd_ne]
        intro y
        have : pm 39 = pm j := y
        exact h2 (pm_inj (by omega) h this).symm
      · rw [if_neg z, if_neg z, upd_ne]
        exact fun y => e (pm_inj q h y)
    · rw [if_neg q, if_neg q]
theorem mrow_upd39 {X : Nat → Int32} {v : Int32} : upd (mrow X) 39 v = mrow (upd X 47 (v + nI 3)) := by
  funext i
  by_cases e : i = 39
  · subst e
    rw [upd_same, mrow_39, upd_same, Int32.add_sub_cancel]
  · rw [upd_ne e]
    unfold mrow
    by_cases q : i < 51
    · rw [if_pos q, if_pos q, if_neg e, if_neg e, upd_ne]
      intro y
      have : pm i = pm 39 := y
      exact e (pm_inj q (by omega) this)
    · rw [if_neg q, if_neg q]
theorem pm_st {c : Nat} (h : c < 5) : pm (8 + c) = 24 + c := by unfold pm; (repeat' split) <;> omega
theorem pm_tr {c : Nat} (h : c < 5) : pm (13 + c) = 29 + c := by unfold pm; (repeat' split) <;> omega
theorem pm_fi {c : Nat} (h : c < 5) : pm (18 + c) = 34 + c := by unfold pm; (repeat' split) <;> omega
theorem pm_up {g : Nat} (h : g < 8) : pm (23 + g) = 8 + g := by unfold pm; (repeat' split) <;> omega
theorem pm_dn {g : Nat} (h : g < 8) : pm (31 + g) = 16 + g := by unfold pm; (repeat' split) <;> omega
theorem pm_se {g : Nat} (h : g < 8) : pm g = g := by unfold pm; (repeat' split) <;> omega
/-- what is read of a row that is mrow X -/
theorem mr {τ1 X : Nat → Int32} (hT : τ1 = mrow X) {j k : Nat} (h : j < 51) (h2 : j ≠ 39) (hk : pm j = k) : τ1 j = X k := by rw [hT, mrow_at h h2, hk]
/-- what is written into it -/
theorem mw {τ1 X : Nat → Int32} (hT : τ1 = mrow X) {j k : Nat} {v : Int32} (h : j < 51) (h2 : j ≠ 39) (hk : pm j = k) : upd τ1 j v = mrow (upd X k v) := by rw [hT, mrow_upd h h2, hk]
theorem clB_in (c : Int32) : withinB c (nI 0) (nI 4) = clB c := by
  unfold withinB clB
  have e : (nI 4 < c) ↔ (nI 5 ≤ c) := by
    rw [Int32.lt_iff_toInt_lt, Int32.le_iff_toInt_le]
    have a : (nI 4).toInt = 4 := by decide
    have b : (nI 5).toInt = 5 := by decide
    rw [a, b]
    omega
  by_cases q : nI 4 < c
  · rw [decide_eq_true q, decide_eq_true (e.mp q)]
    rfl
  · rw [decide_eq_false q, decide_eq_false (fun z => q (e.mpr z))]
    rfl
def onesS (x : Int32) : Int32 := sumI (sbit x) 5
set_option maxRecDepth 100000 in
theorem ones_all : ∀ a, a < 32 → ∀ b, b < 32 → (decide (onesS (nI a &&& (nI b ^^^ (-1))) = nI 1) = decide (bitC (nI a &&& (nI b ^^^ (-1))) = nI 1)) := by decide +kernel
set_option maxRecDepth 100000 in
theorem swap_same : ∀ a, a < 32 → swapB (nI a) (nI a) = false := by decide +kernel
theorem ones_is {X : Nat → Int32} (hX : setsOK X) {g k : Nat} (hg : g ≤ 7) (hk : k ≤ 7) : (onesS (X g &&& (X k ^^^ (-1))) = nI 1) ↔ (bitC (X g &&& (X k ^^^ (-1))) = nI 1) := by
  obtain ⟨a, ha, ea⟩ := hX g hg
  obtain ⟨b, hb, eb⟩ := hX k hk
  have h := ones_all a ha b hb
  rw [ea, eb]
  constructor
  · intro q
    rw [decide_eq_true q] at h
    exact of_decide_eq_true h.symm
  · intro q
    rw [decide_eq_true q] at h
    exact of_decide_eq_true h
theorem sim_self {X : Nat → Int32} (hX : setsOK X) {g : Nat} (hg : g ≤ 7) : simN X g g = false := by
  obtain ⟨a, ha, ea⟩ := hX g hg
  unfold simN
  rw [ea, swap_same a ha]
  simp
/-- a row that grows by what is copied, one by one -/
theorem cpy_0 {f g : Nat → Int32} {i j : Nat} : va_cpy f g i j 0 = g := by
  funext k
  exact pk_cpy_out (by omega)
theorem cpy_s {f g : Nat → Int32} {i j n : Nat} : upd (va_cpy f g i j n) (j + n) (f (i + n)) = va_cpy f g i j (n + 1) := by
  funext k
  by_cases e : k = j + n
  · subst e
    rw [upd_same, pk_cpy_in (by omega) (by omega)]
    exact congrArg f (by omega)
  · rw [upd_ne e]
    by_cases q : j ≤ k ∧ k < j + n
    · rw [pk_cpy_in q.1 q.2, pk_cpy_in q.1 (by omega)]
    · rw [pk_cpy_out (by omega), pk_cpy_out (by omega)]
