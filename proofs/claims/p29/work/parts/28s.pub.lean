/-! PURE WORDS: the whole object: row X, refused F, cause ck co, states K 0 .. nn - 1 (the oldest first), text B of L bytes -/
def absC (σ : St) (X F : Nat → Int32) (ck co : Int32) (K : Nat → Nat → Int32) (nn : Nat) (B : Nat → Int32) (L : Nat) : Prop :=
  σ 1 = X ∧ σ 2 = F ∧ σ 0 8 = ck ∧ σ 0 9 = co ∧ σ 18 = B ∧ (∃ o p, σ 17 = txR L o p) ∧ ∃ dd, dd < 6 ∧ σ 9 2 = nI dd ∧ σ 9 3 = nI nn ∧ ∀ i, i < nn → σ (11 + (dd + 6 - nn + i) % 6) = K i
def absI (X : Nat → Int32) (K : Nat → Nat → Int32) (nn : Nat) (B : Nat → Int32) (L : Nat) : Prop := rowOK X ∧ (∀ i, i < nn → rowOK (K i)) ∧ nn ≤ 5 ∧ L ≤ 150 ∧ byOK B L
abbrev Ans : Type := Int32 ⊕ Nat
def refV : Nat → Int32
  | 0 => -2
  | 1 => -3
  | _ => -4
def ansV : Ans → Int32
  | .inl v => v
  | .inr k => refV k
def cntF (F : Nat → Int32) (k : Nat) : Nat → Int32 := upd F k (F k + nI 1)
def ansF (F : Nat → Int32) : Ans → Nat → Int32
  | .inl _ => F
  | .inr k => cntF F k
def ofA (X : Nat → Int32) (g w : Int32) : Ans :=
  if gearB g = true then
    (if w = nI 0 then .inl (X (tN g)) else if w = nI 1 then .inl (bI (fitN X (tN g))) else if w = nI 2 then .inl (X (8 + tN g)) else if w = nI 3 then .inl (X (16 + tN g)) else if w = nI 4 then .inl (nI (cntN (fun q9 => simN X (tN g) (q9 + 1)) 7)) else .inr 0)
  else .inr 0
def clA (X : Nat → Int32) (c w : Int32) : Ans :=
  if clB c = true then
    (if w = nI 0 then .inl (X (24 + tN c)) else if w = nI 1 then .inl (X (29 + tN c)) else if w = nI 2 then .inl (X (34 + tN c)) else if w = nI 3 then .inl (sumI (fun q9 => sbit (X (q9 + 1)) (tN c)) 7) else .inr 0)
  else .inr 0
def tiA (X : Nat → Int32) (v : Int32) : Ans := if withinB v (nI 0) (nI 31) = true then .inl (bI (decide (2 ≤ cntN (fun q9 => withP (X (q9 + 1)) v) 7))) else .inr 0
def smA (X : Nat → Int32) (g k w : Int32) : Ans :=
  if pairB g k = true then
    (if w = nI 0 then .inl (bI (simN X (tN g) (tN k))) else if w = nI 1 then .inl (comN X (tN g) (tN k)) else if w = nI 2 then .inl (comN X (tN k) (tN g)) else .inr 0)
  else .inr 0
def wyA (X : Nat → Int32) (g k i : Int32) : Ans :=
  if pairB g k = true ∧ -1 ≤ i then
    (if fitN X (tN g) = true ∧ fitN X (tN k) = true then
      (if wyN X (tN g) (tN k) = 0 ∨ nI (wyN X (tN g) (tN k)) ≤ i then .inl (-5) else if i = -1 then .inl (nI (wyN X (tN g) (tN k))) else .inl (nI (wyG X (tN g) (tN k) (tN i + 1))))
    else .inr 1)
  else .inr 0
def ovA (X : Nat → Int32) (g k t : Int32) : Ans :=
  if pairB g k = true ∧ withinB t (nI 0) (nI 40) = true then
    (if simN X (tN g) (tN k) = true then .inl (ovN X (comS (X (tN g)) (X (tN k))) (tN t) + nI 1000) else .inr 1)
  else .inr 0
def wsA (X : Nat → Int32) (g k w : Int32) : Ans :=
  if pairB g k = true ∧ withinB w (nI 0) (nI 1) = true then
    (if simN X (tN g) (tN k) = true then (if w = 0 then .inl (flS X (comS (X (tN g)) (X (tN k)))) else .inl (bdS X (comS (X (tN g)) (X (tN k))))) else .inr 1)
  else .inr 0
def wnA (X : Nat → Int32) (v : Int32) : Ans := if withinB v (nI 0) (nI 300) = true then .inl (nI (wntS X (inN X) v)) else .inr 0
def saA (X : Nat → Int32) (w : Int32) : Ans := if w = nI 12 then .inl (fbits (fitN X) 7) else if withinB w (nI 0) (nI 11) = true then .inl (X (39 + tN w)) else .inr 0
def whA (ck co w : Int32) : Ans := if withinB w (nI 0) (nI 1) = true then (if w = 0 then .inl ck else .inl co) else .inr 0
def toA (F : Nat → Int32) (nn L : Nat) (w : Int32) : Ans :=
  if w = nI 0 then .inl (F 0) else if w = nI 1 then .inl (F 1) else if w = nI 2 then .inl (F 2) else if w = nI 3 then .inl (nI L) else if w = nI 4 then .inl (nI nn) else .inr 0
/-- the states, one more kept -/
def psh (K : Nat → Nat → Int32) (nn : Nat) (X : Nat → Int32) : Nat → Nat → Int32 := fun i => if nn = 5 then (if i = 4 then X else K (i + 1)) else (if i = nn then X else K i)
theorem absC_psh {σ : St} {K : Nat → Nat → Int32} {nn dd : Nat} {Y : Nat → Int32} (hdd : dd < 6) (hnn : nn ≤ 5) (hK : ∀ i, i < nn → σ (11 + (dd + 6 - nn + i) % 6) = K i) (σ' : St) (h1 : ∀ k, k < 6 → k ≠ dd → σ' (11 + k) = σ (11 + k)) (h2 : σ' (11 + dd) = Y) : ∀ i, i < min (nn + 1) 5 → σ' (11 + ((dd + 1) % 6 + 6 - min (nn + 1) 5 + i) % 6) = psh K nn Y i := by
  intro i hi
  unfold psh
  by_cases q : nn = 5
  · subst q
    rw [if_pos rfl]
    by_cases z : i = 4
    · rw [if_pos z]
      rw [show ((dd + 1) % 6 + 6 - min (5 + 1) 5 + i) % 6 = dd by omega]
      exact h2
    · rw [if_neg z]
      rw [← hK (i + 1) (by omega), h1 _ (by omega) (by omega)]
      congr 2
      omega
  · rw [if_neg q]
    by_cases z : i = nn
    · rw [if_pos z]
      rw [show ((dd + 1) % 6 + 6 - min (nn + 1) 5 + i) % 6 = dd by omega]
      exact h2
    · rw [if_neg z]
      rw [← hK i (by omega), h1 _ (by omega) (by omega)]
      congr 2
      omega
theorem com_cl_t {X : Nat → Int32} {g k : Nat} (h : clB (comN X g k) = true) : simN X g k = true := by
  cases e : simN X g k with
  | true => rfl
  | false =>
    rw [comN, if_neg (by rw [e]; decide)] at h
    exact absurd h (by decide)
theorem com_cl_f {X : Nat → Int32} {g k : Nat} (h : clB (comN X g k) = false) : simN X g k = false := by
  cases e : simN X g k with
  | false => rfl
  | true =>
    have hc := comS_lt (X g) (X k)
    rw [comN, if_pos e, clB_N (by omega), decide_eq_true hc] at h
    cases h
theorem way_ix {i : Int32} {N : Nat} (hN : N < 2 ^ 31) (h1 : -1 ≤ i) (h2 : ¬ i = -1) (h3 : i < nI N) : ∃ m, m < N ∧ i = nI m := by
  have hx0 : ¬ i < 0 := by
    intro z
    have z1 := Int32.lt_iff_toInt_lt.mp z
    have z2 := Int32.le_iff_toInt_le.mp h1
    simp at z1 z2
    exact h2 (Int32.toInt_inj.mp (by simp; omega))
  obtain ⟨j, hj, rfl⟩ := nI_of hx0
  exact ⟨j, (nI_ltI hj hN).mp h3, rfl⟩
/-- a refusal, or an order: oR's kinds -/
theorem parR_neg {t : Bool} {X : Nat → Int32} {j : Nat} (hj : ∃ a, a < 2 ^ 31 ∧ X j = nI a) (h : ¬ 0 ≤ parR t X j) : t = false := by
  cases t with
  | false => rfl
  | true =>
    obtain ⟨a, ha, e⟩ := hj
    exact absurd (show 0 ≤ X j by rw [e]; exact nI_pos' ha) h
