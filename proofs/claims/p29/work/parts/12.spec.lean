/-! PURE WORDS: gears and clutches -/
def allB (p : Nat → Bool) : Nat → Bool
  | 0 => true
  | n + 1 => allB p n && p n
theorem allB_t {p : Nat → Bool} : ∀ {n : Nat}, allB p n = true ↔ ∀ i, i < n → p i = true
  | 0 => ⟨fun _ i h => absurd h (by omega), fun _ => rfl⟩
  | n + 1 => by
    show (allB p n && p n) = true ↔ _
    rw [Bool.and_eq_true, allB_t]
    constructor
    · intro h i hi
      rcases Nat.lt_succ_iff_lt_or_eq.mp hi with q | q
      · exact h.1 i q
      · rw [q]; exact h.2
    · intro h
      exact ⟨fun i hi => h i (by omega), h n (by omega)⟩
theorem allB_f {p : Nat → Bool} {n i : Nat} (hi : i < n) (h : p i = false) : allB p n = false := by
  cases e : allB p n with
  | false => rfl
  | true => rw [allB_t.mp e i hi] at h; cases h
def sumI (f : Nat → Int32) : Nat → Int32
  | 0 => nI 0
  | n + 1 => sumI f n + f n
def cntN (p : Nat → Bool) : Nat → Nat
  | 0 => 0
  | n + 1 => cntN p n + (if p n = true then 1 else 0)
theorem cntN_le (p : Nat → Bool) : ∀ n, cntN p n ≤ n
  | 0 => Nat.le_refl 0
  | n + 1 => by
    have h := cntN_le p n
    show cntN p n + (if p n = true then 1 else 0) ≤ n + 1
    split <;> omega
def withinB (v a b : Int32) : Bool := !(decide (v < a)) && !(decide (b < v))
def gearB (g : Int32) : Bool := !(decide (g < nI 1)) && !(decide (nI 7 < g))
def clB (c : Int32) : Bool := !(decide (c < 0)) && !(decide (nI 5 ≤ c))
def pairB (g k : Int32) : Bool := gearB g && gearB k && !(decide (g = k))
theorem withinB_t {v : Int32} {a b : Nat} (ha : a < 2 ^ 31) (hb : b < 2 ^ 31) (h : withinB v (nI a) (nI b) = true) : ∃ j : Nat, a ≤ j ∧ j ≤ b ∧ v = nI j := by
  simp only [withinB, Bool.and_eq_true, Bool.not_eq_true', decide_eq_false_iff_not] at h
  exact rng_of ha hb h.1 h.2
theorem withinB_N {j a b : Nat} (hj : j < 2 ^ 31) (ha : a < 2 ^ 31) (hb : b < 2 ^ 31) : withinB (nI j) (nI a) (nI b) = (decide (a ≤ j) && decide (j ≤ b)) := by
  simp only [withinB, nI_ltI hj ha, nI_ltI hb hj]
  by_cases h1 : a ≤ j <;> by_cases h2 : j ≤ b <;> simp [h1, h2] <;> omega
theorem gearB_t {g : Int32} (h : gearB g = true) : ∃ j : Nat, 1 ≤ j ∧ j ≤ 7 ∧ g = nI j := withinB_t (a := 1) (b := 7) (by decide) (by decide) h
theorem gearB_N {j : Nat} (hj : j < 2 ^ 31) : gearB (nI j) = (decide (1 ≤ j) && decide (j ≤ 7)) := withinB_N hj (by decide) (by decide)
theorem clB_t {c : Int32} (h : clB c = true) : ∃ j : Nat, j < 5 ∧ c = nI j := by
  simp only [clB, Bool.and_eq_true, Bool.not_eq_true', decide_eq_false_iff_not] at h
  obtain ⟨j, hj, rfl⟩ := nI_of h.1
  refine ⟨j, ?_, rfl⟩
  have := h.2
  rw [nI_leI (by decide) hj] at this
  omega
theorem clB_N {j : Nat} (hj : j < 2 ^ 31) : clB (nI j) = decide (j < 5) := by
  simp only [clB, nI_leI (a := 5) (by decide) hj]
  have : ¬ nI j < 0 := nI_pos hj
  by_cases h : j < 5 <;> simp [this, h] <;> omega
theorem pairB_t {g k : Int32} (h : pairB g k = true) : ∃ i j : Nat, 1 ≤ i ∧ i ≤ 7 ∧ 1 ≤ j ∧ j ≤ 7 ∧ i ≠ j ∧ g = nI i ∧ k = nI j := by
  simp only [pairB, Bool.and_eq_true, Bool.not_eq_true', decide_eq_false_iff_not] at h
  obtain ⟨⟨h1, h2⟩, h3⟩ := h
  obtain ⟨i, a1, a2, rfl⟩ := gearB_t h1
  obtain ⟨j, b1, b2, rfl⟩ := gearB_t h2
  exact ⟨i, j, a1, a2, b1, b2, fun e => h3 (by rw [e]), rfl, rfl⟩
theorem pairB_N {i j : Nat} (hi : i < 2 ^ 31) (hj : j < 2 ^ 31) : pairB (nI i) (nI j) = (decide (1 ≤ i) && decide (i ≤ 7) && (decide (1 ≤ j) && decide (j ≤ 7)) && !(decide (i = j))) := by
  simp only [pairB, gearB_N hi, gearB_N hj, nI_eq hi hj]
/-- the c-th bit of a SET -/
def sbit (a : Int32) (c : Nat) : Int32 := (a >>> (nI c &&& 31)) &&& nI 1
def okB (a : Int32) (st : Nat → Int32) (c : Nat) : Bool := if sbit a c = nI 1 then !(decide (st c = nI 1)) else !(decide (st c = nI 2))
def fitS (a : Int32) (st : Nat → Int32) : Bool := !(decide (a = 0)) && allB (okB a st) 5
def stC (X : Nat → Int32) : Nat → Int32 := fun c => X (24 + c)
def fitN (X : Nat → Int32) (g : Nat) : Bool := decide (1 ≤ g) && decide (g ≤ 7) && fitS (X g) (stC X)
def fitI (X : Nat → Int32) (g : Int32) : Bool := gearB g && fitS (X g.toNatClampNeg) (stC X)
theorem fitI_N {X : Nat → Int32} {j : Nat} (hj : j < 2 ^ 31) : fitI X (nI j) = fitN X j := by
  unfold fitI fitN
  rw [gearB_N hj, nI_clamp hj]
theorem fitN_in {X : Nat → Int32} {g : Nat} (h1 : 1 ≤ g) (h2 : g ≤ 7) : fitN X g = fitS (X g) (stC X) := by simp [fitN, h1, h2]
theorem fitN_rng {X : Nat → Int32} {g : Nat} (h : fitN X g = true) : 1 ≤ g ∧ g ≤ 7 := by
  simp only [fitN, Bool.and_eq_true, decide_eq_true_eq] at h
  exact h.1
theorem fitN_0 {X : Nat → Int32} : fitN X 0 = false := by simp [fitN]
theorem fitI_neg {X : Nat → Int32} {g : Int32} (h : g < nI 1) : fitI X g = false := by simp [fitI, gearB, h]
/-- the next one above, below -/
def nxUp (F : Nat → Bool) : Nat → Nat → Nat
  | 0, _ => 0
  | n + 1, h => if F (h + 1) = true then h + 1 else nxUp F n (h + 1)
def nxDn (F : Nat → Bool) : Nat → Nat → Nat
  | 0, _ => 0
  | n + 1, h => if F (h - 1) = true then h - 1 else nxDn F n (h - 1)
/-- the bits of what is FIT, GEARS 1 .. n -/
def fbits (F : Nat → Bool) : Nat → Int32
  | 0 => nI 0
  | n + 1 => if F (n + 1) = true then fbits F n ||| (nI 1 <<< (nI (n + 1) &&& 31)) else fbits F n
/-- Integer.bitCount, as it counts -/
def shr5 (x : Int32) (k : Int32) : Int32 := (x.toUInt32 >>> (k.toUInt32 &&& Int32.toUInt32 31)).toInt32
def bitC (x0 : Int32) : Int32 :=
  let x1 := x0 - (shr5 x0 (nI 1) &&& 1431655765)
  let x2 := (x1 &&& 858993459) + (shr5 x1 (nI 2) &&& 858993459)
  let x3 := (x2 + shr5 x2 (nI 4)) &&& 252645135
  let x4 := x3 + shr5 x3 (nI 8)
  let x5 := x4 + shr5 x4 (nI 16)
  x5 &&& nI 63
def swapB (a b : Int32) : Bool := decide (bitC (a &&& (b ^^^ (-1))) = nI 1) && decide (bitC (b &&& (a ^^^ (-1))) = nI 1)
def simN (X : Nat → Int32) (g k : Nat) : Bool := fitN X g && fitN X k && swapB (X g) (X k)
theorem simN_rng {X : Nat → Int32} {g k : Nat} (h : simN X g k = true) : 1 ≤ g ∧ g ≤ 7 ∧ 1 ≤ k ∧ k ≤ 7 := by
  simp only [simN, Bool.and_eq_true] at h
  have h1 := fitN_rng h.1.1
  have h2 := fitN_rng h.1.2
  exact ⟨h1.1, h1.2, h2.1, h2.2⟩
def withP (a v : Int32) : Bool := !(decide (a = 0)) && decide (a &&& (v ^^^ (-1)) = 0)
def takenP (X : Nat → Int32) (g : Nat) (v : Int32) (k : Nat) : Bool := !(decide (k = g)) && !(decide (v = 0)) && decide (X k = v)
/-- which CLUTCH comes, of two SETS -/
def comS (a b : Int32) : Nat := if b &&& (a ^^^ (-1)) = nI 1 then 0 else if b &&& (a ^^^ (-1)) = nI 2 then 1 else if b &&& (a ^^^ (-1)) = nI 4 then 2 else if b &&& (a ^^^ (-1)) = nI 8 then 3 else 4
theorem comS_lt (a b : Int32) : comS a b < 5 := by
  unfold comS
  split <;> (try split) <;> (try split) <;> (try split) <;> omega
set_option maxRecDepth 100000 in
theorem comS_all : ∀ a, a < 32 → ∀ b, b < 32 → swapB (nI a) (nI b) = true → nI b &&& (nI a ^^^ (-1)) = nI (2 ^ comS (nI a) (nI b)) := by decide +kernel
/-- the row keeps its SETS within five CLUTCHES -/
def setsOK (X : Nat → Int32) : Prop := ∀ g, g ≤ 7 → ∃ a, a < 32 ∧ X g = nI a
theorem comS_bit {X : Nat → Int32} (hX : setsOK X) {g k : Nat} (hg : g ≤ 7) (hk : k ≤ 7) (h : simN X g k = true) : X k &&& (X g ^^^ (-1)) = nI (2 ^ comS (X g) (X k)) := by
  obtain ⟨a, ha, ea⟩ := hX g hg
  obtain ⟨b, hb, eb⟩ := hX k hk
  simp only [simN, Bool.and_eq_true] at h
  rw [ea, eb] at h ⊢
  exact comS_all a ha b hb h.2
def comN (X : Nat → Int32) (g k : Nat) : Int32 := if simN X g k = true then nI (comS (X g) (X k)) else -1
theorem dn_1 (a b : Int32) : a - b + (-1) = a - (b + 1) := by
  simp only [Int32.sub_eq_add_neg, Int32.neg_add, Int32.add_assoc]
theorem fit_dn {X : Nat → Int32} {g i : Nat} (hg : g ≤ 7) (hi : i ≤ 8) : fitI X (nI g - nI i) = fitN X (g - i) := by
  rcases Nat.lt_or_ge i g with h | h
  · rw [pk_sub (by omega), fitI_N (by omega)]
  · rw [show g - i = 0 by omega, fitN_0]
    rcases Nat.lt_or_ge g i with q | q
    · refine fitI_neg ?_
      have := pk_sneg (a := g) (b := i) (by omega) q
      exact Int32.lt_of_lt_of_le this (by decide)
    · rw [show g = i by omega, pk_sub (Nat.le_refl _), Nat.sub_self, fitI_N (by decide), fitN_0]
