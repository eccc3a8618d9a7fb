/-! PURE WORDS: what each order answers and does -/
def tN (a : Int32) : Nat := a.toNatClampNeg
theorem tN_N {j : Nat} (h : j < 2 ^ 31) : tN (nI j) = j := nI_clamp h
def parR (t : Bool) (X : Nat → Int32) (j : Nat) : Int32 := if t = true then X j else -2
def parX (t : Bool) (X : Nat → Int32) (j : Nat) (v : Int32) : Nat → Int32 := if t = true then upd X j v else X
def dropS (X : Nat → Int32) : Nat → Int32 := if fitI X (X 39) = true then X else upd X 39 (nI 0)
def takB (X : Nat → Int32) (g v : Int32) : Bool := !(allB (fun q9 => !(takenP X (tN g) v (q9 + 1))) 7)
def setB (g v : Int32) : Bool := gearB g && withinB v (nI 0) (nI 31)
def setR (X : Nat → Int32) (g v : Int32) : Int32 := if setB g v = true then (if takB X g v = true then -3 else X (tN g)) else -2
def setX (X : Nat → Int32) (g v : Int32) : Nat → Int32 := if setB g v = true then (if takB X g v = true then X else dropS (upd X (tN g) v)) else X
def staB (c v : Int32) : Bool := clB c && withinB v (nI 0) (nI 2)
def staR (X : Nat → Int32) (c v : Int32) : Int32 := parR (staB c v) X (24 + tN c)
def staX (X : Nat → Int32) (c v : Int32) : Nat → Int32 := dropS (parX (staB c v) X (24 + tN c) v)
def truB (c v : Int32) : Bool := clB c && withinB v (nI 1) (nI 20)
def spdB (g v : Int32) : Bool := gearB g && withinB v (nI 0) (nI 300)
def sloB (v : Int32) : Bool := withinB v (-3) (nI 3)
def driB (v : Int32) : Bool := withinB v (nI 0) (nI 3)
def tkB (v n : Int32) : Bool := withinB v (nI 0) (nI 300) && withinB n (nI 1) (nI 60)
def drvR (X : Nat → Int32) (v n : Int32) : Int32 := if tkB v n = true then nI (inN (tksS X v (tN n))) else -2
def drvX (X : Nat → Int32) (v n : Int32) : Nat → Int32 := if tkB v n = true then tksS X v (tN n) else X
def rulR (X : Nat → Int32) (w v : Int32) : Int32 := if w = 0 then parR (withinB v (nI 1) (nI 12)) X 49 else parR (decide (w = nI 1) && withinB v (nI 0) (nI 999)) X 50
def rulX (X : Nat → Int32) (w v : Int32) : Nat → Int32 := if w = 0 then parX (withinB v (nI 1) (nI 12)) X 49 v else parX (decide (w = nI 1) && withinB v (nI 0) (nI 999)) X 50 v
def putR (X : Nat → Int32) (g : Int32) : Int32 := if g = 0 then X 39 else if gearB g = true then (if fitI X g = true then X 39 else -3) else -2
def putX (X : Nat → Int32) (g : Int32) : Nat → Int32 := if g = 0 then upd X 39 g else if gearB g = true then (if fitI X g = true then upd X 39 g else X) else X
def oR (X : Nat → Int32) : Nat → Int32 → Int32 → Int32
  | 0, a, b => setR X a b
  | 1, a, b => staR X a b
  | 2, a, b => parR (truB a b) X (29 + tN a)
  | 3, a, b => parR (spdB a b) X (8 + tN a)
  | 4, a, b => parR (spdB a b) X (16 + tN a)
  | 5, a, _ => parR (sloB a) X 47
  | 6, a, _ => parR (driB a) X 48
  | 7, a, b => drvR X a b
  | 8, a, b => rulR X a b
  | 9, a, _ => putR X a
  | _, _, _ => -2
def oX (X : Nat → Int32) : Nat → Int32 → Int32 → Nat → Int32
  | 0, a, b => setX X a b
  | 1, a, b => staX X a b
  | 2, a, b => parX (truB a b) X (29 + tN a) b
  | 3, a, b => parX (spdB a b) X (8 + tN a) b
  | 4, a, b => parX (spdB a b) X (16 + tN a) b
  | 5, a, _ => parX (sloB a) X 47 (a + nI 3)
  | 6, a, _ => parX (driB a) X 48 a
  | 7, a, b => drvX X a b
  | 8, a, b => rulX X a b
  | 9, a, _ => putX X a
  | _, _, _ => X
theorem tkB_t {v n : Int32} (h : tkB v n = true) : ∃ k : Nat, 1 ≤ k ∧ k ≤ 60 ∧ n = nI k := by
  simp only [tkB, Bool.and_eq_true] at h
  exact withinB_t (by decide) (by decide) h.2
