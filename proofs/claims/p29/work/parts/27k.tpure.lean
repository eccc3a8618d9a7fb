/-! PURE WORDS: THE TEXT as the class reads it -/
def txR (L o p : Nat) : Nat → Int32 := fun j => if j = 4 then nI L else if j = 5 then nI o else if j = 6 then nI p else 0
theorem txR_4 (L o p q : Nat) : upd (txR L o p) 4 (nI q) = txR q o p := by
  funext j
  unfold upd txR
  by_cases h : j = 4 <;> simp [h]
theorem txR_5 (L o p q : Nat) : upd (txR L o p) 5 (nI q) = txR L q p := by
  funext j
  unfold upd txR
  by_cases h : j = 5
  · simp [h]
  · simp [h]
theorem txR_6 (L o p q : Nat) : upd (txR L o p) 6 (nI q) = txR L o q := by
  funext j
  unfold upd txR
  by_cases h : j = 6
  · simp [h]
  · simp [h]
def nxt (B : Nat → Int32) (L p : Nat) : Int32 := if p < L then B p else -1
def figB (B : Nat → Int32) (L p : Nat) : Bool := !(decide (nxt B L p < nI 48)) && !(decide (nI 57 < nxt B L p))
def skF (B : Nat → Int32) : Nat → Nat → Nat
  | 0, p => p
  | n + 1, p => if B p = nI 32 then skF B n (p + 1) else p
def skB (B : Nat → Int32) (L p : Nat) : Nat := skF B (L - p) p
def nvF (B : Nat → Int32) (L p : Nat) : Nat → Int32
  | 0 => nI 0
  | k + 1 => nI 10 * nvF B L p k + nxt B L (p + k) - nI 48
def nk (B : Nat → Int32) (L p : Nat) : Nat := if figB B L p = false then 0 else if figB B L (p + 1) = false then 1 else if figB B L (p + 2) = false then 2 else 3
def numR (B : Nat → Int32) (L p : Nat) : Int32 := if nk B L p = 0 ∨ figB B L (p + nk B L p) = true then -1 else nvF B L p (nk B L p)
theorem figB_lt {B : Nat → Int32} {L p : Nat} (h : figB B L p = true) : p < L := by
  rcases Nat.lt_or_ge p L with q | q
  · exact q
  · exfalso
    have e : nxt B L p = -1 := if_neg (by omega)
    unfold figB at h
    rw [e] at h
    exact absurd h (by decide)
theorem skF_le (B : Nat → Int32) : ∀ n p, p ≤ skF B n p ∧ skF B n p ≤ p + n
  | 0, p => ⟨Nat.le_refl _, Nat.le_refl _⟩
  | n + 1, p => by
    unfold skF
    by_cases h : B p = nI 32
    · rw [if_pos h]
      have := skF_le B n (p + 1)
      omega
    · rw [if_neg h]
      omega
theorem skB_le {B : Nat → Int32} {L p : Nat} (h : p ≤ L) : p ≤ skB B L p ∧ skB B L p ≤ L := by
  have := skF_le B (L - p) p
  unfold skB
  omega
theorem skB_go {B : Nat → Int32} {L p : Nat} (h : p < L) (h2 : B p = nI 32) : skB B L p = skB B L (p + 1) := by
  unfold skB
  rw [show L - p = (L - (p + 1)) + 1 by omega]
  show (if B p = nI 32 then _ else _) = _
  rw [if_pos h2]
theorem skB_no {B : Nat → Int32} {L p : Nat} (h2 : p < L → ¬ B p = nI 32) : skB B L p = p := by
  unfold skB
  rcases Nat.lt_or_ge p L with q | q
  · rw [show L - p = (L - (p + 1)) + 1 by omega]
    show (if B p = nI 32 then _ else _) = _
    rw [if_neg (h2 q)]
  · rw [show L - p = 0 by omega]
    rfl
theorem nk_le {B : Nat → Int32} {L p : Nat} (h : p ≤ L) : nk B L p ≤ 3 ∧ p + nk B L p ≤ L := by
  unfold nk
  by_cases h0 : figB B L p = false
  · rw [if_pos h0]; omega
  · rw [if_neg h0]
    have q0 := figB_lt (by simpa using h0)
    by_cases h1 : figB B L (p + 1) = false
    · rw [if_pos h1]; omega
    · rw [if_neg h1]
      have q1 := figB_lt (by simpa using h1)
      by_cases h2 : figB B L (p + 2) = false
      · rw [if_pos h2]; omega
      · rw [if_neg h2]
        have q2 := figB_lt (by simpa using h2)
        omega
/-- the loop's end: k figures, and then none or three -/
theorem nk_is {B : Nat → Int32} {L p k : Nat} (hk : k ≤ 3) (h : ∀ j, j < k → figB B L (p + j) = true) (he : k = 3 ∨ figB B L (p + k) = false) : nk B L p = k := by
  unfold nk
  rcases (show k = 0 ∨ k = 1 ∨ k = 2 ∨ k = 3 by omega) with rfl | rfl | rfl | rfl
  · rw [if_pos (show figB B L p = false from he.resolve_left (by omega))]
  · rw [if_neg (by simp [show figB B L p = true from h 0 (by omega)]), if_pos (he.resolve_left (by omega))]
  · rw [if_neg (by simp [show figB B L p = true from h 0 (by omega)]), if_neg (by simp [h 1 (by omega)]), if_pos (he.resolve_left (by omega))]
  · rw [if_neg (by simp [show figB B L p = true from h 0 (by omega)]), if_neg (by simp [h 1 (by omega)]), if_neg (by simp [h 2 (by omega)])]
/-- one ORDER -/
def byOK (B : Nat → Int32) (L : Nat) : Prop := ∀ j, j < L → ∃ x, x < 128 ∧ B j = nI x
def oL (B : Nat → Int32) (L p : Nat) : Nat := if p < L then lixN (tN (B p)) else 8
def oq1 (B : Nat → Int32) (L p : Nat) : Nat := skB B L (p + 1)
def oN (B : Nat → Int32) (L p : Nat) : Bool := decide (oL B L p = 5) && decide (nxt B L (oq1 B L p) = nI 45)
def oq2 (B : Nat → Int32) (L p : Nat) : Nat := if oN B L p = true then oq1 B L p + 1 else oq1 B L p
def oA (B : Nat → Int32) (L p : Nat) : Int32 := numR B L (oq2 B L p)
def oq3 (B : Nat → Int32) (L p : Nat) : Nat := oq2 B L p + nk B L (oq2 B L p)
def oTwo (B : Nat → Int32) (L p : Nat) : Bool := !(decide (oL B L p = 5)) && !(decide (oL B L p = 6))
def oq4 (B : Nat → Int32) (L p : Nat) : Nat := skB B L (oq3 B L p)
def oB (B : Nat → Int32) (L p : Nat) : Int32 := if oTwo B L p = true then numR B L (oq4 B L p) else nI 0
def oq5 (B : Nat → Int32) (L p : Nat) : Nat := if oTwo B L p = true then oq4 B L p + nk B L (oq4 B L p) else oq3 B L p
def oq6 (B : Nat → Int32) (L p : Nat) : Nat := skB B L (oq5 B L p)
def oAs (B : Nat → Int32) (L p : Nat) : Int32 := if oN B L p = true then -(oA B L p) else oA B L p
/-- where it goes wrong -/
def oF (B : Nat → Int32) (L p : Nat) : Option Nat :=
  if oL B L p = 8 then some p else if oA B L p = -1 then some (oq3 B L p) else if oB B L p = -1 then some (oq5 B L p) else if nxt B L (oq6 B L p) = nI 59 then none else some (oq6 B L p)
theorem nxt_lt {B : Nat → Int32} {L p x : Nat} (hx : x < 2 ^ 31) (h : nxt B L p = nI x) : p < L := by
  rcases Nat.lt_or_ge p L with q | q
  · exact q
  · exfalso
    have e : nxt B L p = -1 := if_neg (by omega)
    rw [e] at h
    exact nI_nm1 hx h.symm
theorem oq_le {B : Nat → Int32} {L p : Nat} (h : p < L) : p + 1 ≤ oq1 B L p ∧ oq1 B L p ≤ oq2 B L p ∧ oq2 B L p ≤ oq3 B L p ∧ oq3 B L p ≤ oq5 B L p ∧ oq5 B L p ≤ oq6 B L p ∧ oq6 B L p ≤ L ∧ oq3 B L p ≤ oq4 B L p ∧ oq4 B L p ≤ L := by
  have h1 := skB_le (B := B) (show p + 1 ≤ L from h)
  have h2 : oq1 B L p ≤ oq2 B L p ∧ oq2 B L p ≤ L := by
    unfold oq2
    by_cases q : oN B L p = true
    · rw [if_pos q]
      simp only [oN, Bool.and_eq_true, decide_eq_true_eq] at q
      have := nxt_lt (by decide) q.2
      omega
    · rw [if_neg q]
      exact ⟨Nat.le_refl _, h1.2⟩
  have h3 := nk_le (B := B) h2.2
  have h4 := skB_le (B := B) h3.2
  have h5 : oq3 B L p ≤ oq5 B L p ∧ oq5 B L p ≤ L := by
    have k := nk_le (B := B) h4.2
    unfold oq5
    by_cases q : oTwo B L p = true
    · rw [if_pos q]
      exact ⟨Nat.le_trans h4.1 (Nat.le_add_right _ _), k.2⟩
    · rw [if_neg q]
      exact ⟨Nat.le_refl _, h3.2⟩
  have h6 := skB_le (B := B) h5.2
  exact ⟨h1.1, h2.1, Nat.le_add_right _ _, h5.1, h6.1, h6.2, h4.1, h4.2⟩
theorem oL_lt {B : Nat → Int32} {L p : Nat} (h : ¬ oL B L p = 8) : p < L := by
  rcases Nat.lt_or_ge p L with q | q
  · exact q
  · exact absurd (if_neg (by omega)) h
theorem oF_none {B : Nat → Int32} {L p : Nat} (h : oF B L p = none) : p + 3 ≤ oq6 B L p + 1 ∧ oq6 B L p < L ∧ oL B L p < 8 ∧ ¬ oA B L p = -1 ∧ ¬ oB B L p = -1 ∧ nxt B L (oq6 B L p) = nI 59 := by
  unfold oF at h
  by_cases h1 : oL B L p = 8
  · rw [if_pos h1] at h; cases h
  · rw [if_neg h1] at h
    by_cases h2 : oA B L p = -1
    · rw [if_pos h2] at h; cases h
    · rw [if_neg h2] at h
      by_cases h3 : oB B L p = -1
      · rw [if_pos h3] at h; cases h
      · rw [if_neg h3] at h
        by_cases h4 : nxt B L (oq6 B L p) = nI 59
        · have hp := oL_lt h1
          have hq := oq_le (B := B) hp
          have hl : oL B L p ≤ 8 := by
            rw [oL, if_pos hp]
            exact lixN_le _
          have hk : oq2 B L p + 1 ≤ oq3 B L p := by
            unfold oq3
            have : ¬ nk B L (oq2 B L p) = 0 := fun z => h2 (if_pos (Or.inl z))
            omega
          have := nxt_lt (by decide) h4
          exact ⟨by omega, this, by omega, h2, h3, h4⟩
        · rw [if_neg h4] at h; cases h
/-- where the i-th ORDER begins -/
def oP (B : Nat → Int32) (L : Nat) : Nat → Nat
  | 0 => skB B L 0
  | i + 1 => skB B L (oq6 B L (oP B L i) + 1)
theorem oP_le {B : Nat → Int32} {L : Nat} : ∀ i, (∀ j, j < i → oF B L (oP B L j) = none) → 3 * i ≤ oP B L i ∧ oP B L i ≤ L
  | 0, _ => ⟨Nat.zero_le _, (skB_le (Nat.zero_le L)).2⟩
  | i + 1, h => by
    have h1 := oP_le i (fun j hj => h j (by omega))
    have h2 := oF_none (h i (by omega))
    have h3 := skB_le (B := B) (show oq6 B L (oP B L i) + 1 ≤ L by omega)
    show 3 * (i + 1) ≤ skB B L _ ∧ skB B L _ ≤ L
    omega
set_option maxRecDepth 100000 in
theorem i2c_all : ∀ x, x < 128 → ((nI x).toUInt32 % 65536).toInt32 = nI x := by decide +kernel
theorem nxt_neg {B : Nat → Int32} {L p : Nat} (hB : byOK B L) (h : ¬ 0 ≤ nxt B L p) : ¬ p < L := by
  intro q
  obtain ⟨x, hx, e⟩ := hB p q
  rw [nxt, if_pos q, e] at h
  exact h (nI_pos' (by omega))
theorem nxt_pos {B : Nat → Int32} {L p : Nat} (hB : byOK B L) (h : 0 ≤ nxt B L p) : p < L ∧ ∃ x, x < 128 ∧ B p = nI x := by
  rcases Nat.lt_or_ge p L with q | q
  · exact ⟨q, hB p q⟩
  · rw [nxt, if_neg (by omega)] at h
    exact absurd h (by decide)
theorem lixI_t {x : Nat} (h : 0 ≤ lixI x) : lixN x < 8 := by
  rcases Nat.lt_or_ge (lixN x) 8 with q | q
  · exact q
  · rw [lixI, if_neg (by omega)] at h
    exact absurd h (by decide)
theorem lixI_f {x : Nat} (h : ¬ 0 ≤ lixI x) : lixN x = 8 := by
  have := lixN_le x
  rcases Nat.lt_or_ge (lixN x) 8 with q | q
  · rw [lixI, if_pos q] at h
    exact absurd (nI_pos' (by omega)) h
  · omega
theorem oF_le {B : Nat → Int32} {L p q : Nat} (hp : p ≤ L) (h : oF B L p = some q) : q ≤ L := by
  unfold oF at h
  by_cases h1 : oL B L p = 8
  · rw [if_pos h1] at h; cases h; exact hp
  · rw [if_neg h1] at h
    have hq := oq_le (B := B) (oL_lt h1)
    by_cases h2 : oA B L p = -1
    · rw [if_pos h2] at h; cases h; omega
    · rw [if_neg h2] at h
      by_cases h3 : oB B L p = -1
      · rw [if_pos h3] at h; cases h; omega
      · rw [if_neg h3] at h
        by_cases h4 : nxt B L (oq6 B L p) = nI 59
        · rw [if_pos h4] at h; cases h
        · rw [if_neg h4] at h; cases h; omega
theorem n_po (σ : St) (a b c t a' b' c' : Nat → Int32) : up2 (up2 (up2 (up2 (up2 (up2 (up2 σ 19 a) 20 b) 21 c) 17 t) 19 a') 20 b') 21 c' = up2 (up2 (up2 (up2 σ 17 t) 19 a') 20 b') 21 c' := by
  funext i
  unfold up2
  by_cases h1 : i = 21
  · simp [h1]
  · by_cases h2 : i = 20
    · simp [h2]
    · by_cases h3 : i = 19
      · simp [h3]
      · by_cases h4 : i = 17
        · simp [h4]
        · simp [h1, h2, h3, h4]
/-- what the orders told are, in the class's rows -/
def ordsC (B : Nat → Int32) (L n : Nat) (n1 n2 n3 : Nat → Int32) : Prop := ∀ j, j < n → oF B L (oP B L j) = none ∧ n1 j = nI (oL B L (oP B L j)) ∧ n2 j = oAs B L (oP B L j) ∧ n3 j = oB B L (oP B L j)
theorem ordsC_push {B : Nat → Int32} {L n : Nat} {n1 n2 n3 : Nat → Int32} (h : ordsC B L n n1 n2 n3) (hf : oF B L (oP B L n) = none) : ordsC B L (n + 1) (upd n1 n (nI (oL B L (oP B L n)))) (upd n2 n (oAs B L (oP B L n))) (upd n3 n (oB B L (oP B L n))) := by
  intro j hj
  rcases Nat.lt_or_ge j n with q | q
  · obtain ⟨a, b, c, d⟩ := h j q
    exact ⟨a, by rw [upd_ne (by omega)]; exact b, by rw [upd_ne (by omega)]; exact c, by rw [upd_ne (by omega)]; exact d⟩
  · obtain rfl : j = n := by omega
    exact ⟨hf, upd_same _ _ _, upd_same _ _ _, upd_same _ _ _⟩
/-- what the text tells: n orders, and -1, or the place of the fault behind them -/
def prsC (B : Nat → Int32) (L n : Nat) (r : Int32) : Prop := n ≤ 50 ∧ (∀ j, j < n → oF B L (oP B L j) = none) ∧ (∀ j, 0 < j → j < n → oP B L j < L) ∧ ((r = -1 ∧ 0 < n ∧ L ≤ oP B L n) ∨ ∃ qf, r = nI qf ∧ qf ≤ L ∧ oF B L (oP B L n) = some qf ∧ (n = 0 ∨ oP B L n < L))
