/-! PURE WORDS: rows brought over, states kept -/
theorem cpy_00 {f g : Nat → Int32} {n : Nat} : upd (va_cpy f g 0 0 n) n (f n) = va_cpy f g 0 0 (n + 1) := by
  have h := cpy_s (f := f) (g := g) (i := 0) (j := 0) (n := n)
  rwa [Nat.zero_add] at h
theorem cpy_0j {f g : Nat → Int32} {j n : Nat} : upd (va_cpy f g 0 j n) (j + n) (f n) = va_cpy f g 0 j (n + 1) := by
  have h := cpy_s (f := f) (g := g) (i := 0) (j := j) (n := n)
  rwa [Nat.zero_add] at h
theorem cpy_i0 {f g : Nat → Int32} {i n : Nat} : upd (va_cpy f g i 0 n) n (f (i + n)) = va_cpy f g i 0 (n + 1) := by
  have h := cpy_s (f := f) (g := g) (i := i) (j := 0) (n := n)
  rwa [Nat.zero_add] at h
theorem cpy_at {f g : Nat → Int32} {i j n k : Nat} (h : k < n) : va_cpy f g i j n (j + k) = f (i + k) := by
  rw [pk_cpy_in (by omega) (by omega)]
  exact congrArg f (by omega)
theorem cpy_out {f g : Nat → Int32} {i j n k : Nat} (h : k < j ∨ j + n ≤ k) : va_cpy f g i j n k = g k := pk_cpy_out (by omega)
/-- a row brought back whole -/
theorem cpy_now {G : Nat → Int32} {X Y : Nat → Int32} {i : Nat} (h : ∀ k, k < 51 → G (i + k) = mrow Y k) : va_cpy G (mrow X) i 0 51 = mrow Y := by
  funext k
  rcases Nat.lt_or_ge k 51 with q | q
  · have e := cpy_at (f := G) (g := mrow X) (i := i) (j := 0) q
    rw [Nat.zero_add] at e
    rw [e, h k q]
  · rw [cpy_out (by omega)]
    unfold mrow
    rw [if_neg (by omega), if_neg (by omega)]
def pastOK (P : Nat → Int32) (K : Nat → Nat → Int32) (nn : Nat) : Prop := ∀ i, i < nn → ∀ k, k < 51 → P (51 * i + k) = mrow (K i) k
theorem fin_b {P A : Nat → Int32} {K : Nat → Nat → Int32} {nn : Nat} {X : Nat → Int32} (hP : pastOK P K nn) (hA : ∀ k, k < 51 → A k = mrow X k) (h : nn < 5) : pastOK (va_cpy A P 0 (51 * nn) 51) (psh K nn X) (min (nn + 1) 5) := by
  intro i hi k hk
  unfold psh
  rw [if_neg (by omega)]
  by_cases e : i = nn
  · rw [if_pos e, e, cpy_at hk, Nat.zero_add, hA k hk]
  · rw [if_neg e, cpy_out (by omega)]
    exact hP i (by omega) k hk
theorem fin_a {P A : Nat → Int32} {K : Nat → Nat → Int32} {nn : Nat} {X : Nat → Int32} (hP : pastOK P K nn) (hA : ∀ k, k < 51 → A k = mrow X k) (h : nn = 5) : pastOK (va_cpy A (va_cpy P P 51 0 204) 0 (51 * (nn - 1)) 51) (psh K nn X) (min (nn + 1) 5) := by
  subst h
  intro i hi k hk
  unfold psh
  rw [if_pos rfl]
  by_cases e : i = 4
  · subst e
    rw [if_pos rfl, show 51 * (5 - 1) = 51 * 4 from rfl, cpy_at hk, Nat.zero_add, hA k hk]
  · rw [if_neg e, cpy_out (by omega)]
    have q := cpy_at (f := P) (g := P) (i := 51) (j := 0) (n := 204) (k := 51 * i + k) (by omega)
    rw [Nat.zero_add] at q
    rw [q, show 51 + (51 * i + k) = 51 * (i + 1) + k by omega]
    exact hP (i + 1) (by omega) k hk
