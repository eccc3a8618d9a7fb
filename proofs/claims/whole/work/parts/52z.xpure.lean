/-! PURE WORDS: THE TEXT read byte by byte, beside the class's reading -/
def wantN (x : Nat) : Nat := if lixN x = 5 ∨ lixN x = 6 then 1 else 2
def wantI (x : Nat) : Int32 := if lixN x = 8 then -1 else nI (wantN x)
def bgB (l b : Nat) (w : Bool) : Bool := !(decide (b = wantN l)) && !(w && !(decide (l = 115)))
def qF (B : Nat → Int32) (L : Nat) : Nat → Nat
  | 0 => 0
  | j + 1 => qF B L j + (if oTwo B L (oP B L j) = true then 2 else 1)
def sgN (b : Bool) (v : Int32) : Int32 := if b = true then -v else v
def LTp (B : Nat → Int32) (L k l p : Nat) : Prop := p < L ∧ p < k ∧ B p = nI l ∧ l < 128 ∧ lixN l < 8
def phG1 (B : Nat → Int32) (L k p b : Nat) (w : Bool) (a : Int32) : Prop := w = false ∧ b = 1 ∧ skB B L k = oq4 B L p ∧ ¬ oA B L p = -1 ∧ a = oAs B L p
def phG2 (B : Nat → Int32) (L k p b : Nat) (w : Bool) (a a2 : Int32) : Prop := oTwo B L p = true ∧ w = false ∧ b = 2 ∧ skB B L k = oq6 B L p ∧ ¬ oA B L p = -1 ∧ ¬ oB B L p = -1 ∧ a = oAs B L p ∧ a2 = oB B L p
def phA (B : Nat → Int32) (L k p b : Nat) (w : Bool) : Prop := w = false ∧ b = 0 ∧ skB B L k = oq1 B L p
def phW (B : Nat → Int32) (L k p b : Nat) (w n : Bool) (a : Int32) : Prop := w = true ∧ n = true ∧ oN B L p = true ∧ b = 1 ∧ k = oq2 B L p ∧ a = nI 0
def phN1 (B : Nat → Int32) (L k p b f : Nat) (w n : Bool) (a : Int32) : Prop := w = false ∧ n = oN B L p ∧ b = 1 ∧ 1 ≤ f ∧ f ≤ 3 ∧ k = oq2 B L p + f ∧ (∀ j, j < f → figB B L (oq2 B L p + j) = true) ∧ a = sgN (oN B L p) (nvF B L (oq2 B L p) f)
def phN2 (B : Nat → Int32) (L k p b f : Nat) (w n : Bool) (a a2 : Int32) : Prop := oTwo B L p = true ∧ w = false ∧ n = false ∧ b = 2 ∧ 1 ≤ f ∧ f ≤ 3 ∧ k = oq4 B L p + f ∧ (∀ j, j < f → figB B L (oq4 B L p + j) = true) ∧ ¬ oA B L p = -1 ∧ a = oAs B L p ∧ a2 = nvF B L (oq4 B L p) f
def PHi (B : Nat → Int32) (L k o l b f : Nat) (w n : Bool) (NU : Nat → Int32) : Prop :=
  LTp B L k l (oP B L o) ∧ ((f = 0 ∧ phA B L k (oP B L o) b w) ∨ (f = 0 ∧ phW B L k (oP B L o) b w n (NU (qF B L o))) ∨ phN1 B L k (oP B L o) b f w n (NU (qF B L o)) ∨ (f = 0 ∧ phG1 B L k (oP B L o) b w (NU (qF B L o))) ∨ phN2 B L k (oP B L o) b f w n (NU (qF B L o)) (NU (qF B L o + 1)) ∨ (f = 0 ∧ phG2 B L k (oP B L o) b w (NU (qF B L o)) (NU (qF B L o + 1))))
def ordsM (B : Nat → Int32) (L o : Nat) (OL OF NU : Nat → Int32) : Prop :=
  (∀ j, j < o → oF B L (oP B L j) = none ∧ OL j = B (oP B L j) ∧ NU (qF B L j) = oAs B L (oP B L j) ∧ (oTwo B L (oP B L j) = true → NU (qF B L j + 1) = oB B L (oP B L j))) ∧ (∀ j, j ≤ o → OF j = nI (qF B L j))
def PH (B : Nat → Int32) (L k o l b f : Nat) (w n : Bool) (OL OF NU : Nat → Int32) : Prop :=
  k ≤ L ∧ ordsM B L o OL OF NU ∧ ((l = 0 ∧ w = false ∧ skB B L k = oP B L o) ∨ (PHi B L k o l b f w n NU ∧ OL o = B (oP B L o)))
theorem lix_128 {l : Nat} (h : lixN l < 8) : l ≠ 0 ∧ (l = 115 ↔ lixN l = 5) := by
  unfold lixN at h ⊢
  constructor
  · intro e
    subst e
    exact absurd h (by decide)
  · (repeat' split) <;> first | omega | (constructor <;> intro e <;> omega)
theorem LT_oL {B : Nat → Int32} {L k l p : Nat} (h : LTp B L k l p) : oL B L p = lixN l := by rw [oL, if_pos h.1, h.2.2.1, tN_N (Nat.lt_trans h.2.2.2.1 (by decide))]
theorem LT_two {B : Nat → Int32} {L k l p : Nat} (h : LTp B L k l p) : (oTwo B L p = true ↔ wantN l = 2) ∧ (oTwo B L p = false ↔ wantN l = 1) := by
  rw [oTwo, LT_oL h, wantN]
  by_cases h5 : lixN l = 5
  · simp [h5]
  · by_cases h6 : lixN l = 6
    · simp [h6]
    · simp [h5, h6]
theorem LT_up {B : Nat → Int32} {L k k' l p : Nat} (h : LTp B L k l p) (hk : k ≤ k') : LTp B L k' l p := ⟨h.1, Nat.lt_of_lt_of_le h.2.1 hk, h.2.2⟩
theorem LT_n8 {B : Nat → Int32} {L k l p : Nat} (h : LTp B L k l p) : ¬ oL B L p = 8 := by rw [LT_oL h]; have := h.2.2.2.2; omega
theorem fig_t {B : Nat → Int32} {L k : Nat} (h : figB B L k = true) : k < L ∧ ∃ d, d < 10 ∧ B k = nI (48 + d) ∧ nxt B L k = nI (48 + d) := by
  have hl := figB_lt h
  have e : nxt B L k = B k := if_pos hl
  unfold figB at h
  rw [e] at h
  obtain ⟨j, j1, j2, hj⟩ := withinB_t (a := 48) (b := 57) (by decide) (by decide) h
  exact ⟨hl, j - 48, by omega, by rw [hj]; exact congrArg nI (by omega), by rw [e, hj]; exact congrArg nI (by omega)⟩
theorem nvF_nat {B : Nat → Int32} {L p : Nat} : ∀ f, (∀ j, j < f → figB B L (p + j) = true) → ∃ v, v < 10 ^ f ∧ nvF B L p f = nI v
  | 0, _ => ⟨0, by decide, rfl⟩
  | f + 1, h => by
    obtain ⟨v, hv, e⟩ := nvF_nat f (fun j hj => h j (by omega))
    obtain ⟨-, d, hd, -, e2⟩ := fig_t (h f (by omega))
    refine ⟨10 * v + d, by rw [Nat.pow_succ]; omega, ?_⟩
    show nI 10 * nvF B L p f + nxt B L (p + f) - nI 48 = _
    rw [e, e2, pk_mul, nI_add, pk_sub (by omega)]
    exact congrArg nI (by omega)
theorem nvF_nm1 {B : Nat → Int32} {L p f : Nat} (hf : f ≤ 3) (h : ∀ j, j < f → figB B L (p + j) = true) : ¬ nvF B L p f = -1 := by
  obtain ⟨v, hv, e⟩ := nvF_nat f h
  have : 10 ^ f ≤ 10 ^ 3 := Nat.pow_le_pow_right (by decide) hf
  rw [e]
  exact fun q => nI_nm1 (by omega) q
/-- figures, and then none -/
theorem num_end {B : Nat → Int32} {L p f : Nat} (h1 : 1 ≤ f) (hf : f ≤ 3) (h : ∀ j, j < f → figB B L (p + j) = true) (he : figB B L (p + f) = false) : nk B L p = f ∧ numR B L p = nvF B L p f := by
  have e := nk_is hf h (Or.inr he)
  exact ⟨e, by rw [numR, e, if_neg (by rintro (z | z); omega; rw [he] at z; cases z)]⟩
theorem num_four {B : Nat → Int32} {L p : Nat} (h : ∀ j, j < 3 → figB B L (p + j) = true) (he : figB B L (p + 3) = true) : nk B L p = 3 ∧ numR B L p = -1 := by
  have e := nk_is (Nat.le_refl 3) h (Or.inl rfl)
  exact ⟨e, by rw [numR, e, if_pos (Or.inr he)]⟩
theorem num_none {B : Nat → Int32} {L p : Nat} (he : figB B L p = false) : nk B L p = 0 ∧ numR B L p = -1 := by
  have e : nk B L p = 0 := if_pos he
  exact ⟨e, by rw [numR, e, if_pos (Or.inl rfl)]⟩
theorem oq4_le {B : Nat → Int32} {L p : Nat} (h : p < L) : p + 1 ≤ oq1 B L p ∧ p + 1 ≤ oq2 B L p ∧ p + 1 ≤ oq4 B L p ∧ p + 1 ≤ oq6 B L p := by
  have := oq_le (B := B) h
  omega
theorem sk_at {B : Nat → Int32} {L k : Nat} (h : k < L → ¬ B k = nI 32) : skB B L k = k := skB_no h
/-- what an order is, where the byte that comes is no figure -/
theorem ph_nf {B : Nat → Int32} {L k o l b f : Nat} {w n : Bool} {NU : Nat → Int32} (h : PHi B L k o l b f w n NU) (hf : figB B L k = false) :
    LTp B L k l (oP B L o) ∧ (phA B L k (oP B L o) b w ∨ phW B L k (oP B L o) b w n (NU (qF B L o)) ∨ phG1 B L k (oP B L o) b w (NU (qF B L o)) ∨ phG2 B L k (oP B L o) b w (NU (qF B L o)) (NU (qF B L o + 1))) := by
  obtain ⟨hl, h⟩ := h
  refine ⟨hl, ?_⟩
  rcases h with h | h | h | h | h | h
  · exact Or.inl h.2
  · exact Or.inr (Or.inl h.2)
  · obtain ⟨h1, h2, h3, h4, h5, h6, h7, h8⟩ := h
    obtain ⟨e1, e2⟩ := num_end h4 h5 h7 (by rw [← h6]; exact hf)
    refine Or.inr (Or.inr (Or.inl ⟨h1, h3, ?_, ?_, ?_⟩))
    · rw [oq4, oq3, e1, ← h6]
    · rw [oA, e2]
      exact nvF_nm1 h5 h7
    · rw [h8, oAs, oA, e2]
      rfl
  · exact Or.inr (Or.inr (Or.inl h.2))
  · obtain ⟨h0, h1, h2, h3, h4, h5, h6, h7, h8, h9, h10⟩ := h
    obtain ⟨e1, e2⟩ := num_end h4 h5 h7 (by rw [← h6]; exact hf)
    refine Or.inr (Or.inr (Or.inr ⟨h0, h1, h3, ?_, h8, ?_, h9, ?_⟩))
    · rw [oq6, oq5, if_pos h0, e1, ← h6]
    · rw [oB, if_pos h0, e2]
      exact nvF_nm1 h5 h7
    · rw [h10, oB, if_pos h0, e2]
  · exact Or.inr (Or.inr (Or.inr h.2))
theorem prs_fault {B : Nat → Int32} {L k o : Nat} {OL OF NU : Nat → Int32} (hL : L ≤ 150) (hk : k ≤ L) (hM : ordsM B L o OL OF NU) (hf : oF B L (oP B L o) = some k) (hn : o = 0 ∨ oP B L o < L) : prsC B L o (nI k) := by
  have h1 := oP_le (B := B) (L := L) o (fun j hj => (hM.1 j hj).1)
  refine ⟨by omega, fun j hj => (hM.1 j hj).1, fun j _ hj => ?_, Or.inr ⟨k, rfl, hk, hf, hn⟩⟩
  have := oF_none (hM.1 j hj).1
  omega
/-- a byte that cannot stand there, or the end -/
theorem ph_bad {B : Nat → Int32} {L k o l b f : Nat} {w n : Bool} {OL OF NU : Nat → Int32} (hL : L ≤ 150) (hk : k ≤ L) (hM : ordsM B L o OL OF NU) (h : PHi B L k o l b f w n NU) (hf : figB B L k = false) (hb : w = true ∨ (k < L → ¬ B k = nI 32))
    (h59 : w = false → ¬ (nxt B L k = nI 59 ∧ b = wantN l)) (h45 : w = false → ¬ (nxt B L k = nI 45 ∧ b = 0 ∧ l = 115)) : ∃ m, prsC B L m (nI k) := by
  obtain ⟨hl, h⟩ := ph_nf h hf
  have h8 := LT_n8 hl
  have h2 := LT_two hl
  have hwn : wantN l = 1 ∨ wantN l = 2 := by unfold wantN; split <;> omega
  refine ⟨o, prs_fault hL hk hM ?_ (Or.inr hl.1)⟩
  rw [oF, if_neg h8]
  rcases h with h | h | h | h
  · obtain ⟨a1, a2, a3⟩ := h
    have e1 : oq1 B L (oP B L o) = k := by rw [← a3]; exact sk_at (hb.resolve_left (by rw [a1]; decide))
    have eN : oN B L (oP B L o) = false := by
      rw [oN, e1, LT_oL hl]
      by_cases q5 : lixN l = 5
      · have : ¬ nxt B L k = nI 45 := fun q => h45 a1 ⟨q, a2, (lix_128 hl.2.2.2.2).2.mpr q5⟩
        simp [this]
      · simp [q5]
    have e2 : oq2 B L (oP B L o) = k := by rw [oq2, eN, e1]; rfl
    obtain ⟨n1, n2⟩ := num_none hf
    have eA : oA B L (oP B L o) = -1 := by rw [oA, e2, n2]
    rw [if_pos eA, oq3, e2, n1]
    rfl
  · obtain ⟨a1, a2, a3, a4, a5, a6⟩ := h
    obtain ⟨n1, n2⟩ := num_none hf
    have eA : oA B L (oP B L o) = -1 := by rw [oA, ← a5, n2]
    rw [if_pos eA, oq3, ← a5, n1]
    rfl
  · obtain ⟨a1, a2, a3, a4, a5⟩ := h
    have e4 : oq4 B L (oP B L o) = k := by rw [← a3]; exact sk_at (hb.resolve_left (by rw [a1]; decide))
    rw [if_neg a4]
    rcases hwn with q | q
    · have t := h2.2.mpr q
      have eB : ¬ oB B L (oP B L o) = -1 := by rw [oB, t, if_neg (by decide)]; decide
      have e6 : oq6 B L (oP B L o) = k := by rw [oq6, oq5, t]; exact e4
      rw [if_neg eB, e6, if_neg (fun z => h59 a1 ⟨z, by omega⟩)]
    · have t := h2.1.mpr q
      obtain ⟨n1, n2⟩ := num_none hf
      have eB : oB B L (oP B L o) = -1 := by rw [oB, if_pos t, e4, n2]
      rw [if_pos eB, oq5, if_pos t, e4, n1]
      rfl
  · obtain ⟨a0, a1, a2, a3, a4, a5, a6, a7⟩ := h
    have e6 : oq6 B L (oP B L o) = k := by rw [← a3]; exact sk_at (hb.resolve_left (by rw [a1]; decide))
    rw [if_neg a4, if_neg a5, e6, if_neg (fun z => h59 a1 ⟨z, by rw [h2.1.mp a0]; omega⟩)]
/-- a figure too many, or where none can stand -/
theorem ph_fig3 {B : Nat → Int32} {L k o l b f : Nat} {w n : Bool} {OL OF NU : Nat → Int32} (hL : L ≤ 150) (hM : ordsM B L o OL OF NU) (h : PHi B L k o l b f w n NU) (hf : figB B L k = true) (h3 : 0 < f) (h4 : ¬ f < 3) : ∃ m, prsC B L m (nI k) := by
  obtain ⟨hl, h⟩ := h
  refine ⟨o, prs_fault hL (Nat.le_of_lt (figB_lt hf)) hM ?_ (Or.inr hl.1)⟩
  rw [oF, if_neg (LT_n8 hl)]
  rcases h with h | h | h | h | h | h
  · omega
  · omega
  · obtain ⟨h1, h2, h3, h4, h5, h6, h7, h8⟩ := h
    obtain rfl : f = 3 := by omega
    obtain ⟨n1, n2⟩ := num_four h7 (by rw [← h6]; exact hf)
    have eA : oA B L (oP B L o) = -1 := by rw [oA, n2]
    rw [if_pos eA, oq3, n1, ← h6]
  · omega
  · obtain ⟨h0, h1, h2, h3, h4, h5, h6, h7, h8, h9, h10⟩ := h
    obtain rfl : f = 3 := by omega
    obtain ⟨n1, n2⟩ := num_four h7 (by rw [← h6]; exact hf)
    have eB : oB B L (oP B L o) = -1 := by rw [oB, if_pos h0, n2]
    rw [if_neg h8, if_pos eB, oq5, if_pos h0, n1, ← h6]
  · omega
theorem fig_n32 {B : Nat → Int32} {L k : Nat} (hf : figB B L k = true) : ¬ B k = nI 32 := by
  obtain ⟨-, d, hd, e, -⟩ := fig_t hf
  rw [e]
  exact fun q => absurd ((nI_eq (by omega) (by omega)).mp q) (by omega)
theorem fig_nx {B : Nat → Int32} {L k x : Nat} (hx : x < 48) (hf : figB B L k = true) : ¬ nxt B L k = nI x := by
  obtain ⟨-, d, hd, -, e⟩ := fig_t hf
  rw [e]
  exact fun q => absurd ((nI_eq (by omega) (by omega)).mp q) (by omega)
theorem fig_n59 {B : Nat → Int32} {L k : Nat} (hf : figB B L k = true) : ¬ nxt B L k = nI 59 := by
  obtain ⟨-, d, hd, -, e⟩ := fig_t hf
  rw [e]
  exact fun q => absurd ((nI_eq (by omega) (by omega)).mp q) (by omega)
theorem ph_fig0 {B : Nat → Int32} {L k o l b f : Nat} {w n : Bool} {OL OF NU : Nat → Int32} (hL : L ≤ 150) (hM : ordsM B L o OL OF NU) (h : PHi B L k o l b f w n NU) (hf : figB B L k = true) (hw : w = false) (h3 : f = 0) (hb : bgB l b false = false) : ∃ m, prsC B L m (nI k) := by
  obtain ⟨hl, h⟩ := h
  have h2 := LT_two hl
  have hbw : b = wantN l := by simpa [bgB] using hb
  have hwn : wantN l = 1 ∨ wantN l = 2 := by unfold wantN; split <;> omega
  refine ⟨o, prs_fault hL (Nat.le_of_lt (figB_lt hf)) hM ?_ (Or.inr hl.1)⟩
  have hsk : skB B L k = k := sk_at (fun _ => fig_n32 hf)
  rw [oF, if_neg (LT_n8 hl)]
  rcases h with h | h | h | h | h | h
  · have := h.2.2.1; omega
  · rw [hw] at h; cases h.2.1
  · have := h.2.2.2.1; omega
  · obtain ⟨-, a1, a2, a3, a4, a5⟩ := h
    have t := h2.2.mpr (by omega)
    have eB : ¬ oB B L (oP B L o) = -1 := by rw [oB, t, if_neg (by decide)]; decide
    have e6 : oq6 B L (oP B L o) = k := by rw [oq6, oq5, t]; exact a3.symm.trans hsk
    rw [if_neg a4, if_neg eB, e6, if_neg (fig_n59 hf)]
  · have := h.2.2.2.2.1; omega
  · obtain ⟨-, a0, a1, a2, a3, a4, a5, a6, a7⟩ := h
    have e6 : oq6 B L (oP B L o) = k := a3.symm.trans hsk
    rw [if_neg a4, if_neg a5, e6, if_neg (fig_n59 hf)]
theorem qF_s (B : Nat → Int32) (L j : Nat) : qF B L (j + 1) = qF B L j + (if oTwo B L (oP B L j) = true then 2 else 1) := rfl
theorem qF_mono {B : Nat → Int32} {L : Nat} : ∀ {o j : Nat}, j ≤ o → qF B L j ≤ qF B L o
  | 0, j, h => by rw [show j = 0 by omega]; exact Nat.le_refl _
  | o + 1, j, h => by
    rcases Nat.lt_or_ge o j with q | q
    · rw [show j = o + 1 by omega]; exact Nat.le_refl _
    · exact Nat.le_trans (qF_mono q) (by rw [qF_s]; exact Nat.le_add_right _ _)
theorem qF_le {B : Nat → Int32} {L : Nat} : ∀ o, qF B L o ≤ 2 * o
  | 0 => Nat.le_refl _
  | o + 1 => by
    have := qF_le (B := B) (L := L) o
    rw [qF_s]
    split <;> omega
theorem ordsM_OL {B : Nat → Int32} {L o : Nat} {OL OF NU : Nat → Int32} {v : Int32} (h : ordsM B L o OL OF NU) : ordsM B L o (upd OL o v) OF NU :=
  ⟨fun j hj => by rw [upd_ne (by omega)]; exact h.1 j hj, h.2⟩
theorem ordsM_NU {B : Nat → Int32} {L o : Nat} {OL OF NU NU' : Nat → Int32} (h : ordsM B L o OL OF NU) (he : ∀ i, i < qF B L o → NU' i = NU i) : ordsM B L o OL OF NU' := by
  refine ⟨fun j hj => ?_, h.2⟩
  obtain ⟨a, b, c, d⟩ := h.1 j hj
  have h1 : qF B L (j + 1) ≤ qF B L o := qF_mono hj
  rw [qF_s] at h1
  refine ⟨a, b, ?_, fun t => ?_⟩
  · rw [he _ (by revert h1; split <;> omega)]; exact c
  · rw [if_pos t] at h1
    rw [he _ (by omega)]; exact d t
theorem ordsM_push {B : Nat → Int32} {L o : Nat} {OL OF NU : Nat → Int32} (h : ordsM B L o OL OF NU) (hf : oF B L (oP B L o) = none) (hl : OL o = B (oP B L o)) (h1 : NU (qF B L o) = oAs B L (oP B L o)) (h2 : oTwo B L (oP B L o) = true → NU (qF B L o + 1) = oB B L (oP B L o)) : ordsM B L (o + 1) OL (upd OF (o + 1) (nI (qF B L (o + 1)))) NU := by
  refine ⟨fun j hj => ?_, fun j hj => ?_⟩
  · rcases Nat.lt_or_ge j o with q | q
    · exact h.1 j q
    · obtain rfl : j = o := by omega
      exact ⟨hf, hl, h1, h2⟩
  · rcases Nat.lt_or_ge o j with q | q
    · obtain rfl : j = o + 1 := by omega
      exact upd_same _ _ _
    · rw [upd_ne (by omega)]
      exact h.2 j q
theorem ph_bd {B : Nat → Int32} {L k o l b f : Nat} {w n : Bool} {OL OF NU : Nat → Int32} (hL : L ≤ 150) (h : PH B L k o l b f w n OL OF NU) : o ≤ 50 ∧ qF B L o ≤ 100 ∧ OF o = nI (qF B L o) := by
  have h1 := oP_le (B := B) (L := L) o (fun j hj => (h.2.1.1 j hj).1)
  have h2 := qF_le (B := B) (L := L) o
  exact ⟨by omega, by omega, h.2.1.2 o (Nat.le_refl _)⟩
theorem ph_0 {B : Nat → Int32} {L k o l b f : Nat} {w n : Bool} {OL OF NU : Nat → Int32} (h : PH B L k o l b f w n OL OF NU) (hl : l = 0) : w = false ∧ skB B L k = oP B L o := by
  rcases h.2.2 with q | q
  · exact q.2
  · exact absurd hl (lix_128 q.1.1.2.2.2.2).1
theorem ph_l {B : Nat → Int32} {L k o l b f : Nat} {w n : Bool} {OL OF NU : Nat → Int32} (h : PH B L k o l b f w n OL OF NU) (hl : ¬ l = 0) : PHi B L k o l b f w n NU ∧ OL o = B (oP B L o) := by
  rcases h.2.2 with q | q
  · exact absurd q.1 hl
  · exact q
theorem ph_blank0 {B : Nat → Int32} {L k o l b f : Nat} {w n : Bool} {OL OF NU : Nat → Int32} (h : PH B L k o l b f w n OL OF NU) (hl : l = 0) (hk : k < L) (he : B k = nI 32) (b' f' : Nat) (v : Int32) : PH B L (k + 1) o 0 b' f' w n (upd OL o v) OF NU := by
  obtain ⟨hw, hs⟩ := ph_0 h hl
  exact ⟨hk, ordsM_OL h.2.1, Or.inl ⟨rfl, hw, by rw [← skB_go hk he]; exact hs⟩⟩
theorem ph_let {B : Nat → Int32} {L k o l b f x : Nat} {w n : Bool} {OL OF NU : Nat → Int32} (h : PH B L k o l b f w n OL OF NU) (hl : l = 0) (hk : k < L) (hx : x < 128) (he : B k = nI x) (h32 : ¬ x = 32) (hlx : lixN x < 8) : PH B L (k + 1) o x 0 0 w n (upd OL o (nI x)) OF NU := by
  obtain ⟨hw, hs⟩ := ph_0 h hl
  have e : oP B L o = k := by
    rw [← hs]
    exact sk_at (fun _ q => h32 ((nI_eq (by omega) (by omega)).mp (he.symm.trans q)))
  refine ⟨hk, ordsM_OL h.2.1, Or.inr ⟨⟨⟨by omega, by omega, by rw [e]; exact he, hx, hlx⟩, Or.inl ⟨rfl, hw, rfl, by rw [oq1, e]⟩⟩, by rw [upd_same, e]; exact he.symm⟩⟩
theorem ph_bad0 {B : Nat → Int32} {L k o l b f x : Nat} {w n : Bool} {OL OF NU : Nat → Int32} (hL : L ≤ 150) (h : PH B L k o l b f w n OL OF NU) (hl : l = 0) (hk : k < L) (hx : x < 128) (he : B k = nI x) (h32 : ¬ x = 32) (hlx : lixN x = 8) : ∃ m, prsC B L m (nI k) := by
  obtain ⟨hw, hs⟩ := ph_0 h hl
  have e : oP B L o = k := by
    rw [← hs]
    exact sk_at (fun _ q => h32 ((nI_eq (by omega) (by omega)).mp (he.symm.trans q)))
  refine ⟨o, prs_fault hL (Nat.le_of_lt hk) h.2.1 ?_ (Or.inr (by omega))⟩
  rw [e, oF, if_pos (by rw [oL, if_pos hk, he, tN_N (by omega)]; exact hlx)]
theorem ph_end0 {B : Nat → Int32} {L o l b f : Nat} {w n : Bool} {OL OF NU : Nat → Int32} (hL : L ≤ 150) (h : PH B L L o l b f w n OL OF NU) (hl : l = 0) : (o = 0 → ∃ m, prsC B L m (nI L)) ∧ (¬ o = 0 → prsC B L o (-1)) := by
  obtain ⟨hw, hs⟩ := ph_0 h hl
  have e : oP B L o = L := by
    rw [← hs]
    exact sk_at (fun q => absurd q (by omega))
  constructor
  · intro ho
    refine ⟨o, prs_fault hL (Nat.le_refl _) h.2.1 ?_ (Or.inl ho)⟩
    rw [e, oF, if_pos (by rw [oL, if_neg (by omega)])]
  · intro ho
    refine ⟨(ph_bd hL h).1, fun j hj => (h.2.1.1 j hj).1, fun j _ hj => ?_, Or.inl ⟨rfl, by omega, by omega⟩⟩
    have := oF_none (h.2.1.1 j hj).1
    omega
def dgt (n : Bool) (c : Int32) : Int32 := if n = true then nI 48 - c else c - nI 48
theorem sg_step (n : Bool) (v c : Int32) : sgN n (nI 10 * v + c - nI 48) = nI 10 * sgN n v + dgt n c := by
  unfold sgN dgt
  cases n with
  | true =>
    simp only [if_true]
    rw [Int32.sub_eq_add_neg, Int32.neg_add, Int32.neg_add, Int32.mul_neg]
    simp only [Int32.sub_eq_add_neg, Int32.neg_neg, Int32.add_assoc, Int32.add_comm (nI 48)]
  | false =>
    simp only [Bool.false_eq_true, if_false]
    rw [Int32.sub_eq_add_neg, Int32.sub_eq_add_neg, Int32.add_assoc]
theorem sg_0 (n : Bool) : sgN n (nI 0) = nI 0 := by cases n <;> decide
theorem nv_1 (B : Nat → Int32) (L p f : Nat) : nvF B L p (f + 1) = nI 10 * nvF B L p f + nxt B L (p + f) - nI 48 := rfl
theorem fig_ext {B : Nat → Int32} {L p f k : Nat} (h : ∀ j, j < f → figB B L (p + j) = true) (hk : k = p + f) (hf : figB B L k = true) : ∀ j, j < f + 1 → figB B L (p + j) = true := by
  intro j hj
  rcases Nat.lt_or_ge j f with q | q
  · exact h j q
  · rw [show p + j = k by omega]; exact hf
theorem fig_nB {B : Nat → Int32} {L k : Nat} (hf : figB B L k = true) : nxt B L k = B k := if_pos (figB_lt hf)
theorem ph_figW {B : Nat → Int32} {L k o l b f : Nat} {w n : Bool} {OL OF NU : Nat → Int32} (hM : ordsM B L o OL OF NU) (h : PHi B L k o l b f w n NU) (hl : OL o = B (oP B L o)) (hf : figB B L k = true) (hw : w = true) : b = 1 ∧ f = 0 ∧
    PH B L (k + 1) o l b (f + 1) false n OL OF (upd NU (qF B L o + b - 1) (nI 10 * NU (qF B L o + b - 1) + dgt n (B k))) := by
  obtain ⟨h0, h⟩ := h
  have hk := figB_lt hf
  rcases h with h | h | h | h | h | h
  · rw [hw] at h; cases h.2.1
  · obtain ⟨f0, a1, a2, a3, a4, a5, a6⟩ := h
    subst f0 a4 a2
    refine ⟨rfl, rfl, hk, ordsM_NU hM (fun i hi => upd_ne (by omega)), Or.inr ⟨⟨LT_up h0 (by omega), Or.inr (Or.inr (Or.inl ⟨rfl, a3.symm, rfl, by omega, by omega, by omega, fig_ext (fun j hj => absurd hj (by omega)) a5 hf, ?_⟩))⟩, hl⟩⟩
    rw [show qF B L o + 1 - 1 = qF B L o by omega, upd_same, a6, nv_1, sg_step, a3]
    rw [Nat.add_zero, ← a5, fig_nB hf, show nvF B L k 0 = nI 0 from rfl, sg_0]
  · rw [hw] at h; cases h.1
  · rw [hw] at h; cases h.2.1
  · rw [hw] at h; cases h.2.1
  · rw [hw] at h; cases h.2.2.1
theorem ph_figN {B : Nat → Int32} {L k o l b f : Nat} {w n : Bool} {OL OF NU : Nat → Int32} (hM : ordsM B L o OL OF NU) (h : PHi B L k o l b f w n NU) (hl : OL o = B (oP B L o)) (hf : figB B L k = true) (hw : w = false) (h3 : 0 < f) (h4 : f < 3) : 1 ≤ b ∧ b ≤ 2 ∧
    PH B L (k + 1) o l b (f + 1) false n OL OF (upd NU (qF B L o + b - 1) (nI 10 * NU (qF B L o + b - 1) + dgt n (B k))) := by
  obtain ⟨h0, h⟩ := h
  have hk := figB_lt hf
  rcases h with h | h | h | h | h | h
  · omega
  · omega
  · obtain ⟨a1, a2, a3, a4, a5, a6, a7, a8⟩ := h
    subst a3
    refine ⟨by omega, by omega, hk, ordsM_NU hM (fun i hi => upd_ne (by omega)), Or.inr ⟨⟨LT_up h0 (by omega), Or.inr (Or.inr (Or.inl ⟨rfl, a2, rfl, by omega, by omega, by omega, fig_ext a7 a6 hf, ?_⟩))⟩, hl⟩⟩
    rw [show qF B L o + 1 - 1 = qF B L o by omega, upd_same, a8, nv_1, sg_step, a2, ← a6, fig_nB hf]
  · omega
  · obtain ⟨a0, a1, a2, a3, a4, a5, a6, a7, a8, a9, a10⟩ := h
    subst a3 a2
    refine ⟨by omega, by omega, hk, ordsM_NU hM (fun i hi => upd_ne (by omega)), Or.inr ⟨⟨LT_up h0 (by omega), Or.inr (Or.inr (Or.inr (Or.inr (Or.inl ⟨a0, rfl, rfl, rfl, by omega, by omega, by omega, fig_ext a7 a6 hf, a8, ?_, ?_⟩))))⟩, hl⟩⟩
    · rw [upd_ne (by omega)]; exact a9
    · rw [show qF B L o + 2 - 1 = qF B L o + 1 by omega, upd_same, a10, nv_1, ← a6, fig_nB hf, dgt, if_neg (by decide), Int32.sub_eq_add_neg, Int32.sub_eq_add_neg, Int32.add_assoc]
  · omega
theorem wantN_12 (l : Nat) : wantN l = 1 ∨ wantN l = 2 := by unfold wantN; split <;> omega
theorem ph_figB {B : Nat → Int32} {L k o l b f : Nat} {w n : Bool} {OL OF NU : Nat → Int32} (hM : ordsM B L o OL OF NU) (h : PHi B L k o l b f w n NU) (hl : OL o = B (oP B L o)) (hf : figB B L k = true) (hw : w = false) (h3 : f = 0) (hb : bgB l b false = true) : b ≤ 1 ∧
    PH B L (k + 1) o l (b + 1) (0 + 1) false false OL OF (upd (upd NU (qF B L o + b) (nI 0)) (qF B L o + (b + 1) - 1) (nI 10 * upd NU (qF B L o + b) (nI 0) (qF B L o + (b + 1) - 1) + dgt false (B k))) := by
  obtain ⟨h0, h⟩ := h
  have hk := figB_lt hf
  have h2 := LT_two h0
  have hsk : skB B L k = k := sk_at (fun _ => fig_n32 hf)
  have hbw : ¬ b = wantN l := by simpa [bgB] using hb
  have hwn := wantN_12 l
  have hu : ∀ i, i < qF B L o → upd (upd NU (qF B L o + b) (nI 0)) (qF B L o + (b + 1) - 1) (nI 10 * upd NU (qF B L o + b) (nI 0) (qF B L o + (b + 1) - 1) + dgt false (B k)) i = NU i := fun i hi => by rw [upd_ne (by omega), upd_ne (by omega)]
  rcases h with h | h | h | h | h | h
  · obtain ⟨-, a1, a2, a3⟩ := h
    subst a2
    have e1 : oq1 B L (oP B L o) = k := a3.symm.trans hsk
    have eN : oN B L (oP B L o) = false := by
      rw [oN, e1]
      simp [fig_nx (x := 45) (by decide) hf]
    have e2 : oq2 B L (oP B L o) = k := by rw [oq2, eN, e1]; rfl
    refine ⟨by omega, hk, ordsM_NU hM hu, Or.inr ⟨⟨LT_up h0 (by omega), Or.inr (Or.inr (Or.inl ⟨rfl, eN.symm, rfl, by omega, by omega, by omega, fig_ext (fun j hj => absurd hj (by omega)) (by omega) hf, ?_⟩))⟩, hl⟩⟩
    rw [show qF B L o + (0 + 1) - 1 = qF B L o by omega, show qF B L o + 0 = qF B L o from rfl, upd_same, upd_same, eN, nv_1, sg_step, e2, Nat.add_zero, fig_nB hf]
    rfl
  · rw [hw] at h; cases h.2.1
  · have := h.2.2.2.1; omega
  · obtain ⟨-, a1, a2, a3, a4, a5⟩ := h
    subst a2
    have t := h2.1.mpr (by omega)
    have e4 : oq4 B L (oP B L o) = k := a3.symm.trans hsk
    refine ⟨by omega, hk, ordsM_NU hM hu, Or.inr ⟨⟨LT_up h0 (by omega), Or.inr (Or.inr (Or.inr (Or.inr (Or.inl ⟨t, rfl, rfl, rfl, by omega, by omega, by omega, fig_ext (fun j hj => absurd hj (by omega)) (by omega) hf, a4, ?_, ?_⟩))))⟩, hl⟩⟩
    · rw [upd_ne (by omega), upd_ne (by omega)]; exact a5
    · rw [show qF B L o + (1 + 1) - 1 = qF B L o + 1 by omega, upd_same, upd_same, nv_1, e4, Nat.add_zero, fig_nB hf, dgt, if_neg (by decide), Int32.sub_eq_add_neg, Int32.sub_eq_add_neg, Int32.add_assoc]
      rfl
  · have := h.2.2.2.2.1; omega
  · obtain ⟨-, a0, a1, a2, a3⟩ := h
    have := h2.1.mp a0
    omega
theorem nf_sp {B : Nat → Int32} {L k : Nat} {x : Nat} (hk : k < L) (hx : x < 48 ∨ 57 < x) (hx2 : x < 128) (he : B k = nI x) : figB B L k = false ∧ nxt B L k = nI x := by
  have e : nxt B L k = nI x := by rw [nxt, if_pos hk]; exact he
  refine ⟨?_, e⟩
  cases q : figB B L k with
  | false => rfl
  | true =>
    obtain ⟨-, d, hd, e2, -⟩ := fig_t q
    have := (nI_eq (by omega) (by omega)).mp (he.symm.trans e2)
    omega
theorem ph_sp {B : Nat → Int32} {L k o l b f : Nat} {w n : Bool} {OL OF NU : Nat → Int32} (hM : ordsM B L o OL OF NU) (h : PHi B L k o l b f w n NU) (hl : OL o = B (oP B L o)) (hk : k < L) (he : B k = nI 32) (hw : w = false) : PH B L (k + 1) o l b 0 w n OL OF NU := by
  obtain ⟨h0, h⟩ := ph_nf h (nf_sp hk (by omega) (by omega) he).1
  have hs := skB_go hk he
  refine ⟨hk, hM, Or.inr ⟨⟨LT_up h0 (by omega), ?_⟩, hl⟩⟩
  rcases h with h | h | h | h
  · obtain ⟨a1, a2, a3⟩ := h
    exact Or.inl ⟨rfl, a1, a2, by rw [← hs]; exact a3⟩
  · rw [hw] at h; cases h.1
  · obtain ⟨a1, a2, a3, a4⟩ := h
    exact Or.inr (Or.inr (Or.inr (Or.inl ⟨rfl, a1, a2, by rw [← hs]; exact a3, a4⟩)))
  · obtain ⟨a0, a1, a2, a3, a4⟩ := h
    exact Or.inr (Or.inr (Or.inr (Or.inr (Or.inr ⟨rfl, a0, a1, a2, by rw [← hs]; exact a3, a4⟩))))
theorem ph_neg {B : Nat → Int32} {L k o l b f : Nat} {w n : Bool} {OL OF NU : Nat → Int32} (hM : ordsM B L o OL OF NU) (h : PHi B L k o l b f w n NU) (hl : OL o = B (oP B L o)) (hk : k < L) (he : B k = nI 45) (hw : w = false) (hb : bgB l b true = true) : b = 0 ∧
    PH B L (k + 1) o l (b + 1) 0 true true OL OF (upd NU (qF B L o + b) (nI 0)) := by
  have hn := nf_sp hk (by omega) (by omega) he
  obtain ⟨h0, h⟩ := ph_nf h hn.1
  have h2 := LT_two h0
  simp only [bgB, Bool.true_and, Bool.not_not, Bool.and_eq_true, Bool.not_eq_true', decide_eq_false_iff_not, decide_eq_true_eq] at hb
  have h5 := (lix_128 h0.2.2.2.2).2.mp hb.2
  have hw1 : wantN l = 1 := if_pos (Or.inl h5)
  have hsk : skB B L k = k := sk_at (fun _ q => absurd ((nI_eq (by omega) (by omega)).mp (he.symm.trans q)) (by omega))
  rcases h with h | h | h | h
  · obtain ⟨a1, a2, a3⟩ := h
    subst a2
    have e1 : oq1 B L (oP B L o) = k := a3.symm.trans hsk
    have eN : oN B L (oP B L o) = true := by
      rw [oN, e1, LT_oL h0, h5, hn.2]
      decide
    have e2 : oq2 B L (oP B L o) = k + 1 := by rw [oq2, eN, e1]; rfl
    refine ⟨rfl, hk, ordsM_NU hM (fun i hi => upd_ne (by omega)), Or.inr ⟨⟨LT_up h0 (by omega), Or.inr (Or.inl ⟨rfl, rfl, rfl, eN, rfl, e2.symm, ?_⟩)⟩, hl⟩⟩
    exact upd_same _ _ _
  · rw [hw] at h; cases h.1
  · have := h.2.1; omega
  · have := h2.1.mp h.1; omega
theorem ph_semi {B : Nat → Int32} {L k o l b f : Nat} {w n : Bool} {OL OF NU : Nat → Int32} (hM : ordsM B L o OL OF NU) (h : PHi B L k o l b f w n NU) (hl : OL o = B (oP B L o)) (hk : k < L) (he : B k = nI 59) (hw : w = false) (hb : ¬ b < wantN l) : b ≤ 2 ∧
    PH B L (k + 1) (o + 1) 0 b f w n OL (upd OF (o + 1) (nI (qF B L o + b))) NU := by
  have hn := nf_sp hk (by omega) (by omega) he
  obtain ⟨h0, h⟩ := ph_nf h hn.1
  have h2 := LT_two h0
  have hwn := wantN_12 l
  have h8 := LT_n8 h0
  have hsk : skB B L k = k := sk_at (fun _ q => absurd ((nI_eq (by omega) (by omega)).mp (he.symm.trans q)) (by omega))
  rcases h with h | h | h | h
  · have := h.2.1; omega
  · rw [hw] at h; cases h.1
  · obtain ⟨a1, a2, a3, a4, a5⟩ := h
    have t := h2.2.mpr (by omega)
    have eB : ¬ oB B L (oP B L o) = -1 := by rw [oB, t, if_neg (by decide)]; decide
    have e6 : oq6 B L (oP B L o) = k := by rw [oq6, oq5, t]; exact a3.symm.trans hsk
    have eF : oF B L (oP B L o) = none := by rw [oF, if_neg h8, if_neg a4, if_neg eB, e6, if_pos hn.2]
    have eq : qF B L (o + 1) = qF B L o + b := by rw [qF_s, t, a2]; rfl
    refine ⟨by omega, hk, by rw [← eq]; exact ordsM_push hM eF hl a5 (fun q => by rw [t] at q; cases q), Or.inl ⟨rfl, hw, ?_⟩⟩
    show _ = skB B L (oq6 B L (oP B L o) + 1)
    rw [e6]
  · obtain ⟨a0, a1, a2, a3, a4, a5, a6, a7⟩ := h
    have e6 : oq6 B L (oP B L o) = k := a3.symm.trans hsk
    have eF : oF B L (oP B L o) = none := by rw [oF, if_neg h8, if_neg a4, if_neg a5, e6, if_pos hn.2]
    have eq : qF B L (o + 1) = qF B L o + b := by rw [qF_s, a0, a2]; rfl
    refine ⟨by omega, hk, by rw [← eq]; exact ordsM_push hM eF hl a6 (fun _ => a7), Or.inl ⟨rfl, hw, ?_⟩⟩
    show _ = skB B L (oq6 B L (oP B L o) + 1)
    rw [e6]
theorem ph_bw {B : Nat → Int32} {L k o l b f : Nat} {w n : Bool} {NU : Nat → Int32} (h : PHi B L k o l b f w n NU) : b ≤ 2 ∧ f ≤ 3 ∧ b ≤ wantN l := by
  have h2 := LT_two h.1
  have hwn := wantN_12 l
  rcases h.2 with h | h | h | h | h | h
  · have := h.2.2.1; omega
  · have := h.2.2.2.2.1; omega
  · have := h.2.2.1; have := h.2.2.2.2.1; omega
  · have := h.2.2.1; omega
  · have := h.2.2.2.1; have := h2.1.mp h.1; have := h.2.2.2.2.2.1; omega
  · have := h.2.2.2.1; have := h2.1.mp h.2.1; omega
theorem ph_start {B : Nat → Int32} {L b f : Nat} {n : Bool} {OL OF NU : Nat → Int32} : PH B L 0 0 0 b f false n OL (upd OF 0 (nI 0)) NU :=
  ⟨Nat.zero_le _, ⟨fun j hj => absurd hj (by omega), fun j hj => by rw [show j = 0 by omega, upd_same]; rfl⟩, Or.inl ⟨rfl, rfl, rfl⟩⟩
/-- what the text tells is one thing -/
theorem prsC_one {B : Nat → Int32} {L n m : Nat} {r s : Int32} (hL : L ≤ 150) (h1 : prsC B L n r) (h2 : prsC B L m s) : n = m ∧ r = s := by
  have key : ∀ {n m : Nat} {r s : Int32}, prsC B L n r → prsC B L m s → ¬ n < m := by
    intro n m r s h1 h2 hlt
    obtain ⟨-, -, -, h1⟩ := h1
    obtain ⟨-, b2, b3, -⟩ := h2
    rcases h1 with ⟨-, c1, c2⟩ | ⟨q, -, -, c3, -⟩
    · have := b3 n c1 hlt; omega
    · rw [b2 n hlt] at c3; cases c3
  have e : n = m := by
    have a := key h1 h2
    have b := key h2 h1
    omega
  refine ⟨e, ?_⟩
  subst e
  obtain ⟨-, -, -, h1⟩ := h1
  obtain ⟨-, -, -, h2⟩ := h2
  rcases h1 with ⟨r1, c1, c2⟩ | ⟨q, r1, -, c3, c4⟩ <;> rcases h2 with ⟨r2, d1, d2⟩ | ⟨q2, r2, -, d3, d4⟩
  · rw [r1, r2]
  · rcases d4 with z | z <;> omega
  · rcases c4 with z | z <;> omega
  · rw [c3] at d3
    cases d3
    rw [r1, r2]
theorem nxt_L (B : Nat → Int32) (L : Nat) : nxt B L L = -1 := if_neg (by omega)
theorem ph_endL {B : Nat → Int32} {L o l b f : Nat} {w n : Bool} {OL OF NU : Nat → Int32} (hL : L ≤ 150) (h : PH B L L o l b f w n OL OF NU) (hl : ¬ l = 0) : ∃ m, prsC B L m (nI L) := by
  have hf : figB B L L = false := by
    cases q : figB B L L with
    | false => rfl
    | true => have := figB_lt q; omega
  refine ph_bad hL (Nat.le_refl _) h.2.1 (ph_l h hl).1 hf (Or.inr (fun q => absurd q (by omega))) (fun _ q => ?_) (fun _ q => ?_)
  · rw [nxt_L] at q
    exact nI_nm1 (by decide) q.1.symm
  · rw [nxt_L] at q
    exact nI_nm1 (by decide) q.1.symm
/-- what reading the text leaves as it was -/
def mkp (σ σ' : St) : Prop := (∀ j, j ≠ 0 → j ≠ 6 → j ≠ 7 → j ≠ 8 → σ' j = σ j) ∧ ∀ z, z < 12 → σ' 0 z = σ 0 z
theorem mkp_tr {a b c : St} (h1 : mkp a b) (h2 : mkp b c) : mkp a c := ⟨fun j j0 j6 j7 j8 => (h2.1 j j0 j6 j7 j8).trans (h1.1 j j0 j6 j7 j8), fun z hz => (h2.2 z hz).trans (h1.2 z hz)⟩
theorem mkp_rf (a : St) : mkp a a := ⟨fun _ _ _ _ _ => rfl, fun _ _ => rfl⟩
def stP (σ : St) (o l b f : Nat) (w n : Bool) : Prop := σ 0 12 = nI o ∧ σ 0 16 = nI l ∧ σ 0 19 = bI w ∧ (¬ l = 0 → σ 0 17 = nI b ∧ σ 0 18 = nI f ∧ (¬ b = 0 → σ 0 20 = bI n))
theorem wantI_t {x : Nat} (h : wantI x = -1) : lixN x = 8 := by
  rcases Nat.lt_or_ge (lixN x) 8 with q | q
  · rw [wantI, if_neg (by omega)] at h
    have := wantN_12 x
    exact absurd h (fun z => nI_nm1 (n := wantN x) (by omega) z)
  · have := lixN_le x
    omega
theorem wantI_f {x : Nat} (h : ¬ wantI x = -1) : lixN x < 8 := by
  rcases Nat.lt_or_ge (lixN x) 8 with q | q
  · exact q
  · have := lixN_le x
    exact absurd (if_pos (by omega)) h
theorem wantI_N {x : Nat} (h : lixN x < 8) : wantI x = nI (wantN x) := if_neg (by omega)
theorem bg_no {l b : Nat} (h : bgB l b true = false) : ¬ (b = 0 ∧ l = 115) := by
  rintro ⟨rfl, rfl⟩
  exact absurd h (by decide)
theorem lix_out {x : Nat} (h : lixN x < 8) (h1 : x < 100 ∨ 117 < x) : lixN x = 7 := by
  unfold lixN at h ⊢
  rw [if_neg (show ¬ x = 103 by omega), if_neg (show ¬ x = 102 by omega), if_neg (show ¬ x = 116 by omega), if_neg (show ¬ x = 117 by omega), if_neg (show ¬ x = 100 by omega), if_neg (show ¬ x = 115 by omega), if_neg (show ¬ x = 114 by omega)] at h ⊢
  by_cases q : x = 118
  · rw [if_pos q]
  · rw [if_neg q] at h
    omega
theorem lix_gap {x : Nat} (h : x < 100 ∨ 118 < x) : lixN x = 8 := by
  unfold lixN
  (repeat' split) <;> omega
theorem narB (b : Bool) : narrow .boolean (.int (bI b)) = .int (bI b) := by cases b <;> rfl
theorem fitB (b : Bool) : fits .boolean (.int (bI b)) = true := by cases b <;> rfl
theorem absM_mkp {σ σ' : St} {X F : Nat → Int32} {ck co : Int32} {K : Nat → Nat → Int32} {nn : Nat} {B : Nat → Int32} {L : Nat} (h : absM σ X F ck co K nn B L) (k : mkp σ σ') : absM σ' X F ck co K nn B L := by
  obtain ⟨m1, m2, m3, m4, m5, m6, m7, m8⟩ := h
  obtain ⟨k1, k2⟩ := k
  exact ⟨(k1 1 (by decide) (by decide) (by decide) (by decide)).trans m1, (k1 4 (by decide) (by decide) (by decide) (by decide)).trans m2, (k2 5 (by decide)).trans m3, (k2 6 (by decide)).trans m4, (k2 3 (by decide)).trans m5, by rw [k1 3 (by decide) (by decide) (by decide) (by decide)]; exact m6, (k1 5 (by decide) (by decide) (by decide) (by decide)).trans m7, (k2 8 (by decide)).trans m8⟩
theorem qF_t {B : Nat → Int32} {L i : Nat} (h : qF B L (i + 1) ≤ qF B L i + 1) : oTwo B L (oP B L i) = false := by
  rw [qF_s] at h
  cases q : oTwo B L (oP B L i) with
  | false => rfl
  | true => rw [q] at h; simp at h
theorem qF_f {B : Nat → Int32} {L i : Nat} (h : ¬ qF B L (i + 1) ≤ qF B L i + 1) : oTwo B L (oP B L i) = true := by
  rw [qF_s] at h
  cases q : oTwo B L (oP B L i) with
  | true => rfl
  | false => rw [q] at h; simp at h
