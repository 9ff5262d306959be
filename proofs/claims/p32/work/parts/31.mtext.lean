/-! ===== the text of a coast ===== -/
def gz (f : Nat → Int32) (nn pl : Nat) : Prop := (pl - 2) / 5 < nn ∧ (((pl - 2) % 5 = 0 ∧ f pl = 59) ∨ ((pl - 2) % 5 = 1 ∧ (f pl = 103 ∨ f pl = 104 ∨ f pl = 111)) ∨ ((pl - 2) % 5 = 2 ∧ ∃ d, 1 ≤ d ∧ d ≤ 9 ∧ f pl = nI (48 + d)) ∨ (3 ≤ (pl - 2) % 5 ∧ ∃ d, d < nn ∧ d ≠ (pl - 2) / 5 ∧ f pl = nI (48 + d)))
def cnt (f : Nat → Int32) (nn : Nat) : Prop := 2 ≤ nn ∧ nn ≤ 6 ∧ f 1 = nI (48 + nn)
def goes (f : Nat → Int32) (pl : Nat) : Prop := if pl = 0 then f 0 = 100 else ∃ nn, cnt f nn ∧ (pl = 1 ∨ gz f nn pl)
theorem cnt_inj {f : Nat → Int32} {a b : Nat} (h1 : cnt f a) (h2 : cnt f b) : a = b := by
  obtain ⟨a1, a2, a3⟩ := h1
  obtain ⟨b1, b2, b3⟩ := h2
  have := nI_inj (by omega) (by omega) (a3.symm.trans b3)
  omega
def FF (f : Nat → Int32) (n t : Nat) : Prop := t ≤ n ∧ (∀ pl, pl < t → goes f pl) ∧ (t < n → ¬ goes f t) ∧ (t = n → ∀ nn, cnt f nn → n ≠ 2 + 5 * nn)
def OKT (f : Nat → Int32) (n nn : Nat) : Prop := cnt f nn ∧ n = 2 + 5 * nn ∧ ∀ pl, pl < n → goes f pl
theorem FF_inj {f : Nat → Int32} {n a b : Nat} (h1 : FF f n a) (h2 : FF f n b) : a = b := by
  rcases Nat.lt_trichotomy a b with h | h | h
  · exact absurd (h2.2.1 a h) (h1.2.2.1 (by have := h2.1; omega))
  · exact h
  · exact absurd (h1.2.1 b h) (h2.2.2.1 (by have := h1.1; omega))
theorem FF_OKT {f : Nat → Int32} {n a nn : Nat} (h1 : FF f n a) (h2 : OKT f n nn) : False := by
  by_cases h : a < n
  · exact h1.2.2.1 h (h2.2.2 a h)
  · exact h1.2.2.2 (by have := h1.1; omega) nn h2.1 h2.2.1
theorem goes_0 {f : Nat → Int32} : goes f 0 ↔ f 0 = 100 := by
  unfold goes
  rw [if_pos rfl]
theorem goes_1 {f : Nat → Int32} : goes f 1 ↔ ∃ nn, cnt f nn := by
  unfold goes
  rw [if_neg (by decide)]
  constructor
  · rintro ⟨nn, h, -⟩; exact ⟨nn, h⟩
  · rintro ⟨nn, h⟩; exact ⟨nn, h, Or.inl rfl⟩
theorem goes_2 {f : Nat → Int32} {nn pl : Nat} (h : cnt f nn) (hp : 2 ≤ pl) : goes f pl ↔ gz f nn pl := by
  unfold goes
  rw [if_neg (by omega)]
  constructor
  · rintro ⟨m, h1, h2 | h2⟩
    · omega
    · rw [cnt_inj h h1]; exact h2
  · intro h1; exact ⟨nn, h, Or.inr h1⟩
/-- what reading a text leaves -/
def mKc (w v : kW) : Prop := (∀ j, j ≠ 0 → j ≠ 8 → j ≠ 9 → j ≠ 10 → v.1 j = w.1 j) ∧ (∀ j, j ≠ 10 → j ≠ 11 → v.1 0 j = w.1 0 j)
theorem mKc.rf {w : kW} : mKc w w := ⟨fun _ _ _ _ _ => rfl, fun _ _ _ => rfl⟩
theorem mKc.tr {w v u : kW} (h1 : mKc w v) (h2 : mKc v u) : mKc w u := ⟨fun j a b c d => (h2.1 j a b c d).trans (h1.1 j a b c d), fun j a b => (h2.2 j a b).trans (h1.2 j a b)⟩
theorem mKc.row {w v : kW} {c k : Nat} {x : Int32} (h : mKc w v) (hc : c = 8 ∨ c = 9 ∨ c = 10) : mKc w (kset v c k x) :=
  h.tr ⟨fun j a b c' d => kset_row _ _ _ _ (by omega), fun j a b => kset_ne _ _ (Or.inl (by omega))⟩
theorem mKc.num {w v : kW} {k : Nat} {x : Int32} (h : mKc w v) (hc : k = 10 ∨ k = 11) : mKc w (kset v 0 k x) :=
  h.tr ⟨fun j a b c' d => kset_row _ _ _ _ a, fun j a b => kset_ne _ _ (Or.inr (by omega))⟩
theorem dig_of {x : Int32} {lo hi : Nat} (hh : hi ≤ 100 ∧ lo ≤ 100) (h1 : nI (48 + lo) ≤ x) (h2 : x ≤ nI (48 + hi)) : ∃ d, lo ≤ d ∧ d ≤ hi ∧ x = nI (48 + d) := by
  have h0 : ¬ x < 0 := by
    intro h
    rw [Int32.le_iff_toInt_le, nI_toInt (by omega)] at h1
    rw [Int32.lt_iff_toInt_lt, show (0 : Int32).toInt = 0 from rfl] at h
    omega
  obtain ⟨j, hj, rfl⟩ := nle_of (l := 48 + hi) (by omega) h0 h2
  have := (nI_leI (by omega) (by omega)).mp h1
  exact ⟨j - 48, by omega, by omega, by rw [Nat.add_sub_cancel' (by omega)]⟩
def kcode (x : Int32) (k : Nat) : Prop := (x = 103 ∧ k = 0) ∨ (x = 104 ∧ k = 1) ∨ (x = 111 ∧ k = 2)
theorem kcode_inj {x : Int32} {a b : Nat} (h1 : kcode x a) (h2 : kcode x b) : a = b := by
  rcases h1 with ⟨rfl, rfl⟩ | ⟨rfl, rfl⟩ | ⟨rfl, rfl⟩ <;> rcases h2 with ⟨h, rfl⟩ | ⟨h, rfl⟩ | ⟨h, rfl⟩ <;> first | rfl | exact absurd h (by decide)
/-- the codes of person p, and what they say -/
def TP (f : Nat → Int32) (nn p k h a b : Nat) : Prop := kcode (f (5 * p + 3)) k ∧ (1 ≤ h ∧ h ≤ 9 ∧ f (5 * p + 4) = nI (48 + h)) ∧ (a < nn ∧ a ≠ p ∧ f (5 * p + 5) = nI (48 + a)) ∧ (b < nn ∧ b ≠ p ∧ f (5 * p + 6) = nI (48 + b))
def rowsQ (p : Nat) (w v : kW) : Prop := ∀ q, q < p → v.1 8 q = w.1 8 q ∧ v.1 9 q = w.1 9 q ∧ v.1 10 (2 * q) = w.1 10 (2 * q) ∧ v.1 10 (2 * q + 1) = w.1 10 (2 * q + 1)
theorem rowsQ.row {p c k : Nat} {w v : kW} {x : Int32} (h : rowsQ p w v) (hc : c = 0 ∨ (c = 8 ∧ p ≤ k) ∨ (c = 9 ∧ p ≤ k) ∨ (c = 10 ∧ 2 * p ≤ k)) : rowsQ p w (kset v c k x) := fun q hq => by
  rw [kset_ne _ _ (by omega), kset_ne _ _ (by omega), kset_ne _ _ (by omega), kset_ne _ _ (by omega)]
  exact h q hq
def goesR (f : Nat → Int32) (lo hi : Nat) : Prop := ∀ j, lo ≤ j → j < hi → goes f j
theorem goesR.up {f : Nat → Int32} {lo hi : Nat} (h : goesR f lo hi) (h1 : goes f hi) : goesR f lo (hi + 1) := fun j a b => by
  by_cases e : j = hi
  · subst e; exact h1
  · exact h j a (by omega)
theorem gz_3 {f : Nat → Int32} {nn p : Nat} (hp : p < nn) : gz f nn (5 * p + 3) ↔ (f (5 * p + 3) = 103 ∨ f (5 * p + 3) = 104 ∨ f (5 * p + 3) = 111) := by
  unfold gz
  rw [show (5 * p + 3 - 2) / 5 = p by omega, show (5 * p + 3 - 2) % 5 = 1 by omega]
  simp [hp]
theorem gz_4 {f : Nat → Int32} {nn p : Nat} (hp : p < nn) : gz f nn (5 * p + 4) ↔ ∃ d, 1 ≤ d ∧ d ≤ 9 ∧ f (5 * p + 4) = nI (48 + d) := by
  unfold gz
  rw [show (5 * p + 4 - 2) / 5 = p by omega, show (5 * p + 4 - 2) % 5 = 2 by omega]
  simp [hp]
theorem gz_5 {f : Nat → Int32} {nn p i : Nat} (hp : p < nn) (hi : i < 2) : gz f nn (5 * p + 5 + i) ↔ ∃ d, d < nn ∧ d ≠ p ∧ f (5 * p + 5 + i) = nI (48 + d) := by
  unfold gz
  rw [show (5 * p + 5 + i - 2) / 5 = p by omega, show (5 * p + 5 + i - 2) % 5 = 3 + i by omega]
  constructor
  · rintro ⟨-, ⟨h, -⟩ | ⟨h, -⟩ | ⟨h, -⟩ | ⟨-, h⟩⟩
    · omega
    · omega
    · omega
    · exact h
  · intro h; exact ⟨hp, Or.inr (Or.inr (Or.inr ⟨by omega, h⟩))⟩
