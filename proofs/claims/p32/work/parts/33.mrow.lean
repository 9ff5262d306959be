theorem mAg_0 {w : kW} {j l : Nat} {sort i n : Int32} (h : mAg w j sort i n = 0) (hl : w.1 2 j = nI l) (hl5 : l ≤ 50) : ∃ ii m, i = nI ii ∧ n = nI m ∧ ii + m ≤ l ∧ w.1 1 j = sort := by
  unfold mAg at h
  by_cases c1 : ¬ w.1 1 j = -9 ∧ ¬ w.1 1 j = sort
  · rw [if_pos c1] at h; exact absurd h (by decide)
  · rw [if_neg c1] at h
    by_cases c2 : w.1 1 j = -9
    · rw [if_pos c2] at h; exact absurd h (by decide)
    · rw [if_neg c2] at h
      by_cases c3 : 0 ≤ n
      · rw [if_pos c3] at h
        by_cases c4 : ¬ i < 0 ∧ i ≤ w.1 2 j ∧ n ≤ w.1 2 j - i
        · obtain ⟨d1, d2, d3⟩ := c4
          rw [hl] at d2 d3
          obtain ⟨ii, hi, rfl⟩ := nle_of (by omega) d1 d2
          rw [nI_sub hi] at d3
          obtain ⟨m, hm, rfl⟩ := nle_of (l := l - ii) (by omega) (Int32.not_lt.mpr c3) d3
          refine ⟨ii, m, rfl, rfl, by omega, ?_⟩
          rcases Classical.em (w.1 1 j = sort) with e | e
          · exact e
          · exact absurd ⟨c2, e⟩ c1
        · rw [if_neg c4] at h; exact absurd h (by decide)
      · rw [if_neg c3] at h; exact absurd h (by decide)
/-- a person's rows, as the text tells -/
def pRow (u : kW) (p k h a b : Nat) : Prop := u.1 4 p = nI k ∧ u.1 5 p = nI h ∧ u.1 6 (2 * p) = nI a ∧ u.1 6 (2 * p + 1) = nI b ∧ u.1 7 p = 0
def CoOK (f : Nat → Int32) (nn : Nat) (w w' : kW) : Prop := w'.1 0 5 = nI nn ∧ w'.1 0 15 = 0 ∧ w'.1 0 35 = 0 ∧ w'.1 0 0 = 0 ∧ w'.1 0 1 = w.1 0 1 ∧ w'.1 0 20 = w.1 0 20 ∧ w'.1 1 = w.1 1 ∧ w'.1 2 = w.1 2 ∧ w'.1 3 = w.1 3 ∧ ∀ p, p < nn → ∃ k h a b, TP f nn p k h a b ∧ pRow w' p k h a b
def txt (w : kW) (k i : Int32) : Nat → Int32 := fun x => w.1 3 (50 * dn k + dn i + x)
def PCo (w : kW) (k sort i n : Int32) (r : Option Value) (w' : kW) : Prop :=
  (¬ isS k ∧ r = some (.int (-1)) ∧ kset w 0 0 0 = w') ∨ (isS k ∧ ¬ isT sort ∧ r = some (.int (-2)) ∧ kset w 0 0 0 = w') ∨
  (isS k ∧ isT sort ∧ ¬ mAg w (dn k) sort i n = 0 ∧ r = some (.int (-10 - mAg w (dn k) sort i n)) ∧ kset w 0 0 (mAg w (dn k) sort i n) = w') ∨
  (isS k ∧ isT sort ∧ mAg w (dn k) sort i n = 0 ∧ ((∃ t, FF (txt w k i) (dn n) t ∧ r = some (.int (-100 - nI t)) ∧ mKc (kset w 0 0 0) w') ∨ (∃ nn, OKT (txt w k i) (dn n) nn ∧ r = some (.int (nI nn)) ∧ CoOK (txt w k i) nn w w')))
theorem TP_inj {f : Nat → Int32} {nn p k h a b k' h' a' b' : Nat} (hn : nn ≤ 6) (h1 : TP f nn p k h a b) (h2 : TP f nn p k' h' a' b') : k = k' ∧ h = h' ∧ a = a' ∧ b = b' := by
  obtain ⟨p1, ⟨p2, p3, p4⟩, ⟨p5, p6, p7⟩, p8, p9, p10⟩ := h1
  obtain ⟨q1, ⟨q2, q3, q4⟩, ⟨q5, q6, q7⟩, q8, q9, q10⟩ := h2
  have e1 := nI_inj (by omega) (by omega) (p4.symm.trans q4)
  have e2 := nI_inj (by omega) (by omega) (p7.symm.trans q7)
  have e3 := nI_inj (by omega) (by omega) (p10.symm.trans q10)
  exact ⟨kcode_inj p1 q1, by omega, by omega, by omega⟩
def FstP (P : Nat → Prop) (m t : Nat) : Prop := t ≤ m ∧ (∀ s, s < t → P s) ∧ (t < m → ¬ P t)
theorem FstP_inj {P : Nat → Prop} {m a b : Nat} (h1 : FstP P m a) (h2 : FstP P m b) : a = b := by
  rcases Nat.lt_trichotomy a b with h | h | h
  · exact absurd (h2.2.1 a h) (h1.2.2 (by have := h2.1; omega))
  · exact h
  · exact absurd (h1.2.1 b h) (h2.2.2 (by have := h1.1; omega))
def frAt (n c : Nat) (w : kW) (f : Nat → Int32) (s : Nat) : Prop := mFree (mGo n c w s) (dn (f s)) (nI s)
def PRow (nn c : Nat) (w : kW) (k sort i n : Int32) (r : Option Value) (w' : kW) : Prop :=
  (¬ isS k ∧ r = some (.int (-1)) ∧ kset w 0 0 0 = w') ∨ (isS k ∧ ¬ isT sort ∧ r = some (.int (-2)) ∧ kset w 0 0 0 = w') ∨
  (isS k ∧ isT sort ∧ ¬ mAg w (dn k) sort i n = 0 ∧ r = some (.int (-10 - mAg w (dn k) sort i n)) ∧ kset w 0 0 (mAg w (dn k) sort i n) = w') ∨
  (isS k ∧ isT sort ∧ mAg w (dn k) sort i n = 0 ∧ w.1 0 5 = 0 ∧ r = some (.int (-3)) ∧ kset w 0 0 0 = w') ∨
  (isS k ∧ isT sort ∧ mAg w (dn k) sort i n = 0 ∧ ¬ w.1 0 5 = 0 ∧ (∃ s, s < dn n ∧ ¬ isPr w (txt w k i s)) ∧ r = some (.int (-1)) ∧ kset w 0 0 0 = w') ∨
  (isS k ∧ isT sort ∧ mAg w (dn k) sort i n = 0 ∧ ¬ w.1 0 5 = 0 ∧ (∀ s, s < dn n → isPr w (txt w k i s)) ∧ ∃ t, FstP (frAt nn c w (txt w k i)) (dn n) t ∧ r = some (.int (nI t)) ∧ mKp c (kset w 0 0 0) w')
