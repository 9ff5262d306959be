/-! ===== the sheets of the reference ===== -/
abbrev isS (k : Int32) : Prop := 0 ≤ k ∧ k ≤ 3
abbrev isT (k : Int32) : Prop := 0 ≤ k ∧ k ≤ 2
theorem sheet_of {x : Int32} (h : 0 ≤ x ∧ x ≤ 3) : ∃ k, k < 4 ∧ x = nI k := by
  obtain ⟨j, hj, e⟩ := nI_of2 (n := 3) (M := 3) (by decide) (Int32.not_lt.mpr h.1) h.2
  exact ⟨j, by omega, e⟩
theorem sheet_in {k : Nat} (h : k < 4) : isS (nI k) := ⟨nI_pos' (by omega), nI_le (b := 3) (by omega) (by omega)⟩
theorem idx_of {x : Int32} {l : Nat} (hl : l ≤ 50) (h : 0 ≤ x ∧ x ≤ nI l - 1) : ∃ i, i < l ∧ x = nI i := by
  obtain ⟨j, hj, rfl⟩ := nI_of (Int32.not_lt.mpr h.1)
  rcases Nat.eq_zero_or_pos l with e | e
  · subst e
    have h2 := h.2
    rw [Int32.le_iff_toInt_le, nI_toInt hj, show (nI 0 - 1).toInt = -1 from by decide] at h2
    omega
  · obtain ⟨l', rfl⟩ : ∃ l', l = l' + 1 := ⟨l - 1, by omega⟩
    have h2 := h.2
    rw [nI_predS] at h2
    have := (nI_leI hj (by omega)).mp h2
    exact ⟨j, by omega, rfl⟩
def mAg (w : kW) (j : Nat) (sort i n : Int32) : Int32 := if ¬ w.1 1 j = -9 ∧ ¬ w.1 1 j = sort then 2 else if w.1 1 j = -9 then 1 else if 0 ≤ n then (if ¬ i < 0 ∧ i ≤ w.1 2 j ∧ n ≤ w.1 2 j - i then 0 else 3) else 4
def zeroC (w : kW) (j : Nat) : Nat → kW
  | 0 => w
  | k + 1 => kset (zeroC w j k) 3 (50 * j + k) 0
def R_sheet (w : kW) (k sort n : Int32) : Int32 × kW := if isS k then (if isT sort ∧ n ≤ 50 then (if 0 ≤ n then (1, zeroC (kset (kset (kset w 0 0 0) 1 (dn k) sort) 2 (dn k) n) (dn k) 50) else (-14, kset w 0 0 4)) else (-2, kset w 0 0 0)) else (-1, kset w 0 0 0)
def mCut (s v : Int32) : Int32 := if s = 0 then v.toInt8.toInt32 else if s = 1 then v.toInt16.toInt32 else v
def R_put (w : kW) (k i v : Int32) : Int32 × kW := if isS k then (if w.1 1 (dn k) = -9 then (-11, kset w 0 0 1) else if 0 ≤ i ∧ i ≤ w.1 2 (dn k) - 1 then (1, kset (kset w 0 0 0) 3 (50 * dn k + dn i) (mCut (w.1 1 (dn k)) v)) else (-13, kset w 0 0 3)) else (-1, kset w 0 0 0)
