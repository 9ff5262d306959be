/-! ===== provoked ===== -/
def layW (w : kW) (c : Nat) (a b d g : Int32) : kW := kset (kset (kset (kset (kset w 11 c a) 12 c b) 13 c d) 14 c g) 0 15 (nI (c + 1))
def prov (n c : Nat) (w : kW) (p o : Int32) (d a b g : Nat) : Prop := dMt (mGo n (c + 1) (layW w c (nI a) (nI b) (nI d) (nI g)) 60) p o (nI d)
def valid (n a b g : Nat) : Prop := a < n ∧ b < n ∧ a ≠ b ∧ 1 ≤ g ∧ g ≤ 9
def noneBelow (n c : Nat) (w : kW) (p o : Int32) (d t : Nat) : Prop := ∀ a b g, valid n a b g → 100 * a + 10 * b + g < t → ¬ prov n c w p o d a b g
theorem noneBelow.up {n c : Nat} {w : kW} {p o : Int32} {d t : Nat} {a b g : Nat} (h : noneBelow n c w p o d (100 * a + 10 * b + g)) (hn : n ≤ 6) (hb : b < 6) (hg : g ≤ 9) (h1 : ¬ prov n c w p o d a b g) : noneBelow n c w p o d (100 * a + 10 * b + (g + 1)) := by
  intro a' b' g' hv ht
  by_cases e : 100 * a' + 10 * b' + g' = 100 * a + 10 * b + g
  · obtain ⟨v1, v2, v3, v4, v5⟩ := hv
    obtain ⟨rfl, rfl, rfl⟩ : a' = a ∧ b' = b ∧ g' = g := by omega
    exact h1
  · exact h a' b' g' hv (by omega)
theorem day_of {x : Int32} (h : 0 ≤ x ∧ x ≤ 29) : ∃ D, D < 30 ∧ x = nI D := by
  obtain ⟨j, hj, e⟩ := nI_of2 (n := 29) (M := 29) (by decide) (Int32.not_lt.mpr h.1) h.2
  exact ⟨j, by omega, e⟩
