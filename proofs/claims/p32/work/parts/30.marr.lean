/-! ===== arrests ===== -/
def pc6 (s : Nat) : Nat := s % 2 + s / 2 % 2 + s / 4 % 2 + s / 8 % 2 + s / 16 % 2 + s / 32 % 2
def arrF (v : kW) (s is : Int32) : Nat → kW
  | 0 => v
  | k + 1 => kset (arrF v s is k) 7 k (if bt s k = true then is else (arrF v s is k).1 7 k)
theorem arrF_row {v : kW} {s is : Int32} {j : Nat} (h : j ≠ 7) : ∀ k, (arrF v s is k).1 j = v.1 j
  | 0 => rfl
  | k + 1 => by rw [arrF, kset_row _ _ _ _ h, arrF_row h k]
theorem arrF_ge {v : kW} {s is : Int32} {p : Nat} : ∀ k, k ≤ p → (arrF v s is k).1 7 p = v.1 7 p
  | 0, _ => rfl
  | k + 1, h => by rw [arrF, kset_ne _ _ (Or.inr (by omega)), arrF_ge k (by omega)]
theorem arrF_at {v : kW} {s is : Int32} {p : Nat} : ∀ k, p < k → (arrF v s is k).1 7 p = if bt s p = true then is else v.1 7 p
  | 0, h => by omega
  | k + 1, h => by
    rw [arrF, kset_1, if_pos rfl]
    by_cases e : p = k
    · subst e; rw [if_pos rfl, arrF_ge p (Nat.le_refl _)]
    · rw [if_neg e]; exact arrF_at k (by omega)
theorem arrF_pn {n m : Nat} {w : kW} {s is : Int32} (h : Pn n w) (his : is = 0 ∨ is = 1) : Pn n (arrF w s is m) := by
  have e5 := arrF_row (v := w) (s := s) (is := is) (j := 5) (by decide) m
  have e6 := arrF_row (v := w) (s := s) (is := is) (j := 6) (by decide) m
  have e4 := arrF_row (v := w) (s := s) (is := is) (j := 4) (by decide) m
  have e0 := arrF_row (v := w) (s := s) (is := is) (j := 0) (by decide) m
  obtain ⟨h1, h2, h3, h4, h5, h6⟩ := h
  unfold Pn fr at *
  rw [e4, e5, e6, e0]
  refine ⟨h1, h2, h3, h4, fun p hp => ?_, h6⟩
  by_cases hm : p < m
  · rw [arrF_at m hm]
    split
    · exact his
    · exact h5 p hp
  · rw [arrF_ge m (by omega)]; exact h5 p hp
theorem arrF_ins {n c m : Nat} {w : kW} {s is : Int32} (h : Ins n c w) : Ins n c (arrF w s is m) := by
  unfold Ins at *
  rw [arrF_row (j := 0) (by decide), arrF_row (j := 11) (by decide), arrF_row (j := 12) (by decide), arrF_row (j := 13) (by decide), arrF_row (j := 14) (by decide)]
  exact h
/-- set s, arrested too, nobody meets -/
def okA (n c : Nat) (w : kW) (D s : Nat) : Prop := (mGo n c (arrF w (nI s) 1 n) (D + 1)).1 0 28 = 0
