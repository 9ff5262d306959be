theorem ts_out {x : Int32} (N : Nat) {M : Int32} (hM : M.toInt = N) (h : ¬ (0 ≤ x ∧ x ≤ M)) : x.toInt < 0 ∨ (N : Int) < x.toInt := by
  rw [Int32.le_iff_toInt_le, Int32.le_iff_toInt_le, hM] at h
  have : (0 : Int32).toInt = 0 := by decide
  omega
