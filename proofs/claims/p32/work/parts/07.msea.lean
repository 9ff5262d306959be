theorem Pn.frd {w : kW} {n k : Nat} (h : Pn n w) (hk : k < 2 * n) : fr w k < n ∧ w.1 6 k = nI (fr w k) := h.2.2.2.1 k hk
theorem Pn.le {w : kW} {n : Nat} (h : Pn n w) : n ≤ 6 := h.2.1
theorem fr_step {l : List Nat} {x : Nat} {q : Nat → Bool} (h : q x = false) : (x :: l).find? q = l.find? q := List.find?_cons_of_neg (by simp [h])
theorem fr_stop {l : List Nat} {x : Nat} {q : Nat → Bool} (h : q x = true) : (x :: l).find? q = some x := List.find?_cons_of_pos h
