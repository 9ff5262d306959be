/-! ===== what was seen ===== -/
def wHu (w : kW) (p : Int32) : Prop := ∃ k, k < dn (w.1 0 28) ∧ w.1 25 k = p
def dMt (w : kW) (p o day : Int32) : Prop := ∃ k, k < dn (w.1 0 28) ∧ ((w.1 21 k = p ∧ w.1 22 k = o) ∨ (w.1 21 k = o ∧ w.1 22 k = p)) ∧ day < w.1 20 k
