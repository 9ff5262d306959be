abbrev isDayDeg (d g : Int32) : Prop := (0 ≤ d ∧ d ≤ 29) ∧ (1 ≤ g ∧ g ≤ 9)
def R_insult (w : kW) (a b d g : Int32) : Int32 × kW := if isPr w a ∧ isPr w b ∧ ¬ a = b then (if isDayDeg d g then (if w.1 0 15 = 8 then (-4, w) else (w.1 0 15, kset (kset (kset (kset (kset w 11 (dn (w.1 0 15)) a) 12 (dn (w.1 0 15)) b) 13 (dn (w.1 0 15)) d) 14 (dn (w.1 0 15)) g) 0 15 (w.1 0 15 + 1))) else (-2, w)) else (-1, w)
def R_sorry (w : kW) (k : Int32) : Int32 × kW := if 0 ≤ k ∧ k ≤ w.1 0 15 then (w.1 0 15 - k, kset w 0 15 (w.1 0 15 - k)) else (-2, w)
def R_arrest (w : kW) (p is : Int32) : Int32 × kW := if isPr w p then (if w.1 7 (dn p) = is then 0 else 1, kset w 7 (dn p) is) else (-1, w)
def R_ofPerson (w : kW) (p what : Int32) : Int32 × kW := if isPr w p then (if 0 ≤ what ∧ what ≤ 5 then (if what = 0 then w.1 4 (dn p) else if what = 1 then w.1 5 (dn p) else if what = 2 then w.1 6 (2 * dn p) else if what = 3 then w.1 6 (2 * dn p + 1) else if what = 4 then mTouch w (dn p) else if w.1 7 (dn p) = 0 then 0 else 1) else -2, w) else (-1, w)
def tr1 (w : kW) (b : Int32) : kW := kset w 0 1 (31 * w.1 0 1 + b)
theorem kset_kset (w : kW) (c k : Nat) (a b : Int32) : kset (kset w c k a) c k b = kset w c k b := by
  show (k_up (k_up w.1 c k a) c k b, w.2) = _
  rw [k_up_up]
  rfl
def A_many (n c : Nat) (w : kW) (what : Int32) : Int32 := if what = 3 then (if w.1 0 5 = 0 then 0 else (mGo n c w 60).1 0 28) else if what = 0 then w.1 0 5 else if what = 1 then w.1 0 15 else if what = 2 then w.1 0 35 else -2
