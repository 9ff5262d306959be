/-! ===== odds ===== -/
noncomputable def hF (n c : Nat) (w : kW) (D : Nat) (p : Int32) : Nat → Nat := fun s => b01 (wHu (mGo n c (kset w 0 20 (nI s)) D) p)
