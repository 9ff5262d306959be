theorem Rd.un {n q : Nat} {w : kW} {x : Int32} (h : Rd n q w) : Rd n q (kset w 0 20 x) := h
