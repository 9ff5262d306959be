theorem nle_of {x : Int32} {l : Nat} (hl : l ≤ 200) (h0 : ¬ x < 0) (h : x ≤ nI l) : ∃ j, j ≤ l ∧ x = nI j := nI_of2 (nI_toInt (by omega)) h0 h
