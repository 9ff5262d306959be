theorem pn_X0 : plainName RX0 = true := by decide +kernel
theorem pn_X1 : plainName RX1 = true := by decide +kernel
theorem pn_X2 : plainName RX2 = true := by decide +kernel
theorem pn_X3 : plainName RX3 = true := by decide +kernel
theorem pn_X4 : plainName RX4 = true := by decide +kernel
theorem pn_X5 : plainName RX5 = true := by decide +kernel
theorem pn_X6 : plainName RX6 = true := by decide +kernel
theorem pn_X7 : plainName RX7 = true := by decide +kernel
theorem pn_J7 : plainName RJ7 = true := by decide +kernel
theorem nI_inj {a b : Nat} (ha : a < 2 ^ 31) (hb : b < 2 ^ 31) (h : nI a = nI b) : a = b := (nI_eq ha hb).mp h
theorem nI_mul (a b : Nat) : nI a * nI b = nI (a * b) := by
  unfold nI
  exact (Int32.ofNat_mul a b).symm
theorem nI_sub {a b : Nat} (h : b ≤ a) : nI a - nI b = nI (a - b) := by
  have e : nI (a - b) + nI b = nI a := by rw [nI_add, Nat.sub_add_cancel h]
  rw [← e, Int32.add_sub_cancel]
/-- an int between two bounds is a number -/
theorem nI_between {x : Int32} {N : Nat} (h0 : ¬ x < 0) (h1 : x < nI N) (hN : N < 2 ^ 31) : ∃ j, j < N ∧ x = nI j := by
  obtain ⟨j, hj, rfl⟩ := nI_of h0
  exact ⟨j, (nI_ltI hj hN).mp h1, rfl⟩
section KN
variable {sh : List kE} {own : String} {cc : ByteArray} {n : Nat} {rt : Option FieldType} {fr lo : Nat} {Φ : Option Value → kW → Prop} {pc : Nat} {L : List (Nat × Value)} {st : List Value} {w : kW}
theorem b_topi {x y : Int32} (h : x = y) (kk : BS sh own cc n rt fr lo Φ pc L (.int y :: st) w) : BS sh own cc n rt fr lo Φ pc L (.int x :: st) w := h ▸ kk
theorem b_topl {x y : Int64} (h : x = y) (kk : BS sh own cc n rt fr lo Φ pc L (.long y :: st) w) : BS sh own cc n rt fr lo Φ pc L (.long x :: st) w := h ▸ kk
theorem b_wd {w' : kW} (h : w = w') (kk : BS sh own cc n rt fr lo Φ pc L st w') : BS sh own cc n rt fr lo Φ pc L st w := h ▸ kk
theorem b_sub {L' : List (Nat × Value)} (ks : List Nat) (h : lv_pick L ks = L') (kk : BS sh own cc n rt fr lo Φ pc L' st w) : BS sh own cc n rt fr lo Φ pc L st w := by
  intro p l e s m args below meth co D ca ad H locs ls cx hP hD hS hl
  refine kk p l e s m args below meth co D ca ad H locs ls cx hP hD hS (lv_sub hl ks ?_)
  subst h
  simp only [lv_pick, k_L, List.getElem?_map, List.map_filterMap]
theorem vp_nI {j N : Nat} (h : j < N ∧ N ≤ 1000) : vp_in (nI j) N := by
  rintro (h1 | h1)
  · exact nI_pos (by omega) h1
  · rw [nI_clamp (by omega)] at h1
    omega
theorem b_ialdN {c N j : Nat} (hd : decode cc pc = .ok (.iaload, 1)) (hc : sh[c]? = some (.inr (.inl (0, N)))) (hi : j < N ∧ N ≤ 1000) (kk : BS sh own cc n rt fr lo Φ (pc + 1) L (.int (w.1 c j) :: st) w) : BS sh own cc n rt fr lo Φ pc L (.int (nI j) :: .ref c :: st) w := by
  refine b_iald hd hc (vp_nI hi) ?_
  rw [nI_clamp (by omega)]
  exact kk
theorem b_iastN {c N j : Nat} {x : Int32} (hd : decode cc pc = .ok (.iastore, 1)) (hc : sh[c]? = some (.inr (.inl (0, N)))) (hi : j < N ∧ N ≤ 1000) (kk : BS sh own cc n rt fr lo Φ (pc + 1) L st (k_up w.1 c j x, w.2)) : BS sh own cc n rt fr lo Φ pc L (.int x :: .int (nI j) :: .ref c :: st) w := by
  refine b_iast hd hc (vp_nI hi) ?_
  rw [nI_clamp (by omega)]
  exact kk
end KN
