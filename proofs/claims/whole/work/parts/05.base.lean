theorem pn_X0 : plainName RX0 = true := by decide +kernel
theorem pn_X1 : plainName RX1 = true := by decide +kernel
theorem pn_X2 : plainName RX2 = true := by decide +kernel
theorem pn_X3 : plainName RX3 = true := by decide +kernel
theorem pn_X4 : plainName RX4 = true := by decide +kernel
theorem pn_X5 : plainName RX5 = true := by decide +kernel
theorem pn_X6 : plainName RX6 = true := by decide +kernel
theorem pn_X7 : plainName RX7 = true := by decide +kernel
theorem pn_X8 : plainName RX8 = true := by decide +kernel
theorem pn_J6 : plainName RJ6 = true := by decide +kernel
theorem pn_J7 : plainName RJ7 = true := by decide +kernel
theorem nI_lit (n : Nat) : Int32.ofNat n = nI n := rfl
theorem nI_inj {a b : Nat} (ha : a < 2 ^ 31) (hb : b < 2 ^ 31) (h : nI a = nI b) : a = b := (nI_eq ha hb).mp h
theorem nI_mul (a b : Nat) : nI a * nI b = nI (a * b) := by
  unfold nI
  exact (Int32.ofNat_mul a b).symm
theorem nI_sub {a b : Nat} (h : b ≤ a) : nI a - nI b = nI (a - b) := by
  have e : nI (a - b) + nI b = nI a := by rw [nI_add, Nat.sub_add_cancel h]
  rw [← e, Int32.add_sub_cancel]
theorem nI_two (j : Nat) : 2 * nI j = nI (2 * j) := nI_mul 2 j
/-- an int between two bounds is a number -/
theorem nI_between {x : Int32} {N : Nat} (h0 : ¬ x < 0) (h1 : x < nI N) (hN : N < 2 ^ 31) : ∃ j, j < N ∧ x = nI j := by
  obtain ⟨j, hj, rfl⟩ := nI_of h0
  exact ⟨j, (nI_ltI hj hN).mp h1, rfl⟩
section KN
variable {sh : List kE} {own : String} {cc : ByteArray} {n : Nat} {rt : Option FieldType} {fr lo : Nat} {Φ : Option Value → kW → Prop} {pc : Nat} {L : List (Nat × Value)} {st : List Value} {w : kW}
theorem b_topi {x y : Int32} (h : x = y) (kk : BS sh own cc n rt fr lo Φ pc L (.int y :: st) w) : BS sh own cc n rt fr lo Φ pc L (.int x :: st) w := h ▸ kk
theorem b_topl {x y : Int64} (h : x = y) (kk : BS sh own cc n rt fr lo Φ pc L (.long y :: st) w) : BS sh own cc n rt fr lo Φ pc L (.long x :: st) w := h ▸ kk
theorem b_wd {w' : kW} (h : w = w') (kk : BS sh own cc n rt fr lo Φ pc L st w') : BS sh own cc n rt fr lo Φ pc L st w := h ▸ kk
theorem b_sub {L' : List (Nat × Value)} (ks : List Nat) (h : lv_pick L ks = L') (kk : BS sh own cc n rt fr lo Φ pc L' st w) : BS sh own cc n rt fr lo Φ pc L st w := by
  intro p l e s m args below meth co D ca ad H locs ls cx hP hD hS hl
  refine kk p l e s m args below meth co D ca ad H locs ls cx hP hD hS (lv_sub hl ks ?_)
  subst h
  simp only [lv_pick, k_L, List.getElem?_map, List.map_filterMap]
theorem vp_nI {j N : Nat} (h : j < N ∧ N ≤ 1000) : vp_in (nI j) N := by
  rintro (h1 | h1)
  · exact nI_pos (by omega) h1
  · rw [nI_clamp (by omega)] at h1
    omega
theorem b_ialdN {c N j : Nat} (hd : decode cc pc = .ok (.iaload, 1)) (hc : sh[c]? = some (.inr (.inl (0, N)))) (hi : j < N ∧ N ≤ 1000) (kk : BS sh own cc n rt fr lo Φ (pc + 1) L (.int (w.1 c j) :: st) w) : BS sh own cc n rt fr lo Φ pc L (.int (nI j) :: .ref c :: st) w := by
  refine b_iald hd hc (vp_nI hi) ?_
  rw [nI_clamp (by omega)]
  exact kk
theorem b_zaldN {c N j : Nat} (hd : decode cc pc = .ok (.baload, 1)) (hc : sh[c]? = some (.inr (.inl (1, N)))) (hi : j < N ∧ N ≤ 1000) (kk : BS sh own cc n rt fr lo Φ (pc + 1) L (.int (w.1 c j) :: st) w) : BS sh own cc n rt fr lo Φ pc L (.int (nI j) :: .ref c :: st) w := by
  refine b_zald hd hc (vp_nI hi) ?_
  rw [nI_clamp (by omega)]
  exact kk
theorem b_iastN {c N j : Nat} {x : Int32} (hd : decode cc pc = .ok (.iastore, 1)) (hc : sh[c]? = some (.inr (.inl (0, N)))) (hi : j < N ∧ N ≤ 1000) (kk : BS sh own cc n rt fr lo Φ (pc + 1) L st (k_up w.1 c j x, w.2)) : BS sh own cc n rt fr lo Φ pc L (.int x :: .int (nI j) :: .ref c :: st) w := by
  refine b_iast hd hc (vp_nI hi) ?_
  rw [nI_clamp (by omega)]
  exact kk
theorem k_narz {x : Int32} (h : x = 0 ∨ x = 1) : vp_nar .boolean x = x := by
  rcases h with rfl | rfl <;> decide
theorem b_zastN {c N j : Nat} {x : Int32} (hd : decode cc pc = .ok (.bastore, 1)) (hc : sh[c]? = some (.inr (.inl (1, N)))) (hi : j < N ∧ N ≤ 1000) (hx : x = 0 ∨ x = 1) (kk : BS sh own cc n rt fr lo Φ (pc + 1) L st (k_up w.1 c j x, w.2)) : BS sh own cc n rt fr lo Φ pc L (.int x :: .int (nI j) :: .ref c :: st) w := by
  refine b_zast hd hc (vp_nI hi) (k_narz hx) ?_
  rw [nI_clamp (by omega)]
  exact kk
end KN

set_option maxRecDepth 100000 in
set_option maxHeartbeats 4000000 in
theorem s_X8_within {w : kW} {v a b : Int32} : Spec shM yX8_within cX8_within 3 (some .boolean) 0 0 [.int v, .int a, .int b] w (fun r w' => w = w' ∧ ((r = some (.int 1) ∧ (a ≤ v ∧ v ≤ b)) ∨ (r = some (.int 0) ∧ ¬ (a ≤ v ∧ v ≤ b)))) := by
  refine k_enter pn_X8 (Nat.le_of_ble_eq_true rfl) ?_
  refine b_iload_n dX8_within_0 rfl ?_
  refine b_iload_n dX8_within_1 rfl ?_
  refine b_icmp_lt (tgt := 14) dX8_within_2 (by decide) (fun h2 => ?_) (fun h2 => ?_)
  · refine b_iconst (v := 0) dX8_within_14 (by decide) ?_
    refine b_zret (Or.inl rfl) dX8_within_15 rfl ⟨rfl, Or.inr ⟨rfl, ?_⟩⟩
    (simp only [Int32.lt_iff_toInt_lt, Int32.le_iff_toInt_le, ← Int32.toInt_inj] at * <;> omega)
  · refine b_iload_n dX8_within_5 rfl ?_
    refine b_iload_n dX8_within_6 rfl ?_
    refine b_icmp_gt (tgt := 14) dX8_within_7 (by decide) (fun h7 => ?_) (fun h7 => ?_)
    · refine b_iconst (v := 0) dX8_within_14 (by decide) ?_
      refine b_zret (Or.inl rfl) dX8_within_15 rfl ⟨rfl, Or.inr ⟨rfl, ?_⟩⟩
      (simp only [Int32.lt_iff_toInt_lt, Int32.le_iff_toInt_le, ← Int32.toInt_inj] at * <;> omega)
    · refine b_iconst (v := 1) dX8_within_10 (by decide) ?_
      refine b_goto (tgt := 15) dX8_within_11 (by decide) ?_
      refine b_zret (Or.inr rfl) dX8_within_15 rfl ⟨rfl, Or.inl ⟨rfl, ?_⟩⟩
      (simp only [Int32.lt_iff_toInt_lt, Int32.le_iff_toInt_le, ← Int32.toInt_inj] at * <;> omega)

set_option maxRecDepth 100000 in
set_option maxHeartbeats 4000000 in
theorem s_X8_fails {w : kW} {k : Int32} : Spec shM yX8_fails cX8_fails 2 (some .int) 0 0 [.ref 0, .int k] w (fun r w' => r = some (.int (-10 - k)) ∧ (k_up w.1 0 0 k, w.2) = w') := by
  refine k_enter pn_X8 (Nat.le_of_ble_eq_true rfl) ?_
  refine b_aload_n dX8_fails_0 rfl ?_
  refine b_iload_n dX8_fails_1 rfl ?_
  refine b_puti dX8_fails_2 gf_X8_95 gs_X8_0 rfl rfl ?_
  refine b_bipush (v := (-10)) dX8_fails_5 (by decide) ?_
  refine b_iload_n dX8_fails_7 rfl ?_
  refine b_isub dX8_fails_8 ?_
  refine b_iret dX8_fails_9 rfl ⟨?_, ?_⟩
  · rfl
  · rfl

set_option maxRecDepth 100000 in
set_option maxHeartbeats 4000000 in
theorem s_X8_lost {w : kW} {k : Int32} : Spec shM yX8_lost cX8_lost 2 (some .long) 0 0 [.ref 0, .int k] w (fun r w' => r = some (.long (-9223372036854775808)) ∧ (k_up w.1 0 0 k, w.2) = w') := by
  refine k_enter pn_X8 (Nat.le_of_ble_eq_true rfl) ?_
  refine b_aload_n dX8_lost_0 rfl ?_
  refine b_iload_n dX8_lost_1 rfl ?_
  refine b_puti dX8_lost_2 gf_X8_95 gs_X8_0 rfl rfl ?_
  refine b_ldc2 dX8_lost_5 lc_X8_99 ?_
  exact b_lret dX8_lost_8 rfl ⟨rfl, rfl⟩

set_option maxRecDepth 100000 in
set_option maxHeartbeats 4000000 in
theorem s_X8_isSheet {w : kW} {k : Int32} : Spec shM yX8_isSheet cX8_isSheet 1 (some .boolean) 1 22 [.int k] w (fun r w' => w = w' ∧ ((r = some (.int 1) ∧ (0 ≤ k ∧ k ≤ 3)) ∨ (r = some (.int 0) ∧ ¬ (0 ≤ k ∧ k ≤ 3)))) := by
  refine k_enter pn_X8 (Nat.le_of_ble_eq_true rfl) ?_
  refine b_iload_n dX8_isSheet_0 rfl ?_
  refine b_iconst (v := 0) dX8_isSheet_1 (by decide) ?_
  refine b_iconst (v := 3) dX8_isSheet_2 (by decide) ?_
  refine b_callS3 dX8_isSheet_3 lk_X8_101 ⟨Nat.le_of_ble_eq_true rfl, Nat.le_of_ble_eq_true rfl⟩ (Nat.le_of_ble_eq_true rfl) (s_X8_within) (fun r w3 h3 => ?_)
  obtain ⟨rfl, h3⟩ := h3
  rcases h3 with ⟨rfl, h3⟩ | ⟨rfl, h3⟩
  · refine b_zret (Or.inr rfl) dX8_isSheet_6 rfl ⟨rfl, Or.inl ⟨rfl, ?_⟩⟩
    assumption
  · refine b_zret (Or.inl rfl) dX8_isSheet_6 rfl ⟨rfl, Or.inr ⟨rfl, ?_⟩⟩
    assumption

set_option maxRecDepth 100000 in
set_option maxHeartbeats 4000000 in
theorem s_X8_isSort {w : kW} {k : Int32} : Spec shM yX8_isSort cX8_isSort 1 (some .boolean) 1 22 [.int k] w (fun r w' => w = w' ∧ ((r = some (.int 1) ∧ (0 ≤ k ∧ k ≤ 2)) ∨ (r = some (.int 0) ∧ ¬ (0 ≤ k ∧ k ≤ 2)))) := by
  refine k_enter pn_X8 (Nat.le_of_ble_eq_true rfl) ?_
  refine b_iload_n dX8_isSort_0 rfl ?_
  refine b_iconst (v := 0) dX8_isSort_1 (by decide) ?_
  refine b_iconst (v := 2) dX8_isSort_2 (by decide) ?_
  refine b_callS3 dX8_isSort_3 lk_X8_101 ⟨Nat.le_of_ble_eq_true rfl, Nat.le_of_ble_eq_true rfl⟩ (Nat.le_of_ble_eq_true rfl) (s_X8_within) (fun r w3 h3 => ?_)
  obtain ⟨rfl, h3⟩ := h3
  rcases h3 with ⟨rfl, h3⟩ | ⟨rfl, h3⟩
  · refine b_zret (Or.inr rfl) dX8_isSort_6 rfl ⟨rfl, Or.inl ⟨rfl, ?_⟩⟩
    assumption
  · refine b_zret (Or.inl rfl) dX8_isSort_6 rfl ⟨rfl, Or.inr ⟨rfl, ?_⟩⟩
    assumption

set_option maxRecDepth 100000 in
set_option maxHeartbeats 4000000 in
theorem s_X8_isDawn {w : kW} {k : Int32} : Spec shM yX8_isDawn cX8_isDawn 1 (some .boolean) 1 22 [.int k] w (fun r w' => w = w' ∧ ((r = some (.int 1) ∧ (0 ≤ k ∧ k ≤ 59)) ∨ (r = some (.int 0) ∧ ¬ (0 ≤ k ∧ k ≤ 59)))) := by
  refine k_enter pn_X8 (Nat.le_of_ble_eq_true rfl) ?_
  refine b_iload_n dX8_isDawn_0 rfl ?_
  refine b_iconst (v := 0) dX8_isDawn_1 (by decide) ?_
  refine b_bipush (v := 59) dX8_isDawn_2 (by decide) ?_
  refine b_callS3 dX8_isDawn_4 lk_X8_101 ⟨Nat.le_of_ble_eq_true rfl, Nat.le_of_ble_eq_true rfl⟩ (Nat.le_of_ble_eq_true rfl) (s_X8_within) (fun r w4 h4 => ?_)
  obtain ⟨rfl, h4⟩ := h4
  rcases h4 with ⟨rfl, h4⟩ | ⟨rfl, h4⟩
  · refine b_zret (Or.inr rfl) dX8_isDawn_7 rfl ⟨rfl, Or.inl ⟨rfl, ?_⟩⟩
    assumption
  · refine b_zret (Or.inl rfl) dX8_isDawn_7 rfl ⟨rfl, Or.inr ⟨rfl, ?_⟩⟩
    assumption

set_option maxRecDepth 100000 in
set_option maxHeartbeats 4000000 in
theorem s_X8_isPerson {w : kW} {k : Int32} : Spec shM yX8_isPerson cX8_isPerson 2 (some .boolean) 0 0 [.ref 0, .int k] w (fun r w' => w = w' ∧ ((r = some (.int 1) ∧ (¬ k < 0 ∧ k < w.1 0 5)) ∨ (r = some (.int 0) ∧ ¬ (¬ k < 0 ∧ k < w.1 0 5)))) := by
  refine k_enter pn_X8 (Nat.le_of_ble_eq_true rfl) ?_
  refine b_iload_n dX8_isPerson_0 rfl ?_
  refine b_if_lt (tgt := 16) dX8_isPerson_1 (by decide) (fun h1 => ?_) (fun h1 => ?_)
  · refine b_iconst (v := 0) dX8_isPerson_16 (by decide) ?_
    refine b_zret (Or.inl rfl) dX8_isPerson_17 rfl ⟨rfl, Or.inr ⟨rfl, ?_⟩⟩
    (simp only [Int32.lt_iff_toInt_lt, Int32.le_iff_toInt_le, ← Int32.toInt_inj] at * <;> omega)
  · refine b_iload_n dX8_isPerson_4 rfl ?_
    refine b_aload_n dX8_isPerson_5 rfl ?_
    refine b_geti dX8_isPerson_6 gf_X8_105 rfl rfl ?_
    refine b_icmp_ge (tgt := 16) dX8_isPerson_9 (by decide) (fun h9 => ?_) (fun h9 => ?_)
    · refine b_iconst (v := 0) dX8_isPerson_16 (by decide) ?_
      refine b_zret (Or.inl rfl) dX8_isPerson_17 rfl ⟨rfl, Or.inr ⟨rfl, ?_⟩⟩
      (simp only [Int32.lt_iff_toInt_lt, Int32.le_iff_toInt_le, ← Int32.toInt_inj] at * <;> omega)
    · refine b_iconst (v := 1) dX8_isPerson_12 (by decide) ?_
      refine b_goto (tgt := 17) dX8_isPerson_13 (by decide) ?_
      refine b_zret (Or.inr rfl) dX8_isPerson_17 rfl ⟨rfl, Or.inl ⟨rfl, ?_⟩⟩
      (simp only [Int32.lt_iff_toInt_lt, Int32.le_iff_toInt_le, ← Int32.toInt_inj] at * <;> omega)
