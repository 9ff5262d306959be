/-! ===== live: all dawns ===== -/
theorem begW_k2 (w : kW) (ins arr : Int32) (D : Int64) : cK2 w (begW w ins arr D) := by
  intro c hc
  unfold begW
  rw [fillF_row (by omega), kset_row _ _ _ _ (by omega), kset_row _ _ _ _ (by omega), kset_row _ _ _ _ (by omega), kset_row _ _ _ _ (by omega)]
  show (kset (kset w 15 7 ins) 15 9 arr).1 c = _
  rw [kset_row _ _ _ _ (by omega), kset_row _ _ _ _ (by omega)]
theorem RP.keep2 {n : Nat} {w w' g g' : kW} (h : RP n w g) (h1 : cK2 w w') (h2 : sKeep g g') : RP n w' g' := by
  refine ⟨h.1.keep h2, ?_, fun p hp => ?_⟩
  · rw [h1 1 (by decide)]; exact h.2.1
  · rw [h1 2 (by decide), h1 3 (by decide), h1 4 (by decide), h1 5 (by decide), h2.1 4 (by decide) (by decide), h2.1 5 (by decide) (by decide), h2.1 6 (by decide) (by decide)]
    exact h.2.2 p hp
theorem begW_15 (w : kW) (ins arr : Int32) (D : Int64) : (begW w ins arr D).1 15 = (kset (kset (kset (kset (beg0 w ins arr D) 16 0 0) 24 0 0) 15 5 0) 15 1 0).1 15 := by
  unfold begW
  exact fillF_row (by omega) 6
theorem beg_rel {n c : Nat} {w g : kW} {ins arr : Int32} {D : Int64} (h1 : RP n w g) (h2 : Ins n c g) (h3 : RI c w g) (hi : ∀ k, k < c → (bt ins k = true ↔ bt (g.1 0 20) k = false)) (ha : ∀ p, p < n → (bt arr p = false ↔ g.1 7 p = 0)) (hD : dayBits c ins w D) : RD n c 0 (begW w ins arr D) (mBegin n g) := by
  obtain ⟨b1, b2⟩ := mBegin_inv h1.1
  have hn := h1.1.le
  have k2 := begW_k2 w ins arr D
  have z := mZero_23 g n
  refine ⟨h1.keep2 k2 b2, h2.keep b2, h3.keep k2 b2, ⟨?_, ?_, ?_⟩, b1, ⟨0, 0, by decide, by decide, z.2, ?_, z.1, ?_, ⟨fun _ _ _ _ h => absurd h (Nat.not_lt_zero _), fun _ h => absurd h (Nat.not_lt_zero _), fun p hp => ?_⟩, fun p hp => ?_⟩, 0, 0, ?_, Nat.le_refl _, by decide, z.1, fun _ h => absurd h (Nat.not_lt_zero _), fun _ _ h => absurd h (Nat.not_lt_zero _)⟩
  · intro k hk
    rw [begW_15, b2.2.1 20 (by decide) (by decide) (by decide)]
    exact hi k hk
  · intro p hp
    rw [begW_15, b2.1 7 (by decide) (by decide)]
    exact ha p hp
  · unfold dayBits
    rw [begW_15, k2 9 (by decide)]
    have e2 : (begW w ins arr D).2 = k_up w.2 15 8 D := by unfold begW; rw [fillF_2]; rfl
    rw [e2, k_up_same]
    exact hD
  · unfold begW; rw [fillF_row (by omega)]; rfl
  · unfold begW; rw [fillF_row (by omega)]; rfl
  · unfold begW
    rw [fillF_in 6 p (by omega)]
    show (0 : Int32) = (mZero g n).1 15 p
    rw [mZero_15 g n p hp]
  · rw [begW_15]
    show bt 0 p = true ↔ _
    rw [b_0]
    simp
  · rw [begW_15]; rfl
theorem last_lt {D k : Nat} (hD : D ≤ 60) (hk : k ≤ 60) : nI D - 1 < nI k ↔ D ≤ k := by
  have : ∀ D, D < 61 → ∀ k, k < 61 → (nI D - 1 < nI k ↔ D ≤ k) := by decide +kernel
  exact this D (by omega) k (by omega)
set_option maxRecDepth 100000 in
set_option maxHeartbeats 4000000 in
theorem s_X4_live_lp {w g : kW} {n c D : Nat} (hD : D ≤ 60) : ∀ q k, k + q = D → ∀ v : kW, RD n c k v (mAhead n c g k) → cK2 w v → BS shC RX4 cX4_live 5 none 4 105 (fun r w' => r = none ∧ RD n c D w' (mAhead n c g D) ∧ cK2 w w') 9 [(0, .ref 15), (3, .int (nI D - 1)), (4, .int (nI k))] [] v := by
  intro q
  induction q with
  | zero =>
    intro k hk v hv hk2
    refine b_iload dX4_live_9 rfl ?_
    refine b_iload_n dX4_live_11 rfl ?_
    refine b_icmp_gt (tgt := 27) dX4_live_12 (by decide) (fun h12 => ?_) (fun h12 => ?_)
    · have e : k = D := by omega
      subst e
      exact b_vret dX4_live_27 rfl ⟨rfl, hv, hk2⟩
    · exact absurd ((last_lt hD (by omega)).mpr (by omega)) h12
  | succ q ih =>
    intro k hk v hv hk2
    refine b_iload dX4_live_9 rfl ?_
    refine b_iload_n dX4_live_11 rfl ?_
    refine b_icmp_gt (tgt := 27) dX4_live_12 (by decide) (fun h12 => ?_) (fun h12 => ?_)
    · exact absurd ((last_lt hD (by omega)).mp h12) (by omega)
    · refine b_aload_n dX4_live_15 rfl ?_
      refine b_iload dX4_live_16 rfl ?_
      refine b_callV1 dX4_live_18 lk_X4_42 rfl rfl rfl ⟨Nat.le_of_ble_eq_true rfl, Nat.le_of_ble_eq_true rfl⟩ (Nat.le_of_ble_eq_true rfl) (s_X4_pass hv (by omega)) (fun r w18 h18 => ?_)
      obtain ⟨rfl, q1, q2⟩ := h18
      refine b_iinc dX4_live_21 rfl (nI_inc k) (by decide) ?_
      refine b_goto (tgt := 9) dX4_live_24 (by decide) ?_
      refine b_sub [1, 2, 0] rfl ?_
      exact ih (k + 1) (by omega) w18 q1 (hk2.tr q2)
set_option maxRecDepth 100000 in
set_option maxHeartbeats 4000000 in
theorem s_X4_live {w g : kW} {n c D : Nat} {ins arr last : Int32} (h1 : RP n w g) (h2 : Ins n c g) (h3 : RI c w g) (hD : D ≤ 60) (hl : last = nI D - 1) (hi : ∀ k, k < c → (bt ins k = true ↔ bt (g.1 0 20) k = false)) (ha : ∀ p, p < n → (bt arr p = false ↔ g.1 7 p = 0)) : Spec shC yX4_live cX4_live 5 none 4 105 [.ref 15, .int ins, .int arr, .int last] w (fun r w' => r = none ∧ RD n c D w' (mAhead n c g D) ∧ cK2 w w') := by
  subst hl
  refine k_enter pn_X4 (Nat.le_of_ble_eq_true rfl) ?_
  refine b_aload_n dX4_live_0 rfl ?_
  refine b_iload_n dX4_live_1 rfl ?_
  refine b_iload_n dX4_live_2 rfl ?_
  refine b_callV2 dX4_live_3 lk_X4_38 rfl rfl rfl ⟨Nat.le_of_ble_eq_true rfl, Nat.le_of_ble_eq_true rfl⟩ (Nat.le_of_ble_eq_true rfl) (s_X4_begin h3.1 h2.2.1 (fun k hk => by obtain ⟨a, b, d, g0, z1, z2, z3, z4, z5, z6, z7, z8, z9, z10⟩ := h2.2.2 k hk; exact ⟨d, z4, ((h3.2 k hk).2.2.1).trans z9⟩)) (fun r w3 h3_ => ?_)
  obtain ⟨rfl, Dd, hDd, rfl⟩ := h3_
  refine b_iconst (v := 0) dX4_live_6 (by decide) ?_
  refine b_istore dX4_live_7 (by decide) ?_
  refine b_sub [1, 4, 0] rfl ?_
  exact s_X4_live_lp hD D 0 (by omega) _ (beg_rel h1 h2 h3 hi ha hDd) (begW_k2 _ _ _ _)
