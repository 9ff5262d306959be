theorem mTouch_c (w : kW) (p : Nat) : mTouch w p = mTc (w.1 4 p) (w.1 5 p) := rfl
set_option maxRecDepth 100000 in
set_option maxHeartbeats 4000000 in
theorem s_X7_bit {w : kW} {x : Int32} : Spec shC yX7_bit cX7_bit 1 (some .int) 0 0 [.int x] w (fun r w' => r = some (.int (1 <<< (x &&& 31))) ∧ w = w') := by
  refine k_enter pn_X7 (Nat.le_of_ble_eq_true rfl) ?_
  refine b_iconst (v := 1) dX7_bit_0 (by decide) ?_
  refine b_iload_n dX7_bit_1 rfl ?_
  refine b_ishl dX7_bit_2 ?_
  refine b_iret dX7_bit_3 rfl ⟨?_, ?_⟩
  · rfl
  · rfl
set_option maxRecDepth 100000 in
set_option maxHeartbeats 4000000 in
theorem s_X7_in {w : kW} {s : Int32} {k : Nat} (hk : k < 32) : Spec shC yX7_in cX7_in 2 (some .boolean) 0 0 [.int s, .int (nI k)] w (fun r w' => w = w' ∧ ((r = some (.int 1) ∧ (bt s k = true)) ∨ (r = some (.int 0) ∧ ¬ (bt s k = true)))) := by
  refine k_enter pn_X7 (Nat.le_of_ble_eq_true rfl) ?_
  refine b_iload_n dX7_in_0 rfl ?_
  refine b_iload_n dX7_in_1 rfl ?_
  refine b_ishr dX7_in_2 ?_
  refine b_iconst (v := 1) dX7_in_3 (by decide) ?_
  refine b_iand dX7_in_4 ?_
  refine b_iconst (v := 1) dX7_in_5 (by decide) ?_
  refine b_icmp_ne (tgt := 13) dX7_in_6 (by decide) (fun h6 => ?_) (fun h6 => ?_)
  · refine b_iconst (v := 0) dX7_in_13 (by decide) ?_
    refine b_zret (Or.inl rfl) dX7_in_14 rfl ⟨rfl, Or.inr ⟨rfl, ?_⟩⟩
    exact fun h => h6 ((bit_1 _ hk).mpr h)
  · refine b_iconst (v := 1) dX7_in_9 (by decide) ?_
    refine b_goto (tgt := 14) dX7_in_10 (by decide) ?_
    refine b_zret (Or.inr rfl) dX7_in_14 rfl ⟨rfl, Or.inl ⟨rfl, ?_⟩⟩
    exact (bit_1 _ hk).mp h6
set_option maxRecDepth 100000 in
set_option maxHeartbeats 4000000 in
theorem s_X1_add {w : kW} {m : Nat} {d a b x y h : Int32} (hm : w.1 16 0 = nI m) (hm2 : m < 180) : Spec shC yX1_add cX1_add 7 none 0 0 [.ref 16, .int d, .int a, .int b, .int x, .int y, .int h] w (fun r w' => r = none ∧ (kset (kset (kset (kset (kset (kset (kset w 18 m d) 19 m a) 20 m b) 21 m x) 22 m y) 23 m h) 16 0 (nI m + 1)) = w') := by
  refine k_enter pn_X1 (Nat.le_of_ble_eq_true rfl) ?_
  refine b_aload_n dX1_add_0 rfl ?_
  refine b_geti dX1_add_1 gf_X1_16 rfl rfl ?_
  refine b_topi (y := nI m) hm ?_
  refine b_sipush (v := 180) dX1_add_4 (by decide) ?_
  refine b_icmp_ge (tgt := 95) dX1_add_7 (by decide) (fun h7 => ?_) (fun h7 => ?_)
  · exact absurd h7 (nI_ge (b := 180) hm2 (by decide))
  · refine b_aload_n dX1_add_10 rfl ?_
    refine b_getr dX1_add_11 gf_X1_11 rfl rfl ?_
    refine b_iconst (v := 0) dX1_add_14 (by decide) ?_
    refine b_aald (r := 18) dX1_add_15 rfl (by decide) (by unfold vp_in; decide) rfl ?_
    refine b_aload_n dX1_add_16 rfl ?_
    refine b_geti dX1_add_17 gf_X1_16 rfl rfl ?_
    refine b_topi (y := nI m) hm ?_
    refine b_iload_n dX1_add_20 rfl ?_
    refine b_iastN dX1_add_21 rfl ⟨by omega, by decide⟩ ?_
    refine b_aload_n dX1_add_22 rfl ?_
    refine b_getr dX1_add_23 gf_X1_11 rfl rfl ?_
    refine b_iconst (v := 1) dX1_add_26 (by decide) ?_
    refine b_aald (r := 19) dX1_add_27 rfl (by decide) (by unfold vp_in; decide) rfl ?_
    refine b_aload_n dX1_add_28 rfl ?_
    refine b_geti dX1_add_29 gf_X1_16 rfl rfl ?_
    refine b_topi (y := nI m) hm ?_
    refine b_iload_n dX1_add_32 rfl ?_
    refine b_iastN dX1_add_33 rfl ⟨by omega, by decide⟩ ?_
    refine b_aload_n dX1_add_34 rfl ?_
    refine b_getr dX1_add_35 gf_X1_11 rfl rfl ?_
    refine b_iconst (v := 2) dX1_add_38 (by decide) ?_
    refine b_aald (r := 20) dX1_add_39 rfl (by decide) (by unfold vp_in; decide) rfl ?_
    refine b_aload_n dX1_add_40 rfl ?_
    refine b_geti dX1_add_41 gf_X1_16 rfl rfl ?_
    refine b_topi (y := nI m) hm ?_
    refine b_iload_n dX1_add_44 rfl ?_
    refine b_iastN dX1_add_45 rfl ⟨by omega, by decide⟩ ?_
    refine b_aload_n dX1_add_46 rfl ?_
    refine b_getr dX1_add_47 gf_X1_11 rfl rfl ?_
    refine b_iconst (v := 3) dX1_add_50 (by decide) ?_
    refine b_aald (r := 21) dX1_add_51 rfl (by decide) (by unfold vp_in; decide) rfl ?_
    refine b_aload_n dX1_add_52 rfl ?_
    refine b_geti dX1_add_53 gf_X1_16 rfl rfl ?_
    refine b_topi (y := nI m) hm ?_
    refine b_iload dX1_add_56 rfl ?_
    refine b_iastN dX1_add_58 rfl ⟨by omega, by decide⟩ ?_
    refine b_aload_n dX1_add_59 rfl ?_
    refine b_getr dX1_add_60 gf_X1_11 rfl rfl ?_
    refine b_iconst (v := 4) dX1_add_63 (by decide) ?_
    refine b_aald (r := 22) dX1_add_64 rfl (by decide) (by unfold vp_in; decide) rfl ?_
    refine b_aload_n dX1_add_65 rfl ?_
    refine b_geti dX1_add_66 gf_X1_16 rfl rfl ?_
    refine b_topi (y := nI m) hm ?_
    refine b_iload dX1_add_69 rfl ?_
    refine b_iastN dX1_add_71 rfl ⟨by omega, by decide⟩ ?_
    refine b_aload_n dX1_add_72 rfl ?_
    refine b_getr dX1_add_73 gf_X1_11 rfl rfl ?_
    refine b_iconst (v := 5) dX1_add_76 (by decide) ?_
    refine b_aald (r := 23) dX1_add_77 rfl (by decide) (by unfold vp_in; decide) rfl ?_
    refine b_aload_n dX1_add_78 rfl ?_
    refine b_geti dX1_add_79 gf_X1_16 rfl rfl ?_
    refine b_topi (y := nI m) hm ?_
    refine b_iload dX1_add_82 rfl ?_
    refine b_iastN dX1_add_84 rfl ⟨by omega, by decide⟩ ?_
    refine b_aload_n dX1_add_85 rfl ?_
    refine b_dup dX1_add_86 rfl ?_
    refine b_geti dX1_add_87 gf_X1_16 rfl rfl ?_
    refine b_topi (y := nI m) hm ?_
    refine b_iconst (v := 1) dX1_add_90 (by decide) ?_
    refine b_iadd dX1_add_91 ?_
    refine b_puti dX1_add_92 gf_X1_16 gs_X1_0 rfl rfl ?_
    refine b_vret dX1_add_95 rfl ⟨rfl, ?_⟩
    rfl
set_option maxRecDepth 100000 in
set_option maxHeartbeats 4000000 in
theorem s_X0_add_6 {w : kW} {m : Nat} {a b d g : Int32} (hm : w.1 6 0 = nI m) (hm2 : m < 9) : Spec shC yX0_add cX0_add 5 none 0 0 [.ref 6, .int a, .int b, .int d, .int g] w (fun r w' => r = none ∧ (kset (kset (kset (kset (kset w 7 m a) 8 m b) 9 m d) 10 m g) 6 0 (nI m + 1)) = w') := by
  refine k_enter pn_X0 (Nat.le_of_ble_eq_true rfl) ?_
  refine b_aload_n dX0_add_0 rfl ?_
  refine b_geti dX0_add_1 gf_X0_22 rfl rfl ?_
  refine b_topi (y := nI m) hm ?_
  refine b_aload_n dX0_add_4 rfl ?_
  refine b_getr dX0_add_5 gf_X0_7 rfl rfl ?_
  refine b_alen dX0_add_8 rfl (by decide) rfl ?_
  refine b_icmp_ge (tgt := 63) dX0_add_9 (by decide) (fun h9 => ?_) (fun h9 => ?_)
  · exact absurd h9 (nI_ge (b := 9) hm2 (by decide))
  · refine b_aload_n dX0_add_12 rfl ?_
    refine b_getr dX0_add_13 gf_X0_7 rfl rfl ?_
    refine b_aload_n dX0_add_16 rfl ?_
    refine b_geti dX0_add_17 gf_X0_22 rfl rfl ?_
    refine b_topi (y := nI m) hm ?_
    refine b_iload_n dX0_add_20 rfl ?_
    refine b_iastN dX0_add_21 rfl ⟨by omega, by decide⟩ ?_
    refine b_aload_n dX0_add_22 rfl ?_
    refine b_getr dX0_add_23 gf_X0_13 rfl rfl ?_
    refine b_aload_n dX0_add_26 rfl ?_
    refine b_geti dX0_add_27 gf_X0_22 rfl rfl ?_
    refine b_topi (y := nI m) hm ?_
    refine b_iload_n dX0_add_30 rfl ?_
    refine b_iastN dX0_add_31 rfl ⟨by omega, by decide⟩ ?_
    refine b_aload_n dX0_add_32 rfl ?_
    refine b_getr dX0_add_33 gf_X0_16 rfl rfl ?_
    refine b_aload_n dX0_add_36 rfl ?_
    refine b_geti dX0_add_37 gf_X0_22 rfl rfl ?_
    refine b_topi (y := nI m) hm ?_
    refine b_iload_n dX0_add_40 rfl ?_
    refine b_iastN dX0_add_41 rfl ⟨by omega, by decide⟩ ?_
    refine b_aload_n dX0_add_42 rfl ?_
    refine b_getr dX0_add_43 gf_X0_19 rfl rfl ?_
    refine b_aload_n dX0_add_46 rfl ?_
    refine b_geti dX0_add_47 gf_X0_22 rfl rfl ?_
    refine b_topi (y := nI m) hm ?_
    refine b_iload dX0_add_50 rfl ?_
    refine b_iastN dX0_add_52 rfl ⟨by omega, by decide⟩ ?_
    refine b_aload_n dX0_add_53 rfl ?_
    refine b_dup dX0_add_54 rfl ?_
    refine b_geti dX0_add_55 gf_X0_22 rfl rfl ?_
    refine b_topi (y := nI m) hm ?_
    refine b_iconst (v := 1) dX0_add_58 (by decide) ?_
    refine b_iadd dX0_add_59 ?_
    refine b_puti dX0_add_60 gf_X0_22 gs_X0_0 rfl rfl ?_
    refine b_vret dX0_add_63 rfl ⟨rfl, ?_⟩
    rfl
set_option maxRecDepth 100000 in
set_option maxHeartbeats 4000000 in
theorem s_X0_add_24 {w : kW} {m : Nat} {a b d g : Int32} (hm : w.1 24 0 = nI m) (hm2 : m < 180) : Spec shC yX0_add cX0_add 5 none 0 0 [.ref 24, .int a, .int b, .int d, .int g] w (fun r w' => r = none ∧ (kset (kset (kset (kset (kset w 25 m a) 26 m b) 27 m d) 28 m g) 24 0 (nI m + 1)) = w') := by
  refine k_enter pn_X0 (Nat.le_of_ble_eq_true rfl) ?_
  refine b_aload_n dX0_add_0 rfl ?_
  refine b_geti dX0_add_1 gf_X0_22 rfl rfl ?_
  refine b_topi (y := nI m) hm ?_
  refine b_aload_n dX0_add_4 rfl ?_
  refine b_getr dX0_add_5 gf_X0_7 rfl rfl ?_
  refine b_alen dX0_add_8 rfl (by decide) rfl ?_
  refine b_icmp_ge (tgt := 63) dX0_add_9 (by decide) (fun h9 => ?_) (fun h9 => ?_)
  · exact absurd h9 (nI_ge (b := 180) hm2 (by decide))
  · refine b_aload_n dX0_add_12 rfl ?_
    refine b_getr dX0_add_13 gf_X0_7 rfl rfl ?_
    refine b_aload_n dX0_add_16 rfl ?_
    refine b_geti dX0_add_17 gf_X0_22 rfl rfl ?_
    refine b_topi (y := nI m) hm ?_
    refine b_iload_n dX0_add_20 rfl ?_
    refine b_iastN dX0_add_21 rfl ⟨by omega, by decide⟩ ?_
    refine b_aload_n dX0_add_22 rfl ?_
    refine b_getr dX0_add_23 gf_X0_13 rfl rfl ?_
    refine b_aload_n dX0_add_26 rfl ?_
    refine b_geti dX0_add_27 gf_X0_22 rfl rfl ?_
    refine b_topi (y := nI m) hm ?_
    refine b_iload_n dX0_add_30 rfl ?_
    refine b_iastN dX0_add_31 rfl ⟨by omega, by decide⟩ ?_
    refine b_aload_n dX0_add_32 rfl ?_
    refine b_getr dX0_add_33 gf_X0_16 rfl rfl ?_
    refine b_aload_n dX0_add_36 rfl ?_
    refine b_geti dX0_add_37 gf_X0_22 rfl rfl ?_
    refine b_topi (y := nI m) hm ?_
    refine b_iload_n dX0_add_40 rfl ?_
    refine b_iastN dX0_add_41 rfl ⟨by omega, by decide⟩ ?_
    refine b_aload_n dX0_add_42 rfl ?_
    refine b_getr dX0_add_43 gf_X0_19 rfl rfl ?_
    refine b_aload_n dX0_add_46 rfl ?_
    refine b_geti dX0_add_47 gf_X0_22 rfl rfl ?_
    refine b_topi (y := nI m) hm ?_
    refine b_iload dX0_add_50 rfl ?_
    refine b_iastN dX0_add_52 rfl ⟨by omega, by decide⟩ ?_
    refine b_aload_n dX0_add_53 rfl ?_
    refine b_dup dX0_add_54 rfl ?_
    refine b_geti dX0_add_55 gf_X0_22 rfl rfl ?_
    refine b_topi (y := nI m) hm ?_
    refine b_iconst (v := 1) dX0_add_58 (by decide) ?_
    refine b_iadd dX0_add_59 ?_
    refine b_puti dX0_add_60 gf_X0_22 gs_X0_0 rfl rfl ?_
    refine b_vret dX0_add_63 rfl ⟨rfl, ?_⟩
    rfl
set_option maxRecDepth 100000 in
set_option maxHeartbeats 4000000 in
theorem s_X2_has {w : kW} {p : Int32} : Spec shC yX2_has cX2_has 2 (some .boolean) 0 0 [.ref 1, .int p] w (fun r w' => w = w' ∧ ((r = some (.int 1) ∧ (¬ p < 0 ∧ p < w.1 1 0)) ∨ (r = some (.int 0) ∧ ¬ (¬ p < 0 ∧ p < w.1 1 0)))) := by
  refine k_enter pn_X2 (Nat.le_of_ble_eq_true rfl) ?_
  refine b_iload_n dX2_has_0 rfl ?_
  refine b_if_lt (tgt := 16) dX2_has_1 (by decide) (fun h1 => ?_) (fun h1 => ?_)
  · refine b_iconst (v := 0) dX2_has_16 (by decide) ?_
    refine b_zret (Or.inl rfl) dX2_has_17 rfl ⟨rfl, Or.inr ⟨rfl, ?_⟩⟩
    exact fun h => by first | exact h.1 h1 | exact absurd h.2 (Int32.not_lt.mpr h9)
  · refine b_iload_n dX2_has_4 rfl ?_
    refine b_aload_n dX2_has_5 rfl ?_
    refine b_geti dX2_has_6 gf_X2_24 rfl rfl ?_
    refine b_icmp_ge (tgt := 16) dX2_has_9 (by decide) (fun h9 => ?_) (fun h9 => ?_)
    · refine b_iconst (v := 0) dX2_has_16 (by decide) ?_
      refine b_zret (Or.inl rfl) dX2_has_17 rfl ⟨rfl, Or.inr ⟨rfl, ?_⟩⟩
      exact fun h => by first | exact h.1 h1 | exact absurd h.2 (Int32.not_lt.mpr h9)
    · refine b_iconst (v := 1) dX2_has_12 (by decide) ?_
      refine b_goto (tgt := 17) dX2_has_13 (by decide) ?_
      refine b_zret (Or.inr rfl) dX2_has_17 rfl ⟨rfl, Or.inl ⟨rfl, ?_⟩⟩
      exact ⟨h1, Int32.not_le.mp h9⟩
set_option maxRecDepth 100000 in
set_option maxHeartbeats 4000000 in
theorem s_X2_hasTwo {w : kW} {p q : Int32} : Spec shC yX2_hasTwo cX2_hasTwo 3 (some .boolean) 1 21 [.ref 1, .int p, .int q] w (fun r w' => w = w' ∧ ((r = some (.int 1) ∧ ((¬ p < 0 ∧ p < w.1 1 0) ∧ (¬ q < 0 ∧ q < w.1 1 0) ∧ ¬ p = q)) ∨ (r = some (.int 0) ∧ ¬ ((¬ p < 0 ∧ p < w.1 1 0) ∧ (¬ q < 0 ∧ q < w.1 1 0) ∧ ¬ p = q)))) := by
  refine k_enter pn_X2 (Nat.le_of_ble_eq_true rfl) ?_
  refine b_aload_n dX2_hasTwo_0 rfl ?_
  refine b_iload_n dX2_hasTwo_1 rfl ?_
  refine b_callV1 dX2_hasTwo_2 lk_X2_28 rfl rfl rfl ⟨Nat.le_of_ble_eq_true rfl, Nat.le_of_ble_eq_true rfl⟩ (Nat.le_of_ble_eq_true rfl) (s_X2_has) (fun r w2 h2 => ?_)
  obtain ⟨rfl, h2⟩ := h2
  rcases h2 with ⟨rfl, h2⟩ | ⟨rfl, h2⟩
  · refine b_if_eq (tgt := 25) dX2_hasTwo_5 (by decide) (fun h5 => absurd h5 (by decide)) (fun h5 => ?_)
    refine b_aload_n dX2_hasTwo_8 rfl ?_
    refine b_iload_n dX2_hasTwo_9 rfl ?_
    refine b_callV1 dX2_hasTwo_10 lk_X2_28 rfl rfl rfl ⟨Nat.le_of_ble_eq_true rfl, Nat.le_of_ble_eq_true rfl⟩ (Nat.le_of_ble_eq_true rfl) (s_X2_has) (fun r w10 h10 => ?_)
    obtain ⟨rfl, h10⟩ := h10
    rcases h10 with ⟨rfl, h10⟩ | ⟨rfl, h10⟩
    · refine b_if_eq (tgt := 25) dX2_hasTwo_13 (by decide) (fun h13 => absurd h13 (by decide)) (fun h13 => ?_)
      refine b_iload_n dX2_hasTwo_16 rfl ?_
      refine b_iload_n dX2_hasTwo_17 rfl ?_
      refine b_icmp_eq (tgt := 25) dX2_hasTwo_18 (by decide) (fun h18 => ?_) (fun h18 => ?_)
      · refine b_iconst (v := 0) dX2_hasTwo_25 (by decide) ?_
        refine b_zret (Or.inl rfl) dX2_hasTwo_26 rfl ⟨rfl, Or.inr ⟨rfl, ?_⟩⟩
        exact fun h => by first | exact h2 h.1 | exact h10 h.2.1 | exact h.2.2 h18
      · refine b_iconst (v := 1) dX2_hasTwo_21 (by decide) ?_
        refine b_goto (tgt := 26) dX2_hasTwo_22 (by decide) ?_
        refine b_zret (Or.inr rfl) dX2_hasTwo_26 rfl ⟨rfl, Or.inl ⟨rfl, ?_⟩⟩
        exact ⟨h2, h10, h18⟩
    · refine b_if_eq (tgt := 25) dX2_hasTwo_13 (by decide) (fun h13 => ?_) (fun h13 => absurd h13 (by decide))
      refine b_iconst (v := 0) dX2_hasTwo_25 (by decide) ?_
      refine b_zret (Or.inl rfl) dX2_hasTwo_26 rfl ⟨rfl, Or.inr ⟨rfl, ?_⟩⟩
      exact fun h => by first | exact h2 h.1 | exact h10 h.2.1 | exact h.2.2 h18
  · refine b_if_eq (tgt := 25) dX2_hasTwo_5 (by decide) (fun h5 => ?_) (fun h5 => absurd h5 (by decide))
    refine b_iconst (v := 0) dX2_hasTwo_25 (by decide) ?_
    refine b_zret (Or.inl rfl) dX2_hasTwo_26 rfl ⟨rfl, Or.inr ⟨rfl, ?_⟩⟩
    exact fun h => by first | exact h2 h.1 | exact h10 h.2.1 | exact h.2.2 h18
set_option maxRecDepth 100000 in
set_option maxHeartbeats 4000000 in
theorem s_X2_touchiness {w : kW} {p h kd : Nat} (hp : p < 6) (h1 : 1 ≤ h) (h9 : h ≤ 9) (hk : kd ≤ 2) (eh : w.1 3 p = nI h) (ek : w.1 2 p = nI kd) : Spec shC yX2_touchiness cX2_touchiness 4 (some .int) 1 21 [.ref 1, .int (nI p)] w (fun r w' => r = some (.int (mTc (nI kd) (nI h))) ∧ w = w') := by
  refine k_enter pn_X2 (Nat.le_of_ble_eq_true rfl) ?_
  refine b_bipush (v := 10) dX2_touchiness_0 (by decide) ?_
  refine b_aload_n dX2_touchiness_2 rfl ?_
  refine b_getr dX2_touchiness_3 gf_X2_15 rfl rfl ?_
  refine b_iload_n dX2_touchiness_6 rfl ?_
  refine b_ialdN dX2_touchiness_7 rfl ⟨by omega, by decide⟩ ?_
  refine b_topi (y := nI h) eh ?_
  refine b_isub dX2_touchiness_8 ?_
  refine b_istore_n dX2_touchiness_9 (by decide) ?_
  refine b_iconst (v := 1) dX2_touchiness_10 (by decide) ?_
  refine b_iload_n dX2_touchiness_11 rfl ?_
  refine b_iconst (v := 2) dX2_touchiness_12 (by decide) ?_
  refine b_isub dX2_touchiness_13 ?_
  refine b_max dX2_touchiness_14 lk_X2_32 (Nat.le_of_ble_eq_true rfl) (Nat.le_of_ble_eq_true rfl) ?_
  refine b_istore_n dX2_touchiness_17 (by decide) ?_
  refine b_aload_n dX2_touchiness_18 rfl ?_
  refine b_getr dX2_touchiness_19 gf_X2_9 rfl rfl ?_
  refine b_iload_n dX2_touchiness_22 rfl ?_
  refine b_ialdN dX2_touchiness_23 rfl ⟨by omega, by decide⟩ ?_
  refine b_topi (y := nI kd) ek ?_
  rcases (show kd = 0 ∨ kd = 1 ∨ kd = 2 by omega) with rfl | rfl | rfl
  · refine b_lsw (off := 38) (tgt := 62) dX2_touchiness_24 (by decide) (by decide) (by decide) ?_
    refine b_iload_n dX2_touchiness_62 rfl ?_
    refine b_iret dX2_touchiness_63 rfl ⟨?_, ?_⟩
    · rcases (show h = 1 ∨ h = 2 ∨ h = 3 ∨ h = 4 ∨ h = 5 ∨ h = 6 ∨ h = 7 ∨ h = 8 ∨ h = 9 by omega) with rfl | rfl | rfl | rfl | rfl | rfl | rfl | rfl | rfl <;> rfl
    · rfl
  · refine b_lsw (off := 36) (tgt := 60) dX2_touchiness_24 (by decide) (by decide) (by decide) ?_
    refine b_iload_n dX2_touchiness_60 rfl ?_
    refine b_iret dX2_touchiness_61 rfl ⟨?_, ?_⟩
    · rcases (show h = 1 ∨ h = 2 ∨ h = 3 ∨ h = 4 ∨ h = 5 ∨ h = 6 ∨ h = 7 ∨ h = 8 ∨ h = 9 by omega) with rfl | rfl | rfl | rfl | rfl | rfl | rfl | rfl | rfl <;> rfl
    · rfl
  · refine b_lsw (off := 28) (tgt := 52) dX2_touchiness_24 (by decide) (by decide) (by decide) ?_
    refine b_iconst (v := 1) dX2_touchiness_52 (by decide) ?_
    refine b_iload_n dX2_touchiness_53 rfl ?_
    refine b_iconst (v := 1) dX2_touchiness_54 (by decide) ?_
    refine b_isub dX2_touchiness_55 ?_
    refine b_max dX2_touchiness_56 lk_X2_32 (Nat.le_of_ble_eq_true rfl) (Nat.le_of_ble_eq_true rfl) ?_
    refine b_iret dX2_touchiness_59 rfl ⟨?_, ?_⟩
    · rcases (show h = 1 ∨ h = 2 ∨ h = 3 ∨ h = 4 ∨ h = 5 ∨ h = 6 ∨ h = 7 ∨ h = 8 ∨ h = 9 by omega) with rfl | rfl | rfl | rfl | rfl | rfl | rfl | rfl | rfl <;> rfl
    · rfl
/-- the persons of both sides -/
def RP (n : Nat) (w g : kW) : Prop := Pn n g ∧ w.1 1 0 = nI n ∧ ∀ p, p < n → w.1 2 p = g.1 4 p ∧ w.1 3 p = g.1 5 p ∧ w.1 4 p = g.1 6 (2 * p) ∧ w.1 5 p = g.1 6 (2 * p + 1)
theorem RP.f1 {n p : Nat} {w g : kW} (h : RP n w g) (hp : p < n) : w.1 4 p = nI (fr g (2 * p)) ∧ fr g (2 * p) < n := by
  have h1 := h.1.frd (k := 2 * p) (by omega)
  exact ⟨(h.2.2 p hp).2.2.1.trans h1.2, h1.1⟩
theorem RP.f2 {n p : Nat} {w g : kW} (h : RP n w g) (hp : p < n) : w.1 5 p = nI (fr g (2 * p + 1)) ∧ fr g (2 * p + 1) < n := by
  have h1 := h.1.frd (k := 2 * p + 1) (by omega)
  exact ⟨(h.2.2 p hp).2.2.2.trans h1.2, h1.1⟩
theorem b_f {b : Bool} (h : ¬ b = true) : b = false := by simpa using h
set_option maxRecDepth 100000 in
set_option maxHeartbeats 4000000 in
theorem s_X2_secondAmong {w g : kW} {n p : Nat} {o : Int32} (hR : RP n w g) (hp : p < n) : Spec shC yX2_secondAmong cX2_secondAmong 5 (some .int) 1 21 [.ref 1, .int (nI p), .int o] w (fun r w' => r = some (.int (oI ((mCh g p).find? (fun x => bt o x)))) ∧ w = w') := by
  have hn := hR.1.le
  have a1 := hR.f1 hp
  have a2 := hR.f2 hp
  have a3 := hR.f1 a1.2
  have a4 := hR.f2 a1.2
  have a5 := hR.f1 a2.2
  have a6 := hR.f2 a2.2
  refine k_enter pn_X2 (Nat.le_of_ble_eq_true rfl) ?_
  refine b_aload_n dX2_secondAmong_0 rfl ?_
  refine b_getr dX2_secondAmong_1 gf_X2_18 rfl rfl ?_
  refine b_iload_n dX2_secondAmong_4 rfl ?_
  refine b_ialdN dX2_secondAmong_5 rfl ⟨by omega, by decide⟩ ?_
  refine b_topi (y := nI (fr g (2 * p))) a1.1 ?_
  refine b_istore_n dX2_secondAmong_6 (by decide) ?_
  refine b_aload_n dX2_secondAmong_7 rfl ?_
  refine b_getr dX2_secondAmong_8 gf_X2_21 rfl rfl ?_
  refine b_iload_n dX2_secondAmong_11 rfl ?_
  refine b_ialdN dX2_secondAmong_12 rfl ⟨by omega, by decide⟩ ?_
  refine b_topi (y := nI (fr g (2 * p + 1))) a2.1 ?_
  refine b_istore dX2_secondAmong_13 (by decide) ?_
  refine b_iload_n dX2_secondAmong_15 rfl ?_
  refine b_iload_n dX2_secondAmong_16 rfl ?_
  refine b_callSN2 dX2_secondAmong_17 lk_X2_38 ⟨Nat.le_of_ble_eq_true rfl, Nat.le_of_ble_eq_true rfl⟩ (Nat.le_of_ble_eq_true rfl) (s_X7_in (by omega)) (fun r w17 h17 => ?_)
  obtain ⟨rfl, h17⟩ := h17
  rcases h17 with ⟨rfl, h17⟩ | ⟨rfl, h17⟩
  · refine b_if_eq (tgt := 25) dX2_secondAmong_20 (by decide) (fun h20 => absurd h20 (by decide)) (fun h20 => ?_)
    refine b_iload_n dX2_secondAmong_23 rfl ?_
    exact b_iret dX2_secondAmong_24 rfl ⟨by unfold mCh; rw [fr_stop h17]; rfl, rfl⟩
  · refine b_if_eq (tgt := 25) dX2_secondAmong_20 (by decide) (fun h20 => ?_) (fun h20 => absurd h20 (by decide))
    refine b_iload_n dX2_secondAmong_25 rfl ?_
    refine b_iload dX2_secondAmong_26 rfl ?_
    refine b_callSN2 dX2_secondAmong_28 lk_X2_38 ⟨Nat.le_of_ble_eq_true rfl, Nat.le_of_ble_eq_true rfl⟩ (Nat.le_of_ble_eq_true rfl) (s_X7_in (by omega)) (fun r w28 h28 => ?_)
    obtain ⟨rfl, h28⟩ := h28
    rcases h28 with ⟨rfl, h28⟩ | ⟨rfl, h28⟩
    · refine b_if_eq (tgt := 37) dX2_secondAmong_31 (by decide) (fun h31 => absurd h31 (by decide)) (fun h31 => ?_)
      refine b_iload dX2_secondAmong_34 rfl ?_
      exact b_iret dX2_secondAmong_36 rfl ⟨by unfold mCh; rw [fr_step (b_f h17), fr_stop h28]; rfl, rfl⟩
    · refine b_if_eq (tgt := 37) dX2_secondAmong_31 (by decide) (fun h31 => ?_) (fun h31 => absurd h31 (by decide))
      refine b_iload_n dX2_secondAmong_37 rfl ?_
      refine b_aload_n dX2_secondAmong_38 rfl ?_
      refine b_getr dX2_secondAmong_39 gf_X2_18 rfl rfl ?_
      refine b_iload_n dX2_secondAmong_42 rfl ?_
      refine b_ialdN dX2_secondAmong_43 rfl ⟨by omega, by decide⟩ ?_
      refine b_topi (y := nI (fr g (2 * fr g (2 * p)))) a3.1 ?_
      refine b_callSN2 dX2_secondAmong_44 lk_X2_38 ⟨Nat.le_of_ble_eq_true rfl, Nat.le_of_ble_eq_true rfl⟩ (Nat.le_of_ble_eq_true rfl) (s_X7_in (by omega)) (fun r w44 h44 => ?_)
      obtain ⟨rfl, h44⟩ := h44
      rcases h44 with ⟨rfl, h44⟩ | ⟨rfl, h44⟩
      · refine b_if_eq (tgt := 57) dX2_secondAmong_47 (by decide) (fun h47 => absurd h47 (by decide)) (fun h47 => ?_)
        refine b_aload_n dX2_secondAmong_50 rfl ?_
        refine b_getr dX2_secondAmong_51 gf_X2_18 rfl rfl ?_
        refine b_iload_n dX2_secondAmong_54 rfl ?_
        refine b_ialdN dX2_secondAmong_55 rfl ⟨by omega, by decide⟩ ?_
        refine b_topi (y := nI (fr g (2 * fr g (2 * p)))) a3.1 ?_
        exact b_iret dX2_secondAmong_56 rfl ⟨by unfold mCh; rw [fr_step (b_f h17), fr_step (b_f h28), fr_stop h44]; rfl, rfl⟩
      · refine b_if_eq (tgt := 57) dX2_secondAmong_47 (by decide) (fun h47 => ?_) (fun h47 => absurd h47 (by decide))
        refine b_iload_n dX2_secondAmong_57 rfl ?_
        refine b_aload_n dX2_secondAmong_58 rfl ?_
        refine b_getr dX2_secondAmong_59 gf_X2_21 rfl rfl ?_
        refine b_iload_n dX2_secondAmong_62 rfl ?_
        refine b_ialdN dX2_secondAmong_63 rfl ⟨by omega, by decide⟩ ?_
        refine b_topi (y := nI (fr g (2 * fr g (2 * p) + 1))) a4.1 ?_
        refine b_callSN2 dX2_secondAmong_64 lk_X2_38 ⟨Nat.le_of_ble_eq_true rfl, Nat.le_of_ble_eq_true rfl⟩ (Nat.le_of_ble_eq_true rfl) (s_X7_in (by omega)) (fun r w64 h64 => ?_)
        obtain ⟨rfl, h64⟩ := h64
        rcases h64 with ⟨rfl, h64⟩ | ⟨rfl, h64⟩
        · refine b_if_eq (tgt := 77) dX2_secondAmong_67 (by decide) (fun h67 => absurd h67 (by decide)) (fun h67 => ?_)
          refine b_aload_n dX2_secondAmong_70 rfl ?_
          refine b_getr dX2_secondAmong_71 gf_X2_21 rfl rfl ?_
          refine b_iload_n dX2_secondAmong_74 rfl ?_
          refine b_ialdN dX2_secondAmong_75 rfl ⟨by omega, by decide⟩ ?_
          refine b_topi (y := nI (fr g (2 * fr g (2 * p) + 1))) a4.1 ?_
          exact b_iret dX2_secondAmong_76 rfl ⟨by unfold mCh; rw [fr_step (b_f h17), fr_step (b_f h28), fr_step (b_f h44), fr_stop h64]; rfl, rfl⟩
        · refine b_if_eq (tgt := 77) dX2_secondAmong_67 (by decide) (fun h67 => ?_) (fun h67 => absurd h67 (by decide))
          refine b_iload_n dX2_secondAmong_77 rfl ?_
          refine b_aload_n dX2_secondAmong_78 rfl ?_
          refine b_getr dX2_secondAmong_79 gf_X2_18 rfl rfl ?_
          refine b_iload dX2_secondAmong_82 rfl ?_
          refine b_ialdN dX2_secondAmong_84 rfl ⟨by omega, by decide⟩ ?_
          refine b_topi (y := nI (fr g (2 * fr g (2 * p + 1)))) a5.1 ?_
          refine b_callSN2 dX2_secondAmong_85 lk_X2_38 ⟨Nat.le_of_ble_eq_true rfl, Nat.le_of_ble_eq_true rfl⟩ (Nat.le_of_ble_eq_true rfl) (s_X7_in (by omega)) (fun r w85 h85 => ?_)
          obtain ⟨rfl, h85⟩ := h85
          rcases h85 with ⟨rfl, h85⟩ | ⟨rfl, h85⟩
          · refine b_if_eq (tgt := 99) dX2_secondAmong_88 (by decide) (fun h88 => absurd h88 (by decide)) (fun h88 => ?_)
            refine b_aload_n dX2_secondAmong_91 rfl ?_
            refine b_getr dX2_secondAmong_92 gf_X2_18 rfl rfl ?_
            refine b_iload dX2_secondAmong_95 rfl ?_
            refine b_ialdN dX2_secondAmong_97 rfl ⟨by omega, by decide⟩ ?_
            refine b_topi (y := nI (fr g (2 * fr g (2 * p + 1)))) a5.1 ?_
            exact b_iret dX2_secondAmong_98 rfl ⟨by unfold mCh; rw [fr_step (b_f h17), fr_step (b_f h28), fr_step (b_f h44), fr_step (b_f h64), fr_stop h85]; rfl, rfl⟩
          · refine b_if_eq (tgt := 99) dX2_secondAmong_88 (by decide) (fun h88 => ?_) (fun h88 => absurd h88 (by decide))
            refine b_iload_n dX2_secondAmong_99 rfl ?_
            refine b_aload_n dX2_secondAmong_100 rfl ?_
            refine b_getr dX2_secondAmong_101 gf_X2_21 rfl rfl ?_
            refine b_iload dX2_secondAmong_104 rfl ?_
            refine b_ialdN dX2_secondAmong_106 rfl ⟨by omega, by decide⟩ ?_
            refine b_topi (y := nI (fr g (2 * fr g (2 * p + 1) + 1))) a6.1 ?_
            refine b_callSN2 dX2_secondAmong_107 lk_X2_38 ⟨Nat.le_of_ble_eq_true rfl, Nat.le_of_ble_eq_true rfl⟩ (Nat.le_of_ble_eq_true rfl) (s_X7_in (by omega)) (fun r w107 h107 => ?_)
            obtain ⟨rfl, h107⟩ := h107
            rcases h107 with ⟨rfl, h107⟩ | ⟨rfl, h107⟩
            · refine b_if_eq (tgt := 123) dX2_secondAmong_110 (by decide) (fun h110 => absurd h110 (by decide)) (fun h110 => ?_)
              refine b_aload_n dX2_secondAmong_113 rfl ?_
              refine b_getr dX2_secondAmong_114 gf_X2_21 rfl rfl ?_
              refine b_iload dX2_secondAmong_117 rfl ?_
              refine b_ialdN dX2_secondAmong_119 rfl ⟨by omega, by decide⟩ ?_
              refine b_topi (y := nI (fr g (2 * fr g (2 * p + 1) + 1))) a6.1 ?_
              refine b_goto (tgt := 125) dX2_secondAmong_120 (by decide) ?_
              exact b_iret dX2_secondAmong_125 rfl ⟨by unfold mCh; rw [fr_step (b_f h17), fr_step (b_f h28), fr_step (b_f h44), fr_step (b_f h64), fr_step (b_f h85), fr_stop h107]; rfl, rfl⟩
            · refine b_if_eq (tgt := 123) dX2_secondAmong_110 (by decide) (fun h110 => ?_) (fun h110 => absurd h110 (by decide))
              refine b_bipush (v := (-9)) dX2_secondAmong_123 (by decide) ?_
              exact b_iret dX2_secondAmong_125 rfl ⟨by unfold mCh; rw [fr_step (b_f h17), fr_step (b_f h28), fr_step (b_f h44), fr_step (b_f h64), fr_step (b_f h85), fr_step (b_f h107)]; rfl, rfl⟩
def fillF (w : kW) (c : Nat) (v : Int32) : Nat → kW
  | 0 => w
  | k + 1 => kset (fillF w c v k) c k v
theorem fillF_row {w : kW} {c : Nat} {v : Int32} {c' : Nat} (h : c' ≠ c) : ∀ k, (fillF w c v k).1 c' = w.1 c'
  | 0 => rfl
  | k + 1 => by rw [fillF, kset_row _ _ _ _ h, fillF_row h k]
theorem fillF_2 {w : kW} {c : Nat} {v : Int32} : ∀ k, (fillF w c v k).2 = w.2
  | 0 => rfl
  | k + 1 => by rw [fillF, kset_2, fillF_2 k]
theorem fillF_in {w : kW} {c : Nat} {v : Int32} : ∀ k j, j < k → (fillF w c v k).1 c j = v
  | 0, j, h => by omega
  | k + 1, j, h => by
    rw [fillF, kset_1, if_pos rfl]
    by_cases e : j = k
    · rw [if_pos e]
    · rw [if_neg e]; exact fillF_in k j (by omega)
set_option maxRecDepth 100000 in
set_option maxHeartbeats 4000000 in
theorem s_fill_lp {w : kW} {c N : Nat} {v : Int32} (hc : shC[c]? = some (.inr (.inl (0, N)))) (hN : N ≤ 180) : ∀ q k, k + q = N → BS shC RJ7 cJ7_fill_53178 4 none 0 0 (fun r w' => r = none ∧ fillF w c v N = w') 5 [(0, .ref c), (1, .int v), (2, .int (nI k)), (3, .int (nI N))] [] (fillF w c v k) := by
  intro q
  induction q with
  | zero =>
    intro k hk
    refine b_iload_n dJ7_fill_53178_5 rfl ?_
    refine b_iload_n dJ7_fill_53178_6 rfl ?_
    refine b_icmp_ge (tgt := 20) dJ7_fill_53178_7 (by decide) (fun h7 => ?_) (fun h7 => ?_)
    · refine b_vret dJ7_fill_53178_20 rfl ⟨rfl, ?_⟩
      (have e : k = N := by omega); subst e; rfl
    · exact absurd (nI_le (by omega) (by omega)) h7
  | succ q ih =>
    intro k hk
    refine b_iload_n dJ7_fill_53178_5 rfl ?_
    refine b_iload_n dJ7_fill_53178_6 rfl ?_
    refine b_icmp_ge (tgt := 20) dJ7_fill_53178_7 (by decide) (fun h7 => ?_) (fun h7 => ?_)
    · exact absurd h7 (nI_ge (by omega) (by omega))
    · refine b_aload_n dJ7_fill_53178_10 rfl ?_
      refine b_iload_n dJ7_fill_53178_11 rfl ?_
      refine b_iload_n dJ7_fill_53178_12 rfl ?_
      refine b_iastN dJ7_fill_53178_13 hc ⟨by omega, by omega⟩ ?_
      refine b_iinc dJ7_fill_53178_14 rfl (nI_inc k) (by decide) ?_
      refine b_goto (tgt := 5) dJ7_fill_53178_17 (by decide) ?_
      refine b_sub [1, 2, 0, 3] rfl ?_
      exact ih (k + 1) (by omega)
set_option maxRecDepth 100000 in
set_option maxHeartbeats 4000000 in
theorem s_fill {w : kW} {c N : Nat} {v : Int32} (hc : shC[c]? = some (.inr (.inl (0, N)))) (hN : N ≤ 180) : Spec shC yJ7_fill_53178 cJ7_fill_53178 4 none 0 0 [.ref c, .int v] w (fun r w' => r = none ∧ fillF w c v N = w') := by
  refine k_enter pn_J7 (Nat.le_of_ble_eq_true rfl) ?_
  refine b_iconst (v := 0) dJ7_fill_53178_0 (by decide) ?_
  refine b_istore_n dJ7_fill_53178_1 (by decide) ?_
  refine b_aload_n dJ7_fill_53178_2 rfl ?_
  refine b_alen dJ7_fill_53178_3 hc (by decide) rfl ?_
  refine b_istore_n dJ7_fill_53178_4 (by decide) ?_
  refine b_sub [2, 3, 1, 0] rfl ?_
  exact s_fill_lp hc hN N 0 (by omega)
