set_option maxRecDepth 100000 in
set_option maxHeartbeats 4000000 in
theorem s_X8_meetings {w : kW} {n c q : Nat} (hM : MInv n c q w) {d : Int32} : Spec shM yX8_meetings cX8_meetings 2 (some .int) 6 146 [.ref 0, .int d] w (fun r w' => r = some (.int (A_meetings n c w d)) ∧ mKp c w w') := by
  obtain ⟨hP, hI, hc8, hR, hu, hS⟩ := id hM
  have hn := hP.le
  refine k_enter pn_X8 (Nat.le_of_ble_eq_true rfl) ?_
  refine b_iload_n dX8_meetings_0 rfl ?_
  refine b_callS1 dX8_meetings_1 lk_X8_195 ⟨Nat.le_of_ble_eq_true rfl, Nat.le_of_ble_eq_true rfl⟩ (Nat.le_of_ble_eq_true rfl) (s_X8_isDawn) (fun r w1 h1 => ?_)
  obtain ⟨rfl, h1⟩ := h1
  rcases h1 with ⟨rfl, h1⟩ | ⟨rfl, h1⟩
  · refine b_if_ne (tgt := 10) dX8_meetings_4 (by decide) (fun h4 => ?_) (fun h4 => absurd h4 (by decide))
    obtain ⟨D, hD, rfl⟩ := dawn_of h1
    refine b_aload_n dX8_meetings_10 rfl ?_
    refine b_geti dX8_meetings_11 gf_X8_105 rfl rfl ?_
    refine b_if_ne (tgt := 20) dX8_meetings_14 (by decide) (fun h14 => ?_) (fun h14 => ?_)
    · refine b_aload_n dX8_meetings_20 rfl ?_
      refine b_iload_n dX8_meetings_21 rfl ?_
      refine b_iconst (v := 1) dX8_meetings_22 (by decide) ?_
      refine b_iadd dX8_meetings_23 ?_
      refine b_topi (y := nI (D + 1)) (nI_1 D) ?_
      refine b_callV1 dX8_meetings_24 lk_X8_198 rfl rfl rfl ⟨Nat.le_of_ble_eq_true rfl, Nat.le_of_ble_eq_true rfl⟩ (Nat.le_of_ble_eq_true rfl) (s_X8_goAhead hP hI (by omega)) (fun r w24 h24 => ?_)
      obtain ⟨rfl, rfl⟩ := h24
      refine b_aload_n dX8_meetings_27 rfl ?_
      refine b_geti dX8_meetings_28 gf_X8_165 rfl rfl ?_
      refine b_iret dX8_meetings_31 rfl ⟨?_, ?_⟩
      · simp only [A_meetings, if_pos (dawn_in hD), if_neg h14, dn_nI (show D < 2 ^ 31 by omega)]
      · exact mKp.of (mGo_keep hP hI (by omega))
    · refine b_bipush (v := (-3)) dX8_meetings_17 (by decide) ?_
      refine b_iret dX8_meetings_19 rfl ⟨?_, ?_⟩
      · simp only [A_meetings, if_pos (dawn_in hD), if_pos h14]
      · exact mKp.rf
  · refine b_if_ne (tgt := 10) dX8_meetings_4 (by decide) (fun h4 => absurd h4 (by decide)) (fun h4 => ?_)
    refine b_bipush (v := (-2)) dX8_meetings_7 (by decide) ?_
    refine b_iret dX8_meetings_9 rfl ⟨?_, ?_⟩
    · simp only [A_meetings, if_neg h1]
    · exact mKp.rf

theorem ts_out {x : Int32} (N : Nat) {M : Int32} (hM : M.toInt = N) (h : ¬ (0 ≤ x ∧ x ≤ M)) : x.toInt < 0 ∨ (N : Int) < x.toInt := by
  rw [Int32.le_iff_toInt_le, Int32.le_iff_toInt_le, hM] at h
  have : (0 : Int32).toInt = 0 := by decide
  omega

set_option maxRecDepth 100000 in
set_option maxHeartbeats 4000000 in
theorem s_X8_met {w : kW} {n c q : Nat} (hM : MInv n c q w) {k what : Int32} : Spec shM yX8_met cX8_met 3 (some .int) 6 146 [.ref 0, .int k, .int what] w (fun r w' => r = some (.int (A_met n c w k what)) ∧ mKp c w w') := by
  obtain ⟨hP, hI, hc8, hR, hu, hS⟩ := id hM
  have hn := hP.le
  refine k_enter pn_X8 (Nat.le_of_ble_eq_true rfl) ?_
  refine b_aload_n dX8_met_0 rfl ?_
  refine b_bipush (v := 60) dX8_met_1 (by decide) ?_
  refine b_callV1 dX8_met_3 lk_X8_198 rfl rfl rfl ⟨Nat.le_of_ble_eq_true rfl, Nat.le_of_ble_eq_true rfl⟩ (Nat.le_of_ble_eq_true rfl) (s_X8_goAhead (D := 60) hP hI (by omega)) (fun r w3 h3 => ?_)
  obtain ⟨rfl, rfl⟩ := h3
  refine b_iload_n dX8_met_6 rfl ?_
  refine b_if_lt (tgt := 25) dX8_met_7 (by decide) (fun h7 => ?_) (fun h7 => ?_)
  · refine b_iconst (v := (-1)) dX8_met_25 (by decide) ?_
    refine b_iret dX8_met_26 rfl ⟨?_, ?_⟩
    · simp only [A_met, if_pos (Or.inl h7)]
    · exact mKp.of (mGo_keep hP hI (by omega))
  · refine b_iload_n dX8_met_10 rfl ?_
    refine b_aload_n dX8_met_11 rfl ?_
    refine b_geti dX8_met_12 gf_X8_165 rfl rfl ?_
    refine b_icmp_ge (tgt := 25) dX8_met_15 (by decide) (fun h15 => ?_) (fun h15 => ?_)
    · refine b_iconst (v := (-1)) dX8_met_25 (by decide) ?_
      refine b_iret dX8_met_26 rfl ⟨?_, ?_⟩
      · simp only [A_met, if_pos (Or.inr (Or.inl h15))]
      · exact mKp.of (mGo_keep hP hI (by omega))
    · refine b_aload_n dX8_met_18 rfl ?_
      refine b_geti dX8_met_19 gf_X8_105 rfl rfl ?_
      refine b_topi (y := w.1 0 5) ((mGo_keep hP hI (Nat.le_refl 60)).2.1 5 (by decide) (by decide) (by decide)) ?_
      refine b_if_ne (tgt := 27) dX8_met_22 (by decide) (fun h22 => ?_) (fun h22 => ?_)
      · obtain ⟨m, hm, hm2⟩ := met_lt (k := 0) (mGo_inv hP hI (Nat.le_refl 60)) (by omega)
        obtain ⟨j, hj, rfl⟩ := nI_between h7 (by rw [← hm]; exact Int32.not_le.mp h15) (by omega)
        refine b_iload_n dX8_met_27 rfl ?_
        by_cases hw : (0 : Int32) ≤ what ∧ what ≤ 5
        obtain ⟨x, hx, rfl⟩ := nI_of2 (n := 5) (M := 5) (by decide) (Int32.not_lt.mpr hw.1) hw.2
        rcases (show x = 0 ∨ x = 1 ∨ x = 2 ∨ x = 3 ∨ x = 4 ∨ x = 5 by omega) with rfl | rfl | rfl | rfl | rfl | rfl
        · refine b_tsIn (off := 40) (tgt := 68) dX8_met_28 (by decide) (by decide) (by decide) (by decide) ?_
          refine b_aload_n dX8_met_68 rfl ?_
          refine b_getr dX8_met_69 gf_X8_68 rfl rfl ?_
          refine b_iload_n dX8_met_72 rfl ?_
          refine b_ialdN dX8_met_73 rfl ⟨by omega, by decide⟩ ?_
          refine b_iret dX8_met_74 rfl ⟨?_, ?_⟩
          · simp only [A_met, if_neg (show ¬ (nI j < 0 ∨ (mGo n c w 60).1 0 28 ≤ nI j ∨ w.1 0 5 = 0) from fun h => h.elim h7 (fun h => h.elim h15 h22)), dn_nI (show j < 2 ^ 31 by omega)]; rfl
          · exact mKp.of (mGo_keep hP hI (by omega))
        · refine b_tsIn (off := 47) (tgt := 75) dX8_met_28 (by decide) (by decide) (by decide) (by decide) ?_
          refine b_aload_n dX8_met_75 rfl ?_
          refine b_getr dX8_met_76 gf_X8_71 rfl rfl ?_
          refine b_iload_n dX8_met_79 rfl ?_
          refine b_ialdN dX8_met_80 rfl ⟨by omega, by decide⟩ ?_
          refine b_iret dX8_met_81 rfl ⟨?_, ?_⟩
          · simp only [A_met, if_neg (show ¬ (nI j < 0 ∨ (mGo n c w 60).1 0 28 ≤ nI j ∨ w.1 0 5 = 0) from fun h => h.elim h7 (fun h => h.elim h15 h22)), dn_nI (show j < 2 ^ 31 by omega)]; rfl
          · exact mKp.of (mGo_keep hP hI (by omega))
        · refine b_tsIn (off := 54) (tgt := 82) dX8_met_28 (by decide) (by decide) (by decide) (by decide) ?_
          refine b_aload_n dX8_met_82 rfl ?_
          refine b_getr dX8_met_83 gf_X8_74 rfl rfl ?_
          refine b_iload_n dX8_met_86 rfl ?_
          refine b_ialdN dX8_met_87 rfl ⟨by omega, by decide⟩ ?_
          refine b_iret dX8_met_88 rfl ⟨?_, ?_⟩
          · simp only [A_met, if_neg (show ¬ (nI j < 0 ∨ (mGo n c w 60).1 0 28 ≤ nI j ∨ w.1 0 5 = 0) from fun h => h.elim h7 (fun h => h.elim h15 h22)), dn_nI (show j < 2 ^ 31 by omega)]; rfl
          · exact mKp.of (mGo_keep hP hI (by omega))
        · refine b_tsIn (off := 61) (tgt := 89) dX8_met_28 (by decide) (by decide) (by decide) (by decide) ?_
          refine b_aload_n dX8_met_89 rfl ?_
          refine b_getr dX8_met_90 gf_X8_77 rfl rfl ?_
          refine b_iload_n dX8_met_93 rfl ?_
          refine b_ialdN dX8_met_94 rfl ⟨by omega, by decide⟩ ?_
          refine b_iret dX8_met_95 rfl ⟨?_, ?_⟩
          · simp only [A_met, if_neg (show ¬ (nI j < 0 ∨ (mGo n c w 60).1 0 28 ≤ nI j ∨ w.1 0 5 = 0) from fun h => h.elim h7 (fun h => h.elim h15 h22)), dn_nI (show j < 2 ^ 31 by omega)]; rfl
          · exact mKp.of (mGo_keep hP hI (by omega))
        · refine b_tsIn (off := 68) (tgt := 96) dX8_met_28 (by decide) (by decide) (by decide) (by decide) ?_
          refine b_aload_n dX8_met_96 rfl ?_
          refine b_getr dX8_met_97 gf_X8_80 rfl rfl ?_
          refine b_iload_n dX8_met_100 rfl ?_
          refine b_ialdN dX8_met_101 rfl ⟨by omega, by decide⟩ ?_
          refine b_iret dX8_met_102 rfl ⟨?_, ?_⟩
          · simp only [A_met, if_neg (show ¬ (nI j < 0 ∨ (mGo n c w 60).1 0 28 ≤ nI j ∨ w.1 0 5 = 0) from fun h => h.elim h7 (fun h => h.elim h15 h22)), dn_nI (show j < 2 ^ 31 by omega)]; rfl
          · exact mKp.of (mGo_keep hP hI (by omega))
        · refine b_tsIn (off := 75) (tgt := 103) dX8_met_28 (by decide) (by decide) (by decide) (by decide) ?_
          refine b_aload_n dX8_met_103 rfl ?_
          refine b_getr dX8_met_104 gf_X8_83 rfl rfl ?_
          refine b_iload_n dX8_met_107 rfl ?_
          refine b_ialdN dX8_met_108 rfl ⟨by omega, by decide⟩ ?_
          refine b_iret dX8_met_109 rfl ⟨?_, ?_⟩
          · simp only [A_met, if_neg (show ¬ (nI j < 0 ∨ (mGo n c w 60).1 0 28 ≤ nI j ∨ w.1 0 5 = 0) from fun h => h.elim h7 (fun h => h.elim h15 h22)), dn_nI (show j < 2 ^ 31 by omega)]; rfl
          · exact mKp.of (mGo_keep hP hI (by omega))
        · have hout : ∀ z1 : (0 : Int32) ≤ what, what ≤ 5 → False := fun z1 z2 => hw ⟨z1, z2⟩
          refine b_tsOut (tgt := 110) dX8_met_28 (ts_out 5 (by decide) hw) (by decide) ?_
          refine b_bipush (v := (-2)) dX8_met_110 (by decide) ?_
          refine b_iret dX8_met_112 rfl ⟨?_, ?_⟩
          · simp only [A_met, if_neg (show ¬ (nI j < 0 ∨ (mGo n c w 60).1 0 28 ≤ nI j ∨ w.1 0 5 = 0) from fun h => h.elim h7 (fun h => h.elim h15 h22))]; rw [if_neg]; rintro ⟨z1, z2⟩; exact hout z1 z2
          · exact mKp.of (mGo_keep hP hI (by omega))
      · refine b_iconst (v := (-1)) dX8_met_25 (by decide) ?_
        refine b_iret dX8_met_26 rfl ⟨?_, ?_⟩
        · simp only [A_met, if_pos (Or.inr (Or.inr h22))]
        · exact mKp.of (mGo_keep hP hI (by omega))

set_option maxRecDepth 100000 in
set_option maxHeartbeats 4000000 in
theorem s_X8_free {w : kW} {n c q : Nat} (hM : MInv n c q w) {p d : Int32} : Spec shM yX8_free cX8_free 3 (some .int) 6 146 [.ref 0, .int p, .int d] w (fun r w' => r = some (.int (A_free n c w p d)) ∧ mKp c w w') := by
  obtain ⟨hP, hI, hc8, hR, hu, hS⟩ := id hM
  have hn := hP.le
  refine k_enter pn_X8 (Nat.le_of_ble_eq_true rfl) ?_
  refine b_aload_n dX8_free_0 rfl ?_
  refine b_iload_n dX8_free_1 rfl ?_
  refine b_callV1 dX8_free_2 lk_X8_145 rfl rfl rfl ⟨Nat.le_of_ble_eq_true rfl, Nat.le_of_ble_eq_true rfl⟩ (Nat.le_of_ble_eq_true rfl) (s_X8_isPerson) (fun r w2 h2 => ?_)
  obtain ⟨rfl, h2⟩ := h2
  rcases h2 with ⟨rfl, h2⟩ | ⟨rfl, h2⟩
  · refine b_if_ne (tgt := 10) dX8_free_5 (by decide) (fun h5 => ?_) (fun h5 => absurd h5 (by decide))
    have hq2 : isPr w p := h2
    obtain ⟨pp, hp, rfl⟩ := pers_of hP h2
    refine b_iload_n dX8_free_10 rfl ?_
    refine b_callS1 dX8_free_11 lk_X8_195 ⟨Nat.le_of_ble_eq_true rfl, Nat.le_of_ble_eq_true rfl⟩ (Nat.le_of_ble_eq_true rfl) (s_X8_isDawn) (fun r w11 h11 => ?_)
    obtain ⟨rfl, h11⟩ := h11
    rcases h11 with ⟨rfl, h11⟩ | ⟨rfl, h11⟩
    · refine b_if_ne (tgt := 20) dX8_free_14 (by decide) (fun h14 => ?_) (fun h14 => absurd h14 (by decide))
      obtain ⟨D, hD, rfl⟩ := dawn_of h11
      refine b_aload_n dX8_free_20 rfl ?_
      refine b_iload_n dX8_free_21 rfl ?_
      refine b_callV1 dX8_free_22 lk_X8_198 rfl rfl rfl ⟨Nat.le_of_ble_eq_true rfl, Nat.le_of_ble_eq_true rfl⟩ (Nat.le_of_ble_eq_true rfl) (s_X8_goAhead hP hI (by omega)) (fun r w22 h22 => ?_)
      obtain ⟨rfl, rfl⟩ := h22
      refine b_aload_n dX8_free_25 rfl ?_
      refine b_iload_n dX8_free_26 rfl ?_
      refine b_iload_n dX8_free_27 rfl ?_
      refine b_callV2 dX8_free_28 lk_X8_158 rfl rfl rfl ⟨Nat.le_of_ble_eq_true rfl, Nat.le_of_ble_eq_true rfl⟩ (Nat.le_of_ble_eq_true rfl) (s_X8_isFree (by omega)) (fun r w28 h28 => ?_)
      obtain ⟨rfl, h28⟩ := h28
      rcases h28 with ⟨rfl, h28⟩ | ⟨rfl, h28⟩
      · refine b_if_eq (tgt := 38) dX8_free_31 (by decide) (fun h31 => absurd h31 (by decide)) (fun h31 => ?_)
        refine b_iconst (v := 1) dX8_free_34 (by decide) ?_
        refine b_goto (tgt := 39) dX8_free_35 (by decide) ?_
        refine b_iret dX8_free_39 rfl ⟨?_, ?_⟩
        · simp only [A_free, if_pos hq2, if_pos (dawn_in hD), dn_nI (show D < 2 ^ 31 by omega), dn_nI (show pp < 2 ^ 31 by omega), if_pos h28]
        · exact mKp.of (mGo_keep hP hI (by omega))
      · refine b_if_eq (tgt := 38) dX8_free_31 (by decide) (fun h31 => ?_) (fun h31 => absurd h31 (by decide))
        refine b_iconst (v := 0) dX8_free_38 (by decide) ?_
        refine b_iret dX8_free_39 rfl ⟨?_, ?_⟩
        · simp only [A_free, if_pos hq2, if_pos (dawn_in hD), dn_nI (show D < 2 ^ 31 by omega), dn_nI (show pp < 2 ^ 31 by omega), if_neg h28]
        · exact mKp.of (mGo_keep hP hI (by omega))
    · refine b_if_ne (tgt := 20) dX8_free_14 (by decide) (fun h14 => absurd h14 (by decide)) (fun h14 => ?_)
      refine b_bipush (v := (-2)) dX8_free_17 (by decide) ?_
      refine b_iret dX8_free_19 rfl ⟨?_, ?_⟩
      · simp only [A_free, if_pos hq2, if_neg h11]
      · exact mKp.rf
  · refine b_if_ne (tgt := 10) dX8_free_5 (by decide) (fun h5 => absurd h5 (by decide)) (fun h5 => ?_)
    refine b_iconst (v := (-1)) dX8_free_8 (by decide) ?_
    refine b_iret dX8_free_9 rfl ⟨?_, ?_⟩
    · simp only [A_free, if_neg h2]
    · exact mKp.rf

set_option maxRecDepth 100000 in
set_option maxHeartbeats 4000000 in
theorem s_X8_second {w : kW} {n c q : Nat} (hM : MInv n c q w) {p o d : Int32} : Spec shM yX8_second cX8_second 4 (some .int) 6 146 [.ref 0, .int p, .int o, .int d] w (fun r w' => r = some (.int (A_second n c w p o d)) ∧ mKp c w w') := by
  obtain ⟨hP, hI, hc8, hR, hu, hS⟩ := id hM
  have hn := hP.le
  refine k_enter pn_X8 (Nat.le_of_ble_eq_true rfl) ?_
  refine b_aload_n dX8_second_0 rfl ?_
  refine b_iload_n dX8_second_1 rfl ?_
  refine b_callV1 dX8_second_2 lk_X8_145 rfl rfl rfl ⟨Nat.le_of_ble_eq_true rfl, Nat.le_of_ble_eq_true rfl⟩ (Nat.le_of_ble_eq_true rfl) (s_X8_isPerson) (fun r w2 h2 => ?_)
  obtain ⟨rfl, h2⟩ := h2
  rcases h2 with ⟨rfl, h2⟩ | ⟨rfl, h2⟩
  · refine b_if_eq (tgt := 21) dX8_second_5 (by decide) (fun h5 => absurd h5 (by decide)) (fun h5 => ?_)
    refine b_aload_n dX8_second_8 rfl ?_
    refine b_iload_n dX8_second_9 rfl ?_
    refine b_callV1 dX8_second_10 lk_X8_145 rfl rfl rfl ⟨Nat.le_of_ble_eq_true rfl, Nat.le_of_ble_eq_true rfl⟩ (Nat.le_of_ble_eq_true rfl) (s_X8_isPerson) (fun r w10 h10 => ?_)
    obtain ⟨rfl, h10⟩ := h10
    rcases h10 with ⟨rfl, h10⟩ | ⟨rfl, h10⟩
    · refine b_if_eq (tgt := 21) dX8_second_13 (by decide) (fun h13 => absurd h13 (by decide)) (fun h13 => ?_)
      refine b_iload_n dX8_second_16 rfl ?_
      refine b_iload_n dX8_second_17 rfl ?_
      refine b_icmp_ne (tgt := 23) dX8_second_18 (by decide) (fun h18 => ?_) (fun h18 => ?_)
      · have hq2 : isPr w p ∧ isPr w o ∧ ¬ p = o := ⟨h2, h10, h18⟩
        obtain ⟨pp, hp, rfl⟩ := pers_of hP h2
        refine b_iload_n dX8_second_23 rfl ?_
        refine b_callS1 dX8_second_24 lk_X8_195 ⟨Nat.le_of_ble_eq_true rfl, Nat.le_of_ble_eq_true rfl⟩ (Nat.le_of_ble_eq_true rfl) (s_X8_isDawn) (fun r w24 h24 => ?_)
        obtain ⟨rfl, h24⟩ := h24
        rcases h24 with ⟨rfl, h24⟩ | ⟨rfl, h24⟩
        · refine b_if_ne (tgt := 33) dX8_second_27 (by decide) (fun h27 => ?_) (fun h27 => absurd h27 (by decide))
          obtain ⟨D, hD, rfl⟩ := dawn_of h24
          refine b_aload_n dX8_second_33 rfl ?_
          refine b_iload_n dX8_second_34 rfl ?_
          refine b_callV1 dX8_second_35 lk_X8_198 rfl rfl rfl ⟨Nat.le_of_ble_eq_true rfl, Nat.le_of_ble_eq_true rfl⟩ (Nat.le_of_ble_eq_true rfl) (s_X8_goAhead hP hI (by omega)) (fun r w35 h35 => ?_)
          obtain ⟨rfl, rfl⟩ := h35
          refine b_aload_n dX8_second_38 rfl ?_
          refine b_iload_n dX8_second_39 rfl ?_
          refine b_iload_n dX8_second_40 rfl ?_
          refine b_bipush (v := (-9)) dX8_second_41 (by decide) ?_
          refine b_iload_n dX8_second_43 rfl ?_
          refine b_callV4 dX8_second_44 lk_X8_175 rfl rfl rfl ⟨Nat.le_of_ble_eq_true rfl, Nat.le_of_ble_eq_true rfl⟩ (Nat.le_of_ble_eq_true rfl) (s_X8_secondOf ((mGo_keep hP hI (Nat.le_of_lt hD) |> fun z => hP.keep z)) hp) (fun r w44 h44 => ?_)
          obtain ⟨rfl, rfl⟩ := h44
          refine b_iret dX8_second_47 rfl ⟨?_, ?_⟩
          · simp only [A_second, if_pos hq2, if_pos (dawn_in hD), dn_nI (show D < 2 ^ 31 by omega), dn_nI (show pp < 2 ^ 31 by omega)]
          · exact mKp.of (mGo_keep hP hI (by omega))
        · refine b_if_ne (tgt := 33) dX8_second_27 (by decide) (fun h27 => absurd h27 (by decide)) (fun h27 => ?_)
          refine b_bipush (v := (-2)) dX8_second_30 (by decide) ?_
          refine b_iret dX8_second_32 rfl ⟨?_, ?_⟩
          · simp only [A_second, if_pos hq2, if_neg h24]
          · exact mKp.rf
      · refine b_iconst (v := (-1)) dX8_second_21 (by decide) ?_
        refine b_iret dX8_second_22 rfl ⟨?_, ?_⟩
        · simp only [A_second, if_neg (show ¬ (isPr w p ∧ isPr w o ∧ ¬ p = o) from fun z => z.2.2 h18)]
        · exact mKp.rf
    · refine b_if_eq (tgt := 21) dX8_second_13 (by decide) (fun h13 => ?_) (fun h13 => absurd h13 (by decide))
      refine b_iconst (v := (-1)) dX8_second_21 (by decide) ?_
      refine b_iret dX8_second_22 rfl ⟨?_, ?_⟩
      · simp only [A_second, if_neg (show ¬ (isPr w p ∧ isPr w o ∧ ¬ p = o) from fun z => h10 z.2.1)]
      · exact mKp.rf
  · refine b_if_eq (tgt := 21) dX8_second_5 (by decide) (fun h5 => ?_) (fun h5 => absurd h5 (by decide))
    refine b_iconst (v := (-1)) dX8_second_21 (by decide) ?_
    refine b_iret dX8_second_22 rfl ⟨?_, ?_⟩
    · simp only [A_second, if_neg (show ¬ (isPr w p ∧ isPr w o ∧ ¬ p = o) from fun z => h2 z.1)]
    · exact mKp.rf

set_option maxRecDepth 100000 in
set_option maxHeartbeats 4000000 in
theorem s_X8_worth {w : kW} {n c q : Nat} (hM : MInv n c q w) {k : Int32} : Spec shM yX8_worth cX8_worth 3 (some .int) 6 146 [.ref 0, .int k] w (fun r w' => r = some (.int (A_worth n c w k)) ∧ mKp c w w') := by
  obtain ⟨hP, hI, hc8, hR, hu, hS⟩ := id hM
  have hn := hP.le
  have hk1 : mKp c w (mGo n c w 60) := mKp.of (mGo_keep hP hI (Nat.le_refl 60))
  have hpe : PEq c (kset w 0 20 (1 <<< (k &&& 31))) (kset (mGo n c w 60) 0 20 (1 <<< (k &&& 31))) := hk1.peq.un
  have hk2 := mGo_keep (n := n) (c := c) (d := 60) (hpe.pn hP.un) (hpe.ins hI.un) (Nat.le_refl 60)
  refine k_enter pn_X8 (Nat.le_of_ble_eq_true rfl) ?_
  refine b_iload_n dX8_worth_0 rfl ?_
  refine b_if_lt (tgt := 12) dX8_worth_1 (by decide) (fun h1 => ?_) (fun h1 => ?_)
  · refine b_iconst (v := (-1)) dX8_worth_12 (by decide) ?_
    refine b_iret dX8_worth_13 rfl ⟨?_, ?_⟩
    · simp only [A_worth, if_neg (show ¬ (¬ k < 0 ∧ k < w.1 0 15) from fun z => z.1 h1)]
    · exact mKp.rf
  · refine b_iload_n dX8_worth_4 rfl ?_
    refine b_aload_n dX8_worth_5 rfl ?_
    refine b_geti dX8_worth_6 gf_X8_132 rfl rfl ?_
    refine b_icmp_lt (tgt := 14) dX8_worth_9 (by decide) (fun h9 => ?_) (fun h9 => ?_)
    · refine b_aload_n dX8_worth_14 rfl ?_
      refine b_bipush (v := 60) dX8_worth_15 (by decide) ?_
      refine b_callV1 dX8_worth_17 lk_X8_198 rfl rfl rfl ⟨Nat.le_of_ble_eq_true rfl, Nat.le_of_ble_eq_true rfl⟩ (Nat.le_of_ble_eq_true rfl) (s_X8_goAhead (D := 60) hP hI (by omega)) (fun r w17 h17 => ?_)
      obtain ⟨rfl, rfl⟩ := h17
      refine b_aload_n dX8_worth_20 rfl ?_
      refine b_geti dX8_worth_21 gf_X8_165 rfl rfl ?_
      refine b_istore_n dX8_worth_24 (by decide) ?_
      refine b_aload_n dX8_worth_25 rfl ?_
      refine b_iconst (v := 1) dX8_worth_26 (by decide) ?_
      refine b_iload_n dX8_worth_27 rfl ?_
      refine b_ishl dX8_worth_28 ?_
      refine b_puti dX8_worth_29 gf_X8_181 gs_X8_20 rfl rfl ?_
      refine b_aload_n dX8_worth_32 rfl ?_
      refine b_bipush (v := 60) dX8_worth_33 (by decide) ?_
      refine b_callV1 dX8_worth_35 lk_X8_198 rfl rfl rfl ⟨Nat.le_of_ble_eq_true rfl, Nat.le_of_ble_eq_true rfl⟩ (Nat.le_of_ble_eq_true rfl) (s_X8_goAhead (D := 60) (hpe.pn hP.un) (hpe.ins hI.un) (by omega)) (fun r w35 h35 => ?_)
      obtain ⟨rfl, rfl⟩ := h35
      refine b_aload_n dX8_worth_38 rfl ?_
      refine b_iconst (v := 0) dX8_worth_39 (by decide) ?_
      refine b_puti dX8_worth_40 gf_X8_181 gs_X8_20 rfl rfl ?_
      refine b_iload_n dX8_worth_43 rfl ?_
      refine b_aload_n dX8_worth_44 rfl ?_
      refine b_geti dX8_worth_45 gf_X8_165 rfl rfl ?_
      refine b_isub dX8_worth_48 ?_
      refine b_sipush (v := 1000) dX8_worth_49 (by decide) ?_
      refine b_iadd dX8_worth_52 ?_
      refine b_iret dX8_worth_53 rfl ⟨?_, ?_⟩
      · simp only [A_worth, if_pos (show ¬ k < 0 ∧ k < w.1 0 15 from ⟨h1, h9⟩)]
        rw [← (mGo_sq hP.un hI.un hpe (Nat.le_refl 60)).m]; rfl
      · exact (hk1.un.tr (mKp.of hk2)).un1 hu
    · refine b_iconst (v := (-1)) dX8_worth_12 (by decide) ?_
      refine b_iret dX8_worth_13 rfl ⟨?_, ?_⟩
      · simp only [A_worth, if_neg (show ¬ (¬ k < 0 ∧ k < w.1 0 15) from fun z => h9 z.2)]
      · exact mKp.rf
