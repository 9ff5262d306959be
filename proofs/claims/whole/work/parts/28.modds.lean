noncomputable def b01 (P : Prop) : Nat := @ite Nat P (Classical.propDecidable P) 1 0
theorem b01_1 {P : Prop} (h : P) : b01 P = 1 := @if_pos P (Classical.propDecidable P) h Nat 1 0
theorem b01_0 {P : Prop} (h : ¬ P) : b01 P = 0 := @if_neg P (Classical.propDecidable P) h Nat 1 0
theorem b01_le (P : Prop) : b01 P ≤ 1 := by
  rcases Classical.em P with h | h
  · rw [b01_1 h]; exact Nat.le_refl _
  · rw [b01_0 h]; omega
/-- by how many of the first sets a person is hurt -/
noncomputable def cntH (n c : Nat) (w : kW) (D : Nat) (p : Int32) : Nat → Nat
  | 0 => 0
  | s + 1 => cntH n c w D p s + b01 (wHu (mGo n c (kset w 0 20 (nI s)) D) p)
theorem cntH_le (n c : Nat) (w : kW) (D : Nat) (p : Int32) : ∀ s, cntH n c w D p s ≤ s
  | 0 => Nat.le_refl _
  | s + 1 => by
    have h1 := cntH_le n c w D p s
    have h2 := b01_le (wHu (mGo n c (kset w 0 20 (nI s)) D) p)
    rw [cntH]
    omega
theorem pw_shl : ∀ c, c < 9 → (1 : Int32) <<< (nI c &&& 31) = nI (2 ^ c) ∧ (1 : Int64) <<< ((nI c).toInt64 &&& 63) = lN (2 ^ c) := by decide +kernel
theorem pw_le {c : Nat} (h : c ≤ 8) : 2 ^ c ≤ 256 ∧ 0 < 2 ^ c := ⟨Nat.pow_le_pow_right (by decide) h, Nat.pow_pos (by decide)⟩
noncomputable def A_odds (n c : Nat) (w : kW) (p d which : Int32) : Int64 := if isPr w p ∧ isDw d ∧ (0 ≤ which ∧ which ≤ 1) then lN (ltN (cntH n c w (dn d + 1) p (2 ^ c)) (2 ^ c) which) else LOSTv

set_option maxRecDepth 100000 in
set_option maxHeartbeats 4000000 in
theorem s_X8_odds_lp {w : kW} {n c qq : Nat} (hM : MInv n c qq w) {pp D : Nat} {which : Int32} (hp : pp < n) (hD : D < 60) (hall : isPr w (nI pp) ∧ isDw (nI D) ∧ (0 ≤ which ∧ which ≤ 1)) : ∀ q k, k + q = 2 ^ c → ∀ v : kW, ∀ y : Int32, mKp c (kset w 0 20 y) v → BS shM RX8 cX8_odds 6 (some .long) 6 146 (fun r w' => r = some (.long (A_odds n c w (nI pp) (nI D) which)) ∧ mKp c w w') 34 [(0, .ref 0), (1, .int (nI pp)), (2, .int (nI D)), (3, .int which), (4, .int (nI (cntH n c w (D + 1) (nI pp) k))), (5, .int (nI k))] [] v := by
  intro q
  obtain ⟨hP, hI, hc8, hR, hu, hS⟩ := id hM
  have hn := hP.le
  obtain ⟨hpw, hpw0⟩ := pw_le hc8
  induction q with
  | zero =>
    intro k hk v y hv
    refine b_iload dX8_odds_34 rfl ?_
    refine b_iconst (v := 1) dX8_odds_36 (by decide) ?_
    refine b_aload_n dX8_odds_37 rfl ?_
    refine b_geti dX8_odds_38 gf_X8_132 rfl rfl ?_
    refine b_topi (y := nI c) ((hv.2.2 15 (by decide) (by decide) (by decide)).trans hI.1) ?_
    refine b_ishl dX8_odds_41 ?_
    refine b_topi (y := nI (2 ^ c)) (pw_shl c (by omega)).1 ?_
    refine b_icmp_ge (tgt := 82) dX8_odds_42 (by decide) (fun h42 => ?_) (fun h42 => ?_)
    · have e : k = 2 ^ c := by omega
      have hcl := cntH_le n c w (D + 1) (nI pp) (2 ^ c)
      refine b_aload_n dX8_odds_82 rfl ?_
      refine b_iconst (v := 0) dX8_odds_83 (by decide) ?_
      refine b_puti dX8_odds_84 gf_X8_181 gs_X8_20 rfl rfl ?_
      refine b_iload dX8_odds_87 rfl ?_
      refine b_i2l dX8_odds_89 ?_
      refine b_topl (y := lN (cntH n c w (D + 1) (nI pp) (2 ^ c))) (by rw [e]; exact nI_l (by omega)) ?_
      refine b_lconst (v := 1) dX8_odds_90 (by decide) ?_
      refine b_aload_n dX8_odds_91 rfl ?_
      refine b_geti dX8_odds_92 gf_X8_132 rfl rfl ?_
      refine b_topi (y := nI c) ((hv.2.2 15 (by decide) (by decide) (by decide)).trans hI.1) ?_
      refine b_lshl dX8_odds_95 ?_
      refine b_topl (y := lN (2 ^ c)) (pw_shl c (by omega)).2 ?_
      refine b_iload_n dX8_odds_96 rfl ?_
      refine b_callS3 dX8_odds_97 lk_X8_218 ⟨Nat.le_of_ble_eq_true rfl, Nat.le_of_ble_eq_true rfl⟩ (Nat.le_of_ble_eq_true rfl) (s_X8_inLeastTerms (u := cntH n c w (D + 1) (nI pp) (2 ^ c)) (d := 2 ^ c) (by omega) (by omega) (by omega)) (fun r w97 h97 => ?_)
      obtain ⟨rfl, rfl⟩ := h97
      exact b_lret dX8_odds_100 rfl ⟨by rw [A_odds, if_pos hall, dn_nI (by omega)], hv.un1 hu⟩
    · exact absurd (nI_le (by omega) (by omega)) h42
  | succ q ih =>
    intro k hk v y hv
    have hk2 : mKp c (kset w 0 20 (nI k)) (kset v 0 20 (nI k)) := hv.un0
    have hsq := mGo_sq (d := D + 1) hP.un hI.un hk2.peq (by omega)
    obtain ⟨m, hm, hm2⟩ := met_lt (k := 0) (mGo_inv (d := D + 1) (hk2.pn hP.un) (hk2.ins hI.un) (by omega)) (by omega)
    refine b_iload dX8_odds_34 rfl ?_
    refine b_iconst (v := 1) dX8_odds_36 (by decide) ?_
    refine b_aload_n dX8_odds_37 rfl ?_
    refine b_geti dX8_odds_38 gf_X8_132 rfl rfl ?_
    refine b_topi (y := nI c) ((hv.2.2 15 (by decide) (by decide) (by decide)).trans hI.1) ?_
    refine b_ishl dX8_odds_41 ?_
    refine b_topi (y := nI (2 ^ c)) (pw_shl c (by omega)).1 ?_
    refine b_icmp_ge (tgt := 82) dX8_odds_42 (by decide) (fun h42 => ?_) (fun h42 => ?_)
    · exact absurd h42 (nI_ge (by omega) (by omega))
    · refine b_aload_n dX8_odds_45 rfl ?_
      refine b_iload dX8_odds_46 rfl ?_
      refine b_puti dX8_odds_48 gf_X8_181 gs_X8_20 rfl rfl ?_
      refine b_aload_n dX8_odds_51 rfl ?_
      refine b_iload_n dX8_odds_52 rfl ?_
      refine b_iconst (v := 1) dX8_odds_53 (by decide) ?_
      refine b_iadd dX8_odds_54 ?_
      refine b_topi (y := nI (D + 1)) (nI_1 D) ?_
      refine b_callV1 dX8_odds_55 lk_X8_198 rfl rfl rfl ⟨Nat.le_of_ble_eq_true rfl, Nat.le_of_ble_eq_true rfl⟩ (Nat.le_of_ble_eq_true rfl) (s_X8_goAhead (w := kset v 0 20 (nI k)) (D := D + 1) (hk2.pn hP.un) (hk2.ins hI.un) (by omega)) (fun r w55 h55 => ?_)
      obtain ⟨rfl, rfl⟩ := h55
      refine b_iload dX8_odds_58 rfl ?_
      refine b_aload_n dX8_odds_60 rfl ?_
      refine b_iload_n dX8_odds_61 rfl ?_
      refine b_callV1 dX8_odds_62 lk_X8_215 rfl rfl rfl ⟨Nat.le_of_ble_eq_true rfl, Nat.le_of_ble_eq_true rfl⟩ (Nat.le_of_ble_eq_true rfl) (s_X8_wasHurt hm hm2) (fun r w62 h62 => ?_)
      obtain ⟨rfl, h62⟩ := h62
      rcases h62 with ⟨rfl, h62⟩ | ⟨rfl, h62⟩
      · refine b_if_eq (tgt := 72) dX8_odds_65 (by decide) (fun h65 => absurd h65 (by decide)) (fun h65 => ?_)
        refine b_iconst (v := 1) dX8_odds_68 (by decide) ?_
        refine b_goto (tgt := 73) dX8_odds_69 (by decide) ?_
        refine b_iadd dX8_odds_73 ?_
        refine b_topi (y := nI (cntH n c w (D + 1) (nI pp) (k + 1))) (by rw [cntH, b01_1 (hsq.huq.mp h62)]; exact nI_add _ 1) ?_
        refine b_istore dX8_odds_74 (by decide) ?_
        refine b_iinc dX8_odds_76 rfl (nI_inc k) (by decide) ?_
        refine b_goto (tgt := 34) dX8_odds_79 (by decide) ?_
        refine b_sub [2, 3, 4, 5, 1, 0] rfl ?_
        exact ih (k + 1) (by omega) _ (nI k) (hk2.tr (mKp.of (mGo_keep (hk2.pn hP.un) (hk2.ins hI.un) (by omega))))
      · refine b_if_eq (tgt := 72) dX8_odds_65 (by decide) (fun h65 => ?_) (fun h65 => absurd h65 (by decide))
        refine b_iconst (v := 0) dX8_odds_72 (by decide) ?_
        refine b_iadd dX8_odds_73 ?_
        refine b_topi (y := nI (cntH n c w (D + 1) (nI pp) (k + 1))) (by rw [cntH, b01_0 (fun z => h62 (hsq.huq.mpr z))]; exact nI_add _ 0) ?_
        refine b_istore dX8_odds_74 (by decide) ?_
        refine b_iinc dX8_odds_76 rfl (nI_inc k) (by decide) ?_
        refine b_goto (tgt := 34) dX8_odds_79 (by decide) ?_
        refine b_sub [2, 3, 4, 5, 1, 0] rfl ?_
        exact ih (k + 1) (by omega) _ (nI k) (hk2.tr (mKp.of (mGo_keep (hk2.pn hP.un) (hk2.ins hI.un) (by omega))))

set_option maxRecDepth 100000 in
set_option maxHeartbeats 4000000 in
theorem s_X8_odds {w : kW} {n c qq : Nat} (hM : MInv n c qq w) {p d which : Int32} : Spec shM yX8_odds cX8_odds 6 (some .long) 6 146 [.ref 0, .int p, .int d, .int which] w (fun r w' => r = some (.long (A_odds n c w p d which)) ∧ mKp c w w') := by
  obtain ⟨hP, hI, hc8, hR, hu, hS⟩ := id hM
  have hn := hP.le
  refine k_enter pn_X8 (Nat.le_of_ble_eq_true rfl) ?_
  refine b_aload_n dX8_odds_0 rfl ?_
  refine b_iload_n dX8_odds_1 rfl ?_
  refine b_callV1 dX8_odds_2 lk_X8_145 rfl rfl rfl ⟨Nat.le_of_ble_eq_true rfl, Nat.le_of_ble_eq_true rfl⟩ (Nat.le_of_ble_eq_true rfl) (s_X8_isPerson) (fun r w2 h2 => ?_)
  obtain ⟨rfl, h2⟩ := h2
  rcases h2 with ⟨rfl, h2⟩ | ⟨rfl, h2⟩
  · refine b_if_eq (tgt := 24) dX8_odds_5 (by decide) (fun h5 => absurd h5 (by decide)) (fun h5 => ?_)
    refine b_iload_n dX8_odds_8 rfl ?_
    refine b_callS1 dX8_odds_9 lk_X8_195 ⟨Nat.le_of_ble_eq_true rfl, Nat.le_of_ble_eq_true rfl⟩ (Nat.le_of_ble_eq_true rfl) (s_X8_isDawn) (fun r w9 h9 => ?_)
    obtain ⟨rfl, h9⟩ := h9
    rcases h9 with ⟨rfl, h9⟩ | ⟨rfl, h9⟩
    · refine b_if_eq (tgt := 24) dX8_odds_12 (by decide) (fun h12 => absurd h12 (by decide)) (fun h12 => ?_)
      refine b_iload_n dX8_odds_15 rfl ?_
      refine b_iconst (v := 0) dX8_odds_16 (by decide) ?_
      refine b_iconst (v := 1) dX8_odds_17 (by decide) ?_
      refine b_callS3 dX8_odds_18 lk_X8_101 ⟨Nat.le_of_ble_eq_true rfl, Nat.le_of_ble_eq_true rfl⟩ (Nat.le_of_ble_eq_true rfl) (s_X8_within) (fun r w18 h18 => ?_)
      obtain ⟨rfl, h18⟩ := h18
      rcases h18 with ⟨rfl, h18⟩ | ⟨rfl, h18⟩
      · refine b_if_ne (tgt := 28) dX8_odds_21 (by decide) (fun h21 => ?_) (fun h21 => absurd h21 (by decide))
        have hall : isPr w p ∧ isDw d ∧ (0 ≤ which ∧ which ≤ 1) := ⟨h2, h9, h18⟩
        obtain ⟨pp, hp, rfl⟩ := pers_of hP h2
        obtain ⟨D, hD, rfl⟩ := dawn_of h9
        refine b_iconst (v := 0) dX8_odds_28 (by decide) ?_
        refine b_istore dX8_odds_29 (by decide) ?_
        refine b_iconst (v := 0) dX8_odds_31 (by decide) ?_
        refine b_istore dX8_odds_32 (by decide) ?_
        refine b_sub [2, 3, 4, 5, 1, 0] rfl ?_
        exact s_X8_odds_lp hM hp hD hall (2 ^ c) 0 (by omega) w (w.1 0 20) (by rw [kset_self rfl]; exact mKp.rf)
      · refine b_if_ne (tgt := 28) dX8_odds_21 (by decide) (fun h21 => absurd h21 (by decide)) (fun h21 => ?_)
        refine b_ldc2 dX8_odds_24 lc_X8_99 ?_
        exact b_lret dX8_odds_27 rfl ⟨by rw [A_odds, if_neg (fun z => h18 z.2.2)], mKp.rf⟩
    · refine b_if_eq (tgt := 24) dX8_odds_12 (by decide) (fun h12 => ?_) (fun h12 => absurd h12 (by decide))
      refine b_ldc2 dX8_odds_24 lc_X8_99 ?_
      exact b_lret dX8_odds_27 rfl ⟨by rw [A_odds, if_neg (fun z => h9 z.2.1)], mKp.rf⟩
  · refine b_if_eq (tgt := 24) dX8_odds_5 (by decide) (fun h5 => ?_) (fun h5 => absurd h5 (by decide))
    refine b_ldc2 dX8_odds_24 lc_X8_99 ?_
    exact b_lret dX8_odds_27 rfl ⟨by rw [A_odds, if_neg (fun z => h2 z.1)], mKp.rf⟩
