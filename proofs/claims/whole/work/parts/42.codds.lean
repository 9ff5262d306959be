/-! ===== odds ===== -/
def smF (f : Nat → Nat) : Nat → Nat
  | 0 => 0
  | s + 1 => smF f s + f s
theorem smF_cg {f g : Nat → Nat} : ∀ N, (∀ j, j < N → f j = g j) → smF f N = smF g N
  | 0, _ => rfl
  | N + 1, h => by
    show smF f N + f N = smF g N + g N
    rw [smF_cg N (fun j hj => h j (by omega)), h N (by omega)]
theorem smF_sh (f : Nat → Nat) : ∀ N, smF f (N + 1) = f 0 + smF (fun j => f (j + 1)) N
  | 0 => by simp [smF]
  | N + 1 => by
    show smF f (N + 1) + f (N + 1) = f 0 + (smF (fun j => f (j + 1)) N + f (N + 1))
    rw [smF_sh f N, Nat.add_assoc]
theorem smF_rev : ∀ (N : Nat) (f : Nat → Nat), smF (fun j => f (N - 1 - j)) N = smF f N
  | 0, _ => rfl
  | N + 1, f => by
    show smF (fun j => f (N + 1 - 1 - j)) N + f (N + 1 - 1 - N) = smF f (N + 1)
    rw [smF_sh f N, ← smF_rev N (fun j => f (j + 1)), Nat.add_comm]
    congr 1
    · congr 1; omega
    · exact smF_cg N (fun j hj => by show f _ = f _; congr 1; omega)
theorem smF_le {f : Nat → Nat} (h : ∀ j, f j ≤ 1) : ∀ N, smF f N ≤ N
  | 0 => Nat.le_refl _
  | N + 1 => by
    have := smF_le h N
    have := h N
    show smF f N + f N ≤ N + 1
    omega
noncomputable def hF (n c : Nat) (w : kW) (D : Nat) (p : Int32) : Nat → Nat := fun s => b01 (wHu (mGo n c (kset w 0 20 (nI s)) D) p)
theorem cntH_sm (n c : Nat) (w : kW) (D : Nat) (p : Int32) : ∀ N, cntH n c w D p N = smF (hF n c w D p) N
  | 0 => rfl
  | N + 1 => by
    show cntH n c w D p N + _ = smF (hF n c w D p) N + _
    rw [cntH_sm n c w D p N]
    rfl
def hv2 (x : Nat × Nat) : Nat × Nat := if x.1 % 2 = 0 ∧ x.2 % 2 = 0 then (x.1 / 2, x.2 / 2) else x
def hvI : Nat → Nat × Nat → Nat × Nat
  | 0, x => x
  | k + 1, x => hvI k (hv2 x)
theorem hvI_8 : ∀ c, c < 9 → ∀ u, u < 257 → (u ≤ 2 ^ c → hvI 8 (u, 2 ^ c) = (u / Nat.gcd u (2 ^ c), 2 ^ c / Nat.gcd u (2 ^ c))) := by decide +kernel
theorem half2 : ∀ u, u < 257 → nI u - nI u / 2 * 2 = nI (u % 2) ∧ nI u / 2 = nI (u / 2) := by decide +kernel
theorem LV.hurt {n p : Nat} {w g : kW} (h : LV n w g) (hp : p < 6) : bt (w.1 15 1) p = true ↔ wHu g (nI p) := by
  obtain ⟨m, t, hm, _, a, b, _, _, _, hH⟩ := h.2.1
  rw [hH p hp]
  unfold wHu
  rw [a, dn_nI (by omega)]
theorem made_bits {c s : Nat} (hc : c ≤ 8) (hs : s < 2 ^ c) : ∀ k, k < c → (bt (nI s) k = true ↔ bt (nI (2 ^ c - 1 - s)) k = false) := fun k hk => by
  rw [bt_nI (by omega), bt_nI (by omega), show 2 ^ c - 1 - s = 2 ^ c - (s + 1) by omega, Nat.testBit_two_pow_sub_succ hs, decide_eq_true hk]
  simp

set_option maxRecDepth 100000 in
set_option maxHeartbeats 1000000 in
theorem s_X7_odds_half {v : kW} {which : Int32} {X : Nat × Nat} : ∀ q k, k + q = 8 → ∀ d u : Nat, d ≤ 256 → u ≤ 256 → hvI q (u, d) = X → BS shC RX7 cX7_odds 7 (some .long) 5 129 (fun r w' => r = some (.long (lN (if which = 0 then X.1 else X.2))) ∧ v = w') 107 [(0, .ref 0), (3, .int which), (4, .int (nI d)), (5, .int (nI u)), (6, .int (nI k))] [] v := by
  intro q
  induction q with
  | zero =>
    intro k hk d u hd hu hX
    refine b_iload dX7_odds_107 rfl ?_
    refine b_bipush (v := 8) dX7_odds_109 (by decide) ?_
    refine b_icmp_ge (tgt := 146) dX7_odds_111 (by decide) (fun h111 => ?_) (fun h111 => ?_)
    · refine b_iload_n dX7_odds_146 rfl ?_
      refine b_if_ne (tgt := 156) dX7_odds_147 (by decide) (fun h147 => ?_) (fun h147 => ?_)
      · refine b_iload dX7_odds_156 rfl ?_
        refine b_i2l dX7_odds_158 ?_
        refine b_topl (y := lN d) (nI_l (by omega)) ?_
        exact b_lret dX7_odds_159 rfl ⟨by rw [if_neg h147, ← hX]; rfl, rfl⟩
      · refine b_iload dX7_odds_150 rfl ?_
        refine b_i2l dX7_odds_152 ?_
        refine b_topl (y := lN u) (nI_l (by omega)) ?_
        refine b_goto (tgt := 159) dX7_odds_153 (by decide) ?_
        exact b_lret dX7_odds_159 rfl ⟨by rw [if_pos h147, ← hX]; rfl, rfl⟩
    · exact absurd (show (8 : Int32) ≤ nI k from nI_le (a := 8) (by omega) (by omega)) h111
  | succ q ih =>
    intro k hk d u hd hu hX
    refine b_iload dX7_odds_107 rfl ?_
    refine b_bipush (v := 8) dX7_odds_109 (by decide) ?_
    refine b_icmp_ge (tgt := 146) dX7_odds_111 (by decide) (fun h111 => ?_) (fun h111 => ?_)
    · exact absurd h111 (nI_ge (a := k) (b := 8) (by omega) (by decide))
    · refine b_iload dX7_odds_114 rfl ?_
      refine b_iconst (v := 2) dX7_odds_116 (by decide) ?_
      refine b_irem dX7_odds_117 (by decide) ?_
      refine b_topi (y := nI (u % 2)) (half2 u (by omega)).1 ?_
      refine b_if_ne (tgt := 140) dX7_odds_118 (by decide) (fun h118 => ?_) (fun h118 => ?_)
      · refine b_iinc dX7_odds_140 rfl (nI_inc k) (by decide) ?_
        refine b_goto (tgt := 107) dX7_odds_143 (by decide) ?_
        refine b_sub [1, 2, 3, 4, 0] rfl ?_
        refine ih (k + 1) (by omega) d u hd hu ?_
        have : hv2 (u, d) = (u, d) := if_neg (fun z : u % 2 = 0 ∧ d % 2 = 0 => h118 (by rw [z.1]; rfl))
        rw [← hX]; show hvI q (u, d) = hvI q (hv2 (u, d)); rw [this]
      · refine b_iload dX7_odds_121 rfl ?_
        refine b_iconst (v := 2) dX7_odds_123 (by decide) ?_
        refine b_irem dX7_odds_124 (by decide) ?_
        refine b_topi (y := nI (d % 2)) (half2 d (by omega)).1 ?_
        refine b_if_ne (tgt := 140) dX7_odds_125 (by decide) (fun h125 => ?_) (fun h125 => ?_)
        · refine b_iinc dX7_odds_140 rfl (nI_inc k) (by decide) ?_
          refine b_goto (tgt := 107) dX7_odds_143 (by decide) ?_
          refine b_sub [1, 2, 3, 4, 0] rfl ?_
          refine ih (k + 1) (by omega) d u hd hu ?_
          have : hv2 (u, d) = (u, d) := if_neg (fun z : u % 2 = 0 ∧ d % 2 = 0 => h125 (by rw [z.2]; rfl))
          rw [← hX]; show hvI q (u, d) = hvI q (hv2 (u, d)); rw [this]
        · refine b_iload dX7_odds_128 rfl ?_
          refine b_iconst (v := 2) dX7_odds_130 (by decide) ?_
          refine b_idiv dX7_odds_131 (by decide) ?_
          refine b_topi (y := nI (u / 2)) (half2 u (by omega)).2 ?_
          refine b_istore dX7_odds_132 (by decide) ?_
          refine b_iload dX7_odds_134 rfl ?_
          refine b_iconst (v := 2) dX7_odds_136 (by decide) ?_
          refine b_idiv dX7_odds_137 (by decide) ?_
          refine b_topi (y := nI (d / 2)) (half2 d (by omega)).2 ?_
          refine b_istore dX7_odds_138 (by decide) ?_
          refine b_iinc dX7_odds_140 rfl (nI_inc k) (by decide) ?_
          refine b_goto (tgt := 107) dX7_odds_143 (by decide) ?_
          refine b_sub [3, 4, 1, 2, 0] rfl ?_
          refine ih (k + 1) (by omega) (d / 2) (u / 2) (by omega) (by omega) ?_
          have : hv2 (u, d) = (u / 2, d / 2) := if_pos ⟨(nI_eq (b := 0) (by omega) (by decide)).mp h118, (nI_eq (b := 0) (by omega) (by decide)).mp h125⟩
          rw [← hX]; show hvI q (u / 2, d / 2) = hvI q (hv2 (u, d)); rw [this]

set_option maxRecDepth 100000 in
set_option maxHeartbeats 1000000 in
theorem s_X7_odds_lp {w g : kW} {n c qq : Nat} (hh : Rel n c qq w g) {pp D : Nat} {which : Int32} (hp : pp < n) (hD : D < 60) (hall : isPr g (nI pp) ∧ isDw (nI D) ∧ (0 ≤ which ∧ which ≤ 1)) : ∀ q k, k + q = 2 ^ c → ∀ v : kW, cK2 w v → BS shC RX7 cX7_odds 7 (some .long) 5 129 (fun r w' => r = some (.long (A_odds n c g (nI pp) (nI D) which)) ∧ cK2 w w') 49 [(0, .ref 0), (1, .int (nI pp)), (2, .int (nI D)), (3, .int which), (4, .int (nI (2 ^ c))), (5, .int (nI (smF (fun j => hF n c g (D + 1) (nI pp) (2 ^ c - 1 - j)) k))), (6, .int (nI k))] [] v := by
  intro q
  obtain ⟨hM, hRP, hRI, hRA, hRR, hRS, hRN⟩ := id hh
  obtain ⟨hP, hI, hc8, hRd, hu, hS⟩ := id hM
  have hn := hP.le
  obtain ⟨hpw, hpw0⟩ := pw_le hc8
  induction q with
  | zero =>
    intro k hk v hv
    have hv2 := hh.k2 hv
    refine b_iload dX7_odds_49 rfl ?_
    refine b_aload_n dX7_odds_51 rfl ?_
    refine b_getr dX7_odds_52 gf_X7_23 rfl rfl ?_
    refine b_geti dX7_odds_55 gf_X7_80 rfl rfl ?_
    refine b_topi (y := nI c) hv2.2.2.1.1 ?_
    refine b_callS1 dX7_odds_58 lk_X7_121 ⟨Nat.le_of_ble_eq_true rfl, Nat.le_of_ble_eq_true rfl⟩ (Nat.le_of_ble_eq_true rfl) (s_X7_bit) (fun r w58 h58 => ?_)
    obtain ⟨rfl, rfl⟩ := h58
    refine b_topi (y := nI (2 ^ c)) (pw_bit c (by omega)) ?_
    refine b_icmp_ge (tgt := 104) dX7_odds_61 (by decide) (fun h61 => ?_) (fun h61 => ?_)
    · refine b_iconst (v := 0) dX7_odds_104 (by decide) ?_
      refine b_istore dX7_odds_105 (by decide) ?_
      refine b_sub [1, 4, 5, 6, 0] rfl ?_
      have e : k = 2 ^ c := by omega
      subst e
      have hs : smF (fun j => hF n c g (D + 1) (nI pp) (2 ^ c - 1 - j)) (2 ^ c) = cntH n c g (D + 1) (nI pp) (2 ^ c) := by rw [cntH_sm]; exact smF_rev (2 ^ c) _
      have hcl := cntH_le n c g (D + 1) (nI pp) (2 ^ c)
      rw [hs]
      refine (s_X7_odds_half (v := v) (which := which) 8 0 (by omega) (2 ^ c) _ (by omega) (by omega) (hvI_8 c (by omega) _ (by omega) hcl)).mono (fun r w1 h => ?_)
      obtain ⟨h1, rfl⟩ := h
      refine ⟨?_, hv⟩
      rw [h1, A_odds, if_pos hall, dn_nI (by omega)]
      unfold ltN
      by_cases hw : which = 0
      · simp only [if_pos hw]
      · simp only [if_neg hw]
    · exact absurd (nI_le (by omega) (by omega)) h61
  | succ q ih =>
    intro k hk v hv
    have hv2 := hh.k2 hv
    refine b_iload dX7_odds_49 rfl ?_
    refine b_aload_n dX7_odds_51 rfl ?_
    refine b_getr dX7_odds_52 gf_X7_23 rfl rfl ?_
    refine b_geti dX7_odds_55 gf_X7_80 rfl rfl ?_
    refine b_topi (y := nI c) hv2.2.2.1.1 ?_
    refine b_callS1 dX7_odds_58 lk_X7_121 ⟨Nat.le_of_ble_eq_true rfl, Nat.le_of_ble_eq_true rfl⟩ (Nat.le_of_ble_eq_true rfl) (s_X7_bit) (fun r w58 h58 => ?_)
    obtain ⟨rfl, rfl⟩ := h58
    refine b_topi (y := nI (2 ^ c)) (pw_bit c (by omega)) ?_
    refine b_icmp_ge (tgt := 104) dX7_odds_61 (by decide) (fun h61 => ?_) (fun h61 => ?_)
    · exact absurd h61 (nI_ge (by omega) (by omega))
    · refine b_aload_n dX7_odds_64 rfl ?_
      refine b_getr dX7_odds_65 gf_X7_39 rfl rfl ?_
      refine b_iload dX7_odds_68 rfl ?_
      refine b_aload_n dX7_odds_70 rfl ?_
      refine b_getr dX7_odds_71 gf_X7_14 rfl rfl ?_
      refine b_geti dX7_odds_74 gf_X7_104 rfl rfl ?_
      refine b_iload_n dX7_odds_77 rfl ?_
      refine b_callV3 dX7_odds_78 lk_X7_131 rfl rfl rfl ⟨Nat.le_of_ble_eq_true rfl, Nat.le_of_ble_eq_true rfl⟩ (Nat.le_of_ble_eq_true rfl) (s_liveU (g := g) (D := D + 1) (x := (nI (2 ^ c - 1 - k))) hv2 (by omega) nI_predS.symm (made_bits hc8 (by omega))) (fun r w78 h78 => ?_)
      obtain ⟨rfl, hRD, hk⟩ := h78
      have hl := hRD.lv
      refine b_aload_n dX7_odds_81 rfl ?_
      refine b_getr dX7_odds_82 gf_X7_39 rfl rfl ?_
      refine b_geti dX7_odds_85 gf_X7_167 rfl rfl ?_
      refine b_iload_n dX7_odds_88 rfl ?_
      refine b_callS2 dX7_odds_89 lk_X7_107 ⟨Nat.le_of_ble_eq_true rfl, Nat.le_of_ble_eq_true rfl⟩ (Nat.le_of_ble_eq_true rfl) (s_X7_in (k := pp) (by omega)) (fun r w89 h89 => ?_)
      obtain ⟨rfl, h89⟩ := h89
      rcases h89 with ⟨rfl, h89⟩ | ⟨rfl, h89⟩
      · refine b_if_eq (tgt := 98) dX7_odds_92 (by decide) (fun h92 => absurd h92 (by decide)) (fun h92 => ?_)
        refine b_iinc dX7_odds_95 rfl (nI_inc (smF (fun j => hF n c g (D + 1) (nI pp) (2 ^ c - 1 - j)) k)) (by decide) ?_
        refine b_iinc dX7_odds_98 rfl (nI_inc k) (by decide) ?_
        refine b_goto (tgt := 49) dX7_odds_101 (by decide) ?_
        have e : smF (fun j => hF n c g (D + 1) (nI pp) (2 ^ c - 1 - j)) (k + 1) = smF (fun j => hF n c g (D + 1) (nI pp) (2 ^ c - 1 - j)) k + 1 := congrArg (fun x => smF (fun j => hF n c g (D + 1) (nI pp) (2 ^ c - 1 - j)) k + x) (b01_1 (hl.hurt (by omega) |>.mp h89))
        have ih2 := ih (k + 1) (by omega) _ (hv.tr hk)
        rw [e] at ih2
        exact b_sub [2, 3, 4, 5, 6, 1, 0] rfl ih2
      · refine b_if_eq (tgt := 98) dX7_odds_92 (by decide) (fun h92 => ?_) (fun h92 => absurd h92 (by decide))
        refine b_iinc dX7_odds_98 rfl (nI_inc k) (by decide) ?_
        refine b_goto (tgt := 49) dX7_odds_101 (by decide) ?_
        have e : smF (fun j => hF n c g (D + 1) (nI pp) (2 ^ c - 1 - j)) (k + 1) = smF (fun j => hF n c g (D + 1) (nI pp) (2 ^ c - 1 - j)) k + 0 := congrArg (fun x => smF (fun j => hF n c g (D + 1) (nI pp) (2 ^ c - 1 - j)) k + x) (b01_0 (fun z => h89 ((hl.hurt (by omega)).mpr z)))
        have ih2 := ih (k + 1) (by omega) _ (hv.tr hk)
        rw [e] at ih2
        exact b_sub [1, 2, 3, 4, 5, 6, 0] rfl ih2

set_option maxRecDepth 100000 in
set_option maxHeartbeats 1000000 in
theorem s_X7_odds {w g : kW} {n c qq : Nat} (hh : Rel n c qq w g) {p d which : Int32} : Spec shC yX7_odds cX7_odds 7 (some .long) 5 129 [.ref 0, .int p, .int d, .int which] w (fun r w' => r = some (.long (A_odds n c g p d which)) ∧ cK2 w w') := by
  obtain ⟨hM, hRP, hRI, hRA, hRR, hRS, hRN⟩ := id hh
  obtain ⟨hP, hI, hc8, hRd, hu, hS⟩ := id hM
  have hn := hP.le
  refine k_enter pn_X7 (Nat.le_of_ble_eq_true rfl) ?_
  refine b_aload_n dX7_odds_0 rfl ?_
  refine b_getr dX7_odds_1 gf_X7_14 rfl rfl ?_
  refine b_iload_n dX7_odds_4 rfl ?_
  refine b_callV1 dX7_odds_5 lk_X7_85 rfl rfl rfl ⟨Nat.le_of_ble_eq_true rfl, Nat.le_of_ble_eq_true rfl⟩ (Nat.le_of_ble_eq_true rfl) (s_has hh) (fun r w5 h5 => ?_)
  obtain ⟨rfl, h5⟩ := h5
  rcases h5 with ⟨rfl, h5⟩ | ⟨rfl, h5⟩
  · refine b_if_eq (tgt := 27) dX7_odds_8 (by decide) (fun h8 => absurd h8 (by decide)) (fun h8 => ?_)
    refine b_iload_n dX7_odds_11 rfl ?_
    refine b_callS1 dX7_odds_12 lk_X7_124 ⟨Nat.le_of_ble_eq_true rfl, Nat.le_of_ble_eq_true rfl⟩ (Nat.le_of_ble_eq_true rfl) (s_X7_isDawn) (fun r w12 h12 => ?_)
    obtain ⟨rfl, h12⟩ := h12
    rcases h12 with ⟨rfl, h12⟩ | ⟨rfl, h12⟩
    · refine b_if_eq (tgt := 27) dX7_odds_15 (by decide) (fun h15 => absurd h15 (by decide)) (fun h15 => ?_)
      refine b_iload_n dX7_odds_18 rfl ?_
      refine b_if_lt (tgt := 27) dX7_odds_19 (by decide) (fun h19 => ?_) (fun h19 => ?_)
      · refine b_ldc2 dX7_odds_27 lc_X7_165 ?_
        exact b_lret dX7_odds_30 rfl ⟨by rw [A_odds, if_neg (show ¬ (isPr g p ∧ isDw d ∧ (0 ≤ which ∧ which ≤ 1)) from fun z => absurd z.2.2.1 (Int32.not_le.mpr h19))], fun _ _ => rfl⟩
      · refine b_iload_n dX7_odds_22 rfl ?_
        refine b_iconst (v := 1) dX7_odds_23 (by decide) ?_
        refine b_icmp_le (tgt := 31) dX7_odds_24 (by decide) (fun h24 => ?_) (fun h24 => ?_)
        · have hall : isPr g p ∧ isDw d ∧ (0 ≤ which ∧ which ≤ 1) := ⟨h5, h12, Int32.not_lt.mp h19, h24⟩
          obtain ⟨pp, hp, rfl⟩ := pers_of hP h5
          obtain ⟨D, hD, rfl⟩ := dawn_of h12
          refine b_aload_n dX7_odds_31 rfl ?_
          refine b_getr dX7_odds_32 gf_X7_23 rfl rfl ?_
          refine b_geti dX7_odds_35 gf_X7_80 rfl rfl ?_
          refine b_topi (y := nI c) hRI.1 ?_
          refine b_callS1 dX7_odds_38 lk_X7_121 ⟨Nat.le_of_ble_eq_true rfl, Nat.le_of_ble_eq_true rfl⟩ (Nat.le_of_ble_eq_true rfl) (s_X7_bit) (fun r w38 h38 => ?_)
          obtain ⟨rfl, rfl⟩ := h38
          refine b_topi (y := nI (2 ^ c)) (pw_bit c (by omega)) ?_
          refine b_istore dX7_odds_41 (by decide) ?_
          refine b_iconst (v := 0) dX7_odds_43 (by decide) ?_
          refine b_istore dX7_odds_44 (by decide) ?_
          refine b_iconst (v := 0) dX7_odds_46 (by decide) ?_
          refine b_istore dX7_odds_47 (by decide) ?_
          refine b_sub [3, 4, 5, 6, 2, 1, 0] rfl ?_
          exact s_X7_odds_lp hh hp hD hall (2 ^ c) 0 (by omega) w (fun _ _ => rfl)
        · refine b_ldc2 dX7_odds_27 lc_X7_165 ?_
          exact b_lret dX7_odds_30 rfl ⟨by rw [A_odds, if_neg (show ¬ (isPr g p ∧ isDw d ∧ (0 ≤ which ∧ which ≤ 1)) from fun z => h24 z.2.2.2)], fun _ _ => rfl⟩
    · refine b_if_eq (tgt := 27) dX7_odds_15 (by decide) (fun h15 => ?_) (fun h15 => absurd h15 (by decide))
      refine b_ldc2 dX7_odds_27 lc_X7_165 ?_
      exact b_lret dX7_odds_30 rfl ⟨by rw [A_odds, if_neg (show ¬ (isPr g p ∧ isDw d ∧ (0 ≤ which ∧ which ≤ 1)) from fun z => h12 z.2.1)], fun _ _ => rfl⟩
  · refine b_if_eq (tgt := 27) dX7_odds_8 (by decide) (fun h8 => ?_) (fun h8 => absurd h8 (by decide))
    refine b_ldc2 dX7_odds_27 lc_X7_165 ?_
    exact b_lret dX7_odds_30 rfl ⟨by rw [A_odds, if_neg (show ¬ (isPr g p ∧ isDw d ∧ (0 ≤ which ∧ which ≤ 1)) from fun z => h5 z.1)], fun _ _ => rfl⟩
